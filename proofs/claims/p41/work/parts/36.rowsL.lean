theorem dL_at_0 : decode cL_at 0 = .ok (.iload_n 1, 1) := by decide +kernel
theorem dL_at_1 : decode cL_at 1 = .ok (.aload_n 0, 1) := by decide +kernel
theorem dL_at_2 : decode cL_at 2 = .ok (.arraylength, 1) := by decide +kernel
theorem dL_at_3 : decode cL_at 3 = .ok (.if_icmp .ge 9, 3) := by decide +kernel
theorem dL_at_6 : decode cL_at 6 = .ok (.aload_n 0, 1) := by decide +kernel
theorem dL_at_7 : decode cL_at 7 = .ok (.iload_n 1, 1) := by decide +kernel
theorem dL_at_8 : decode cL_at 8 = .ok (.iaload, 1) := by decide +kernel
theorem dL_at_9 : decode cL_at 9 = .ok (.goto 4, 3) := by decide +kernel
theorem dL_at_12 : decode cL_at 12 = .ok (.iconst 0, 1) := by decide +kernel
theorem dL_at_13 : decode cL_at 13 = .ok (.ireturn, 1) := by decide +kernel
theorem dL_some_0 : decode cL_some 0 = .ok (.iload_n 0, 1) := by decide +kernel
theorem dL_some_1 : decode cL_some 1 = .ok (.iload_n 1, 1) := by decide +kernel
theorem dL_some_2 : decode cL_some 2 = .ok (.irem, 1) := by decide +kernel
theorem dL_some_3 : decode cL_some 3 = .ok (.istore_n 2, 1) := by decide +kernel
theorem dL_some_4 : decode cL_some 4 = .ok (.iload_n 2, 1) := by decide +kernel
theorem dL_some_5 : decode cL_some 5 = .ok (.ifCond .ge 9, 3) := by decide +kernel
theorem dL_some_8 : decode cL_some 8 = .ok (.iload_n 2, 1) := by decide +kernel
theorem dL_some_9 : decode cL_some 9 = .ok (.iload_n 1, 1) := by decide +kernel
theorem dL_some_10 : decode cL_some 10 = .ok (.iadd, 1) := by decide +kernel
theorem dL_some_11 : decode cL_some 11 = .ok (.goto 4, 3) := by decide +kernel
theorem dL_some_14 : decode cL_some 14 = .ok (.iload_n 2, 1) := by decide +kernel
theorem dL_some_15 : decode cL_some 15 = .ok (.ireturn, 1) := by decide +kernel
theorem dL_jar_0 : decode cL_jar 0 = .ok (.aload_n 0, 1) := by decide +kernel
theorem dL_jar_1 : decode cL_jar 1 = .ok (.iload_n 1, 1) := by decide +kernel
theorem dL_jar_2 : decode cL_jar 2 = .ok (.iload_n 2, 1) := by decide +kernel
theorem dL_jar_3 : decode cL_jar 3 = .ok (.invokevirtual 7, 3) := by decide +kernel
theorem dL_jar_6 : decode cL_jar 6 = .ok (.ireturn, 1) := by decide +kernel
theorem dL_jar_7 : decode cL_jar 7 = .ok (.astore_n 3, 1) := by decide +kernel
theorem dL_jar_8 : decode cL_jar 8 = .ok (.sipush (-1001), 3) := by decide +kernel
theorem dL_jar_11 : decode cL_jar 11 = .ok (.ireturn, 1) := by decide +kernel
theorem dL_bag_0 : decode cL_bag 0 = .ok (.aload_n 0, 1) := by decide +kernel
theorem dL_bag_1 : decode cL_bag 1 = .ok (.iload_n 1, 1) := by decide +kernel
theorem dL_bag_2 : decode cL_bag 2 = .ok (.invokevirtual 15, 3) := by decide +kernel
theorem dL_bag_5 : decode cL_bag 5 = .ok (.ireturn, 1) := by decide +kernel
theorem dL_bag_6 : decode cL_bag 6 = .ok (.astore_n 2, 1) := by decide +kernel
theorem dL_bag_7 : decode cL_bag 7 = .ok (.sipush (-1001), 3) := by decide +kernel
theorem dL_bag_10 : decode cL_bag 10 = .ok (.ireturn, 1) := by decide +kernel
theorem dL_fill_0 : decode cL_fill 0 = .ok (.aload_n 0, 1) := by decide +kernel
theorem dL_fill_1 : decode cL_fill 1 = .ok (.iload_n 1, 1) := by decide +kernel
theorem dL_fill_2 : decode cL_fill 2 = .ok (.iload_n 2, 1) := by decide +kernel
theorem dL_fill_3 : decode cL_fill 3 = .ok (.iload_n 3, 1) := by decide +kernel
theorem dL_fill_4 : decode cL_fill 4 = .ok (.invokevirtual 19, 3) := by decide +kernel
theorem dL_fill_7 : decode cL_fill 7 = .ok (.ireturn, 1) := by decide +kernel
theorem dL_fill_8 : decode cL_fill 8 = .ok (.astore 4, 2) := by decide +kernel
theorem dL_fill_10 : decode cL_fill 10 = .ok (.sipush (-1001), 3) := by decide +kernel
theorem dL_fill_13 : decode cL_fill 13 = .ok (.ireturn, 1) := by decide +kernel
theorem dL_empty_0 : decode cL_empty 0 = .ok (.aload_n 0, 1) := by decide +kernel
theorem dL_empty_1 : decode cL_empty 1 = .ok (.iload_n 1, 1) := by decide +kernel
theorem dL_empty_2 : decode cL_empty 2 = .ok (.iload_n 2, 1) := by decide +kernel
theorem dL_empty_3 : decode cL_empty 3 = .ok (.invokevirtual 23, 3) := by decide +kernel
theorem dL_empty_6 : decode cL_empty 6 = .ok (.ireturn, 1) := by decide +kernel
theorem dL_empty_7 : decode cL_empty 7 = .ok (.astore_n 3, 1) := by decide +kernel
theorem dL_empty_8 : decode cL_empty 8 = .ok (.sipush (-1001), 3) := by decide +kernel
theorem dL_empty_11 : decode cL_empty 11 = .ok (.ireturn, 1) := by decide +kernel
theorem dL_beat_0 : decode cL_beat 0 = .ok (.aload_n 0, 1) := by decide +kernel
theorem dL_beat_1 : decode cL_beat 1 = .ok (.iload_n 1, 1) := by decide +kernel
theorem dL_beat_2 : decode cL_beat 2 = .ok (.invokevirtual 26, 3) := by decide +kernel
theorem dL_beat_5 : decode cL_beat 5 = .ok (.ireturn, 1) := by decide +kernel
theorem dL_beat_6 : decode cL_beat 6 = .ok (.astore_n 2, 1) := by decide +kernel
theorem dL_beat_7 : decode cL_beat 7 = .ok (.sipush (-1001), 3) := by decide +kernel
theorem dL_beat_10 : decode cL_beat 10 = .ok (.ireturn, 1) := by decide +kernel
theorem dL_thumb_0 : decode cL_thumb 0 = .ok (.aload_n 0, 1) := by decide +kernel
theorem dL_thumb_1 : decode cL_thumb 1 = .ok (.iload_n 1, 1) := by decide +kernel
theorem dL_thumb_2 : decode cL_thumb 2 = .ok (.invokevirtual 29, 3) := by decide +kernel
theorem dL_thumb_5 : decode cL_thumb 5 = .ok (.ireturn, 1) := by decide +kernel
theorem dL_thumb_6 : decode cL_thumb 6 = .ok (.astore_n 2, 1) := by decide +kernel
theorem dL_thumb_7 : decode cL_thumb 7 = .ok (.sipush (-1001), 3) := by decide +kernel
theorem dL_thumb_10 : decode cL_thumb 10 = .ok (.ireturn, 1) := by decide +kernel
theorem dL_weigh_0 : decode cL_weigh 0 = .ok (.aload_n 0, 1) := by decide +kernel
theorem dL_weigh_1 : decode cL_weigh 1 = .ok (.iload_n 1, 1) := by decide +kernel
theorem dL_weigh_2 : decode cL_weigh 2 = .ok (.invokevirtual 32, 3) := by decide +kernel
theorem dL_weigh_5 : decode cL_weigh 5 = .ok (.ireturn, 1) := by decide +kernel
theorem dL_weigh_6 : decode cL_weigh 6 = .ok (.astore_n 2, 1) := by decide +kernel
theorem dL_weigh_7 : decode cL_weigh 7 = .ok (.sipush (-1001), 3) := by decide +kernel
theorem dL_weigh_10 : decode cL_weigh 10 = .ok (.ireturn, 1) := by decide +kernel
theorem dL_sell_0 : decode cL_sell 0 = .ok (.aload_n 0, 1) := by decide +kernel
theorem dL_sell_1 : decode cL_sell 1 = .ok (.iload_n 1, 1) := by decide +kernel
theorem dL_sell_2 : decode cL_sell 2 = .ok (.invokevirtual 35, 3) := by decide +kernel
theorem dL_sell_5 : decode cL_sell 5 = .ok (.ireturn, 1) := by decide +kernel
theorem dL_sell_6 : decode cL_sell 6 = .ok (.astore_n 2, 1) := by decide +kernel
theorem dL_sell_7 : decode cL_sell 7 = .ok (.sipush (-1001), 3) := by decide +kernel
theorem dL_sell_10 : decode cL_sell 10 = .ok (.ireturn, 1) := by decide +kernel
theorem dL_oath_0 : decode cL_oath 0 = .ok (.aload_n 0, 1) := by decide +kernel
theorem dL_oath_1 : decode cL_oath 1 = .ok (.invokevirtual 38, 3) := by decide +kernel
theorem dL_oath_4 : decode cL_oath 4 = .ok (.ireturn, 1) := by decide +kernel
theorem dL_oath_5 : decode cL_oath 5 = .ok (.astore_n 1, 1) := by decide +kernel
theorem dL_oath_6 : decode cL_oath 6 = .ok (.sipush (-1001), 3) := by decide +kernel
theorem dL_oath_9 : decode cL_oath 9 = .ok (.ireturn, 1) := by decide +kernel
theorem dL_go_0 : decode cL_go 0 = .ok (.aload_n 0, 1) := by decide +kernel
theorem dL_go_1 : decode cL_go 1 = .ok (.iload_n 1, 1) := by decide +kernel
theorem dL_go_2 : decode cL_go 2 = .ok (.invokevirtual 42, 3) := by decide +kernel
theorem dL_go_5 : decode cL_go 5 = .ok (.ireturn, 1) := by decide +kernel
theorem dL_go_6 : decode cL_go 6 = .ok (.astore_n 2, 1) := by decide +kernel
theorem dL_go_7 : decode cL_go 7 = .ok (.sipush (-1001), 3) := by decide +kernel
theorem dL_go_10 : decode cL_go 10 = .ok (.ireturn, 1) := by decide +kernel
theorem dL_seal_0 : decode cL_seal 0 = .ok (.aload_n 0, 1) := by decide +kernel
theorem dL_seal_1 : decode cL_seal 1 = .ok (.iload_n 1, 1) := by decide +kernel
theorem dL_seal_2 : decode cL_seal 2 = .ok (.invokevirtual 45, 3) := by decide +kernel
theorem dL_seal_5 : decode cL_seal 5 = .ok (.ireturn, 1) := by decide +kernel
theorem dL_seal_6 : decode cL_seal 6 = .ok (.astore_n 2, 1) := by decide +kernel
theorem dL_seal_7 : decode cL_seal 7 = .ok (.sipush (-1001), 3) := by decide +kernel
theorem dL_seal_10 : decode cL_seal 10 = .ok (.ireturn, 1) := by decide +kernel
theorem dL_days_0 : decode cL_days 0 = .ok (.aload_n 0, 1) := by decide +kernel
theorem dL_days_1 : decode cL_days 1 = .ok (.iload_n 1, 1) := by decide +kernel
theorem dL_days_2 : decode cL_days 2 = .ok (.invokevirtual 48, 3) := by decide +kernel
theorem dL_days_5 : decode cL_days 5 = .ok (.ireturn, 1) := by decide +kernel
theorem dL_days_6 : decode cL_days 6 = .ok (.astore_n 2, 1) := by decide +kernel
theorem dL_days_7 : decode cL_days 7 = .ok (.sipush (-1001), 3) := by decide +kernel
theorem dL_days_10 : decode cL_days 10 = .ok (.ireturn, 1) := by decide +kernel
theorem dL_jarOf_0 : decode cL_jarOf 0 = .ok (.aload_n 0, 1) := by decide +kernel
theorem dL_jarOf_1 : decode cL_jarOf 1 = .ok (.iload_n 1, 1) := by decide +kernel
theorem dL_jarOf_2 : decode cL_jarOf 2 = .ok (.iload_n 2, 1) := by decide +kernel
theorem dL_jarOf_3 : decode cL_jarOf 3 = .ok (.invokevirtual 51, 3) := by decide +kernel
theorem dL_jarOf_6 : decode cL_jarOf 6 = .ok (.ireturn, 1) := by decide +kernel
theorem dL_jarOf_7 : decode cL_jarOf 7 = .ok (.astore_n 3, 1) := by decide +kernel
theorem dL_jarOf_8 : decode cL_jarOf 8 = .ok (.sipush (-1001), 3) := by decide +kernel
theorem dL_jarOf_11 : decode cL_jarOf 11 = .ok (.ireturn, 1) := by decide +kernel
theorem dL_bagOf_0 : decode cL_bagOf 0 = .ok (.aload_n 0, 1) := by decide +kernel
theorem dL_bagOf_1 : decode cL_bagOf 1 = .ok (.iload_n 1, 1) := by decide +kernel
theorem dL_bagOf_2 : decode cL_bagOf 2 = .ok (.iload_n 2, 1) := by decide +kernel
theorem dL_bagOf_3 : decode cL_bagOf 3 = .ok (.invokevirtual 57, 3) := by decide +kernel
theorem dL_bagOf_6 : decode cL_bagOf 6 = .ok (.ireturn, 1) := by decide +kernel
theorem dL_bagOf_7 : decode cL_bagOf 7 = .ok (.astore_n 3, 1) := by decide +kernel
theorem dL_bagOf_8 : decode cL_bagOf 8 = .ok (.sipush (-1001), 3) := by decide +kernel
theorem dL_bagOf_11 : decode cL_bagOf 11 = .ok (.ireturn, 1) := by decide +kernel
theorem dL_bagOf_12 : decode cL_bagOf 12 = .ok (.astore_n 3, 1) := by decide +kernel
theorem dL_bagOf_13 : decode cL_bagOf 13 = .ok (.sipush (-1002), 3) := by decide +kernel
theorem dL_bagOf_16 : decode cL_bagOf 16 = .ok (.ireturn, 1) := by decide +kernel
theorem dL_weightOf_0 : decode cL_weightOf 0 = .ok (.aload_n 0, 1) := by decide +kernel
theorem dL_weightOf_1 : decode cL_weightOf 1 = .ok (.iload_n 1, 1) := by decide +kernel
theorem dL_weightOf_2 : decode cL_weightOf 2 = .ok (.iload_n 2, 1) := by decide +kernel
theorem dL_weightOf_3 : decode cL_weightOf 3 = .ok (.invokevirtual 62, 3) := by decide +kernel
theorem dL_weightOf_6 : decode cL_weightOf 6 = .ok (.ireturn, 1) := by decide +kernel
theorem dL_weightOf_7 : decode cL_weightOf 7 = .ok (.astore_n 3, 1) := by decide +kernel
theorem dL_weightOf_8 : decode cL_weightOf 8 = .ok (.sipush (-1001), 3) := by decide +kernel
theorem dL_weightOf_11 : decode cL_weightOf 11 = .ok (.ireturn, 1) := by decide +kernel
theorem dL_weightOf_12 : decode cL_weightOf 12 = .ok (.astore_n 3, 1) := by decide +kernel
theorem dL_weightOf_13 : decode cL_weightOf 13 = .ok (.sipush (-1002), 3) := by decide +kernel
theorem dL_weightOf_16 : decode cL_weightOf 16 = .ok (.ireturn, 1) := by decide +kernel
theorem dL_told_0 : decode cL_told 0 = .ok (.aload_n 0, 1) := by decide +kernel
theorem dL_told_1 : decode cL_told 1 = .ok (.iload_n 1, 1) := by decide +kernel
theorem dL_told_2 : decode cL_told 2 = .ok (.invokevirtual 65, 3) := by decide +kernel
theorem dL_told_5 : decode cL_told 5 = .ok (.ireturn, 1) := by decide +kernel
theorem dL_told_6 : decode cL_told 6 = .ok (.astore_n 2, 1) := by decide +kernel
theorem dL_told_7 : decode cL_told 7 = .ok (.sipush (-1001), 3) := by decide +kernel
theorem dL_told_10 : decode cL_told 10 = .ok (.ireturn, 1) := by decide +kernel
theorem dL_toldAgain_0 : decode cL_toldAgain 0 = .ok (.aload_n 0, 1) := by decide +kernel
theorem dL_toldAgain_1 : decode cL_toldAgain 1 = .ok (.iload_n 1, 1) := by decide +kernel
theorem dL_toldAgain_2 : decode cL_toldAgain 2 = .ok (.invokevirtual 68, 3) := by decide +kernel
theorem dL_toldAgain_5 : decode cL_toldAgain 5 = .ok (.ireturn, 1) := by decide +kernel
theorem dL_toldAgain_6 : decode cL_toldAgain 6 = .ok (.astore_n 2, 1) := by decide +kernel
theorem dL_toldAgain_7 : decode cL_toldAgain 7 = .ok (.sipush (-1001), 3) := by decide +kernel
theorem dL_toldAgain_10 : decode cL_toldAgain 10 = .ok (.ireturn, 1) := by decide +kernel
theorem dL_onPan_0 : decode cL_onPan 0 = .ok (.aload_n 0, 1) := by decide +kernel
theorem dL_onPan_1 : decode cL_onPan 1 = .ok (.iload_n 1, 1) := by decide +kernel
theorem dL_onPan_2 : decode cL_onPan 2 = .ok (.invokevirtual 71, 3) := by decide +kernel
theorem dL_onPan_5 : decode cL_onPan 5 = .ok (.ireturn, 1) := by decide +kernel
theorem dL_onPan_6 : decode cL_onPan 6 = .ok (.astore_n 2, 1) := by decide +kernel
theorem dL_onPan_7 : decode cL_onPan 7 = .ok (.sipush (-1001), 3) := by decide +kernel
theorem dL_onPan_10 : decode cL_onPan 10 = .ok (.ireturn, 1) := by decide +kernel
theorem dL_rest_0 : decode cL_rest 0 = .ok (.aload_n 0, 1) := by decide +kernel
theorem dL_rest_1 : decode cL_rest 1 = .ok (.iload_n 1, 1) := by decide +kernel
theorem dL_rest_2 : decode cL_rest 2 = .ok (.invokevirtual 74, 3) := by decide +kernel
theorem dL_rest_5 : decode cL_rest 5 = .ok (.ireturn, 1) := by decide +kernel
theorem dL_rest_6 : decode cL_rest 6 = .ok (.astore_n 2, 1) := by decide +kernel
theorem dL_rest_7 : decode cL_rest 7 = .ok (.sipush (-1001), 3) := by decide +kernel
theorem dL_rest_10 : decode cL_rest 10 = .ok (.ireturn, 1) := by decide +kernel
theorem dL_honest_0 : decode cL_honest 0 = .ok (.aload_n 0, 1) := by decide +kernel
theorem dL_honest_1 : decode cL_honest 1 = .ok (.iload_n 1, 1) := by decide +kernel
theorem dL_honest_2 : decode cL_honest 2 = .ok (.invokevirtual 77, 3) := by decide +kernel
theorem dL_honest_5 : decode cL_honest 5 = .ok (.ireturn, 1) := by decide +kernel
theorem dL_honest_6 : decode cL_honest 6 = .ok (.astore_n 2, 1) := by decide +kernel
theorem dL_honest_7 : decode cL_honest 7 = .ok (.sipush (-1001), 3) := by decide +kernel
theorem dL_honest_10 : decode cL_honest 10 = .ok (.ireturn, 1) := by decide +kernel
theorem dL_pays_0 : decode cL_pays 0 = .ok (.aload_n 0, 1) := by decide +kernel
theorem dL_pays_1 : decode cL_pays 1 = .ok (.iload_n 1, 1) := by decide +kernel
theorem dL_pays_2 : decode cL_pays 2 = .ok (.iload_n 2, 1) := by decide +kernel
theorem dL_pays_3 : decode cL_pays 3 = .ok (.invokevirtual 80, 3) := by decide +kernel
theorem dL_pays_6 : decode cL_pays 6 = .ok (.ireturn, 1) := by decide +kernel
theorem dL_pays_7 : decode cL_pays 7 = .ok (.astore_n 3, 1) := by decide +kernel
theorem dL_pays_8 : decode cL_pays 8 = .ok (.sipush (-1001), 3) := by decide +kernel
theorem dL_pays_11 : decode cL_pays 11 = .ok (.ireturn, 1) := by decide +kernel
theorem dL_pays_12 : decode cL_pays 12 = .ok (.astore_n 3, 1) := by decide +kernel
theorem dL_pays_13 : decode cL_pays 13 = .ok (.sipush (-1002), 3) := by decide +kernel
theorem dL_pays_16 : decode cL_pays 16 = .ok (.ireturn, 1) := by decide +kernel
theorem dL_wouldGet_0 : decode cL_wouldGet 0 = .ok (.aload_n 0, 1) := by decide +kernel
theorem dL_wouldGet_1 : decode cL_wouldGet 1 = .ok (.iload_n 1, 1) := by decide +kernel
theorem dL_wouldGet_2 : decode cL_wouldGet 2 = .ok (.iload_n 2, 1) := by decide +kernel
theorem dL_wouldGet_3 : decode cL_wouldGet 3 = .ok (.invokevirtual 83, 3) := by decide +kernel
theorem dL_wouldGet_6 : decode cL_wouldGet 6 = .ok (.ireturn, 1) := by decide +kernel
theorem dL_wouldGet_7 : decode cL_wouldGet 7 = .ok (.astore_n 3, 1) := by decide +kernel
theorem dL_wouldGet_8 : decode cL_wouldGet 8 = .ok (.sipush (-1001), 3) := by decide +kernel
theorem dL_wouldGet_11 : decode cL_wouldGet 11 = .ok (.ireturn, 1) := by decide +kernel
theorem dL_wouldGet_12 : decode cL_wouldGet 12 = .ok (.astore_n 3, 1) := by decide +kernel
theorem dL_wouldGet_13 : decode cL_wouldGet 13 = .ok (.sipush (-1002), 3) := by decide +kernel
theorem dL_wouldGet_16 : decode cL_wouldGet 16 = .ok (.ireturn, 1) := by decide +kernel
theorem dL_bestMarket_0 : decode cL_bestMarket 0 = .ok (.aload_n 0, 1) := by decide +kernel
theorem dL_bestMarket_1 : decode cL_bestMarket 1 = .ok (.iload_n 1, 1) := by decide +kernel
theorem dL_bestMarket_2 : decode cL_bestMarket 2 = .ok (.invokevirtual 88, 3) := by decide +kernel
theorem dL_bestMarket_5 : decode cL_bestMarket 5 = .ok (.ireturn, 1) := by decide +kernel
theorem dL_bestMarket_6 : decode cL_bestMarket 6 = .ok (.astore_n 2, 1) := by decide +kernel
theorem dL_bestMarket_7 : decode cL_bestMarket 7 = .ok (.sipush (-1001), 3) := by decide +kernel
theorem dL_bestMarket_10 : decode cL_bestMarket 10 = .ok (.ireturn, 1) := by decide +kernel
theorem dL_bestMarket_11 : decode cL_bestMarket 11 = .ok (.astore_n 2, 1) := by decide +kernel
theorem dL_bestMarket_12 : decode cL_bestMarket 12 = .ok (.sipush (-1002), 3) := by decide +kernel
theorem dL_bestMarket_15 : decode cL_bestMarket 15 = .ok (.ireturn, 1) := by decide +kernel
theorem dL_oathUntil_0 : decode cL_oathUntil 0 = .ok (.aload_n 0, 1) := by decide +kernel
theorem dL_oathUntil_1 : decode cL_oathUntil 1 = .ok (.iload_n 1, 1) := by decide +kernel
theorem dL_oathUntil_2 : decode cL_oathUntil 2 = .ok (.invokevirtual 91, 3) := by decide +kernel
theorem dL_oathUntil_5 : decode cL_oathUntil 5 = .ok (.ireturn, 1) := by decide +kernel
theorem dL_oathUntil_6 : decode cL_oathUntil 6 = .ok (.astore_n 2, 1) := by decide +kernel
theorem dL_oathUntil_7 : decode cL_oathUntil 7 = .ok (.sipush (-1001), 3) := by decide +kernel
theorem dL_oathUntil_10 : decode cL_oathUntil 10 = .ok (.ireturn, 1) := by decide +kernel
theorem dL_oathUntil_11 : decode cL_oathUntil 11 = .ok (.astore_n 2, 1) := by decide +kernel
theorem dL_oathUntil_12 : decode cL_oathUntil 12 = .ok (.sipush (-1002), 3) := by decide +kernel
theorem dL_oathUntil_15 : decode cL_oathUntil 15 = .ok (.ireturn, 1) := by decide +kernel
theorem dL_isNoticed_0 : decode cL_isNoticed 0 = .ok (.aload_n 0, 1) := by decide +kernel
theorem dL_isNoticed_1 : decode cL_isNoticed 1 = .ok (.iload_n 1, 1) := by decide +kernel
theorem dL_isNoticed_2 : decode cL_isNoticed 2 = .ok (.invokevirtual 94, 3) := by decide +kernel
theorem dL_isNoticed_5 : decode cL_isNoticed 5 = .ok (.ifCond .eq 7, 3) := by decide +kernel
theorem dL_isNoticed_8 : decode cL_isNoticed 8 = .ok (.iconst 1, 1) := by decide +kernel
theorem dL_isNoticed_9 : decode cL_isNoticed 9 = .ok (.goto 4, 3) := by decide +kernel
theorem dL_isNoticed_12 : decode cL_isNoticed 12 = .ok (.iconst 0, 1) := by decide +kernel
theorem dL_isNoticed_13 : decode cL_isNoticed 13 = .ok (.ireturn, 1) := by decide +kernel
theorem dL_isNoticed_14 : decode cL_isNoticed 14 = .ok (.astore_n 2, 1) := by decide +kernel
theorem dL_isNoticed_15 : decode cL_isNoticed 15 = .ok (.sipush (-1001), 3) := by decide +kernel
theorem dL_isNoticed_18 : decode cL_isNoticed 18 = .ok (.ireturn, 1) := by decide +kernel
theorem dL_ranked_0 : decode cL_ranked 0 = .ok (.aload_n 0, 1) := by decide +kernel
theorem dL_ranked_1 : decode cL_ranked 1 = .ok (.iload_n 1, 1) := by decide +kernel
theorem dL_ranked_2 : decode cL_ranked 2 = .ok (.invokevirtual 98, 3) := by decide +kernel
theorem dL_ranked_5 : decode cL_ranked 5 = .ok (.ireturn, 1) := by decide +kernel
theorem dL_ranked_6 : decode cL_ranked 6 = .ok (.astore_n 2, 1) := by decide +kernel
theorem dL_ranked_7 : decode cL_ranked 7 = .ok (.sipush (-1001), 3) := by decide +kernel
theorem dL_ranked_10 : decode cL_ranked 10 = .ok (.ireturn, 1) := by decide +kernel
theorem dL_append_0 : decode cL_append 0 = .ok (.aload_n 0, 1) := by decide +kernel
theorem dL_append_1 : decode cL_append 1 = .ok (.iload_n 1, 1) := by decide +kernel
theorem dL_append_2 : decode cL_append 2 = .ok (.invokevirtual 101, 3) := by decide +kernel
theorem dL_append_5 : decode cL_append 5 = .ok (.ireturn, 1) := by decide +kernel
theorem dL_append_6 : decode cL_append 6 = .ok (.astore_n 2, 1) := by decide +kernel
theorem dL_append_7 : decode cL_append 7 = .ok (.sipush (-1001), 3) := by decide +kernel
theorem dL_append_10 : decode cL_append 10 = .ok (.ireturn, 1) := by decide +kernel
theorem dL_commands_0 : decode cL_commands 0 = .ok (.aload_n 0, 1) := by decide +kernel
theorem dL_commands_1 : decode cL_commands 1 = .ok (.invokevirtual 107, 3) := by decide +kernel
theorem dL_commands_4 : decode cL_commands 4 = .ok (.ireturn, 1) := by decide +kernel
theorem dL_commands_5 : decode cL_commands 5 = .ok (.astore_n 1, 1) := by decide +kernel
theorem dL_commands_6 : decode cL_commands 6 = .ok (.sipush (-1001), 3) := by decide +kernel
theorem dL_commands_9 : decode cL_commands 9 = .ok (.ireturn, 1) := by decide +kernel
theorem dL_commands_10 : decode cL_commands 10 = .ok (.astore_n 1, 1) := by decide +kernel
theorem dL_commands_11 : decode cL_commands 11 = .ok (.sipush (-1002), 3) := by decide +kernel
theorem dL_commands_14 : decode cL_commands 14 = .ok (.ireturn, 1) := by decide +kernel
theorem dL_reason_0 : decode cL_reason 0 = .ok (.aload_n 0, 1) := by decide +kernel
theorem dL_reason_1 : decode cL_reason 1 = .ok (.iload_n 1, 1) := by decide +kernel
theorem dL_reason_2 : decode cL_reason 2 = .ok (.invokevirtual 110, 3) := by decide +kernel
theorem dL_reason_5 : decode cL_reason 5 = .ok (.ireturn, 1) := by decide +kernel
theorem dL_reason_6 : decode cL_reason 6 = .ok (.astore_n 2, 1) := by decide +kernel
theorem dL_reason_7 : decode cL_reason 7 = .ok (.sipush (-1001), 3) := by decide +kernel
theorem dL_reason_10 : decode cL_reason 10 = .ok (.ireturn, 1) := by decide +kernel
theorem dL_reason_11 : decode cL_reason 11 = .ok (.astore_n 2, 1) := by decide +kernel
theorem dL_reason_12 : decode cL_reason 12 = .ok (.sipush (-1002), 3) := by decide +kernel
theorem dL_reason_15 : decode cL_reason 15 = .ok (.ireturn, 1) := by decide +kernel
theorem dL_line_0 : decode cL_line 0 = .ok (.aload_n 0, 1) := by decide +kernel
theorem dL_line_1 : decode cL_line 1 = .ok (.iload_n 1, 1) := by decide +kernel
theorem dL_line_2 : decode cL_line 2 = .ok (.invokevirtual 113, 3) := by decide +kernel
theorem dL_line_5 : decode cL_line 5 = .ok (.ireturn, 1) := by decide +kernel
theorem dL_line_6 : decode cL_line 6 = .ok (.astore_n 2, 1) := by decide +kernel
theorem dL_line_7 : decode cL_line 7 = .ok (.sipush (-1001), 3) := by decide +kernel
theorem dL_line_10 : decode cL_line 10 = .ok (.ireturn, 1) := by decide +kernel
theorem dL_character_0 : decode cL_character 0 = .ok (.aload_n 0, 1) := by decide +kernel
theorem dL_character_1 : decode cL_character 1 = .ok (.iload_n 1, 1) := by decide +kernel
theorem dL_character_2 : decode cL_character 2 = .ok (.invokevirtual 116, 3) := by decide +kernel
theorem dL_character_5 : decode cL_character 5 = .ok (.ireturn, 1) := by decide +kernel
theorem dL_character_6 : decode cL_character 6 = .ok (.astore_n 2, 1) := by decide +kernel
theorem dL_character_7 : decode cL_character 7 = .ok (.sipush (-1001), 3) := by decide +kernel
theorem dL_character_10 : decode cL_character 10 = .ok (.ireturn, 1) := by decide +kernel
theorem dL_meanDust_0 : decode cL_meanDust 0 = .ok (.aload_n 0, 1) := by decide +kernel
theorem dL_meanDust_1 : decode cL_meanDust 1 = .ok (.invokevirtual 120, 3) := by decide +kernel
theorem dL_meanDust_4 : decode cL_meanDust 4 = .ok (.freturn, 1) := by decide +kernel
theorem dL_meanDust_5 : decode cL_meanDust 5 = .ok (.astore_n 1, 1) := by decide +kernel
theorem dL_meanDust_6 : decode cL_meanDust 6 = .ok (.ldc 126, 2) := by decide +kernel
theorem dL_meanDust_8 : decode cL_meanDust 8 = .ok (.freturn, 1) := by decide +kernel
theorem dL_honestShare_0 : decode cL_honestShare 0 = .ok (.aload_n 0, 1) := by decide +kernel
theorem dL_honestShare_1 : decode cL_honestShare 1 = .ok (.invokevirtual 127, 3) := by decide +kernel
theorem dL_honestShare_4 : decode cL_honestShare 4 = .ok (.dreturn, 1) := by decide +kernel
theorem dL_honestShare_5 : decode cL_honestShare 5 = .ok (.astore_n 1, 1) := by decide +kernel
theorem dL_honestShare_6 : decode cL_honestShare 6 = .ok (.ldc2_w 131, 3) := by decide +kernel
theorem dL_honestShare_9 : decode cL_honestShare 9 = .ok (.dreturn, 1) := by decide +kernel
theorem dL_account_0 : decode cL_account 0 = .ok (.aload_n 0, 1) := by decide +kernel
theorem dL_account_1 : decode cL_account 1 = .ok (.iload_n 1, 1) := by decide +kernel
theorem dL_account_2 : decode cL_account 2 = .ok (.invokevirtual 133, 3) := by decide +kernel
theorem dL_account_5 : decode cL_account 5 = .ok (.ireturn, 1) := by decide +kernel
theorem dL_account_6 : decode cL_account 6 = .ok (.astore_n 2, 1) := by decide +kernel
theorem dL_account_7 : decode cL_account 7 = .ok (.sipush (-1001), 3) := by decide +kernel
theorem dL_account_10 : decode cL_account 10 = .ok (.ireturn, 1) := by decide +kernel
theorem dL_undo_0 : decode cL_undo 0 = .ok (.aload_n 0, 1) := by decide +kernel
theorem dL_undo_1 : decode cL_undo 1 = .ok (.invokevirtual 136, 3) := by decide +kernel
theorem dL_undo_4 : decode cL_undo 4 = .ok (.ireturn, 1) := by decide +kernel
theorem dL_undo_5 : decode cL_undo 5 = .ok (.astore_n 1, 1) := by decide +kernel
theorem dL_undo_6 : decode cL_undo 6 = .ok (.sipush (-1001), 3) := by decide +kernel
theorem dL_undo_9 : decode cL_undo 9 = .ok (.ireturn, 1) := by decide +kernel
theorem dL_restore_0 : decode cL_restore 0 = .ok (.aload_n 0, 1) := by decide +kernel
theorem dL_restore_1 : decode cL_restore 1 = .ok (.invokevirtual 139, 3) := by decide +kernel
theorem dL_restore_4 : decode cL_restore 4 = .ok (.ireturn, 1) := by decide +kernel
theorem dL_restore_5 : decode cL_restore 5 = .ok (.astore_n 1, 1) := by decide +kernel
theorem dL_restore_6 : decode cL_restore 6 = .ok (.sipush (-1001), 3) := by decide +kernel
theorem dL_restore_9 : decode cL_restore 9 = .ok (.ireturn, 1) := by decide +kernel
theorem dL_reads_0 : decode cL_reads 0 = .ok (.iconst 0, 1) := by decide +kernel
theorem dL_reads_1 : decode cL_reads 1 = .ok (.istore_n 2, 1) := by decide +kernel
theorem dL_reads_2 : decode cL_reads 2 = .ok (.iload_n 2, 1) := by decide +kernel
theorem dL_reads_3 : decode cL_reads 3 = .ok (.aload_n 1, 1) := by decide +kernel
theorem dL_reads_4 : decode cL_reads 4 = .ok (.invokevirtual 142, 3) := by decide +kernel
theorem dL_reads_7 : decode cL_reads 7 = .ok (.if_icmp .ge 28, 3) := by decide +kernel
theorem dL_reads_10 : decode cL_reads 10 = .ok (.aload_n 0, 1) := by decide +kernel
theorem dL_reads_11 : decode cL_reads 11 = .ok (.aload_n 1, 1) := by decide +kernel
theorem dL_reads_12 : decode cL_reads 12 = .ok (.iload_n 2, 1) := by decide +kernel
theorem dL_reads_13 : decode cL_reads 13 = .ok (.invokevirtual 147, 3) := by decide +kernel
theorem dL_reads_16 : decode cL_reads 16 = .ok (.invokestatic 150, 3) := by decide +kernel
theorem dL_reads_19 : decode cL_reads 19 = .ok (.iload_n 2, 1) := by decide +kernel
theorem dL_reads_20 : decode cL_reads 20 = .ok (.iconst 1, 1) := by decide +kernel
theorem dL_reads_21 : decode cL_reads 21 = .ok (.iadd, 1) := by decide +kernel
theorem dL_reads_22 : decode cL_reads 22 = .ok (.if_icmp .eq 7, 3) := by decide +kernel
theorem dL_reads_25 : decode cL_reads 25 = .ok (.sipush (-9999), 3) := by decide +kernel
theorem dL_reads_28 : decode cL_reads 28 = .ok (.ireturn, 1) := by decide +kernel
theorem dL_reads_29 : decode cL_reads 29 = .ok (.iinc 2 1, 3) := by decide +kernel
theorem dL_reads_32 : decode cL_reads 32 = .ok (.goto (-30), 3) := by decide +kernel
theorem dL_reads_35 : decode cL_reads 35 = .ok (.aload_n 0, 1) := by decide +kernel
theorem dL_reads_36 : decode cL_reads 36 = .ok (.invokestatic 155, 3) := by decide +kernel
theorem dL_reads_39 : decode cL_reads 39 = .ok (.ireturn, 1) := by decide +kernel
theorem dL_is_0 : decode cL_is 0 = .ok (.aload_n 0, 1) := by decide +kernel
theorem dL_is_1 : decode cL_is 1 = .ok (.iconst 0, 1) := by decide +kernel
theorem dL_is_2 : decode cL_is 2 = .ok (.invokestatic 158, 3) := by decide +kernel
theorem dL_is_5 : decode cL_is 5 = .ok (.iload_n 1, 1) := by decide +kernel
theorem dL_is_6 : decode cL_is 6 = .ok (.if_icmp .ne 25, 3) := by decide +kernel
theorem dL_is_9 : decode cL_is 9 = .ok (.aload_n 0, 1) := by decide +kernel
theorem dL_is_10 : decode cL_is 10 = .ok (.iconst 1, 1) := by decide +kernel
theorem dL_is_11 : decode cL_is 11 = .ok (.invokestatic 158, 3) := by decide +kernel
theorem dL_is_14 : decode cL_is 14 = .ok (.iload_n 2, 1) := by decide +kernel
theorem dL_is_15 : decode cL_is 15 = .ok (.if_icmp .ne 16, 3) := by decide +kernel
theorem dL_is_18 : decode cL_is 18 = .ok (.aload_n 0, 1) := by decide +kernel
theorem dL_is_19 : decode cL_is 19 = .ok (.iconst 2, 1) := by decide +kernel
theorem dL_is_20 : decode cL_is 20 = .ok (.invokestatic 158, 3) := by decide +kernel
theorem dL_is_23 : decode cL_is 23 = .ok (.iload_n 3, 1) := by decide +kernel
theorem dL_is_24 : decode cL_is 24 = .ok (.if_icmp .ne 7, 3) := by decide +kernel
theorem dL_is_27 : decode cL_is 27 = .ok (.iconst 1, 1) := by decide +kernel
theorem dL_is_28 : decode cL_is 28 = .ok (.goto 4, 3) := by decide +kernel
theorem dL_is_31 : decode cL_is 31 = .ok (.iconst 0, 1) := by decide +kernel
theorem dL_is_32 : decode cL_is 32 = .ok (.ireturn, 1) := by decide +kernel
theorem dL_isLine_0 : decode cL_isLine 0 = .ok (.aload_n 0, 1) := by decide +kernel
theorem dL_isLine_1 : decode cL_isLine 1 = .ok (.iload_n 1, 1) := by decide +kernel
theorem dL_isLine_2 : decode cL_isLine 2 = .ok (.invokestatic 161, 3) := by decide +kernel
theorem dL_isLine_5 : decode cL_isLine 5 = .ok (.aload_n 2, 1) := by decide +kernel
theorem dL_isLine_6 : decode cL_isLine 6 = .ok (.invokevirtual 142, 3) := by decide +kernel
theorem dL_isLine_9 : decode cL_isLine 9 = .ok (.if_icmp .eq 5, 3) := by decide +kernel
theorem dL_isLine_12 : decode cL_isLine 12 = .ok (.iconst 0, 1) := by decide +kernel
theorem dL_isLine_13 : decode cL_isLine 13 = .ok (.ireturn, 1) := by decide +kernel
theorem dL_isLine_14 : decode cL_isLine 14 = .ok (.iconst 0, 1) := by decide +kernel
theorem dL_isLine_15 : decode cL_isLine 15 = .ok (.istore_n 3, 1) := by decide +kernel
theorem dL_isLine_16 : decode cL_isLine 16 = .ok (.iload_n 3, 1) := by decide +kernel
theorem dL_isLine_17 : decode cL_isLine 17 = .ok (.aload_n 2, 1) := by decide +kernel
theorem dL_isLine_18 : decode cL_isLine 18 = .ok (.invokevirtual 142, 3) := by decide +kernel
theorem dL_isLine_21 : decode cL_isLine 21 = .ok (.if_icmp .ge 24, 3) := by decide +kernel
theorem dL_isLine_24 : decode cL_isLine 24 = .ok (.aload_n 0, 1) := by decide +kernel
theorem dL_isLine_25 : decode cL_isLine 25 = .ok (.iload_n 3, 1) := by decide +kernel
theorem dL_isLine_26 : decode cL_isLine 26 = .ok (.invokestatic 163, 3) := by decide +kernel
theorem dL_isLine_29 : decode cL_isLine 29 = .ok (.aload_n 2, 1) := by decide +kernel
theorem dL_isLine_30 : decode cL_isLine 30 = .ok (.iload_n 3, 1) := by decide +kernel
theorem dL_isLine_31 : decode cL_isLine 31 = .ok (.invokevirtual 147, 3) := by decide +kernel
theorem dL_isLine_34 : decode cL_isLine 34 = .ok (.if_icmp .eq 5, 3) := by decide +kernel
theorem dL_isLine_37 : decode cL_isLine 37 = .ok (.iconst 0, 1) := by decide +kernel
theorem dL_isLine_38 : decode cL_isLine 38 = .ok (.ireturn, 1) := by decide +kernel
theorem dL_isLine_39 : decode cL_isLine 39 = .ok (.iinc 3 1, 3) := by decide +kernel
theorem dL_isLine_42 : decode cL_isLine 42 = .ok (.goto (-26), 3) := by decide +kernel
theorem dL_isLine_45 : decode cL_isLine 45 = .ok (.aload_n 0, 1) := by decide +kernel
theorem dL_isLine_46 : decode cL_isLine 46 = .ok (.aload_n 2, 1) := by decide +kernel
theorem dL_isLine_47 : decode cL_isLine 47 = .ok (.invokevirtual 142, 3) := by decide +kernel
theorem dL_isLine_50 : decode cL_isLine 50 = .ok (.invokestatic 163, 3) := by decide +kernel
theorem dL_isLine_53 : decode cL_isLine 53 = .ok (.sipush (-1001), 3) := by decide +kernel
theorem dL_isLine_56 : decode cL_isLine 56 = .ok (.if_icmp .ne 7, 3) := by decide +kernel
theorem dL_isLine_59 : decode cL_isLine 59 = .ok (.iconst 1, 1) := by decide +kernel
theorem dL_isLine_60 : decode cL_isLine 60 = .ok (.goto 4, 3) := by decide +kernel
theorem dL_isLine_63 : decode cL_isLine 63 = .ok (.iconst 0, 1) := by decide +kernel
theorem dL_isLine_64 : decode cL_isLine 64 = .ok (.ireturn, 1) := by decide +kernel
theorem dL_makes_0 : decode cL_makes 0 = .ok (.iconst 0, 1) := by decide +kernel
theorem dL_makes_1 : decode cL_makes 1 = .ok (.istore_n 2, 1) := by decide +kernel
theorem dL_makes_2 : decode cL_makes 2 = .ok (.iload_n 2, 1) := by decide +kernel
theorem dL_makes_3 : decode cL_makes 3 = .ok (.iconst 5, 1) := by decide +kernel
theorem dL_makes_4 : decode cL_makes 4 = .ok (.if_icmp .ge 45, 3) := by decide +kernel
theorem dL_makes_7 : decode cL_makes 7 = .ok (.aload_n 0, 1) := by decide +kernel
theorem dL_makes_8 : decode cL_makes 8 = .ok (.aload_n 1, 1) := by decide +kernel
theorem dL_makes_9 : decode cL_makes 9 = .ok (.iload_n 2, 1) := by decide +kernel
theorem dL_makes_10 : decode cL_makes 10 = .ok (.invokestatic 165, 3) := by decide +kernel
theorem dL_makes_13 : decode cL_makes 13 = .ok (.iconst 5, 1) := by decide +kernel
theorem dL_makes_14 : decode cL_makes 14 = .ok (.invokestatic 169, 3) := by decide +kernel
theorem dL_makes_17 : decode cL_makes 17 = .ok (.sipush 300, 3) := by decide +kernel
theorem dL_makes_20 : decode cL_makes 20 = .ok (.aload_n 1, 1) := by decide +kernel
theorem dL_makes_21 : decode cL_makes 21 = .ok (.iload_n 2, 1) := by decide +kernel
theorem dL_makes_22 : decode cL_makes 22 = .ok (.invokestatic 165, 3) := by decide +kernel
theorem dL_makes_25 : decode cL_makes 25 = .ok (.iconst 4, 1) := by decide +kernel
theorem dL_makes_26 : decode cL_makes 26 = .ok (.ishr, 1) := by decide +kernel
theorem dL_makes_27 : decode cL_makes 27 = .ok (.sipush 601, 3) := by decide +kernel
theorem dL_makes_30 : decode cL_makes 30 = .ok (.invokestatic 169, 3) := by decide +kernel
theorem dL_makes_33 : decode cL_makes 33 = .ok (.iadd, 1) := by decide +kernel
theorem dL_makes_34 : decode cL_makes 34 = .ok (.invokestatic 172, 3) := by decide +kernel
theorem dL_makes_37 : decode cL_makes 37 = .ok (.iload_n 2, 1) := by decide +kernel
theorem dL_makes_38 : decode cL_makes 38 = .ok (.if_icmp .eq 5, 3) := by decide +kernel
theorem dL_makes_41 : decode cL_makes 41 = .ok (.iconst 0, 1) := by decide +kernel
theorem dL_makes_42 : decode cL_makes 42 = .ok (.ireturn, 1) := by decide +kernel
theorem dL_makes_43 : decode cL_makes 43 = .ok (.iinc 2 1, 3) := by decide +kernel
theorem dL_makes_46 : decode cL_makes 46 = .ok (.goto (-44), 3) := by decide +kernel
theorem dL_makes_49 : decode cL_makes 49 = .ok (.iconst 0, 1) := by decide +kernel
theorem dL_makes_50 : decode cL_makes 50 = .ok (.istore_n 2, 1) := by decide +kernel
theorem dL_makes_51 : decode cL_makes 51 = .ok (.iload_n 2, 1) := by decide +kernel
theorem dL_makes_52 : decode cL_makes 52 = .ok (.iconst 5, 1) := by decide +kernel
theorem dL_makes_53 : decode cL_makes 53 = .ok (.if_icmp .ge 65, 3) := by decide +kernel
theorem dL_makes_56 : decode cL_makes 56 = .ok (.aload_n 0, 1) := by decide +kernel
theorem dL_makes_57 : decode cL_makes 57 = .ok (.iconst 5, 1) := by decide +kernel
theorem dL_makes_58 : decode cL_makes 58 = .ok (.aload_n 1, 1) := by decide +kernel
theorem dL_makes_59 : decode cL_makes 59 = .ok (.iconst 5, 1) := by decide +kernel
theorem dL_makes_60 : decode cL_makes 60 = .ok (.iload_n 2, 1) := by decide +kernel
theorem dL_makes_61 : decode cL_makes 61 = .ok (.iadd, 1) := by decide +kernel
theorem dL_makes_62 : decode cL_makes 62 = .ok (.invokestatic 165, 3) := by decide +kernel
theorem dL_makes_65 : decode cL_makes 65 = .ok (.bipush 46, 2) := by decide +kernel
theorem dL_makes_67 : decode cL_makes 67 = .ok (.invokestatic 169, 3) := by decide +kernel
theorem dL_makes_70 : decode cL_makes 70 = .ok (.iadd, 1) := by decide +kernel
theorem dL_makes_71 : decode cL_makes 71 = .ok (.invokestatic 175, 3) := by decide +kernel
theorem dL_makes_74 : decode cL_makes 74 = .ok (.iload_n 2, 1) := by decide +kernel
theorem dL_makes_75 : decode cL_makes 75 = .ok (.if_icmp .eq 5, 3) := by decide +kernel
theorem dL_makes_78 : decode cL_makes 78 = .ok (.iconst 0, 1) := by decide +kernel
theorem dL_makes_79 : decode cL_makes 79 = .ok (.ireturn, 1) := by decide +kernel
theorem dL_makes_80 : decode cL_makes 80 = .ok (.aload_n 1, 1) := by decide +kernel
theorem dL_makes_81 : decode cL_makes 81 = .ok (.bipush 10, 2) := by decide +kernel
theorem dL_makes_83 : decode cL_makes 83 = .ok (.iload_n 2, 1) := by decide +kernel
theorem dL_makes_84 : decode cL_makes 84 = .ok (.iadd, 1) := by decide +kernel
theorem dL_makes_85 : decode cL_makes 85 = .ok (.invokestatic 165, 3) := by decide +kernel
theorem dL_makes_88 : decode cL_makes 88 = .ok (.sipush 300, 3) := by decide +kernel
theorem dL_makes_91 : decode cL_makes 91 = .ok (.invokestatic 169, 3) := by decide +kernel
theorem dL_makes_94 : decode cL_makes 94 = .ok (.istore_n 3, 1) := by decide +kernel
theorem dL_makes_95 : decode cL_makes 95 = .ok (.iload_n 3, 1) := by decide +kernel
theorem dL_makes_96 : decode cL_makes 96 = .ok (.ifCond .le 16, 3) := by decide +kernel
theorem dL_makes_99 : decode cL_makes 99 = .ok (.aload_n 0, 1) := by decide +kernel
theorem dL_makes_100 : decode cL_makes 100 = .ok (.iload_n 2, 1) := by decide +kernel
theorem dL_makes_101 : decode cL_makes 101 = .ok (.iload_n 2, 1) := by decide +kernel
theorem dL_makes_102 : decode cL_makes 102 = .ok (.iload_n 3, 1) := by decide +kernel
theorem dL_makes_103 : decode cL_makes 103 = .ok (.invokestatic 177, 3) := by decide +kernel
theorem dL_makes_106 : decode cL_makes 106 = .ok (.iload_n 3, 1) := by decide +kernel
theorem dL_makes_107 : decode cL_makes 107 = .ok (.if_icmp .eq 5, 3) := by decide +kernel
theorem dL_makes_110 : decode cL_makes 110 = .ok (.iconst 0, 1) := by decide +kernel
theorem dL_makes_111 : decode cL_makes 111 = .ok (.ireturn, 1) := by decide +kernel
theorem dL_makes_112 : decode cL_makes 112 = .ok (.iinc 2 1, 3) := by decide +kernel
theorem dL_makes_115 : decode cL_makes 115 = .ok (.goto (-64), 3) := by decide +kernel
theorem dL_makes_118 : decode cL_makes 118 = .ok (.aload_n 0, 1) := by decide +kernel
theorem dL_makes_119 : decode cL_makes 119 = .ok (.iconst 1, 1) := by decide +kernel
theorem dL_makes_120 : decode cL_makes 120 = .ok (.aload_n 1, 1) := by decide +kernel
theorem dL_makes_121 : decode cL_makes 121 = .ok (.bipush 15, 2) := by decide +kernel
theorem dL_makes_123 : decode cL_makes 123 = .ok (.invokestatic 165, 3) := by decide +kernel
theorem dL_makes_126 : decode cL_makes 126 = .ok (.bipush 9, 2) := by decide +kernel
theorem dL_makes_128 : decode cL_makes 128 = .ok (.invokestatic 169, 3) := by decide +kernel
theorem dL_makes_131 : decode cL_makes 131 = .ok (.iadd, 1) := by decide +kernel
theorem dL_makes_132 : decode cL_makes 132 = .ok (.invokestatic 180, 3) := by decide +kernel
theorem dL_makes_135 : decode cL_makes 135 = .ok (.ifCond .lt 26, 3) := by decide +kernel
theorem dL_makes_138 : decode cL_makes 138 = .ok (.aload_n 0, 1) := by decide +kernel
theorem dL_makes_139 : decode cL_makes 139 = .ok (.iconst 1, 1) := by decide +kernel
theorem dL_makes_140 : decode cL_makes 140 = .ok (.aload_n 1, 1) := by decide +kernel
theorem dL_makes_141 : decode cL_makes 141 = .ok (.bipush 16, 2) := by decide +kernel
theorem dL_makes_143 : decode cL_makes 143 = .ok (.invokestatic 165, 3) := by decide +kernel
theorem dL_makes_146 : decode cL_makes 146 = .ok (.iconst 3, 1) := by decide +kernel
theorem dL_makes_147 : decode cL_makes 147 = .ok (.invokestatic 169, 3) := by decide +kernel
theorem dL_makes_150 : decode cL_makes 150 = .ok (.iadd, 1) := by decide +kernel
theorem dL_makes_151 : decode cL_makes 151 = .ok (.invokestatic 182, 3) := by decide +kernel
theorem dL_makes_154 : decode cL_makes 154 = .ok (.ifCond .le 7, 3) := by decide +kernel
theorem dL_makes_157 : decode cL_makes 157 = .ok (.iconst 1, 1) := by decide +kernel
theorem dL_makes_158 : decode cL_makes 158 = .ok (.goto 4, 3) := by decide +kernel
theorem dL_makes_161 : decode cL_makes 161 = .ok (.iconst 0, 1) := by decide +kernel
theorem dL_makes_162 : decode cL_makes 162 = .ok (.ireturn, 1) := by decide +kernel
