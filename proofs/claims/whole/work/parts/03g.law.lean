set_option maxRecDepth 20000 in
theorem ggL_shape_X3_shape : GoodIn wsL_shape wsX3_shape := goodIn_ca (goodIn_r _ [6, 7, 8, 9, 10, 11, 5, 12, 13, 14, 15, 16, 17, 18, 19, 20, 21, 22, 23, 24, 25, 26, 27, 28, 29] (by decide +kernel) (by decide +kernel)) (goodIn_sub (fun _ h => List.mem_cons_of_mem _ (List.mem_append_right _ h)) (by decide +kernel))
set_option maxRecDepth 20000 in
theorem gL_shape_X3_shape : GoodIn wsL_shape (wsV RL 7 RX3 yX3_shape wsX3_shape) := goodIn_app (goodIn_of _ (by decide +kernel)) ggL_shape_X3_shape
theorem dL_shape_0 : decode cL_shape 0 = .ok (.aload_n 0, 1) := by decide +kernel
theorem dL_shape_1 : decode cL_shape 1 = .ok (.iload_n 1, 1) := by decide +kernel
theorem dL_shape_2 : decode cL_shape 2 = .ok (.iload_n 2, 1) := by decide +kernel
theorem dL_shape_3 : decode cL_shape 3 = .ok (.iload_n 3, 1) := by decide +kernel
theorem dL_shape_4 : decode cL_shape 4 = .ok (.invokevirtual 7, 3) := by decide +kernel
theorem dL_shape_7 : decode cL_shape 7 = .ok (.goto 7, 3) := by decide +kernel
theorem dL_shape_10 : decode cL_shape 10 = .ok (.astore 4, 2) := by decide +kernel
theorem dL_shape_12 : decode cL_shape 12 = .ok (.iconst 1, 1) := by decide +kernel
theorem dL_shape_13 : decode cL_shape 13 = .ok (.ireturn, 1) := by decide +kernel
theorem dL_shape_14 : decode cL_shape 14 = .ok (.iconst 0, 1) := by decide +kernel
theorem dL_shape_15 : decode cL_shape 15 = .ok (.ireturn, 1) := by decide +kernel
set_option maxRecDepth 20000 in
theorem ggL_setGauge_X3_setGauge : GoodIn wsL_setGauge wsX3_setGauge := goodIn_ca (goodIn_r _ [6, 7, 8, 9, 10, 5, 11, 12, 13, 14, 15, 16, 17, 18, 19, 20, 21, 22, 23, 24, 25, 26, 27, 28] (by decide +kernel) (by decide +kernel)) (goodIn_sub (fun _ h => List.mem_cons_of_mem _ (List.mem_append_right _ h)) (by decide +kernel))
set_option maxRecDepth 20000 in
theorem gL_setGauge_X3_setGauge : GoodIn wsL_setGauge (wsV RL 15 RX3 yX3_setGauge wsX3_setGauge) := goodIn_app (goodIn_of _ (by decide +kernel)) ggL_setGauge_X3_setGauge
theorem dL_setGauge_0 : decode cL_setGauge 0 = .ok (.aload_n 3, 1) := by decide +kernel
theorem dL_setGauge_1 : decode cL_setGauge 1 = .ok (.iconst 0, 1) := by decide +kernel
theorem dL_setGauge_2 : decode cL_setGauge 2 = .ok (.aload_n 0, 1) := by decide +kernel
theorem dL_setGauge_3 : decode cL_setGauge 3 = .ok (.iload_n 1, 1) := by decide +kernel
theorem dL_setGauge_4 : decode cL_setGauge 4 = .ok (.iload_n 2, 1) := by decide +kernel
theorem dL_setGauge_5 : decode cL_setGauge 5 = .ok (.invokevirtual 15, 3) := by decide +kernel
theorem dL_setGauge_8 : decode cL_setGauge 8 = .ok (.i2l, 1) := by decide +kernel
theorem dL_setGauge_9 : decode cL_setGauge 9 = .ok (.lastore, 1) := by decide +kernel
theorem dL_setGauge_10 : decode cL_setGauge 10 = .ok (.goto 7, 3) := by decide +kernel
theorem dL_setGauge_13 : decode cL_setGauge 13 = .ok (.astore 4, 2) := by decide +kernel
theorem dL_setGauge_15 : decode cL_setGauge 15 = .ok (.iconst 1, 1) := by decide +kernel
theorem dL_setGauge_16 : decode cL_setGauge 16 = .ok (.ireturn, 1) := by decide +kernel
theorem dL_setGauge_17 : decode cL_setGauge 17 = .ok (.iconst 0, 1) := by decide +kernel
theorem dL_setGauge_18 : decode cL_setGauge 18 = .ok (.ireturn, 1) := by decide +kernel
set_option maxRecDepth 20000 in
theorem ggL_setSource_X3_setSource : GoodIn wsL_setSource wsX3_setSource := goodIn_ca (goodIn_r _ [6, 7, 8, 9, 10, 5, 11, 12, 13, 14, 15, 16, 17, 18, 19, 20, 21, 22, 23, 24, 25] (by decide +kernel) (by decide +kernel)) (goodIn_sub (fun _ h => List.mem_cons_of_mem _ (List.mem_append_right _ h)) (by decide +kernel))
set_option maxRecDepth 20000 in
theorem gL_setSource_X3_setSource : GoodIn wsL_setSource (wsV RL 19 RX3 yX3_setSource wsX3_setSource) := goodIn_app (goodIn_of _ (by decide +kernel)) ggL_setSource_X3_setSource
theorem dL_setSource_0 : decode cL_setSource 0 = .ok (.aload_n 2, 1) := by decide +kernel
theorem dL_setSource_1 : decode cL_setSource 1 = .ok (.iconst 0, 1) := by decide +kernel
theorem dL_setSource_2 : decode cL_setSource 2 = .ok (.aload_n 0, 1) := by decide +kernel
theorem dL_setSource_3 : decode cL_setSource 3 = .ok (.iload_n 1, 1) := by decide +kernel
theorem dL_setSource_4 : decode cL_setSource 4 = .ok (.invokevirtual 19, 3) := by decide +kernel
theorem dL_setSource_7 : decode cL_setSource 7 = .ok (.i2l, 1) := by decide +kernel
theorem dL_setSource_8 : decode cL_setSource 8 = .ok (.lastore, 1) := by decide +kernel
theorem dL_setSource_9 : decode cL_setSource 9 = .ok (.goto 6, 3) := by decide +kernel
theorem dL_setSource_12 : decode cL_setSource 12 = .ok (.astore_n 3, 1) := by decide +kernel
theorem dL_setSource_13 : decode cL_setSource 13 = .ok (.iconst 1, 1) := by decide +kernel
theorem dL_setSource_14 : decode cL_setSource 14 = .ok (.ireturn, 1) := by decide +kernel
theorem dL_setSource_15 : decode cL_setSource 15 = .ok (.iconst 0, 1) := by decide +kernel
theorem dL_setSource_16 : decode cL_setSource 16 = .ok (.ireturn, 1) := by decide +kernel
set_option maxRecDepth 20000 in
theorem ggL_rain_X3_rain : GoodIn wsL_rain wsX3_rain := goodIn_ca (goodIn_r _ [6, 7, 8, 9, 10, 5, 11, 12, 13, 14, 15, 16, 17, 18, 19, 20, 21, 22, 23, 24, 25, 26, 27, 28] (by decide +kernel) (by decide +kernel)) (goodIn_sub (fun _ h => List.mem_cons_of_mem _ (List.mem_append_right _ h)) (by decide +kernel))
set_option maxRecDepth 20000 in
theorem gL_rain_X3_rain : GoodIn wsL_rain (wsV RL 23 RX3 yX3_rain wsX3_rain) := goodIn_app (goodIn_of _ (by decide +kernel)) ggL_rain_X3_rain
theorem dL_rain_0 : decode cL_rain 0 = .ok (.aload_n 3, 1) := by decide +kernel
theorem dL_rain_1 : decode cL_rain 1 = .ok (.iconst 0, 1) := by decide +kernel
theorem dL_rain_2 : decode cL_rain 2 = .ok (.aload_n 0, 1) := by decide +kernel
theorem dL_rain_3 : decode cL_rain 3 = .ok (.iload_n 1, 1) := by decide +kernel
theorem dL_rain_4 : decode cL_rain 4 = .ok (.iload_n 2, 1) := by decide +kernel
theorem dL_rain_5 : decode cL_rain 5 = .ok (.invokevirtual 23, 3) := by decide +kernel
theorem dL_rain_8 : decode cL_rain 8 = .ok (.i2l, 1) := by decide +kernel
theorem dL_rain_9 : decode cL_rain 9 = .ok (.lastore, 1) := by decide +kernel
theorem dL_rain_10 : decode cL_rain 10 = .ok (.goto 7, 3) := by decide +kernel
theorem dL_rain_13 : decode cL_rain 13 = .ok (.astore 4, 2) := by decide +kernel
theorem dL_rain_15 : decode cL_rain 15 = .ok (.iconst 1, 1) := by decide +kernel
theorem dL_rain_16 : decode cL_rain 16 = .ok (.ireturn, 1) := by decide +kernel
theorem dL_rain_17 : decode cL_rain 17 = .ok (.iconst 0, 1) := by decide +kernel
theorem dL_rain_18 : decode cL_rain 18 = .ok (.ireturn, 1) := by decide +kernel
set_option maxRecDepth 20000 in
theorem ggL_volume_X3_volume : GoodIn wsL_volume wsX3_volume := goodIn_ca (goodIn_r _ [6, 7, 8, 9, 10, 5, 11, 12, 13, 14, 15, 16, 17, 18, 19, 20, 21, 22, 23, 24, 25, 26, 27, 28] (by decide +kernel) (by decide +kernel)) (goodIn_sub (fun _ h => List.mem_cons_of_mem _ (List.mem_append_right _ h)) (by decide +kernel))
set_option maxRecDepth 20000 in
theorem gL_volume_X3_volume : GoodIn wsL_volume (wsV RL 26 RX3 yX3_volume wsX3_volume) := goodIn_app (goodIn_of _ (by decide +kernel)) ggL_volume_X3_volume
theorem dL_volume_0 : decode cL_volume 0 = .ok (.aload_n 2, 1) := by decide +kernel
theorem dL_volume_1 : decode cL_volume 1 = .ok (.iconst 0, 1) := by decide +kernel
theorem dL_volume_2 : decode cL_volume 2 = .ok (.aload_n 0, 1) := by decide +kernel
theorem dL_volume_3 : decode cL_volume 3 = .ok (.iload_n 1, 1) := by decide +kernel
theorem dL_volume_4 : decode cL_volume 4 = .ok (.invokevirtual 26, 3) := by decide +kernel
theorem dL_volume_7 : decode cL_volume 7 = .ok (.i2l, 1) := by decide +kernel
theorem dL_volume_8 : decode cL_volume 8 = .ok (.lastore, 1) := by decide +kernel
theorem dL_volume_9 : decode cL_volume 9 = .ok (.goto 6, 3) := by decide +kernel
theorem dL_volume_12 : decode cL_volume 12 = .ok (.astore_n 3, 1) := by decide +kernel
theorem dL_volume_13 : decode cL_volume 13 = .ok (.iconst 1, 1) := by decide +kernel
theorem dL_volume_14 : decode cL_volume 14 = .ok (.ireturn, 1) := by decide +kernel
theorem dL_volume_15 : decode cL_volume 15 = .ok (.iconst 0, 1) := by decide +kernel
theorem dL_volume_16 : decode cL_volume 16 = .ok (.ireturn, 1) := by decide +kernel
set_option maxRecDepth 20000 in
theorem ggL_volumeByBalance_X3_volumeByBalance : GoodIn wsL_volumeByBalance wsX3_volumeByBalance := goodIn_ca (goodIn_r _ [6, 7, 8, 9, 5, 10, 11, 12, 13, 14, 15, 16, 17, 18, 19, 20, 21, 22, 23, 24, 25, 26, 27, 28, 29, 30, 31, 32, 33, 34, 35] (by decide +kernel) (by decide +kernel)) (goodIn_sub (fun _ h => List.mem_cons_of_mem _ (List.mem_append_right _ h)) (by decide +kernel))
set_option maxRecDepth 20000 in
theorem gL_volumeByBalance_X3_volumeByBalance : GoodIn wsL_volumeByBalance (wsV RL 29 RX3 yX3_volumeByBalance wsX3_volumeByBalance) := goodIn_app (goodIn_of _ (by decide +kernel)) ggL_volumeByBalance_X3_volumeByBalance
theorem dL_volumeByBalance_0 : decode cL_volumeByBalance 0 = .ok (.aload_n 2, 1) := by decide +kernel
theorem dL_volumeByBalance_1 : decode cL_volumeByBalance 1 = .ok (.iconst 0, 1) := by decide +kernel
theorem dL_volumeByBalance_2 : decode cL_volumeByBalance 2 = .ok (.aload_n 0, 1) := by decide +kernel
theorem dL_volumeByBalance_3 : decode cL_volumeByBalance 3 = .ok (.iload_n 1, 1) := by decide +kernel
theorem dL_volumeByBalance_4 : decode cL_volumeByBalance 4 = .ok (.invokevirtual 29, 3) := by decide +kernel
theorem dL_volumeByBalance_7 : decode cL_volumeByBalance 7 = .ok (.i2l, 1) := by decide +kernel
theorem dL_volumeByBalance_8 : decode cL_volumeByBalance 8 = .ok (.lastore, 1) := by decide +kernel
theorem dL_volumeByBalance_9 : decode cL_volumeByBalance 9 = .ok (.goto 6, 3) := by decide +kernel
theorem dL_volumeByBalance_12 : decode cL_volumeByBalance 12 = .ok (.astore_n 3, 1) := by decide +kernel
theorem dL_volumeByBalance_13 : decode cL_volumeByBalance 13 = .ok (.iconst 1, 1) := by decide +kernel
theorem dL_volumeByBalance_14 : decode cL_volumeByBalance 14 = .ok (.ireturn, 1) := by decide +kernel
theorem dL_volumeByBalance_15 : decode cL_volumeByBalance 15 = .ok (.iconst 0, 1) := by decide +kernel
theorem dL_volumeByBalance_16 : decode cL_volumeByBalance 16 = .ok (.ireturn, 1) := by decide +kernel
set_option maxRecDepth 20000 in
theorem ggL_level_X3_level : GoodIn wsL_level wsX3_level := goodIn_ca (goodIn_r _ [6, 7, 8, 9, 5, 10, 11, 12, 13, 14, 15, 16, 17, 18, 19, 20, 21, 22, 23, 24, 25, 26, 27, 28, 29, 30, 31, 32, 33, 34] (by decide +kernel) (by decide +kernel)) (goodIn_sub (fun _ h => List.mem_cons_of_mem _ (List.mem_append_right _ h)) (by decide +kernel))
set_option maxRecDepth 20000 in
theorem gL_level_X3_level : GoodIn wsL_level (wsV RL 32 RX3 yX3_level wsX3_level) := goodIn_app (goodIn_of _ (by decide +kernel)) ggL_level_X3_level
theorem dL_level_0 : decode cL_level 0 = .ok (.aload_n 2, 1) := by decide +kernel
theorem dL_level_1 : decode cL_level 1 = .ok (.iconst 0, 1) := by decide +kernel
theorem dL_level_2 : decode cL_level 2 = .ok (.aload_n 0, 1) := by decide +kernel
theorem dL_level_3 : decode cL_level 3 = .ok (.iload_n 1, 1) := by decide +kernel
theorem dL_level_4 : decode cL_level 4 = .ok (.invokevirtual 32, 3) := by decide +kernel
theorem dL_level_7 : decode cL_level 7 = .ok (.i2l, 1) := by decide +kernel
theorem dL_level_8 : decode cL_level 8 = .ok (.lastore, 1) := by decide +kernel
theorem dL_level_9 : decode cL_level 9 = .ok (.goto 6, 3) := by decide +kernel
theorem dL_level_12 : decode cL_level 12 = .ok (.astore_n 3, 1) := by decide +kernel
theorem dL_level_13 : decode cL_level 13 = .ok (.iconst 1, 1) := by decide +kernel
theorem dL_level_14 : decode cL_level 14 = .ok (.ireturn, 1) := by decide +kernel
theorem dL_level_15 : decode cL_level 15 = .ok (.iconst 0, 1) := by decide +kernel
theorem dL_level_16 : decode cL_level 16 = .ok (.ireturn, 1) := by decide +kernel
set_option maxRecDepth 20000 in
theorem ggL_flowed_X3_flowed : GoodIn wsL_flowed wsX3_flowed := goodIn_ca (goodIn_r _ [6, 7, 8, 9, 10, 5, 11, 12, 13, 14, 15, 16, 17, 18, 19, 20, 21, 22, 23, 24, 25, 26, 27, 28] (by decide +kernel) (by decide +kernel)) (goodIn_sub (fun _ h => List.mem_cons_of_mem _ (List.mem_append_right _ h)) (by decide +kernel))
set_option maxRecDepth 20000 in
theorem gL_flowed_X3_flowed : GoodIn wsL_flowed (wsV RL 35 RX3 yX3_flowed wsX3_flowed) := goodIn_app (goodIn_of _ (by decide +kernel)) ggL_flowed_X3_flowed
theorem dL_flowed_0 : decode cL_flowed 0 = .ok (.aload_n 2, 1) := by decide +kernel
theorem dL_flowed_1 : decode cL_flowed 1 = .ok (.iconst 0, 1) := by decide +kernel
theorem dL_flowed_2 : decode cL_flowed 2 = .ok (.aload_n 0, 1) := by decide +kernel
theorem dL_flowed_3 : decode cL_flowed 3 = .ok (.iload_n 1, 1) := by decide +kernel
theorem dL_flowed_4 : decode cL_flowed 4 = .ok (.invokevirtual 35, 3) := by decide +kernel
theorem dL_flowed_7 : decode cL_flowed 7 = .ok (.i2l, 1) := by decide +kernel
theorem dL_flowed_8 : decode cL_flowed 8 = .ok (.lastore, 1) := by decide +kernel
theorem dL_flowed_9 : decode cL_flowed 9 = .ok (.goto 6, 3) := by decide +kernel
theorem dL_flowed_12 : decode cL_flowed 12 = .ok (.astore_n 3, 1) := by decide +kernel
theorem dL_flowed_13 : decode cL_flowed 13 = .ok (.iconst 1, 1) := by decide +kernel
theorem dL_flowed_14 : decode cL_flowed 14 = .ok (.ireturn, 1) := by decide +kernel
theorem dL_flowed_15 : decode cL_flowed 15 = .ok (.iconst 0, 1) := by decide +kernel
theorem dL_flowed_16 : decode cL_flowed 16 = .ok (.ireturn, 1) := by decide +kernel
set_option maxRecDepth 20000 in
theorem ggL_spilled_X3_spilled : GoodIn wsL_spilled wsX3_spilled := goodIn_ca (goodIn_r _ [6, 7, 8, 9, 10, 5, 11, 12, 13, 14, 15, 16, 17, 18, 19, 20, 21, 22, 23, 24, 25, 26, 27, 28] (by decide +kernel) (by decide +kernel)) (goodIn_sub (fun _ h => List.mem_cons_of_mem _ (List.mem_append_right _ h)) (by decide +kernel))
set_option maxRecDepth 20000 in
theorem gL_spilled_X3_spilled : GoodIn wsL_spilled (wsV RL 38 RX3 yX3_spilled wsX3_spilled) := goodIn_app (goodIn_of _ (by decide +kernel)) ggL_spilled_X3_spilled
theorem dL_spilled_0 : decode cL_spilled 0 = .ok (.aload_n 2, 1) := by decide +kernel
theorem dL_spilled_1 : decode cL_spilled 1 = .ok (.iconst 0, 1) := by decide +kernel
theorem dL_spilled_2 : decode cL_spilled 2 = .ok (.aload_n 0, 1) := by decide +kernel
theorem dL_spilled_3 : decode cL_spilled 3 = .ok (.iload_n 1, 1) := by decide +kernel
theorem dL_spilled_4 : decode cL_spilled 4 = .ok (.invokevirtual 38, 3) := by decide +kernel
theorem dL_spilled_7 : decode cL_spilled 7 = .ok (.i2l, 1) := by decide +kernel
theorem dL_spilled_8 : decode cL_spilled 8 = .ok (.lastore, 1) := by decide +kernel
theorem dL_spilled_9 : decode cL_spilled 9 = .ok (.goto 6, 3) := by decide +kernel
theorem dL_spilled_12 : decode cL_spilled 12 = .ok (.astore_n 3, 1) := by decide +kernel
theorem dL_spilled_13 : decode cL_spilled 13 = .ok (.iconst 1, 1) := by decide +kernel
theorem dL_spilled_14 : decode cL_spilled 14 = .ok (.ireturn, 1) := by decide +kernel
theorem dL_spilled_15 : decode cL_spilled 15 = .ok (.iconst 0, 1) := by decide +kernel
theorem dL_spilled_16 : decode cL_spilled 16 = .ok (.ireturn, 1) := by decide +kernel
set_option maxRecDepth 20000 in
theorem ggL_setRule_X3_setRule : GoodIn wsL_setRule wsX3_setRule := goodIn_ca (goodIn_r _ [6, 7, 8, 9, 10, 11, 12, 13, 5, 14, 15, 16, 17, 18, 19, 20, 21, 22, 23, 24, 25, 26, 27, 28, 29, 30, 31] (by decide +kernel) (by decide +kernel)) (goodIn_sub (fun _ h => List.mem_cons_of_mem _ (List.mem_append_right _ h)) (by decide +kernel))
set_option maxRecDepth 20000 in
theorem gL_setRule_X3_setRule : GoodIn wsL_setRule (wsV RL 41 RX3 yX3_setRule wsX3_setRule) := goodIn_app (goodIn_of _ (by decide +kernel)) ggL_setRule_X3_setRule
theorem dL_setRule_0 : decode cL_setRule 0 = .ok (.aload_n 0, 1) := by decide +kernel
theorem dL_setRule_1 : decode cL_setRule 1 = .ok (.iload_n 1, 1) := by decide +kernel
theorem dL_setRule_2 : decode cL_setRule 2 = .ok (.iload_n 2, 1) := by decide +kernel
theorem dL_setRule_3 : decode cL_setRule 3 = .ok (.iload_n 3, 1) := by decide +kernel
theorem dL_setRule_4 : decode cL_setRule 4 = .ok (.iload 4, 2) := by decide +kernel
theorem dL_setRule_6 : decode cL_setRule 6 = .ok (.iload 5, 2) := by decide +kernel
theorem dL_setRule_8 : decode cL_setRule 8 = .ok (.invokevirtual 41, 3) := by decide +kernel
theorem dL_setRule_11 : decode cL_setRule 11 = .ok (.goto 7, 3) := by decide +kernel
theorem dL_setRule_14 : decode cL_setRule 14 = .ok (.astore 6, 2) := by decide +kernel
theorem dL_setRule_16 : decode cL_setRule 16 = .ok (.iconst 1, 1) := by decide +kernel
theorem dL_setRule_17 : decode cL_setRule 17 = .ok (.ireturn, 1) := by decide +kernel
theorem dL_setRule_18 : decode cL_setRule 18 = .ok (.iconst 0, 1) := by decide +kernel
theorem dL_setRule_19 : decode cL_setRule 19 = .ok (.ireturn, 1) := by decide +kernel
set_option maxRecDepth 20000 in
theorem ggL_byHand_X3_byHand : GoodIn wsL_byHand wsX3_byHand := goodIn_ca (goodIn_ca (goodIn_r _ [7, 8, 9, 10, 11, 12, 13, 14, 6, 15, 16, 17, 18, 19, 20, 21, 22, 23, 24, 25, 26, 27, 28, 29, 30, 31, 32] (by decide +kernel) (by decide +kernel)) (goodIn_sub (fun _ h => List.mem_cons_of_mem _ (List.mem_append_left _ (List.mem_append_right _ h))) (by decide +kernel))) (goodIn_sub (fun _ h => List.mem_cons_of_mem _ (List.mem_append_right _ h)) (by decide +kernel))
set_option maxRecDepth 20000 in
theorem gL_byHand_X3_byHand : GoodIn wsL_byHand (wsV RL 45 RX3 yX3_byHand wsX3_byHand) := goodIn_app (goodIn_of _ (by decide +kernel)) ggL_byHand_X3_byHand
theorem dL_byHand_0 : decode cL_byHand 0 = .ok (.aload_n 3, 1) := by decide +kernel
theorem dL_byHand_1 : decode cL_byHand 1 = .ok (.iconst 0, 1) := by decide +kernel
theorem dL_byHand_2 : decode cL_byHand 2 = .ok (.aload_n 0, 1) := by decide +kernel
theorem dL_byHand_3 : decode cL_byHand 3 = .ok (.iload_n 1, 1) := by decide +kernel
theorem dL_byHand_4 : decode cL_byHand 4 = .ok (.iload_n 2, 1) := by decide +kernel
theorem dL_byHand_5 : decode cL_byHand 5 = .ok (.invokevirtual 45, 3) := by decide +kernel
theorem dL_byHand_8 : decode cL_byHand 8 = .ok (.i2l, 1) := by decide +kernel
theorem dL_byHand_9 : decode cL_byHand 9 = .ok (.lastore, 1) := by decide +kernel
theorem dL_byHand_10 : decode cL_byHand 10 = .ok (.goto 11, 3) := by decide +kernel
theorem dL_byHand_13 : decode cL_byHand 13 = .ok (.astore 4, 2) := by decide +kernel
theorem dL_byHand_15 : decode cL_byHand 15 = .ok (.iconst 1, 1) := by decide +kernel
theorem dL_byHand_16 : decode cL_byHand 16 = .ok (.ireturn, 1) := by decide +kernel
theorem dL_byHand_17 : decode cL_byHand 17 = .ok (.astore 4, 2) := by decide +kernel
theorem dL_byHand_19 : decode cL_byHand 19 = .ok (.iconst 2, 1) := by decide +kernel
theorem dL_byHand_20 : decode cL_byHand 20 = .ok (.ireturn, 1) := by decide +kernel
theorem dL_byHand_21 : decode cL_byHand 21 = .ok (.iconst 0, 1) := by decide +kernel
theorem dL_byHand_22 : decode cL_byHand 22 = .ok (.ireturn, 1) := by decide +kernel
set_option maxRecDepth 20000 in
theorem ggL_opening_X3_opening : GoodIn wsL_opening wsX3_opening := goodIn_ca (goodIn_r _ [6, 7, 8, 9, 10, 5, 11, 12, 13, 14, 15, 16, 17, 18, 19, 20, 21, 22, 23, 24, 25, 26, 27, 28] (by decide +kernel) (by decide +kernel)) (goodIn_sub (fun _ h => List.mem_cons_of_mem _ (List.mem_append_right _ h)) (by decide +kernel))
set_option maxRecDepth 20000 in
theorem gL_opening_X3_opening : GoodIn wsL_opening (wsV RL 50 RX3 yX3_opening wsX3_opening) := goodIn_app (goodIn_of _ (by decide +kernel)) ggL_opening_X3_opening
theorem dL_opening_0 : decode cL_opening 0 = .ok (.aload_n 2, 1) := by decide +kernel
theorem dL_opening_1 : decode cL_opening 1 = .ok (.iconst 0, 1) := by decide +kernel
theorem dL_opening_2 : decode cL_opening 2 = .ok (.aload_n 0, 1) := by decide +kernel
theorem dL_opening_3 : decode cL_opening 3 = .ok (.iload_n 1, 1) := by decide +kernel
theorem dL_opening_4 : decode cL_opening 4 = .ok (.invokevirtual 50, 3) := by decide +kernel
theorem dL_opening_7 : decode cL_opening 7 = .ok (.i2l, 1) := by decide +kernel
theorem dL_opening_8 : decode cL_opening 8 = .ok (.lastore, 1) := by decide +kernel
theorem dL_opening_9 : decode cL_opening 9 = .ok (.goto 6, 3) := by decide +kernel
theorem dL_opening_12 : decode cL_opening 12 = .ok (.astore_n 3, 1) := by decide +kernel
theorem dL_opening_13 : decode cL_opening 13 = .ok (.iconst 1, 1) := by decide +kernel
theorem dL_opening_14 : decode cL_opening 14 = .ok (.ireturn, 1) := by decide +kernel
theorem dL_opening_15 : decode cL_opening 15 = .ok (.iconst 0, 1) := by decide +kernel
theorem dL_opening_16 : decode cL_opening 16 = .ok (.ireturn, 1) := by decide +kernel
set_option maxRecDepth 20000 in
theorem ggL_safety_X3_safety : GoodIn wsL_safety wsX3_safety := goodIn_ca (goodIn_r _ [6, 7, 8, 9, 10, 5, 11, 12, 13, 14, 15, 16, 17, 18, 19, 20, 21, 22, 23, 24, 25, 26, 27, 28] (by decide +kernel) (by decide +kernel)) (goodIn_sub (fun _ h => List.mem_cons_of_mem _ (List.mem_append_right _ h)) (by decide +kernel))
set_option maxRecDepth 20000 in
theorem gL_safety_X3_safety : GoodIn wsL_safety (wsV RL 53 RX3 yX3_safety wsX3_safety) := goodIn_app (goodIn_of _ (by decide +kernel)) ggL_safety_X3_safety
theorem dL_safety_0 : decode cL_safety 0 = .ok (.aload_n 2, 1) := by decide +kernel
theorem dL_safety_1 : decode cL_safety 1 = .ok (.iconst 0, 1) := by decide +kernel
theorem dL_safety_2 : decode cL_safety 2 = .ok (.aload_n 0, 1) := by decide +kernel
theorem dL_safety_3 : decode cL_safety 3 = .ok (.iload_n 1, 1) := by decide +kernel
theorem dL_safety_4 : decode cL_safety 4 = .ok (.invokevirtual 53, 3) := by decide +kernel
theorem dL_safety_7 : decode cL_safety 7 = .ok (.i2l, 1) := by decide +kernel
theorem dL_safety_8 : decode cL_safety 8 = .ok (.lastore, 1) := by decide +kernel
theorem dL_safety_9 : decode cL_safety 9 = .ok (.goto 6, 3) := by decide +kernel
theorem dL_safety_12 : decode cL_safety 12 = .ok (.astore_n 3, 1) := by decide +kernel
theorem dL_safety_13 : decode cL_safety 13 = .ok (.iconst 1, 1) := by decide +kernel
theorem dL_safety_14 : decode cL_safety 14 = .ok (.ireturn, 1) := by decide +kernel
theorem dL_safety_15 : decode cL_safety 15 = .ok (.iconst 0, 1) := by decide +kernel
theorem dL_safety_16 : decode cL_safety 16 = .ok (.ireturn, 1) := by decide +kernel
set_option maxRecDepth 20000 in
theorem ggL_fall_X3_fall : GoodIn wsL_fall wsX3_fall := goodIn_ca (goodIn_ca (goodIn_r _ [7, 8, 9, 10, 11, 12, 13, 6, 14, 15, 16, 17, 18, 19, 20, 21, 22, 23, 24, 25, 26, 27, 28, 29, 30, 31, 32, 33, 34, 35] (by decide +kernel) (by decide +kernel)) (goodIn_sub (fun _ h => List.mem_cons_of_mem _ (List.mem_append_left _ (List.mem_append_right _ h))) (by decide +kernel))) (goodIn_sub (fun _ h => List.mem_cons_of_mem _ (List.mem_append_right _ h)) (by decide +kernel))
set_option maxRecDepth 20000 in
theorem gL_fall_X3_fall : GoodIn wsL_fall (wsV RL 56 RX3 yX3_fall wsX3_fall) := goodIn_app (goodIn_of _ (by decide +kernel)) ggL_fall_X3_fall
theorem dL_fall_0 : decode cL_fall 0 = .ok (.aload_n 0, 1) := by decide +kernel
theorem dL_fall_1 : decode cL_fall 1 = .ok (.iload_n 1, 1) := by decide +kernel
theorem dL_fall_2 : decode cL_fall 2 = .ok (.invokevirtual 56, 3) := by decide +kernel
theorem dL_fall_5 : decode cL_fall 5 = .ok (.goto 9, 3) := by decide +kernel
theorem dL_fall_8 : decode cL_fall 8 = .ok (.astore_n 2, 1) := by decide +kernel
theorem dL_fall_9 : decode cL_fall 9 = .ok (.iconst 1, 1) := by decide +kernel
theorem dL_fall_10 : decode cL_fall 10 = .ok (.ireturn, 1) := by decide +kernel
theorem dL_fall_11 : decode cL_fall 11 = .ok (.astore_n 2, 1) := by decide +kernel
theorem dL_fall_12 : decode cL_fall 12 = .ok (.iconst 2, 1) := by decide +kernel
theorem dL_fall_13 : decode cL_fall 13 = .ok (.ireturn, 1) := by decide +kernel
theorem dL_fall_14 : decode cL_fall 14 = .ok (.iconst 0, 1) := by decide +kernel
theorem dL_fall_15 : decode cL_fall 15 = .ok (.ireturn, 1) := by decide +kernel
set_option maxRecDepth 20000 in
theorem ggL_comeUp_X3_comeUp : GoodIn wsL_comeUp wsX3_comeUp := goodIn_ca (goodIn_ca (goodIn_r _ [7, 8, 9, 10, 11, 12, 13, 14, 15, 6, 16, 17, 18, 19, 20, 21, 22, 23, 24, 25, 26, 27, 28, 29, 30, 31, 32, 33, 34, 35, 36, 37, 38, 39, 40, 41] (by decide +kernel) (by decide +kernel)) (goodIn_sub (fun _ h => List.mem_cons_of_mem _ (List.mem_append_left _ (List.mem_append_right _ h))) (by decide +kernel))) (goodIn_sub (fun _ h => List.mem_cons_of_mem _ (List.mem_append_right _ h)) (by decide +kernel))
set_option maxRecDepth 20000 in
theorem gL_comeUp_X3_comeUp : GoodIn wsL_comeUp (wsV RL 60 RX3 yX3_comeUp wsX3_comeUp) := goodIn_app (goodIn_of _ (by decide +kernel)) ggL_comeUp_X3_comeUp
theorem dL_comeUp_0 : decode cL_comeUp 0 = .ok (.aload_n 0, 1) := by decide +kernel
theorem dL_comeUp_1 : decode cL_comeUp 1 = .ok (.iload_n 1, 1) := by decide +kernel
theorem dL_comeUp_2 : decode cL_comeUp 2 = .ok (.invokevirtual 60, 3) := by decide +kernel
theorem dL_comeUp_5 : decode cL_comeUp 5 = .ok (.goto 9, 3) := by decide +kernel
theorem dL_comeUp_8 : decode cL_comeUp 8 = .ok (.astore_n 2, 1) := by decide +kernel
theorem dL_comeUp_9 : decode cL_comeUp 9 = .ok (.iconst 1, 1) := by decide +kernel
theorem dL_comeUp_10 : decode cL_comeUp 10 = .ok (.ireturn, 1) := by decide +kernel
theorem dL_comeUp_11 : decode cL_comeUp 11 = .ok (.astore_n 2, 1) := by decide +kernel
theorem dL_comeUp_12 : decode cL_comeUp 12 = .ok (.iconst 2, 1) := by decide +kernel
theorem dL_comeUp_13 : decode cL_comeUp 13 = .ok (.ireturn, 1) := by decide +kernel
theorem dL_comeUp_14 : decode cL_comeUp 14 = .ok (.iconst 0, 1) := by decide +kernel
theorem dL_comeUp_15 : decode cL_comeUp 15 = .ok (.ireturn, 1) := by decide +kernel
set_option maxRecDepth 20000 in
theorem ggL_setGroup_X3_setGroup : GoodIn wsL_setGroup wsX3_setGroup := goodIn_ca (goodIn_r _ [6, 7, 8, 9, 10, 5, 11, 12, 13, 14, 15, 16, 17, 18, 19, 20, 21, 22, 23, 24, 25, 26, 27, 28, 29, 30, 31, 32] (by decide +kernel) (by decide +kernel)) (goodIn_sub (fun _ h => List.mem_cons_of_mem _ (List.mem_append_right _ h)) (by decide +kernel))
set_option maxRecDepth 20000 in
theorem gL_setGroup_X3_setGroup : GoodIn wsL_setGroup (wsV RL 63 RX3 yX3_setGroup wsX3_setGroup) := goodIn_app (goodIn_of _ (by decide +kernel)) ggL_setGroup_X3_setGroup
theorem dL_setGroup_0 : decode cL_setGroup 0 = .ok (.aload_n 3, 1) := by decide +kernel
theorem dL_setGroup_1 : decode cL_setGroup 1 = .ok (.iconst 0, 1) := by decide +kernel
theorem dL_setGroup_2 : decode cL_setGroup 2 = .ok (.aload_n 0, 1) := by decide +kernel
theorem dL_setGroup_3 : decode cL_setGroup 3 = .ok (.iload_n 1, 1) := by decide +kernel
theorem dL_setGroup_4 : decode cL_setGroup 4 = .ok (.iload_n 2, 1) := by decide +kernel
theorem dL_setGroup_5 : decode cL_setGroup 5 = .ok (.invokevirtual 63, 3) := by decide +kernel
theorem dL_setGroup_8 : decode cL_setGroup 8 = .ok (.i2l, 1) := by decide +kernel
theorem dL_setGroup_9 : decode cL_setGroup 9 = .ok (.lastore, 1) := by decide +kernel
theorem dL_setGroup_10 : decode cL_setGroup 10 = .ok (.goto 7, 3) := by decide +kernel
theorem dL_setGroup_13 : decode cL_setGroup 13 = .ok (.astore 4, 2) := by decide +kernel
theorem dL_setGroup_15 : decode cL_setGroup 15 = .ok (.iconst 1, 1) := by decide +kernel
theorem dL_setGroup_16 : decode cL_setGroup 16 = .ok (.ireturn, 1) := by decide +kernel
theorem dL_setGroup_17 : decode cL_setGroup 17 = .ok (.iconst 0, 1) := by decide +kernel
theorem dL_setGroup_18 : decode cL_setGroup 18 = .ok (.ireturn, 1) := by decide +kernel
set_option maxRecDepth 20000 in
theorem ggL_setStuck_X3_setStuck : GoodIn wsL_setStuck wsX3_setStuck := goodIn_ca (goodIn_r _ [6, 7, 8, 9, 10, 5, 11, 12, 13, 14, 15, 16, 17, 18, 19, 20, 21, 22, 23, 24, 25, 26, 27, 28, 29, 30, 31, 32] (by decide +kernel) (by decide +kernel)) (goodIn_sub (fun _ h => List.mem_cons_of_mem _ (List.mem_append_right _ h)) (by decide +kernel))
set_option maxRecDepth 20000 in
theorem gL_setStuck_X3_setStuck : GoodIn wsL_setStuck (wsV RL 66 RX3 yX3_setStuck wsX3_setStuck) := goodIn_app (goodIn_of _ (by decide +kernel)) ggL_setStuck_X3_setStuck
theorem dL_setStuck_0 : decode cL_setStuck 0 = .ok (.aload_n 3, 1) := by decide +kernel
theorem dL_setStuck_1 : decode cL_setStuck 1 = .ok (.iconst 0, 1) := by decide +kernel
theorem dL_setStuck_2 : decode cL_setStuck 2 = .ok (.aload_n 0, 1) := by decide +kernel
theorem dL_setStuck_3 : decode cL_setStuck 3 = .ok (.iload_n 1, 1) := by decide +kernel
theorem dL_setStuck_4 : decode cL_setStuck 4 = .ok (.iload_n 2, 1) := by decide +kernel
theorem dL_setStuck_5 : decode cL_setStuck 5 = .ok (.invokevirtual 66, 3) := by decide +kernel
theorem dL_setStuck_8 : decode cL_setStuck 8 = .ok (.ifCond .eq 7, 3) := by decide +kernel
theorem dL_setStuck_11 : decode cL_setStuck 11 = .ok (.lconst 1, 1) := by decide +kernel
theorem dL_setStuck_12 : decode cL_setStuck 12 = .ok (.goto 4, 3) := by decide +kernel
theorem dL_setStuck_15 : decode cL_setStuck 15 = .ok (.lconst 0, 1) := by decide +kernel
theorem dL_setStuck_16 : decode cL_setStuck 16 = .ok (.lastore, 1) := by decide +kernel
theorem dL_setStuck_17 : decode cL_setStuck 17 = .ok (.goto 7, 3) := by decide +kernel
theorem dL_setStuck_20 : decode cL_setStuck 20 = .ok (.astore 4, 2) := by decide +kernel
theorem dL_setStuck_22 : decode cL_setStuck 22 = .ok (.iconst 1, 1) := by decide +kernel
theorem dL_setStuck_23 : decode cL_setStuck 23 = .ok (.ireturn, 1) := by decide +kernel
theorem dL_setStuck_24 : decode cL_setStuck 24 = .ok (.iconst 0, 1) := by decide +kernel
theorem dL_setStuck_25 : decode cL_setStuck 25 = .ok (.ireturn, 1) := by decide +kernel
set_option maxRecDepth 20000 in
theorem ggL_setTimes_X3_setTimes : GoodIn wsL_setTimes wsX3_setTimes := goodIn_ca (goodIn_r _ [6, 7, 8, 9, 10, 11, 5, 12, 13, 14, 15, 16, 17, 18, 19, 20, 21, 22, 23, 24, 25, 26, 27, 28, 29, 30] (by decide +kernel) (by decide +kernel)) (goodIn_sub (fun _ h => List.mem_cons_of_mem _ (List.mem_append_right _ h)) (by decide +kernel))
set_option maxRecDepth 20000 in
theorem gL_setTimes_X3_setTimes : GoodIn wsL_setTimes (wsV RL 70 RX3 yX3_setTimes wsX3_setTimes) := goodIn_app (goodIn_of _ (by decide +kernel)) ggL_setTimes_X3_setTimes
theorem dL_setTimes_0 : decode cL_setTimes 0 = .ok (.aload_n 0, 1) := by decide +kernel
theorem dL_setTimes_1 : decode cL_setTimes 1 = .ok (.iload_n 1, 1) := by decide +kernel
theorem dL_setTimes_2 : decode cL_setTimes 2 = .ok (.iload_n 2, 1) := by decide +kernel
theorem dL_setTimes_3 : decode cL_setTimes 3 = .ok (.invokevirtual 70, 3) := by decide +kernel
theorem dL_setTimes_6 : decode cL_setTimes 6 = .ok (.goto 6, 3) := by decide +kernel
theorem dL_setTimes_9 : decode cL_setTimes 9 = .ok (.astore_n 3, 1) := by decide +kernel
theorem dL_setTimes_10 : decode cL_setTimes 10 = .ok (.iconst 1, 1) := by decide +kernel
theorem dL_setTimes_11 : decode cL_setTimes 11 = .ok (.ireturn, 1) := by decide +kernel
theorem dL_setTimes_12 : decode cL_setTimes 12 = .ok (.iconst 0, 1) := by decide +kernel
theorem dL_setTimes_13 : decode cL_setTimes 13 = .ok (.ireturn, 1) := by decide +kernel
set_option maxRecDepth 20000 in
theorem ggL_believed_X3_believed : GoodIn wsL_believed wsX3_believed := goodIn_ca (goodIn_r _ [6, 7, 8, 9, 10, 5, 11, 12, 13, 14, 15, 16, 17, 18, 19, 20, 21, 22, 23, 24, 25, 26, 27, 28, 29, 30, 31, 32, 33, 34, 35, 36, 37, 38] (by decide +kernel) (by decide +kernel)) (goodIn_sub (fun _ h => List.mem_cons_of_mem _ (List.mem_append_right _ h)) (by decide +kernel))
set_option maxRecDepth 20000 in
theorem gL_believed_X3_believed : GoodIn wsL_believed (wsV RL 74 RX3 yX3_believed wsX3_believed) := goodIn_app (goodIn_of _ (by decide +kernel)) ggL_believed_X3_believed
theorem dL_believed_0 : decode cL_believed 0 = .ok (.aload_n 3, 1) := by decide +kernel
theorem dL_believed_1 : decode cL_believed 1 = .ok (.iconst 0, 1) := by decide +kernel
theorem dL_believed_2 : decode cL_believed 2 = .ok (.aload_n 0, 1) := by decide +kernel
theorem dL_believed_3 : decode cL_believed 3 = .ok (.iload_n 1, 1) := by decide +kernel
theorem dL_believed_4 : decode cL_believed 4 = .ok (.iload_n 2, 1) := by decide +kernel
theorem dL_believed_5 : decode cL_believed 5 = .ok (.invokevirtual 74, 3) := by decide +kernel
theorem dL_believed_8 : decode cL_believed 8 = .ok (.i2l, 1) := by decide +kernel
theorem dL_believed_9 : decode cL_believed 9 = .ok (.lastore, 1) := by decide +kernel
theorem dL_believed_10 : decode cL_believed 10 = .ok (.goto 7, 3) := by decide +kernel
theorem dL_believed_13 : decode cL_believed 13 = .ok (.astore 4, 2) := by decide +kernel
theorem dL_believed_15 : decode cL_believed 15 = .ok (.iconst 1, 1) := by decide +kernel
theorem dL_believed_16 : decode cL_believed 16 = .ok (.ireturn, 1) := by decide +kernel
theorem dL_believed_17 : decode cL_believed 17 = .ok (.iconst 0, 1) := by decide +kernel
theorem dL_believed_18 : decode cL_believed 18 = .ok (.ireturn, 1) := by decide +kernel
set_option maxRecDepth 20000 in
theorem ggL_version_X3_version : GoodIn wsL_version wsX3_version := goodIn_ca (goodIn_r _ [6, 7, 8, 9, 10, 5, 11, 12, 13, 14, 15, 16, 17, 18, 19, 20, 21, 22, 23, 24, 25, 26, 27, 28, 29, 30, 31, 32] (by decide +kernel) (by decide +kernel)) (goodIn_sub (fun _ h => List.mem_cons_of_mem _ (List.mem_append_right _ h)) (by decide +kernel))
set_option maxRecDepth 20000 in
theorem gL_version_X3_version : GoodIn wsL_version (wsV RL 77 RX3 yX3_version wsX3_version) := goodIn_app (goodIn_of _ (by decide +kernel)) ggL_version_X3_version
theorem dL_version_0 : decode cL_version 0 = .ok (.aload_n 3, 1) := by decide +kernel
theorem dL_version_1 : decode cL_version 1 = .ok (.iconst 0, 1) := by decide +kernel
theorem dL_version_2 : decode cL_version 2 = .ok (.aload_n 0, 1) := by decide +kernel
theorem dL_version_3 : decode cL_version 3 = .ok (.iload_n 1, 1) := by decide +kernel
theorem dL_version_4 : decode cL_version 4 = .ok (.iload_n 2, 1) := by decide +kernel
theorem dL_version_5 : decode cL_version 5 = .ok (.invokevirtual 77, 3) := by decide +kernel
theorem dL_version_8 : decode cL_version 8 = .ok (.i2l, 1) := by decide +kernel
theorem dL_version_9 : decode cL_version 9 = .ok (.lastore, 1) := by decide +kernel
theorem dL_version_10 : decode cL_version 10 = .ok (.goto 7, 3) := by decide +kernel
theorem dL_version_13 : decode cL_version 13 = .ok (.astore 4, 2) := by decide +kernel
theorem dL_version_15 : decode cL_version 15 = .ok (.iconst 1, 1) := by decide +kernel
theorem dL_version_16 : decode cL_version 16 = .ok (.ireturn, 1) := by decide +kernel
theorem dL_version_17 : decode cL_version 17 = .ok (.iconst 0, 1) := by decide +kernel
theorem dL_version_18 : decode cL_version 18 = .ok (.ireturn, 1) := by decide +kernel
set_option maxRecDepth 20000 in
theorem ggL_age_X3_age : GoodIn wsL_age wsX3_age := goodIn_ca (goodIn_r _ [6, 7, 8, 9, 10, 11, 5, 12, 13, 14, 15, 16, 17, 18, 19, 20, 21, 22, 23, 24, 25, 26, 27, 28, 29, 30, 31, 32, 33, 34, 35, 36, 37, 38, 39] (by decide +kernel) (by decide +kernel)) (goodIn_sub (fun _ h => List.mem_cons_of_mem _ (List.mem_append_right _ h)) (by decide +kernel))
set_option maxRecDepth 20000 in
theorem gL_age_X3_age : GoodIn wsL_age (wsV RL 80 RX3 yX3_age wsX3_age) := goodIn_app (goodIn_of _ (by decide +kernel)) ggL_age_X3_age
theorem dL_age_0 : decode cL_age 0 = .ok (.aload_n 3, 1) := by decide +kernel
theorem dL_age_1 : decode cL_age 1 = .ok (.iconst 0, 1) := by decide +kernel
theorem dL_age_2 : decode cL_age 2 = .ok (.aload_n 0, 1) := by decide +kernel
theorem dL_age_3 : decode cL_age 3 = .ok (.iload_n 1, 1) := by decide +kernel
theorem dL_age_4 : decode cL_age 4 = .ok (.iload_n 2, 1) := by decide +kernel
theorem dL_age_5 : decode cL_age 5 = .ok (.invokevirtual 80, 3) := by decide +kernel
theorem dL_age_8 : decode cL_age 8 = .ok (.i2l, 1) := by decide +kernel
theorem dL_age_9 : decode cL_age 9 = .ok (.lastore, 1) := by decide +kernel
theorem dL_age_10 : decode cL_age 10 = .ok (.goto 7, 3) := by decide +kernel
theorem dL_age_13 : decode cL_age 13 = .ok (.astore 4, 2) := by decide +kernel
theorem dL_age_15 : decode cL_age 15 = .ok (.iconst 1, 1) := by decide +kernel
theorem dL_age_16 : decode cL_age 16 = .ok (.ireturn, 1) := by decide +kernel
theorem dL_age_17 : decode cL_age 17 = .ok (.iconst 0, 1) := by decide +kernel
theorem dL_age_18 : decode cL_age 18 = .ok (.ireturn, 1) := by decide +kernel
set_option maxRecDepth 20000 in
theorem ggL_beat_X3_beat : GoodIn wsL_beat wsX3_beat := goodIn_ca (goodIn_r _ [6, 7, 8, 9, 10, 5, 11, 12, 13, 14, 15, 16, 17, 18, 19, 20, 21, 22, 23, 24, 25, 26, 27, 28, 29, 30, 31, 32] (by decide +kernel) (by decide +kernel)) (goodIn_sub (fun _ h => List.mem_cons_of_mem _ (List.mem_append_right _ h)) (by decide +kernel))
set_option maxRecDepth 20000 in
theorem gL_beat_X3_beat : GoodIn wsL_beat (wsV RL 83 RX3 yX3_beat wsX3_beat) := goodIn_app (goodIn_of _ (by decide +kernel)) ggL_beat_X3_beat
theorem dL_beat_0 : decode cL_beat 0 = .ok (.aload_n 3, 1) := by decide +kernel
theorem dL_beat_1 : decode cL_beat 1 = .ok (.iconst 0, 1) := by decide +kernel
theorem dL_beat_2 : decode cL_beat 2 = .ok (.aload_n 0, 1) := by decide +kernel
theorem dL_beat_3 : decode cL_beat 3 = .ok (.iload_n 1, 1) := by decide +kernel
theorem dL_beat_4 : decode cL_beat 4 = .ok (.iload_n 2, 1) := by decide +kernel
theorem dL_beat_5 : decode cL_beat 5 = .ok (.invokevirtual 83, 3) := by decide +kernel
theorem dL_beat_8 : decode cL_beat 8 = .ok (.i2l, 1) := by decide +kernel
theorem dL_beat_9 : decode cL_beat 9 = .ok (.lastore, 1) := by decide +kernel
theorem dL_beat_10 : decode cL_beat 10 = .ok (.goto 7, 3) := by decide +kernel
theorem dL_beat_13 : decode cL_beat 13 = .ok (.astore 4, 2) := by decide +kernel
theorem dL_beat_15 : decode cL_beat 15 = .ok (.iconst 1, 1) := by decide +kernel
theorem dL_beat_16 : decode cL_beat 16 = .ok (.ireturn, 1) := by decide +kernel
theorem dL_beat_17 : decode cL_beat 17 = .ok (.iconst 0, 1) := by decide +kernel
theorem dL_beat_18 : decode cL_beat 18 = .ok (.ireturn, 1) := by decide +kernel
set_option maxRecDepth 20000 in
theorem ggL_status_X3_status : GoodIn wsL_status wsX3_status := goodIn_ca (goodIn_r _ [6, 7, 8, 9, 10, 5, 11, 12, 13, 14, 15, 16, 17, 18, 19, 20, 21, 22, 23, 24, 25, 26, 27, 28, 29, 30, 31, 32] (by decide +kernel) (by decide +kernel)) (goodIn_sub (fun _ h => List.mem_cons_of_mem _ (List.mem_append_right _ h)) (by decide +kernel))
set_option maxRecDepth 20000 in
theorem gL_status_X3_status : GoodIn wsL_status (wsV RL 86 RX3 yX3_status wsX3_status) := goodIn_app (goodIn_of _ (by decide +kernel)) ggL_status_X3_status
theorem dL_status_0 : decode cL_status 0 = .ok (.aload_n 3, 1) := by decide +kernel
theorem dL_status_1 : decode cL_status 1 = .ok (.iconst 0, 1) := by decide +kernel
theorem dL_status_2 : decode cL_status 2 = .ok (.aload_n 0, 1) := by decide +kernel
theorem dL_status_3 : decode cL_status 3 = .ok (.iload_n 1, 1) := by decide +kernel
theorem dL_status_4 : decode cL_status 4 = .ok (.iload_n 2, 1) := by decide +kernel
theorem dL_status_5 : decode cL_status 5 = .ok (.invokevirtual 86, 3) := by decide +kernel
theorem dL_status_8 : decode cL_status 8 = .ok (.i2l, 1) := by decide +kernel
theorem dL_status_9 : decode cL_status 9 = .ok (.lastore, 1) := by decide +kernel
theorem dL_status_10 : decode cL_status 10 = .ok (.goto 7, 3) := by decide +kernel
theorem dL_status_13 : decode cL_status 13 = .ok (.astore 4, 2) := by decide +kernel
theorem dL_status_15 : decode cL_status 15 = .ok (.iconst 1, 1) := by decide +kernel
theorem dL_status_16 : decode cL_status 16 = .ok (.ireturn, 1) := by decide +kernel
theorem dL_status_17 : decode cL_status 17 = .ok (.iconst 0, 1) := by decide +kernel
theorem dL_status_18 : decode cL_status 18 = .ok (.ireturn, 1) := by decide +kernel
set_option maxRecDepth 20000 in
theorem ggL_partner_X3_partner : GoodIn wsL_partner wsX3_partner := goodIn_ca (goodIn_r _ [6, 7, 8, 9, 10, 11, 5, 12, 13, 14, 15, 16, 17, 18, 19, 20, 21, 22, 23, 24, 25, 26, 27, 28, 29, 30, 31, 32, 33, 34, 35, 36, 37, 38, 39, 40, 41, 42, 43] (by decide +kernel) (by decide +kernel)) (goodIn_sub (fun _ h => List.mem_cons_of_mem _ (List.mem_append_right _ h)) (by decide +kernel))
set_option maxRecDepth 20000 in
theorem gL_partner_X3_partner : GoodIn wsL_partner (wsV RL 89 RX3 yX3_partner wsX3_partner) := goodIn_app (goodIn_of _ (by decide +kernel)) ggL_partner_X3_partner
theorem dL_partner_0 : decode cL_partner 0 = .ok (.aload_n 2, 1) := by decide +kernel
theorem dL_partner_1 : decode cL_partner 1 = .ok (.iconst 0, 1) := by decide +kernel
theorem dL_partner_2 : decode cL_partner 2 = .ok (.aload_n 0, 1) := by decide +kernel
theorem dL_partner_3 : decode cL_partner 3 = .ok (.iload_n 1, 1) := by decide +kernel
theorem dL_partner_4 : decode cL_partner 4 = .ok (.invokevirtual 89, 3) := by decide +kernel
theorem dL_partner_7 : decode cL_partner 7 = .ok (.i2l, 1) := by decide +kernel
theorem dL_partner_8 : decode cL_partner 8 = .ok (.lastore, 1) := by decide +kernel
theorem dL_partner_9 : decode cL_partner 9 = .ok (.goto 6, 3) := by decide +kernel
theorem dL_partner_12 : decode cL_partner 12 = .ok (.astore_n 3, 1) := by decide +kernel
theorem dL_partner_13 : decode cL_partner 13 = .ok (.iconst 1, 1) := by decide +kernel
theorem dL_partner_14 : decode cL_partner 14 = .ok (.ireturn, 1) := by decide +kernel
theorem dL_partner_15 : decode cL_partner 15 = .ok (.iconst 0, 1) := by decide +kernel
theorem dL_partner_16 : decode cL_partner 16 = .ok (.ireturn, 1) := by decide +kernel
set_option maxRecDepth 20000 in
theorem ggL_freshest_X3_freshest : GoodIn wsL_freshest wsX3_freshest := goodIn_ca (goodIn_r _ [6, 7, 8, 9, 5, 10, 11, 12, 13, 14, 15, 16, 17, 18, 19, 20, 21, 22, 23, 24, 25, 26, 27, 28, 29, 30, 31, 32, 33, 34, 35, 36, 37] (by decide +kernel) (by decide +kernel)) (goodIn_sub (fun _ h => List.mem_cons_of_mem _ (List.mem_append_right _ h)) (by decide +kernel))
set_option maxRecDepth 20000 in
theorem gL_freshest_X3_freshest : GoodIn wsL_freshest (wsV RL 92 RX3 yX3_freshest wsX3_freshest) := goodIn_app (goodIn_of _ (by decide +kernel)) ggL_freshest_X3_freshest
theorem dL_freshest_0 : decode cL_freshest 0 = .ok (.aload_n 2, 1) := by decide +kernel
theorem dL_freshest_1 : decode cL_freshest 1 = .ok (.iconst 0, 1) := by decide +kernel
theorem dL_freshest_2 : decode cL_freshest 2 = .ok (.aload_n 0, 1) := by decide +kernel
theorem dL_freshest_3 : decode cL_freshest 3 = .ok (.iload_n 1, 1) := by decide +kernel
theorem dL_freshest_4 : decode cL_freshest 4 = .ok (.invokevirtual 92, 3) := by decide +kernel
theorem dL_freshest_7 : decode cL_freshest 7 = .ok (.i2l, 1) := by decide +kernel
theorem dL_freshest_8 : decode cL_freshest 8 = .ok (.lastore, 1) := by decide +kernel
theorem dL_freshest_9 : decode cL_freshest 9 = .ok (.goto 6, 3) := by decide +kernel
theorem dL_freshest_12 : decode cL_freshest 12 = .ok (.astore_n 3, 1) := by decide +kernel
theorem dL_freshest_13 : decode cL_freshest 13 = .ok (.iconst 1, 1) := by decide +kernel
theorem dL_freshest_14 : decode cL_freshest 14 = .ok (.ireturn, 1) := by decide +kernel
theorem dL_freshest_15 : decode cL_freshest 15 = .ok (.iconst 0, 1) := by decide +kernel
theorem dL_freshest_16 : decode cL_freshest 16 = .ok (.ireturn, 1) := by decide +kernel
set_option maxRecDepth 20000 in
theorem ggL_agree_X3_agree : GoodIn wsL_agree wsX3_agree := goodIn_ca (goodIn_r _ [6, 7, 8, 9, 10, 5, 11, 12, 13, 14, 15, 16, 17, 18, 19, 20, 21, 22, 23, 24, 25, 26, 27, 28, 29, 30, 31, 32, 33, 34, 35, 36, 37, 38, 39, 40, 41, 42, 43, 44, 45, 46, 47, 48, 49, 50, 51, 52, 53, 54, 55, 56, 57, 58, 59] (by decide +kernel) (by decide +kernel)) (goodIn_sub (fun _ h => List.mem_cons_of_mem _ (List.mem_append_right _ h)) (by decide +kernel))
set_option maxRecDepth 20000 in
theorem gL_agree_X3_agree : GoodIn wsL_agree (wsV RL 95 RX3 yX3_agree wsX3_agree) := goodIn_app (goodIn_of _ (by decide +kernel)) ggL_agree_X3_agree
theorem dL_agree_0 : decode cL_agree 0 = .ok (.aload_n 2, 1) := by decide +kernel
theorem dL_agree_1 : decode cL_agree 1 = .ok (.iconst 0, 1) := by decide +kernel
theorem dL_agree_2 : decode cL_agree 2 = .ok (.aload_n 0, 1) := by decide +kernel
theorem dL_agree_3 : decode cL_agree 3 = .ok (.iload_n 1, 1) := by decide +kernel
theorem dL_agree_4 : decode cL_agree 4 = .ok (.invokevirtual 95, 3) := by decide +kernel
theorem dL_agree_7 : decode cL_agree 7 = .ok (.i2l, 1) := by decide +kernel
theorem dL_agree_8 : decode cL_agree 8 = .ok (.lastore, 1) := by decide +kernel
theorem dL_agree_9 : decode cL_agree 9 = .ok (.goto 6, 3) := by decide +kernel
theorem dL_agree_12 : decode cL_agree 12 = .ok (.astore_n 3, 1) := by decide +kernel
theorem dL_agree_13 : decode cL_agree 13 = .ok (.iconst 1, 1) := by decide +kernel
theorem dL_agree_14 : decode cL_agree 14 = .ok (.ireturn, 1) := by decide +kernel
theorem dL_agree_15 : decode cL_agree 15 = .ok (.iconst 0, 1) := by decide +kernel
theorem dL_agree_16 : decode cL_agree 16 = .ok (.ireturn, 1) := by decide +kernel
set_option maxRecDepth 20000 in
theorem ggL_tick_X3_tick : GoodIn wsL_tick wsX3_tick := goodIn_ca (goodIn_ca (goodIn_r _ [7, 8, 9, 10, 11, 12, 6, 13, 14, 15, 16, 17, 18, 19, 20, 21, 22, 23, 24, 25, 26, 27, 28, 29, 30, 31, 32, 33, 34, 35, 36, 37, 38, 39, 40, 41, 42, 43, 44, 45, 46, 47, 48, 49, 50, 51, 52, 53, 54, 55, 56, 57, 58, 59, 60, 61, 62, 63, 64, 65, 66, 67, 68, 69, 70, 71, 72, 73, 74, 75, 76, 77, 78, 79, 80, 81, 82, 83, 84, 85, 86, 87, 88, 89, 90, 91, 92, 93, 94, 95, 96, 97, 98, 99, 100, 101, 102, 103, 104, 105, 106, 107, 108, 109, 110, 111, 112, 113, 114, 115, 116, 117, 118, 119, 120, 121, 122, 123, 124, 125, 126, 127, 128, 129, 130, 131, 132, 133, 134, 135, 136, 137, 138, 139, 140, 141, 142, 143, 144, 145, 146, 147, 148, 149, 150, 151, 152, 153, 154, 155, 156, 157, 158, 159, 160, 161, 162, 163, 164, 165, 166, 167, 168, 169, 170, 171, 172, 173, 174, 175, 176, 177, 178, 179, 180, 181, 182, 183, 184, 185, 186, 187, 188, 189, 190, 191, 192, 193, 194, 195, 196] (by decide +kernel) (by decide +kernel)) (goodIn_sub (fun _ h => List.mem_cons_of_mem _ (List.mem_append_left _ (List.mem_append_right _ h))) (by decide +kernel))) (goodIn_sub (fun _ h => List.mem_cons_of_mem _ (List.mem_append_right _ h)) (by decide +kernel))
set_option maxRecDepth 20000 in
theorem gL_tick_X3_tick : GoodIn wsL_tick (wsV RL 98 RX3 yX3_tick wsX3_tick) := goodIn_app (goodIn_of _ (by decide +kernel)) ggL_tick_X3_tick
theorem dL_tick_0 : decode cL_tick 0 = .ok (.aload_n 2, 1) := by decide +kernel
theorem dL_tick_1 : decode cL_tick 1 = .ok (.iconst 0, 1) := by decide +kernel
theorem dL_tick_2 : decode cL_tick 2 = .ok (.aload_n 0, 1) := by decide +kernel
theorem dL_tick_3 : decode cL_tick 3 = .ok (.iload_n 1, 1) := by decide +kernel
theorem dL_tick_4 : decode cL_tick 4 = .ok (.invokevirtual 98, 3) := by decide +kernel
theorem dL_tick_7 : decode cL_tick 7 = .ok (.i2l, 1) := by decide +kernel
theorem dL_tick_8 : decode cL_tick 8 = .ok (.lastore, 1) := by decide +kernel
theorem dL_tick_9 : decode cL_tick 9 = .ok (.goto 9, 3) := by decide +kernel
theorem dL_tick_12 : decode cL_tick 12 = .ok (.astore_n 3, 1) := by decide +kernel
theorem dL_tick_13 : decode cL_tick 13 = .ok (.iconst 1, 1) := by decide +kernel
theorem dL_tick_14 : decode cL_tick 14 = .ok (.ireturn, 1) := by decide +kernel
theorem dL_tick_15 : decode cL_tick 15 = .ok (.astore_n 3, 1) := by decide +kernel
theorem dL_tick_16 : decode cL_tick 16 = .ok (.iconst 2, 1) := by decide +kernel
theorem dL_tick_17 : decode cL_tick 17 = .ok (.ireturn, 1) := by decide +kernel
theorem dL_tick_18 : decode cL_tick 18 = .ok (.iconst 0, 1) := by decide +kernel
theorem dL_tick_19 : decode cL_tick 19 = .ok (.ireturn, 1) := by decide +kernel
set_option maxRecDepth 20000 in
theorem ggL_law_X3_init : GoodIn wsL_law wsX3_init := goodIn_r _ [9, 10, 11, 12, 13, 14, 15, 16, 17, 18, 19, 20, 21, 22, 23, 24, 25, 26, 27, 28, 29, 30, 31, 32, 33, 34, 35, 36, 37, 38, 39, 40, 41, 42, 43, 44, 45, 46, 47, 48, 49, 50, 51, 52, 53, 54, 55, 56, 57, 58, 59, 60, 61, 62, 63, 64, 65, 66, 67, 68, 69, 70, 71, 72, 732, 733, 734, 735, 736, 737, 738, 739, 698, 699, 700, 701, 740, 741, 742, 743, 744, 745, 746, 747, 748, 749, 750, 751, 752, 753, 754, 755, 756, 757, 758, 759] (by decide +kernel) (by decide +kernel)
set_option maxRecDepth 20000 in
theorem gL_law_X3_init : GoodIn wsL_law (wsX3_init) := ggL_law_X3_init
set_option maxRecDepth 20000 in
theorem ggL_law_X4_init : GoodIn wsL_law wsX4_init := goodIn_r _ [75, 76, 11, 12, 30, 77, 78, 79, 80, 81, 82, 83, 84, 85, 86, 87, 88, 89, 54, 90, 91, 92, 93, 94, 95, 96, 97, 98, 99, 100, 101, 102, 702, 703, 704, 705, 706, 707, 708, 709, 710, 711, 712, 713, 714, 715, 716, 717, 718, 719, 720, 721, 722, 723, 724, 725, 726, 727, 728, 729, 730, 731] (by decide +kernel) (by decide +kernel)
set_option maxRecDepth 20000 in
theorem gL_law_X4_init : GoodIn wsL_law (wsX4_init) := ggL_law_X4_init
set_option maxRecDepth 20000 in
theorem ggL_law_L_shape : GoodIn wsL_law wsL_shape := goodIn_ca (goodIn_r _ [106, 107, 108, 109, 110, 2, 111, 16, 112, 113, 114, 115, 116, 117, 118, 119, 120, 121, 698, 699, 700, 701, 732, 733, 734, 735, 736, 737, 738, 739] (by decide +kernel) (by decide +kernel)) (goodIn_sub (fun _ h => List.mem_append_left _ (List.mem_append_right _ h)) (by decide +kernel))
set_option maxRecDepth 20000 in
theorem gL_law_L_shape : GoodIn wsL_law (va_wsS RL 105 yL_shape wsL_shape) := goodIn_app (goodIn_of _ (by decide +kernel)) ggL_law_L_shape
set_option maxRecDepth 20000 in
theorem ggL_law_X4_shape : GoodIn wsL_law wsX4_shape := goodIn_r _ [125, 77, 78, 126, 127, 5, 128, 129, 130, 131, 132, 133, 134, 135, 136, 702, 703, 704, 705, 706, 707, 708, 709, 710, 711, 712, 713, 714, 715, 716, 717, 718, 719, 720, 721, 722, 723, 724, 725, 726, 727, 728, 729, 730, 731] (by decide +kernel) (by decide +kernel)
set_option maxRecDepth 20000 in
theorem gL_law_X4_shape : GoodIn wsL_law (wsV RL 110 RX4 yX4_shape wsX4_shape) := goodIn_app (goodIn_of _ (by decide +kernel)) ggL_law_X4_shape
set_option maxRecDepth 20000 in
theorem ggL_law_X4_thrown : GoodIn wsL_law wsX4_thrown := goodIn_r _ [140, 136, 702, 703, 704, 705, 706, 707, 708, 709, 710, 711, 712, 713, 714, 715, 716, 717, 718, 719, 720, 721, 722, 723, 724, 725, 726, 727, 728, 729, 730, 731] (by decide +kernel) (by decide +kernel)
set_option maxRecDepth 20000 in
theorem gL_law_X4_thrown : GoodIn wsL_law (wsV RL 111 RX4 yX4_thrown wsX4_thrown) := goodIn_app (goodIn_of _ (by decide +kernel)) ggL_law_X4_thrown
set_option maxRecDepth 20000 in
theorem ggL_law_L_setGauge : GoodIn wsL_law wsL_setGauge := goodIn_ca (goodIn_r _ [143, 107, 144, 145, 146, 2, 147, 20, 148, 114, 115, 116, 117, 118, 119, 120, 121, 698, 699, 700, 701, 740, 741, 742, 743, 744, 745, 746, 747] (by decide +kernel) (by decide +kernel)) (goodIn_sub (fun _ h => List.mem_append_left _ (List.mem_append_right _ h)) (by decide +kernel))
set_option maxRecDepth 20000 in
theorem gL_law_L_setGauge : GoodIn wsL_law (va_wsS RL 115 yL_setGauge wsL_setGauge) := goodIn_app (goodIn_of _ (by decide +kernel)) ggL_law_L_setGauge
set_option maxRecDepth 20000 in
theorem ggL_law_X4_setGauge : GoodIn wsL_law wsX4_setGauge := goodIn_r _ [152, 81, 126, 127, 5, 128, 129, 130, 131, 132, 133, 134, 135, 136, 702, 703, 704, 705, 706, 707, 708, 709, 710, 711, 712, 713, 714, 715, 716, 717, 718, 719, 720, 721, 722, 723, 724, 725, 726, 727, 728, 729, 730, 731] (by decide +kernel) (by decide +kernel)
set_option maxRecDepth 20000 in
theorem gL_law_X4_setGauge : GoodIn wsL_law (wsV RL 118 RX4 yX4_setGauge wsX4_setGauge) := goodIn_app (goodIn_of _ (by decide +kernel)) ggL_law_X4_setGauge
set_option maxRecDepth 20000 in
theorem ggL_law_L_setSource : GoodIn wsL_law wsL_setSource := goodIn_ca (goodIn_r _ [155, 107, 156, 157, 158, 2, 159, 16, 160, 117, 118, 119, 120, 121, 698, 699, 700, 701, 732, 733, 734, 735, 736, 737, 738, 739] (by decide +kernel) (by decide +kernel)) (goodIn_sub (fun _ h => List.mem_append_left _ (List.mem_append_right _ h)) (by decide +kernel))
set_option maxRecDepth 20000 in
theorem gL_law_L_setSource : GoodIn wsL_law (va_wsS RL 119 yL_setSource wsL_setSource) := goodIn_app (goodIn_of _ (by decide +kernel)) ggL_law_L_setSource
set_option maxRecDepth 20000 in
theorem ggL_law_X4_setSource : GoodIn wsL_law wsX4_setSource := goodIn_r _ [164, 165, 129, 130, 5, 131, 132, 133, 134, 135, 136, 702, 703, 704, 705, 706, 707, 708, 709, 710, 711, 712, 713, 714, 715, 716, 717, 718, 719, 720, 721, 722, 723, 724, 725, 726, 727, 728, 729, 730, 731] (by decide +kernel) (by decide +kernel)
set_option maxRecDepth 20000 in
theorem gL_law_X4_setSource : GoodIn wsL_law (wsV RL 122 RX4 yX4_setSource wsX4_setSource) := goodIn_app (goodIn_of _ (by decide +kernel)) ggL_law_X4_setSource
set_option maxRecDepth 20000 in
theorem ggL_law_L_rain : GoodIn wsL_law wsL_rain := goodIn_ca (goodIn_r _ [168, 107, 169, 170, 171, 2, 172, 16, 173, 114, 115, 116, 117, 118, 119, 120, 121, 698, 699, 700, 701, 732, 733, 734, 735, 736, 737, 738, 739] (by decide +kernel) (by decide +kernel)) (goodIn_sub (fun _ h => List.mem_append_left _ (List.mem_append_right _ h)) (by decide +kernel))
set_option maxRecDepth 20000 in
theorem gL_law_L_rain : GoodIn wsL_law (va_wsS RL 123 yL_rain wsL_rain) := goodIn_app (goodIn_of _ (by decide +kernel)) ggL_law_L_rain
set_option maxRecDepth 20000 in
theorem ggL_law_X4_rain : GoodIn wsL_law wsX4_rain := goodIn_r _ [177, 82, 126, 127, 5, 128, 129, 130, 131, 132, 133, 134, 135, 136, 702, 703, 704, 705, 706, 707, 708, 709, 710, 711, 712, 713, 714, 715, 716, 717, 718, 719, 720, 721, 722, 723, 724, 725, 726, 727, 728, 729, 730, 731] (by decide +kernel) (by decide +kernel)
set_option maxRecDepth 20000 in
theorem gL_law_X4_rain : GoodIn wsL_law (wsV RL 125 RX4 yX4_rain wsX4_rain) := goodIn_app (goodIn_of _ (by decide +kernel)) ggL_law_X4_rain
set_option maxRecDepth 20000 in
theorem ggL_law_L_volume : GoodIn wsL_law wsL_volume := goodIn_ca (goodIn_r _ [180, 107, 181, 182, 183, 2, 184, 16, 185, 114, 115, 116, 117, 118, 119, 120, 121, 698, 699, 700, 701, 732, 733, 734, 735, 736, 737, 738, 739] (by decide +kernel) (by decide +kernel)) (goodIn_sub (fun _ h => List.mem_append_left _ (List.mem_append_right _ h)) (by decide +kernel))
set_option maxRecDepth 20000 in
theorem gL_law_L_volume : GoodIn wsL_law (va_wsS RL 126 yL_volume wsL_volume) := goodIn_app (goodIn_of _ (by decide +kernel)) ggL_law_L_volume
set_option maxRecDepth 20000 in
theorem ggL_law_X4_volume : GoodIn wsL_law wsX4_volume := goodIn_r _ [189, 79, 190, 191, 192, 5, 193, 126, 127, 128, 129, 130, 131, 132, 133, 134, 135, 136, 702, 703, 704, 705, 706, 707, 708, 709, 710, 711, 712, 713, 714, 715, 716, 717, 718, 719, 720, 721, 722, 723, 724, 725, 726, 727, 728, 729, 730, 731] (by decide +kernel) (by decide +kernel)
set_option maxRecDepth 20000 in
theorem gL_law_X4_volume : GoodIn wsL_law (wsV RL 128 RX4 yX4_volume wsX4_volume) := goodIn_app (goodIn_of _ (by decide +kernel)) ggL_law_X4_volume
set_option maxRecDepth 20000 in
theorem ggL_law_L_volumeByBalance : GoodIn wsL_law wsL_volumeByBalance := goodIn_ca (goodIn_r _ [196, 107, 197, 198, 199, 2, 200, 16, 114, 115, 116, 117, 118, 119, 120, 121, 201, 202, 203, 15, 204, 35, 36, 37, 698, 699, 700, 701, 732, 733, 734, 735, 736, 737, 738, 739] (by decide +kernel) (by decide +kernel)) (goodIn_sub (fun _ h => List.mem_append_left _ (List.mem_append_right _ h)) (by decide +kernel))
set_option maxRecDepth 20000 in
theorem gL_law_L_volumeByBalance : GoodIn wsL_law (va_wsS RL 129 yL_volumeByBalance wsL_volumeByBalance) := goodIn_app (goodIn_of _ (by decide +kernel)) ggL_law_L_volumeByBalance
set_option maxRecDepth 20000 in
theorem ggL_law_X4_volumeByBalance : GoodIn wsL_law wsX4_volumeByBalance := goodIn_r _ [208, 79, 190, 191, 192, 5, 193, 126, 127, 128, 129, 130, 131, 132, 133, 134, 135, 136, 702, 703, 704, 705, 706, 707, 708, 709, 710, 711, 712, 713, 714, 715, 716, 717, 718, 719, 720, 721, 722, 723, 724, 725, 726, 727, 728, 729, 730, 731] (by decide +kernel) (by decide +kernel)
set_option maxRecDepth 20000 in
theorem gL_law_X4_volumeByBalance : GoodIn wsL_law (wsV RL 131 RX4 yX4_volumeByBalance wsX4_volumeByBalance) := goodIn_app (goodIn_of _ (by decide +kernel)) ggL_law_X4_volumeByBalance
set_option maxRecDepth 20000 in
theorem ggL_law_L_level : GoodIn wsL_law wsL_level := goodIn_ca (goodIn_r _ [211, 107, 212, 213, 214, 2, 215, 16, 114, 115, 116, 117, 118, 119, 120, 121, 216, 217, 218, 15, 219, 31, 33, 698, 699, 700, 701, 732, 733, 734, 735, 736, 737, 738, 739] (by decide +kernel) (by decide +kernel)) (goodIn_sub (fun _ h => List.mem_append_left _ (List.mem_append_right _ h)) (by decide +kernel))
set_option maxRecDepth 20000 in
theorem gL_law_L_level : GoodIn wsL_law (va_wsS RL 132 yL_level wsL_level) := goodIn_app (goodIn_of _ (by decide +kernel)) ggL_law_L_level
set_option maxRecDepth 20000 in
theorem ggL_law_X4_level : GoodIn wsL_law wsX4_level := goodIn_r _ [223, 190, 191, 192, 5, 193, 126, 127, 128, 129, 130, 131, 132, 133, 134, 135, 136, 224, 225, 226, 227, 79, 77, 702, 703, 704, 705, 706, 707, 708, 709, 710, 711, 712, 713, 714, 715, 716, 717, 718, 719, 720, 721, 722, 723, 724, 725, 726, 727, 728, 729, 730, 731] (by decide +kernel) (by decide +kernel)
set_option maxRecDepth 20000 in
theorem gL_law_X4_level : GoodIn wsL_law (wsV RL 134 RX4 yX4_level wsX4_level) := goodIn_app (goodIn_of _ (by decide +kernel)) ggL_law_X4_level
set_option maxRecDepth 20000 in
theorem ggL_law_L_flowed : GoodIn wsL_law wsL_flowed := goodIn_ca (goodIn_r _ [230, 107, 231, 232, 233, 2, 234, 16, 235, 114, 115, 116, 117, 118, 119, 120, 121, 698, 699, 700, 701, 732, 733, 734, 735, 736, 737, 738, 739] (by decide +kernel) (by decide +kernel)) (goodIn_sub (fun _ h => List.mem_append_left _ (List.mem_append_right _ h)) (by decide +kernel))
set_option maxRecDepth 20000 in
theorem gL_law_L_flowed : GoodIn wsL_law (va_wsS RL 135 yL_flowed wsL_flowed) := goodIn_app (goodIn_of _ (by decide +kernel)) ggL_law_L_flowed
set_option maxRecDepth 20000 in
theorem ggL_law_X4_flowed : GoodIn wsL_law wsX4_flowed := goodIn_r _ [239, 84, 190, 191, 192, 5, 193, 126, 127, 128, 129, 130, 131, 132, 133, 134, 135, 136, 702, 703, 704, 705, 706, 707, 708, 709, 710, 711, 712, 713, 714, 715, 716, 717, 718, 719, 720, 721, 722, 723, 724, 725, 726, 727, 728, 729, 730, 731] (by decide +kernel) (by decide +kernel)
set_option maxRecDepth 20000 in
theorem gL_law_X4_flowed : GoodIn wsL_law (wsV RL 137 RX4 yX4_flowed wsX4_flowed) := goodIn_app (goodIn_of _ (by decide +kernel)) ggL_law_X4_flowed
set_option maxRecDepth 20000 in
theorem ggL_law_L_spilled : GoodIn wsL_law wsL_spilled := goodIn_ca (goodIn_r _ [242, 107, 243, 244, 245, 2, 246, 16, 247, 114, 115, 116, 117, 118, 119, 120, 121, 698, 699, 700, 701, 732, 733, 734, 735, 736, 737, 738, 739] (by decide +kernel) (by decide +kernel)) (goodIn_sub (fun _ h => List.mem_append_left _ (List.mem_append_right _ h)) (by decide +kernel))
set_option maxRecDepth 20000 in
theorem gL_law_L_spilled : GoodIn wsL_law (va_wsS RL 138 yL_spilled wsL_spilled) := goodIn_app (goodIn_of _ (by decide +kernel)) ggL_law_L_spilled
set_option maxRecDepth 20000 in
theorem ggL_law_X4_spilled : GoodIn wsL_law wsX4_spilled := goodIn_r _ [251, 85, 190, 191, 192, 5, 193, 126, 127, 128, 129, 130, 131, 132, 133, 134, 135, 136, 702, 703, 704, 705, 706, 707, 708, 709, 710, 711, 712, 713, 714, 715, 716, 717, 718, 719, 720, 721, 722, 723, 724, 725, 726, 727, 728, 729, 730, 731] (by decide +kernel) (by decide +kernel)
set_option maxRecDepth 20000 in
theorem gL_law_X4_spilled : GoodIn wsL_law (wsV RL 140 RX4 yX4_spilled wsX4_spilled) := goodIn_app (goodIn_of _ (by decide +kernel)) ggL_law_X4_spilled
set_option maxRecDepth 20000 in
theorem ggL_law_L_setRule : GoodIn wsL_law wsL_setRule := goodIn_ca (goodIn_r _ [254, 107, 255, 256, 257, 2, 258, 20, 259, 260, 261, 262, 114, 115, 116, 117, 118, 119, 120, 121, 698, 699, 700, 701, 740, 741, 742, 743, 744, 745, 746, 747] (by decide +kernel) (by decide +kernel)) (goodIn_sub (fun _ h => List.mem_append_left _ (List.mem_append_right _ h)) (by decide +kernel))
set_option maxRecDepth 20000 in
theorem gL_law_L_setRule : GoodIn wsL_law (va_wsS RL 141 yL_setRule wsL_setRule) := goodIn_app (goodIn_of _ (by decide +kernel)) ggL_law_L_setRule
set_option maxRecDepth 20000 in
theorem ggL_law_X4_setRule : GoodIn wsL_law wsX4_setRule := goodIn_r _ [266, 86, 87, 88, 89, 126, 127, 5, 128, 129, 130, 131, 132, 133, 134, 135, 136, 702, 703, 704, 705, 706, 707, 708, 709, 710, 711, 712, 713, 714, 715, 716, 717, 718, 719, 720, 721, 722, 723, 724, 725, 726, 727, 728, 729, 730, 731] (by decide +kernel) (by decide +kernel)
set_option maxRecDepth 20000 in
theorem gL_law_X4_setRule : GoodIn wsL_law (wsV RL 144 RX4 yX4_setRule wsX4_setRule) := goodIn_app (goodIn_of _ (by decide +kernel)) ggL_law_X4_setRule
set_option maxRecDepth 20000 in
theorem ggL_law_L_byHand : GoodIn wsL_law wsL_byHand := goodIn_ca (goodIn_ca (goodIn_r _ [269, 107, 270, 271, 272, 273, 2, 274, 275, 276, 20, 277, 278, 114, 115, 116, 117, 118, 119, 120, 121, 698, 699, 700, 701, 740, 741, 742, 743, 744, 745, 746, 747] (by decide +kernel) (by decide +kernel)) (goodIn_sub (fun _ h => List.mem_append_right _ h) (by decide +kernel))) (goodIn_sub (fun _ h => List.mem_append_left _ (List.mem_append_right _ h)) (by decide +kernel))
set_option maxRecDepth 20000 in
theorem gL_law_L_byHand : GoodIn wsL_law (va_wsS RL 145 yL_byHand wsL_byHand) := goodIn_app (goodIn_of _ (by decide +kernel)) ggL_law_L_byHand
set_option maxRecDepth 20000 in
theorem ggL_law_X4_byHand : GoodIn wsL_law wsX4_byHand := goodIn_r _ [282, 90, 80, 126, 127, 5, 128, 129, 130, 131, 132, 133, 134, 135, 136, 702, 703, 704, 705, 706, 707, 708, 709, 710, 711, 712, 713, 714, 715, 716, 717, 718, 719, 720, 721, 722, 723, 724, 725, 726, 727, 728, 729, 730, 731] (by decide +kernel) (by decide +kernel)
set_option maxRecDepth 20000 in
theorem gL_law_X4_byHand : GoodIn wsL_law (wsV RL 147 RX4 yX4_byHand wsX4_byHand) := goodIn_app (goodIn_of _ (by decide +kernel)) ggL_law_X4_byHand
set_option maxRecDepth 20000 in
theorem ggL_law_L_opening : GoodIn wsL_law wsL_opening := goodIn_ca (goodIn_r _ [285, 107, 286, 287, 288, 2, 289, 20, 278, 114, 115, 116, 117, 118, 119, 120, 121, 698, 699, 700, 701, 740, 741, 742, 743, 744, 745, 746, 747] (by decide +kernel) (by decide +kernel)) (goodIn_sub (fun _ h => List.mem_append_left _ (List.mem_append_right _ h)) (by decide +kernel))
set_option maxRecDepth 20000 in
theorem gL_law_L_opening : GoodIn wsL_law (va_wsS RL 148 yL_opening wsL_opening) := goodIn_app (goodIn_of _ (by decide +kernel)) ggL_law_L_opening
set_option maxRecDepth 20000 in
theorem ggL_law_X4_opening : GoodIn wsL_law wsX4_opening := goodIn_r _ [293, 80, 190, 191, 192, 5, 193, 126, 127, 128, 129, 130, 131, 132, 133, 134, 135, 136, 702, 703, 704, 705, 706, 707, 708, 709, 710, 711, 712, 713, 714, 715, 716, 717, 718, 719, 720, 721, 722, 723, 724, 725, 726, 727, 728, 729, 730, 731] (by decide +kernel) (by decide +kernel)
set_option maxRecDepth 20000 in
theorem gL_law_X4_opening : GoodIn wsL_law (wsV RL 150 RX4 yX4_opening wsX4_opening) := goodIn_app (goodIn_of _ (by decide +kernel)) ggL_law_X4_opening
set_option maxRecDepth 20000 in
theorem ggL_law_L_safety : GoodIn wsL_law wsL_safety := goodIn_ca (goodIn_r _ [296, 107, 297, 298, 299, 2, 300, 20, 301, 114, 115, 116, 117, 118, 119, 120, 121, 698, 699, 700, 701, 740, 741, 742, 743, 744, 745, 746, 747] (by decide +kernel) (by decide +kernel)) (goodIn_sub (fun _ h => List.mem_append_left _ (List.mem_append_right _ h)) (by decide +kernel))
set_option maxRecDepth 20000 in
theorem gL_law_L_safety : GoodIn wsL_law (va_wsS RL 151 yL_safety wsL_safety) := goodIn_app (goodIn_of _ (by decide +kernel)) ggL_law_L_safety
set_option maxRecDepth 20000 in
theorem ggL_law_X4_safety : GoodIn wsL_law wsX4_safety := goodIn_r _ [305, 91, 190, 191, 192, 5, 193, 126, 127, 128, 129, 130, 131, 132, 133, 134, 135, 136, 702, 703, 704, 705, 706, 707, 708, 709, 710, 711, 712, 713, 714, 715, 716, 717, 718, 719, 720, 721, 722, 723, 724, 725, 726, 727, 728, 729, 730, 731] (by decide +kernel) (by decide +kernel)
set_option maxRecDepth 20000 in
theorem gL_law_X4_safety : GoodIn wsL_law (wsV RL 153 RX4 yX4_safety wsX4_safety) := goodIn_app (goodIn_of _ (by decide +kernel)) ggL_law_X4_safety
set_option maxRecDepth 20000 in
theorem ggL_law_L_fall : GoodIn wsL_law wsL_fall := goodIn_ca (goodIn_ca (goodIn_r _ [308, 107, 270, 309, 310, 311, 2, 312, 275, 276, 24, 313, 114, 115, 116, 117, 118, 119, 120, 121, 698, 699, 700, 701, 748, 749, 750, 751, 752, 753, 754, 755, 756, 757, 758, 759] (by decide +kernel) (by decide +kernel)) (goodIn_sub (fun _ h => List.mem_append_right _ h) (by decide +kernel))) (goodIn_sub (fun _ h => List.mem_append_left _ (List.mem_append_right _ h)) (by decide +kernel))
set_option maxRecDepth 20000 in
theorem gL_law_L_fall : GoodIn wsL_law (va_wsS RL 154 yL_fall wsL_fall) := goodIn_app (goodIn_of _ (by decide +kernel)) ggL_law_L_fall
set_option maxRecDepth 20000 in
theorem ggL_law_X4_fall : GoodIn wsL_law wsX4_fall := goodIn_r _ [317, 92, 126, 127, 5, 128, 129, 130, 131, 132, 133, 134, 135, 136, 702, 703, 704, 705, 706, 707, 708, 709, 710, 711, 712, 713, 714, 715, 716, 717, 718, 719, 720, 721, 722, 723, 724, 725, 726, 727, 728, 729, 730, 731] (by decide +kernel) (by decide +kernel)
set_option maxRecDepth 20000 in
theorem gL_law_X4_fall : GoodIn wsL_law (wsV RL 157 RX4 yX4_fall wsX4_fall) := goodIn_app (goodIn_of _ (by decide +kernel)) ggL_law_X4_fall
set_option maxRecDepth 20000 in
theorem ggL_law_L_comeUp : GoodIn wsL_law wsL_comeUp := goodIn_ca (goodIn_ca (goodIn_r _ [320, 107, 270, 321, 322, 323, 2, 324, 275, 276, 24, 313, 325, 25, 114, 115, 116, 117, 118, 119, 120, 121, 326, 40, 41, 42, 698, 699, 700, 701, 748, 749, 750, 751, 752, 753, 754, 755, 756, 757, 758, 759] (by decide +kernel) (by decide +kernel)) (goodIn_sub (fun _ h => List.mem_append_right _ h) (by decide +kernel))) (goodIn_sub (fun _ h => List.mem_append_left _ (List.mem_append_right _ h)) (by decide +kernel))
set_option maxRecDepth 20000 in
theorem gL_law_L_comeUp : GoodIn wsL_law (va_wsS RL 158 yL_comeUp wsL_comeUp) := goodIn_app (goodIn_of _ (by decide +kernel)) ggL_law_L_comeUp
set_option maxRecDepth 20000 in
theorem ggL_law_X4_comeUp : GoodIn wsL_law wsX4_comeUp := goodIn_r _ [330, 92, 99, 331, 126, 127, 5, 128, 129, 130, 131, 132, 133, 134, 135, 136, 332, 333, 334, 702, 703, 704, 705, 706, 707, 708, 709, 710, 711, 712, 713, 714, 715, 716, 717, 718, 719, 720, 721, 722, 723, 724, 725, 726, 727, 728, 729, 730, 731] (by decide +kernel) (by decide +kernel)
set_option maxRecDepth 20000 in
theorem gL_law_X4_comeUp : GoodIn wsL_law (wsV RL 160 RX4 yX4_comeUp wsX4_comeUp) := goodIn_app (goodIn_of _ (by decide +kernel)) ggL_law_X4_comeUp
set_option maxRecDepth 20000 in
theorem ggL_law_L_setGroup : GoodIn wsL_law wsL_setGroup := goodIn_ca (goodIn_r _ [337, 107, 338, 339, 340, 2, 341, 24, 342, 114, 115, 116, 117, 118, 119, 120, 121, 698, 699, 700, 701, 748, 749, 750, 751, 752, 753, 754, 755, 756, 757, 758, 759] (by decide +kernel) (by decide +kernel)) (goodIn_sub (fun _ h => List.mem_append_left _ (List.mem_append_right _ h)) (by decide +kernel))
set_option maxRecDepth 20000 in
theorem gL_law_L_setGroup : GoodIn wsL_law (va_wsS RL 161 yL_setGroup wsL_setGroup) := goodIn_app (goodIn_of _ (by decide +kernel)) ggL_law_L_setGroup
set_option maxRecDepth 20000 in
theorem ggL_law_X4_setGroup : GoodIn wsL_law wsX4_setGroup := goodIn_r _ [346, 93, 126, 127, 5, 128, 129, 130, 131, 132, 133, 134, 135, 136, 702, 703, 704, 705, 706, 707, 708, 709, 710, 711, 712, 713, 714, 715, 716, 717, 718, 719, 720, 721, 722, 723, 724, 725, 726, 727, 728, 729, 730, 731] (by decide +kernel) (by decide +kernel)
set_option maxRecDepth 20000 in
theorem gL_law_X4_setGroup : GoodIn wsL_law (wsV RL 163 RX4 yX4_setGroup wsX4_setGroup) := goodIn_app (goodIn_of _ (by decide +kernel)) ggL_law_X4_setGroup
set_option maxRecDepth 20000 in
theorem ggL_law_L_setStuck : GoodIn wsL_law wsL_setStuck := goodIn_ca (goodIn_r _ [349, 107, 350, 351, 352, 2, 353, 24, 354, 114, 115, 116, 117, 118, 119, 120, 121, 698, 699, 700, 701, 748, 749, 750, 751, 752, 753, 754, 755, 756, 757, 758, 759] (by decide +kernel) (by decide +kernel)) (goodIn_sub (fun _ h => List.mem_append_left _ (List.mem_append_right _ h)) (by decide +kernel))
set_option maxRecDepth 20000 in
theorem gL_law_L_setStuck : GoodIn wsL_law (va_wsS RL 164 yL_setStuck wsL_setStuck) := goodIn_app (goodIn_of _ (by decide +kernel)) ggL_law_L_setStuck
set_option maxRecDepth 20000 in
theorem ggL_law_X4_setStuck : GoodIn wsL_law wsX4_setStuck := goodIn_r _ [358, 94, 190, 191, 192, 5, 193, 126, 127, 128, 129, 130, 131, 132, 133, 134, 135, 136, 702, 703, 704, 705, 706, 707, 708, 709, 710, 711, 712, 713, 714, 715, 716, 717, 718, 719, 720, 721, 722, 723, 724, 725, 726, 727, 728, 729, 730, 731] (by decide +kernel) (by decide +kernel)
set_option maxRecDepth 20000 in
theorem gL_law_X4_setStuck : GoodIn wsL_law (wsV RL 167 RX4 yX4_setStuck wsX4_setStuck) := goodIn_app (goodIn_of _ (by decide +kernel)) ggL_law_X4_setStuck
set_option maxRecDepth 20000 in
theorem ggL_law_L_setTimes : GoodIn wsL_law wsL_setTimes := goodIn_ca (goodIn_r _ [361, 107, 362, 363, 364, 2, 365, 24, 366, 367, 117, 118, 119, 120, 121, 698, 699, 700, 701, 748, 749, 750, 751, 752, 753, 754, 755, 756, 757, 758, 759] (by decide +kernel) (by decide +kernel)) (goodIn_sub (fun _ h => List.mem_append_left _ (List.mem_append_right _ h)) (by decide +kernel))
set_option maxRecDepth 20000 in
theorem gL_law_L_setTimes : GoodIn wsL_law (va_wsS RL 168 yL_setTimes wsL_setTimes) := goodIn_app (goodIn_of _ (by decide +kernel)) ggL_law_L_setTimes
set_option maxRecDepth 20000 in
theorem ggL_law_X4_setTimes : GoodIn wsL_law wsX4_setTimes := goodIn_r _ [371, 101, 102, 129, 130, 5, 131, 132, 133, 134, 135, 136, 702, 703, 704, 705, 706, 707, 708, 709, 710, 711, 712, 713, 714, 715, 716, 717, 718, 719, 720, 721, 722, 723, 724, 725, 726, 727, 728, 729, 730, 731] (by decide +kernel) (by decide +kernel)
set_option maxRecDepth 20000 in
theorem gL_law_X4_setTimes : GoodIn wsL_law (wsV RL 171 RX4 yX4_setTimes wsX4_setTimes) := goodIn_app (goodIn_of _ (by decide +kernel)) ggL_law_X4_setTimes
set_option maxRecDepth 20000 in
theorem ggL_law_L_believed : GoodIn wsL_law wsL_believed := goodIn_ca (goodIn_r _ [374, 107, 375, 376, 377, 2, 378, 24, 379, 114, 115, 116, 117, 118, 119, 120, 121, 380, 381, 382, 23, 383, 64, 698, 699, 700, 701, 748, 749, 750, 751, 752, 753, 754, 755, 756, 757, 758, 759] (by decide +kernel) (by decide +kernel)) (goodIn_sub (fun _ h => List.mem_append_left _ (List.mem_append_right _ h)) (by decide +kernel))
set_option maxRecDepth 20000 in
theorem gL_law_L_believed : GoodIn wsL_law (va_wsS RL 172 yL_believed wsL_believed) := goodIn_app (goodIn_of _ (by decide +kernel)) ggL_law_L_believed
set_option maxRecDepth 20000 in
theorem ggL_law_X4_believed : GoodIn wsL_law wsX4_believed := goodIn_r _ [387, 96, 388, 389, 390, 5, 391, 126, 127, 128, 129, 130, 131, 132, 133, 134, 135, 136, 392, 393, 394, 395, 95, 332, 333, 334, 702, 703, 704, 705, 706, 707, 708, 709, 710, 711, 712, 713, 714, 715, 716, 717, 718, 719, 720, 721, 722, 723, 724, 725, 726, 727, 728, 729, 730, 731] (by decide +kernel) (by decide +kernel)
set_option maxRecDepth 20000 in
theorem gL_law_X4_believed : GoodIn wsL_law (wsV RL 174 RX4 yX4_believed wsX4_believed) := goodIn_app (goodIn_of _ (by decide +kernel)) ggL_law_X4_believed
set_option maxRecDepth 20000 in
theorem ggL_law_L_version : GoodIn wsL_law wsL_version := goodIn_ca (goodIn_r _ [398, 107, 399, 400, 401, 2, 402, 24, 403, 114, 115, 116, 117, 118, 119, 120, 121, 698, 699, 700, 701, 748, 749, 750, 751, 752, 753, 754, 755, 756, 757, 758, 759] (by decide +kernel) (by decide +kernel)) (goodIn_sub (fun _ h => List.mem_append_left _ (List.mem_append_right _ h)) (by decide +kernel))
set_option maxRecDepth 20000 in
theorem gL_law_L_version : GoodIn wsL_law (va_wsS RL 175 yL_version wsL_version) := goodIn_app (goodIn_of _ (by decide +kernel)) ggL_law_L_version
set_option maxRecDepth 20000 in
theorem ggL_law_X4_version : GoodIn wsL_law wsX4_version := goodIn_r _ [407, 95, 388, 389, 390, 5, 391, 126, 127, 128, 129, 130, 131, 132, 133, 134, 135, 136, 332, 333, 334, 702, 703, 704, 705, 706, 707, 708, 709, 710, 711, 712, 713, 714, 715, 716, 717, 718, 719, 720, 721, 722, 723, 724, 725, 726, 727, 728, 729, 730, 731] (by decide +kernel) (by decide +kernel)
set_option maxRecDepth 20000 in
theorem gL_law_X4_version : GoodIn wsL_law (wsV RL 177 RX4 yX4_version wsX4_version) := goodIn_app (goodIn_of _ (by decide +kernel)) ggL_law_X4_version
set_option maxRecDepth 20000 in
theorem ggL_law_L_age : GoodIn wsL_law wsL_age := goodIn_ca (goodIn_r _ [410, 107, 411, 412, 413, 2, 414, 24, 25, 415, 114, 115, 116, 117, 118, 119, 120, 121, 380, 381, 382, 23, 383, 64, 698, 699, 700, 701, 748, 749, 750, 751, 752, 753, 754, 755, 756, 757, 758, 759] (by decide +kernel) (by decide +kernel)) (goodIn_sub (fun _ h => List.mem_append_left _ (List.mem_append_right _ h)) (by decide +kernel))
set_option maxRecDepth 20000 in
theorem gL_law_L_age : GoodIn wsL_law (va_wsS RL 178 yL_age wsL_age) := goodIn_app (goodIn_of _ (by decide +kernel)) ggL_law_L_age
set_option maxRecDepth 20000 in
theorem ggL_law_X4_age : GoodIn wsL_law wsX4_age := goodIn_r _ [419, 388, 389, 390, 5, 391, 126, 127, 128, 129, 130, 131, 132, 133, 134, 135, 136, 420, 421, 422, 423, 331, 97, 392, 393, 394, 395, 95, 332, 333, 334, 702, 703, 704, 705, 706, 707, 708, 709, 710, 711, 712, 713, 714, 715, 716, 717, 718, 719, 720, 721, 722, 723, 724, 725, 726, 727, 728, 729, 730, 731] (by decide +kernel) (by decide +kernel)
set_option maxRecDepth 20000 in
theorem gL_law_X4_age : GoodIn wsL_law (wsV RL 180 RX4 yX4_age wsX4_age) := goodIn_app (goodIn_of _ (by decide +kernel)) ggL_law_X4_age
set_option maxRecDepth 20000 in
theorem ggL_law_L_beat : GoodIn wsL_law wsL_beat := goodIn_ca (goodIn_r _ [426, 107, 427, 428, 429, 2, 430, 24, 431, 114, 115, 116, 117, 118, 119, 120, 121, 698, 699, 700, 701, 748, 749, 750, 751, 752, 753, 754, 755, 756, 757, 758, 759] (by decide +kernel) (by decide +kernel)) (goodIn_sub (fun _ h => List.mem_append_left _ (List.mem_append_right _ h)) (by decide +kernel))
set_option maxRecDepth 20000 in
theorem gL_law_L_beat : GoodIn wsL_law (va_wsS RL 181 yL_beat wsL_beat) := goodIn_app (goodIn_of _ (by decide +kernel)) ggL_law_L_beat
set_option maxRecDepth 20000 in
theorem ggL_law_X4_beat : GoodIn wsL_law wsX4_beat := goodIn_r _ [435, 98, 388, 389, 390, 5, 391, 126, 127, 128, 129, 130, 131, 132, 133, 134, 135, 136, 332, 333, 334, 702, 703, 704, 705, 706, 707, 708, 709, 710, 711, 712, 713, 714, 715, 716, 717, 718, 719, 720, 721, 722, 723, 724, 725, 726, 727, 728, 729, 730, 731] (by decide +kernel) (by decide +kernel)
set_option maxRecDepth 20000 in
theorem gL_law_X4_beat : GoodIn wsL_law (wsV RL 183 RX4 yX4_beat wsX4_beat) := goodIn_app (goodIn_of _ (by decide +kernel)) ggL_law_X4_beat
set_option maxRecDepth 20000 in
theorem ggL_law_L_status : GoodIn wsL_law wsL_status := goodIn_ca (goodIn_r _ [438, 107, 439, 440, 441, 2, 442, 24, 443, 114, 115, 116, 117, 118, 119, 120, 121, 698, 699, 700, 701, 748, 749, 750, 751, 752, 753, 754, 755, 756, 757, 758, 759] (by decide +kernel) (by decide +kernel)) (goodIn_sub (fun _ h => List.mem_append_left _ (List.mem_append_right _ h)) (by decide +kernel))
set_option maxRecDepth 20000 in
theorem gL_law_L_status : GoodIn wsL_law (va_wsS RL 184 yL_status wsL_status) := goodIn_app (goodIn_of _ (by decide +kernel)) ggL_law_L_status
set_option maxRecDepth 20000 in
theorem ggL_law_X4_status : GoodIn wsL_law wsX4_status := goodIn_r _ [447, 100, 388, 389, 390, 5, 391, 126, 127, 128, 129, 130, 131, 132, 133, 134, 135, 136, 332, 333, 334, 702, 703, 704, 705, 706, 707, 708, 709, 710, 711, 712, 713, 714, 715, 716, 717, 718, 719, 720, 721, 722, 723, 724, 725, 726, 727, 728, 729, 730, 731] (by decide +kernel) (by decide +kernel)
set_option maxRecDepth 20000 in
theorem gL_law_X4_status : GoodIn wsL_law (wsV RL 186 RX4 yX4_status wsX4_status) := goodIn_app (goodIn_of _ (by decide +kernel)) ggL_law_X4_status
set_option maxRecDepth 20000 in
theorem ggL_law_L_partner : GoodIn wsL_law wsL_partner := goodIn_ca (goodIn_r _ [450, 107, 451, 452, 453, 2, 454, 24, 313, 25, 114, 115, 116, 117, 118, 119, 120, 121, 455, 456, 457, 23, 458, 459, 460, 461, 462, 69, 698, 699, 700, 701, 748, 749, 750, 751, 752, 753, 754, 755, 756, 757, 758, 759] (by decide +kernel) (by decide +kernel)) (goodIn_sub (fun _ h => List.mem_append_left _ (List.mem_append_right _ h)) (by decide +kernel))
set_option maxRecDepth 20000 in
theorem gL_law_L_partner : GoodIn wsL_law (va_wsS RL 187 yL_partner wsL_partner) := goodIn_app (goodIn_of _ (by decide +kernel)) ggL_law_L_partner
set_option maxRecDepth 20000 in
theorem ggL_law_X4_partner : GoodIn wsL_law wsX4_partner := goodIn_r _ [466, 92, 331, 190, 191, 192, 5, 193, 126, 127, 128, 129, 130, 131, 132, 133, 134, 135, 136, 467, 468, 469, 470, 471, 472, 473, 474, 100, 332, 333, 334, 702, 703, 704, 705, 706, 707, 708, 709, 710, 711, 712, 713, 714, 715, 716, 717, 718, 719, 720, 721, 722, 723, 724, 725, 726, 727, 728, 729, 730, 731] (by decide +kernel) (by decide +kernel)
set_option maxRecDepth 20000 in
theorem gL_law_X4_partner : GoodIn wsL_law (wsV RL 189 RX4 yX4_partner wsX4_partner) := goodIn_app (goodIn_of _ (by decide +kernel)) ggL_law_X4_partner
set_option maxRecDepth 20000 in
theorem ggL_law_L_freshest : GoodIn wsL_law wsL_freshest := goodIn_ca (goodIn_r _ [477, 107, 478, 479, 480, 2, 481, 24, 114, 115, 116, 117, 118, 119, 120, 121, 482, 483, 484, 23, 485, 64, 698, 699, 700, 701, 748, 749, 750, 751, 752, 753, 754, 755, 756, 757, 758, 759] (by decide +kernel) (by decide +kernel)) (goodIn_sub (fun _ h => List.mem_append_left _ (List.mem_append_right _ h)) (by decide +kernel))
set_option maxRecDepth 20000 in
theorem gL_law_L_freshest : GoodIn wsL_law (va_wsS RL 190 yL_freshest wsL_freshest) := goodIn_app (goodIn_of _ (by decide +kernel)) ggL_law_L_freshest
set_option maxRecDepth 20000 in
theorem ggL_law_X4_freshest : GoodIn wsL_law wsX4_freshest := goodIn_r _ [489, 95, 190, 191, 192, 5, 193, 126, 127, 128, 129, 130, 131, 132, 133, 134, 135, 136, 332, 333, 334, 392, 393, 394, 395, 702, 703, 704, 705, 706, 707, 708, 709, 710, 711, 712, 713, 714, 715, 716, 717, 718, 719, 720, 721, 722, 723, 724, 725, 726, 727, 728, 729, 730, 731] (by decide +kernel) (by decide +kernel)
set_option maxRecDepth 20000 in
theorem gL_law_X4_freshest : GoodIn wsL_law (wsV RL 192 RX4 yX4_freshest wsX4_freshest) := goodIn_app (goodIn_of _ (by decide +kernel)) ggL_law_X4_freshest
set_option maxRecDepth 20000 in
theorem ggL_law_L_agree : GoodIn wsL_law wsL_agree := goodIn_ca (goodIn_r _ [492, 107, 493, 494, 495, 2, 496, 24, 16, 114, 115, 116, 117, 118, 119, 120, 121, 216, 217, 218, 15, 219, 31, 33, 497, 498, 499, 23, 500, 60, 65, 501, 381, 382, 383, 64, 698, 699, 700, 701, 732, 733, 734, 735, 736, 737, 738, 739, 748, 749, 750, 751, 752, 753, 754, 755, 756, 757, 758, 759] (by decide +kernel) (by decide +kernel)) (goodIn_sub (fun _ h => List.mem_append_left _ (List.mem_append_right _ h)) (by decide +kernel))
set_option maxRecDepth 20000 in
theorem gL_law_L_agree : GoodIn wsL_law (va_wsS RL 193 yL_agree wsL_agree) := goodIn_app (goodIn_of _ (by decide +kernel)) ggL_law_L_agree
set_option maxRecDepth 20000 in
theorem ggL_law_X4_agree : GoodIn wsL_law wsX4_agree := goodIn_r _ [505, 92, 96, 190, 191, 192, 5, 193, 126, 127, 128, 129, 130, 131, 132, 133, 134, 135, 136, 392, 393, 394, 395, 95, 332, 333, 334, 224, 225, 226, 227, 79, 77, 702, 703, 704, 705, 706, 707, 708, 709, 710, 711, 712, 713, 714, 715, 716, 717, 718, 719, 720, 721, 722, 723, 724, 725, 726, 727, 728, 729, 730, 731] (by decide +kernel) (by decide +kernel)
set_option maxRecDepth 20000 in
theorem gL_law_X4_agree : GoodIn wsL_law (wsV RL 195 RX4 yX4_agree wsX4_agree) := goodIn_app (goodIn_of _ (by decide +kernel)) ggL_law_X4_agree
set_option maxRecDepth 20000 in
theorem ggL_law_X3_unnoticed : GoodIn wsL_law wsX3_unnoticed := goodIn_r _ [509, 24, 510, 511, 512, 23, 513, 60, 514, 515, 516, 517, 69, 698, 699, 700, 701, 748, 749, 750, 751, 752, 753, 754, 755, 756, 757, 758, 759] (by decide +kernel) (by decide +kernel)
set_option maxRecDepth 20000 in
theorem gL_law_X3_unnoticed : GoodIn wsL_law (wsV RL 196 RX3 yX3_unnoticed wsX3_unnoticed) := goodIn_app (goodIn_of _ (by decide +kernel)) ggL_law_X3_unnoticed
set_option maxRecDepth 20000 in
theorem ggL_law_X4_unnoticed : GoodIn wsL_law wsX4_unnoticed := goodIn_r _ [521, 136, 92, 100, 332, 333, 5, 334, 702, 703, 704, 705, 706, 707, 708, 709, 710, 711, 712, 713, 714, 715, 716, 717, 718, 719, 720, 721, 722, 723, 724, 725, 726, 727, 728, 729, 730, 731] (by decide +kernel) (by decide +kernel)
set_option maxRecDepth 20000 in
theorem gL_law_X4_unnoticed : GoodIn wsL_law (wsV RL 199 RX4 yX4_unnoticed wsX4_unnoticed) := goodIn_app (goodIn_of _ (by decide +kernel)) ggL_law_X4_unnoticed
set_option maxRecDepth 20000 in
theorem ggL_law_X3_mistaken : GoodIn wsL_law wsX3_mistaken := goodIn_r _ [525, 24, 526, 527, 528, 23, 529, 60, 514, 515, 516, 517, 69, 698, 699, 700, 701, 748, 749, 750, 751, 752, 753, 754, 755, 756, 757, 758, 759] (by decide +kernel) (by decide +kernel)
set_option maxRecDepth 20000 in
theorem gL_law_X3_mistaken : GoodIn wsL_law (wsV RL 200 RX3 yX3_mistaken wsX3_mistaken) := goodIn_app (goodIn_of _ (by decide +kernel)) ggL_law_X3_mistaken
set_option maxRecDepth 20000 in
theorem ggL_law_X4_mistaken : GoodIn wsL_law wsX4_mistaken := goodIn_r _ [533, 136, 92, 100, 702, 703, 704, 705, 706, 707, 708, 709, 710, 711, 712, 713, 714, 715, 716, 717, 718, 719, 720, 721, 722, 723, 724, 725, 726, 727, 728, 729, 730, 731] (by decide +kernel) (by decide +kernel)
set_option maxRecDepth 20000 in
theorem gL_law_X4_mistaken : GoodIn wsL_law (wsV RL 203 RX4 yX4_mistaken wsX4_mistaken) := goodIn_app (goodIn_of _ (by decide +kernel)) ggL_law_X4_mistaken
set_option maxRecDepth 20000 in
theorem ggL_law_X3_vain : GoodIn wsL_law wsX3_vain := goodIn_r _ [537, 24, 538, 698, 699, 700, 701, 748, 749, 750, 751, 752, 753, 754, 755, 756, 757, 758, 759] (by decide +kernel) (by decide +kernel)
set_option maxRecDepth 20000 in
theorem gL_law_X3_vain : GoodIn wsL_law (wsV RL 204 RX3 yX3_vain wsX3_vain) := goodIn_app (goodIn_of _ (by decide +kernel)) ggL_law_X3_vain
set_option maxRecDepth 20000 in
theorem ggL_law_X4_vain : GoodIn wsL_law wsX4_vain := goodIn_r _ [542, 136, 543, 702, 703, 704, 705, 706, 707, 708, 709, 710, 711, 712, 713, 714, 715, 716, 717, 718, 719, 720, 721, 722, 723, 724, 725, 726, 727, 728, 729, 730, 731] (by decide +kernel) (by decide +kernel)
set_option maxRecDepth 20000 in
theorem gL_law_X4_vain : GoodIn wsL_law (wsV RL 207 RX4 yX4_vain wsX4_vain) := goodIn_app (goodIn_of _ (by decide +kernel)) ggL_law_X4_vain
set_option maxRecDepth 20000 in
theorem ggL_law_L_tick : GoodIn wsL_law wsL_tick := goodIn_ca (goodIn_ca (goodIn_r _ [546, 107, 270, 547, 548, 549, 2, 550, 275, 276, 25, 117, 118, 119, 120, 121, 551, 552, 553, 554, 16, 20, 24, 555, 556, 557, 15, 558, 38, 34, 559, 560, 561, 562, 33, 35, 563, 564, 565, 566, 567, 568, 569, 570, 36, 571, 572, 573, 19, 574, 48, 47, 575, 576, 577, 578, 579, 580, 581, 582, 31, 32, 583, 584, 585, 37, 586, 587, 588, 23, 589, 60, 590, 217, 218, 219, 591, 592, 593, 594, 61, 65, 66, 64, 67, 68, 595, 596, 597, 598, 599, 600, 601, 602, 62, 72, 603, 456, 457, 458, 459, 460, 461, 462, 69, 604, 605, 606, 607, 608, 609, 610, 611, 612, 613, 614, 615, 616, 617, 618, 619, 620, 621, 622, 623, 624, 625, 626, 627, 71, 70, 628, 629, 630, 631, 313, 277, 632, 633, 634, 635, 262, 379, 261, 636, 637, 638, 639, 501, 381, 382, 383, 640, 641, 642, 643, 644, 53, 645, 646, 647, 648, 50, 49, 649, 698, 699, 700, 701, 732, 733, 734, 735, 736, 737, 738, 739, 740, 741, 742, 743, 744, 745, 746, 747, 748, 749, 750, 751, 752, 753, 754, 755, 756, 757, 758, 759] (by decide +kernel) (by decide +kernel)) (goodIn_sub (fun _ h => List.mem_append_right _ h) (by decide +kernel))) (goodIn_sub (fun _ h => List.mem_append_left _ (List.mem_append_right _ h)) (by decide +kernel))
set_option maxRecDepth 20000 in
theorem gL_law_L_tick : GoodIn wsL_law (va_wsS RL 208 yL_tick wsL_tick) := goodIn_app (goodIn_of _ (by decide +kernel)) ggL_law_L_tick
set_option maxRecDepth 20000 in
theorem ggL_law_X4_tick : GoodIn wsL_law wsX4_tick := goodIn_r _ [653, 331, 129, 130, 5, 131, 132, 133, 134, 135, 136, 654, 655, 656, 657, 92, 90, 658, 659, 660, 661, 79, 165, 82, 662, 663, 664, 665, 80, 81, 83, 84, 666, 667, 668, 669, 77, 78, 85, 670, 671, 672, 673, 96, 94, 95, 97, 98, 99, 332, 333, 334, 224, 225, 226, 227, 674, 675, 676, 677, 93, 543, 467, 468, 469, 470, 471, 472, 473, 474, 100, 678, 679, 680, 681, 682, 683, 684, 685, 102, 101, 686, 687, 688, 689, 89, 91, 87, 88, 86, 392, 393, 394, 395, 420, 421, 422, 423, 702, 703, 704, 705, 706, 707, 708, 709, 710, 711, 712, 713, 714, 715, 716, 717, 718, 719, 720, 721, 722, 723, 724, 725, 726, 727, 728, 729, 730, 731] (by decide +kernel) (by decide +kernel)
set_option maxRecDepth 20000 in
theorem gL_law_X4_tick : GoodIn wsL_law (wsV RL 210 RX4 yX4_tick wsX4_tick) := goodIn_app (goodIn_of _ (by decide +kernel)) ggL_law_X4_tick
set_option maxRecDepth 20000 in
theorem ggL_law_X3_time : GoodIn wsL_law wsX3_time := goodIn_r _ [693, 25, 698, 699, 700, 701] (by decide +kernel) (by decide +kernel)
set_option maxRecDepth 20000 in
theorem gL_law_X3_time : GoodIn wsL_law (wsV RL 211 RX3 yX3_time wsX3_time) := goodIn_app (goodIn_of _ (by decide +kernel)) ggL_law_X3_time
set_option maxRecDepth 20000 in
theorem ggL_law_X4_time : GoodIn wsL_law wsX4_time := goodIn_r _ [697, 136, 331, 702, 703, 704, 705, 706, 707, 708, 709, 710, 711, 712, 713, 714, 715, 716, 717, 718, 719, 720, 721, 722, 723, 724, 725, 726, 727, 728, 729, 730, 731] (by decide +kernel) (by decide +kernel)
set_option maxRecDepth 20000 in
theorem gL_law_X4_time : GoodIn wsL_law (wsV RL 214 RX4 yX4_time wsX4_time) := goodIn_app (goodIn_of _ (by decide +kernel)) ggL_law_X4_time
theorem dL_law_0 : decode cL_law 0 = .ok (.new 8, 3) := by decide +kernel
theorem dL_law_3 : decode cL_law 3 = .ok (.dup, 1) := by decide +kernel
theorem dL_law_4 : decode cL_law 4 = .ok (.invokespecial 101, 3) := by decide +kernel
theorem dL_law_7 : decode cL_law 7 = .ok (.astore_n 1, 1) := by decide +kernel
theorem dL_law_8 : decode cL_law 8 = .ok (.new 102, 3) := by decide +kernel
theorem dL_law_11 : decode cL_law 11 = .ok (.dup, 1) := by decide +kernel
theorem dL_law_12 : decode cL_law 12 = .ok (.invokespecial 104, 3) := by decide +kernel
theorem dL_law_15 : decode cL_law 15 = .ok (.astore_n 2, 1) := by decide +kernel
theorem dL_law_16 : decode cL_law 16 = .ok (.iconst 1, 1) := by decide +kernel
theorem dL_law_17 : decode cL_law 17 = .ok (.newarray .long, 2) := by decide +kernel
theorem dL_law_19 : decode cL_law 19 = .ok (.astore_n 3, 1) := by decide +kernel
theorem dL_law_20 : decode cL_law 20 = .ok (.iconst 0, 1) := by decide +kernel
theorem dL_law_21 : decode cL_law 21 = .ok (.istore 4, 2) := by decide +kernel
theorem dL_law_23 : decode cL_law 23 = .ok (.iload 4, 2) := by decide +kernel
theorem dL_law_25 : decode cL_law 25 = .ok (.aload_n 0, 1) := by decide +kernel
theorem dL_law_26 : decode cL_law 26 = .ok (.arraylength, 1) := by decide +kernel
theorem dL_law_27 : decode cL_law 27 = .ok (.bipush 6, 2) := by decide +kernel
theorem dL_law_29 : decode cL_law 29 = .ok (.isub, 1) := by decide +kernel
theorem dL_law_30 : decode cL_law 30 = .ok (.if_icmp .gt 1847, 3) := by decide +kernel
theorem dL_law_33 : decode cL_law 33 = .ok (.aload_n 0, 1) := by decide +kernel
theorem dL_law_34 : decode cL_law 34 = .ok (.iload 4, 2) := by decide +kernel
theorem dL_law_36 : decode cL_law 36 = .ok (.iaload, 1) := by decide +kernel
theorem dL_law_37 : decode cL_law 37 = .ok (.bipush 31, 2) := by decide +kernel
theorem dL_law_39 : decode cL_law 39 = .ok (.iand, 1) := by decide +kernel
theorem dL_law_40 : decode cL_law 40 = .ok (.tableswitch 1831 0 30 #[140, 200, 268, 324, 392, 448, 504, 560, 616, 672, 756, 824, 880, 936, 972, 1008, 1076, 1167, 1215, 1283, 1351, 1419, 1487, 1555, 1611, 1667, 1723, 1736, 1749, 1762, 1818], 140) := by decide +kernel
theorem dL_law_180 : decode cL_law 180 = .ok (.aload_n 1, 1) := by decide +kernel
theorem dL_law_181 : decode cL_law 181 = .ok (.aload_n 0, 1) := by decide +kernel
theorem dL_law_182 : decode cL_law 182 = .ok (.iload 4, 2) := by decide +kernel
theorem dL_law_184 : decode cL_law 184 = .ok (.iconst 1, 1) := by decide +kernel
theorem dL_law_185 : decode cL_law 185 = .ok (.iadd, 1) := by decide +kernel
theorem dL_law_186 : decode cL_law 186 = .ok (.iaload, 1) := by decide +kernel
theorem dL_law_187 : decode cL_law 187 = .ok (.aload_n 0, 1) := by decide +kernel
theorem dL_law_188 : decode cL_law 188 = .ok (.iload 4, 2) := by decide +kernel
theorem dL_law_190 : decode cL_law 190 = .ok (.iconst 2, 1) := by decide +kernel
theorem dL_law_191 : decode cL_law 191 = .ok (.iadd, 1) := by decide +kernel
theorem dL_law_192 : decode cL_law 192 = .ok (.iaload, 1) := by decide +kernel
theorem dL_law_193 : decode cL_law 193 = .ok (.aload_n 0, 1) := by decide +kernel
theorem dL_law_194 : decode cL_law 194 = .ok (.iload 4, 2) := by decide +kernel
theorem dL_law_196 : decode cL_law 196 = .ok (.iconst 3, 1) := by decide +kernel
theorem dL_law_197 : decode cL_law 197 = .ok (.iadd, 1) := by decide +kernel
theorem dL_law_198 : decode cL_law 198 = .ok (.iaload, 1) := by decide +kernel
theorem dL_law_199 : decode cL_law 199 = .ok (.invokestatic 105, 3) := by decide +kernel
theorem dL_law_202 : decode cL_law 202 = .ok (.istore 5, 2) := by decide +kernel
theorem dL_law_204 : decode cL_law 204 = .ok (.aload_n 2, 1) := by decide +kernel
theorem dL_law_205 : decode cL_law 205 = .ok (.aload_n 0, 1) := by decide +kernel
theorem dL_law_206 : decode cL_law 206 = .ok (.iload 4, 2) := by decide +kernel
theorem dL_law_208 : decode cL_law 208 = .ok (.iconst 1, 1) := by decide +kernel
theorem dL_law_209 : decode cL_law 209 = .ok (.iadd, 1) := by decide +kernel
theorem dL_law_210 : decode cL_law 210 = .ok (.iaload, 1) := by decide +kernel
theorem dL_law_211 : decode cL_law 211 = .ok (.aload_n 0, 1) := by decide +kernel
theorem dL_law_212 : decode cL_law 212 = .ok (.iload 4, 2) := by decide +kernel
theorem dL_law_214 : decode cL_law 214 = .ok (.iconst 2, 1) := by decide +kernel
theorem dL_law_215 : decode cL_law 215 = .ok (.iadd, 1) := by decide +kernel
theorem dL_law_216 : decode cL_law 216 = .ok (.iaload, 1) := by decide +kernel
theorem dL_law_217 : decode cL_law 217 = .ok (.aload_n 0, 1) := by decide +kernel
theorem dL_law_218 : decode cL_law 218 = .ok (.iload 4, 2) := by decide +kernel
theorem dL_law_220 : decode cL_law 220 = .ok (.iconst 3, 1) := by decide +kernel
theorem dL_law_221 : decode cL_law 221 = .ok (.iadd, 1) := by decide +kernel
theorem dL_law_222 : decode cL_law 222 = .ok (.iaload, 1) := by decide +kernel
theorem dL_law_223 : decode cL_law 223 = .ok (.invokevirtual 110, 3) := by decide +kernel
theorem dL_law_226 : decode cL_law 226 = .ok (.aload_n 2, 1) := by decide +kernel
theorem dL_law_227 : decode cL_law 227 = .ok (.invokevirtual 111, 3) := by decide +kernel
theorem dL_law_230 : decode cL_law 230 = .ok (.iload 5, 2) := by decide +kernel
theorem dL_law_232 : decode cL_law 232 = .ok (.if_icmp .eq 5, 3) := by decide +kernel
theorem dL_law_235 : decode cL_law 235 = .ok (.iconst 0, 1) := by decide +kernel
theorem dL_law_236 : decode cL_law 236 = .ok (.ireturn, 1) := by decide +kernel
theorem dL_law_237 : decode cL_law 237 = .ok (.goto 1634, 3) := by decide +kernel
theorem dL_law_240 : decode cL_law 240 = .ok (.aload_n 1, 1) := by decide +kernel
theorem dL_law_241 : decode cL_law 241 = .ok (.aload_n 0, 1) := by decide +kernel
theorem dL_law_242 : decode cL_law 242 = .ok (.iload 4, 2) := by decide +kernel
theorem dL_law_244 : decode cL_law 244 = .ok (.iconst 1, 1) := by decide +kernel
theorem dL_law_245 : decode cL_law 245 = .ok (.iadd, 1) := by decide +kernel
theorem dL_law_246 : decode cL_law 246 = .ok (.iaload, 1) := by decide +kernel
theorem dL_law_247 : decode cL_law 247 = .ok (.aload_n 0, 1) := by decide +kernel
theorem dL_law_248 : decode cL_law 248 = .ok (.iload 4, 2) := by decide +kernel
theorem dL_law_250 : decode cL_law 250 = .ok (.iconst 2, 1) := by decide +kernel
theorem dL_law_251 : decode cL_law 251 = .ok (.iadd, 1) := by decide +kernel
theorem dL_law_252 : decode cL_law 252 = .ok (.iaload, 1) := by decide +kernel
theorem dL_law_253 : decode cL_law 253 = .ok (.aload_n 3, 1) := by decide +kernel
theorem dL_law_254 : decode cL_law 254 = .ok (.invokestatic 115, 3) := by decide +kernel
theorem dL_law_257 : decode cL_law 257 = .ok (.istore 5, 2) := by decide +kernel
theorem dL_law_259 : decode cL_law 259 = .ok (.aload_n 2, 1) := by decide +kernel
theorem dL_law_260 : decode cL_law 260 = .ok (.aload_n 0, 1) := by decide +kernel
theorem dL_law_261 : decode cL_law 261 = .ok (.iload 4, 2) := by decide +kernel
theorem dL_law_263 : decode cL_law 263 = .ok (.iconst 1, 1) := by decide +kernel
theorem dL_law_264 : decode cL_law 264 = .ok (.iadd, 1) := by decide +kernel
theorem dL_law_265 : decode cL_law 265 = .ok (.iaload, 1) := by decide +kernel
theorem dL_law_266 : decode cL_law 266 = .ok (.aload_n 0, 1) := by decide +kernel
theorem dL_law_267 : decode cL_law 267 = .ok (.iload 4, 2) := by decide +kernel
theorem dL_law_269 : decode cL_law 269 = .ok (.iconst 2, 1) := by decide +kernel
theorem dL_law_270 : decode cL_law 270 = .ok (.iadd, 1) := by decide +kernel
theorem dL_law_271 : decode cL_law 271 = .ok (.iaload, 1) := by decide +kernel
theorem dL_law_272 : decode cL_law 272 = .ok (.invokevirtual 118, 3) := by decide +kernel
theorem dL_law_275 : decode cL_law 275 = .ok (.istore 6, 2) := by decide +kernel
theorem dL_law_277 : decode cL_law 277 = .ok (.aload_n 2, 1) := by decide +kernel
theorem dL_law_278 : decode cL_law 278 = .ok (.invokevirtual 111, 3) := by decide +kernel
theorem dL_law_281 : decode cL_law 281 = .ok (.iload 5, 2) := by decide +kernel
theorem dL_law_283 : decode cL_law 283 = .ok (.if_icmp .eq 5, 3) := by decide +kernel
theorem dL_law_286 : decode cL_law 286 = .ok (.iconst 0, 1) := by decide +kernel
theorem dL_law_287 : decode cL_law 287 = .ok (.ireturn, 1) := by decide +kernel
theorem dL_law_288 : decode cL_law 288 = .ok (.iload 5, 2) := by decide +kernel
theorem dL_law_290 : decode cL_law 290 = .ok (.ifCond .ne 15, 3) := by decide +kernel
theorem dL_law_293 : decode cL_law 293 = .ok (.aload_n 3, 1) := by decide +kernel
theorem dL_law_294 : decode cL_law 294 = .ok (.iconst 0, 1) := by decide +kernel
theorem dL_law_295 : decode cL_law 295 = .ok (.laload, 1) := by decide +kernel
theorem dL_law_296 : decode cL_law 296 = .ok (.iload 6, 2) := by decide +kernel
theorem dL_law_298 : decode cL_law 298 = .ok (.i2l, 1) := by decide +kernel
theorem dL_law_299 : decode cL_law 299 = .ok (.lcmp, 1) := by decide +kernel
theorem dL_law_300 : decode cL_law 300 = .ok (.ifCond .eq 5, 3) := by decide +kernel
theorem dL_law_303 : decode cL_law 303 = .ok (.iconst 0, 1) := by decide +kernel
theorem dL_law_304 : decode cL_law 304 = .ok (.ireturn, 1) := by decide +kernel
theorem dL_law_305 : decode cL_law 305 = .ok (.goto 1566, 3) := by decide +kernel
theorem dL_law_308 : decode cL_law 308 = .ok (.aload_n 1, 1) := by decide +kernel
theorem dL_law_309 : decode cL_law 309 = .ok (.aload_n 0, 1) := by decide +kernel
theorem dL_law_310 : decode cL_law 310 = .ok (.iload 4, 2) := by decide +kernel
theorem dL_law_312 : decode cL_law 312 = .ok (.iconst 1, 1) := by decide +kernel
theorem dL_law_313 : decode cL_law 313 = .ok (.iadd, 1) := by decide +kernel
theorem dL_law_314 : decode cL_law 314 = .ok (.iaload, 1) := by decide +kernel
theorem dL_law_315 : decode cL_law 315 = .ok (.aload_n 3, 1) := by decide +kernel
theorem dL_law_316 : decode cL_law 316 = .ok (.invokestatic 119, 3) := by decide +kernel
theorem dL_law_319 : decode cL_law 319 = .ok (.istore 5, 2) := by decide +kernel
theorem dL_law_321 : decode cL_law 321 = .ok (.aload_n 2, 1) := by decide +kernel
theorem dL_law_322 : decode cL_law 322 = .ok (.aload_n 0, 1) := by decide +kernel
theorem dL_law_323 : decode cL_law 323 = .ok (.iload 4, 2) := by decide +kernel
theorem dL_law_325 : decode cL_law 325 = .ok (.iconst 1, 1) := by decide +kernel
theorem dL_law_326 : decode cL_law 326 = .ok (.iadd, 1) := by decide +kernel
theorem dL_law_327 : decode cL_law 327 = .ok (.iaload, 1) := by decide +kernel
theorem dL_law_328 : decode cL_law 328 = .ok (.invokevirtual 122, 3) := by decide +kernel
theorem dL_law_331 : decode cL_law 331 = .ok (.istore 6, 2) := by decide +kernel
theorem dL_law_333 : decode cL_law 333 = .ok (.aload_n 2, 1) := by decide +kernel
theorem dL_law_334 : decode cL_law 334 = .ok (.invokevirtual 111, 3) := by decide +kernel
theorem dL_law_337 : decode cL_law 337 = .ok (.iload 5, 2) := by decide +kernel
theorem dL_law_339 : decode cL_law 339 = .ok (.if_icmp .eq 5, 3) := by decide +kernel
theorem dL_law_342 : decode cL_law 342 = .ok (.iconst 0, 1) := by decide +kernel
theorem dL_law_343 : decode cL_law 343 = .ok (.ireturn, 1) := by decide +kernel
theorem dL_law_344 : decode cL_law 344 = .ok (.iload 5, 2) := by decide +kernel
theorem dL_law_346 : decode cL_law 346 = .ok (.ifCond .ne 15, 3) := by decide +kernel
theorem dL_law_349 : decode cL_law 349 = .ok (.aload_n 3, 1) := by decide +kernel
theorem dL_law_350 : decode cL_law 350 = .ok (.iconst 0, 1) := by decide +kernel
theorem dL_law_351 : decode cL_law 351 = .ok (.laload, 1) := by decide +kernel
theorem dL_law_352 : decode cL_law 352 = .ok (.iload 6, 2) := by decide +kernel
theorem dL_law_354 : decode cL_law 354 = .ok (.i2l, 1) := by decide +kernel
theorem dL_law_355 : decode cL_law 355 = .ok (.lcmp, 1) := by decide +kernel
theorem dL_law_356 : decode cL_law 356 = .ok (.ifCond .eq 5, 3) := by decide +kernel
theorem dL_law_359 : decode cL_law 359 = .ok (.iconst 0, 1) := by decide +kernel
theorem dL_law_360 : decode cL_law 360 = .ok (.ireturn, 1) := by decide +kernel
theorem dL_law_361 : decode cL_law 361 = .ok (.goto 1510, 3) := by decide +kernel
theorem dL_law_364 : decode cL_law 364 = .ok (.aload_n 1, 1) := by decide +kernel
theorem dL_law_365 : decode cL_law 365 = .ok (.aload_n 0, 1) := by decide +kernel
theorem dL_law_366 : decode cL_law 366 = .ok (.iload 4, 2) := by decide +kernel
theorem dL_law_368 : decode cL_law 368 = .ok (.iconst 1, 1) := by decide +kernel
theorem dL_law_369 : decode cL_law 369 = .ok (.iadd, 1) := by decide +kernel
theorem dL_law_370 : decode cL_law 370 = .ok (.iaload, 1) := by decide +kernel
theorem dL_law_371 : decode cL_law 371 = .ok (.aload_n 0, 1) := by decide +kernel
theorem dL_law_372 : decode cL_law 372 = .ok (.iload 4, 2) := by decide +kernel
theorem dL_law_374 : decode cL_law 374 = .ok (.iconst 2, 1) := by decide +kernel
theorem dL_law_375 : decode cL_law 375 = .ok (.iadd, 1) := by decide +kernel
theorem dL_law_376 : decode cL_law 376 = .ok (.iaload, 1) := by decide +kernel
theorem dL_law_377 : decode cL_law 377 = .ok (.aload_n 3, 1) := by decide +kernel
theorem dL_law_378 : decode cL_law 378 = .ok (.invokestatic 123, 3) := by decide +kernel
theorem dL_law_381 : decode cL_law 381 = .ok (.istore 5, 2) := by decide +kernel
theorem dL_law_383 : decode cL_law 383 = .ok (.aload_n 2, 1) := by decide +kernel
theorem dL_law_384 : decode cL_law 384 = .ok (.aload_n 0, 1) := by decide +kernel
theorem dL_law_385 : decode cL_law 385 = .ok (.iload 4, 2) := by decide +kernel
theorem dL_law_387 : decode cL_law 387 = .ok (.iconst 1, 1) := by decide +kernel
theorem dL_law_388 : decode cL_law 388 = .ok (.iadd, 1) := by decide +kernel
theorem dL_law_389 : decode cL_law 389 = .ok (.iaload, 1) := by decide +kernel
theorem dL_law_390 : decode cL_law 390 = .ok (.aload_n 0, 1) := by decide +kernel
theorem dL_law_391 : decode cL_law 391 = .ok (.iload 4, 2) := by decide +kernel
theorem dL_law_393 : decode cL_law 393 = .ok (.iconst 2, 1) := by decide +kernel
theorem dL_law_394 : decode cL_law 394 = .ok (.iadd, 1) := by decide +kernel
theorem dL_law_395 : decode cL_law 395 = .ok (.iaload, 1) := by decide +kernel
theorem dL_law_396 : decode cL_law 396 = .ok (.invokevirtual 125, 3) := by decide +kernel
theorem dL_law_399 : decode cL_law 399 = .ok (.istore 6, 2) := by decide +kernel
theorem dL_law_401 : decode cL_law 401 = .ok (.aload_n 2, 1) := by decide +kernel
theorem dL_law_402 : decode cL_law 402 = .ok (.invokevirtual 111, 3) := by decide +kernel
theorem dL_law_405 : decode cL_law 405 = .ok (.iload 5, 2) := by decide +kernel
theorem dL_law_407 : decode cL_law 407 = .ok (.if_icmp .eq 5, 3) := by decide +kernel
theorem dL_law_410 : decode cL_law 410 = .ok (.iconst 0, 1) := by decide +kernel
theorem dL_law_411 : decode cL_law 411 = .ok (.ireturn, 1) := by decide +kernel
theorem dL_law_412 : decode cL_law 412 = .ok (.iload 5, 2) := by decide +kernel
theorem dL_law_414 : decode cL_law 414 = .ok (.ifCond .ne 15, 3) := by decide +kernel
theorem dL_law_417 : decode cL_law 417 = .ok (.aload_n 3, 1) := by decide +kernel
theorem dL_law_418 : decode cL_law 418 = .ok (.iconst 0, 1) := by decide +kernel
theorem dL_law_419 : decode cL_law 419 = .ok (.laload, 1) := by decide +kernel
theorem dL_law_420 : decode cL_law 420 = .ok (.iload 6, 2) := by decide +kernel
theorem dL_law_422 : decode cL_law 422 = .ok (.i2l, 1) := by decide +kernel
theorem dL_law_423 : decode cL_law 423 = .ok (.lcmp, 1) := by decide +kernel
theorem dL_law_424 : decode cL_law 424 = .ok (.ifCond .eq 5, 3) := by decide +kernel
theorem dL_law_427 : decode cL_law 427 = .ok (.iconst 0, 1) := by decide +kernel
theorem dL_law_428 : decode cL_law 428 = .ok (.ireturn, 1) := by decide +kernel
theorem dL_law_429 : decode cL_law 429 = .ok (.goto 1442, 3) := by decide +kernel
theorem dL_law_432 : decode cL_law 432 = .ok (.aload_n 1, 1) := by decide +kernel
