set_option maxRecDepth 20000 in
theorem ggX3_init_X2_init : GoodIn wsX3_init wsX2_init := goodIn_r _ [19, 20, 2, 3, 21, 22, 23, 24, 25, 26, 27, 28, 29, 30, 31, 32, 33, 64, 65, 66, 67, 68, 69, 70, 71] (by decide +kernel) (by decide +kernel)
set_option maxRecDepth 20000 in
theorem gX3_init_X2_init : GoodIn wsX3_init (wsX2_init) := ggX3_init_X2_init
set_option maxRecDepth 20000 in
theorem ggX3_init_X0_init : GoodIn wsX3_init wsX0_init := goodIn_r _ [36, 37, 2, 3, 21, 38, 39, 40, 41, 42, 43, 44, 45, 46, 47, 31, 32, 33, 76, 77, 78, 79, 80, 81, 82, 83] (by decide +kernel) (by decide +kernel)
set_option maxRecDepth 20000 in
theorem gX3_init_X0_init : GoodIn wsX3_init (wsX0_init) := ggX3_init_X0_init
set_option maxRecDepth 20000 in
theorem ggX3_init_X1_init : GoodIn wsX3_init wsX1_init := goodIn_r _ [49, 50, 2, 3, 45, 51, 52, 21, 53, 54, 55, 56, 57, 58, 59, 60, 61, 62, 63, 84, 85, 86, 87, 88, 89, 90, 91, 92, 93, 94, 95] (by decide +kernel) (by decide +kernel)
set_option maxRecDepth 20000 in
theorem gX3_init_X1_init_n25 : GoodIn wsX3_init (wsX1_init) := ggX3_init_X1_init
theorem dX3_init_0 : decode cX3_init 0 = .ok (.aload_n 0, 1) := by decide +kernel
theorem dX3_init_1 : decode cX3_init 1 = .ok (.invokespecial 1, 3) := by decide +kernel
theorem dX3_init_4 : decode cX3_init 4 = .ok (.aload_n 0, 1) := by decide +kernel
theorem dX3_init_5 : decode cX3_init 5 = .ok (.new 7, 3) := by decide +kernel
theorem dX3_init_8 : decode cX3_init 8 = .ok (.dup, 1) := by decide +kernel
theorem dX3_init_9 : decode cX3_init 9 = .ok (.invokespecial 9, 3) := by decide +kernel
theorem dX3_init_12 : decode cX3_init 12 = .ok (.putfield 10, 3) := by decide +kernel
theorem dX3_init_15 : decode cX3_init 15 = .ok (.aload_n 0, 1) := by decide +kernel
theorem dX3_init_16 : decode cX3_init 16 = .ok (.new 16, 3) := by decide +kernel
theorem dX3_init_19 : decode cX3_init 19 = .ok (.dup, 1) := by decide +kernel
theorem dX3_init_20 : decode cX3_init 20 = .ok (.invokespecial 18, 3) := by decide +kernel
theorem dX3_init_23 : decode cX3_init 23 = .ok (.putfield 19, 3) := by decide +kernel
theorem dX3_init_26 : decode cX3_init 26 = .ok (.aload_n 0, 1) := by decide +kernel
theorem dX3_init_27 : decode cX3_init 27 = .ok (.new 23, 3) := by decide +kernel
theorem dX3_init_30 : decode cX3_init 30 = .ok (.dup, 1) := by decide +kernel
theorem dX3_init_31 : decode cX3_init 31 = .ok (.invokespecial 25, 3) := by decide +kernel
theorem dX3_init_34 : decode cX3_init 34 = .ok (.putfield 26, 3) := by decide +kernel
theorem dX3_init_37 : decode cX3_init 37 = .ok (.aload_n 0, 1) := by decide +kernel
theorem dX3_init_38 : decode cX3_init 38 = .ok (.iconst 0, 1) := by decide +kernel
theorem dX3_init_39 : decode cX3_init 39 = .ok (.putfield 30, 3) := by decide +kernel
theorem dX3_init_42 : decode cX3_init 42 = .ok (.return_, 1) := by decide +kernel
set_option maxRecDepth 20000 in
theorem ggX3_shape_X3_requireNumber : GoodIn wsX3_shape wsX3_requireNumber := goodIn_ca (goodIn_r _ [7, 8, 9, 6, 10, 11, 12] (by decide +kernel) (by decide +kernel)) (goodIn_sub (fun _ h => List.mem_cons_of_mem _ (List.mem_append_right _ h)) (by decide +kernel))
set_option maxRecDepth 20000 in
theorem gX3_shape_X3_requireNumber : GoodIn wsX3_shape (va_wsS RX3 34 yX3_requireNumber wsX3_requireNumber) := goodIn_app (goodIn_of _ (by decide +kernel)) ggX3_shape_X3_requireNumber
set_option maxRecDepth 20000 in
theorem ggX3_shape_X3_requireWithin : GoodIn wsX3_shape wsX3_requireWithin := goodIn_ca (goodIn_r _ [10, 11, 12] (by decide +kernel) (by decide +kernel)) (goodIn_sub (fun _ h => List.mem_cons_of_mem _ (List.mem_append_right _ h)) (by decide +kernel))
set_option maxRecDepth 20000 in
theorem gX3_shape_X3_requireWithin : GoodIn wsX3_shape (va_wsS RX3 38 yX3_requireWithin wsX3_requireWithin) := goodIn_app (goodIn_of _ (by decide +kernel)) ggX3_shape_X3_requireWithin
theorem dX3_shape_0 : decode cX3_shape 0 = .ok (.iload_n 1, 1) := by decide +kernel
theorem dX3_shape_1 : decode cX3_shape 1 = .ok (.invokestatic 34, 3) := by decide +kernel
theorem dX3_shape_4 : decode cX3_shape 4 = .ok (.iload_n 2, 1) := by decide +kernel
theorem dX3_shape_5 : decode cX3_shape 5 = .ok (.iconst 1, 1) := by decide +kernel
theorem dX3_shape_6 : decode cX3_shape 6 = .ok (.bipush 100, 2) := by decide +kernel
theorem dX3_shape_8 : decode cX3_shape 8 = .ok (.invokestatic 38, 3) := by decide +kernel
theorem dX3_shape_11 : decode cX3_shape 11 = .ok (.iload_n 3, 1) := by decide +kernel
theorem dX3_shape_12 : decode cX3_shape 12 = .ok (.iconst 1, 1) := by decide +kernel
theorem dX3_shape_13 : decode cX3_shape 13 = .ok (.sipush 1000, 3) := by decide +kernel
theorem dX3_shape_16 : decode cX3_shape 16 = .ok (.invokestatic 38, 3) := by decide +kernel
theorem dX3_shape_19 : decode cX3_shape 19 = .ok (.aload_n 0, 1) := by decide +kernel
theorem dX3_shape_20 : decode cX3_shape 20 = .ok (.getfield 10, 3) := by decide +kernel
theorem dX3_shape_23 : decode cX3_shape 23 = .ok (.getfield 42, 3) := by decide +kernel
theorem dX3_shape_26 : decode cX3_shape 26 = .ok (.iload_n 1, 1) := by decide +kernel
theorem dX3_shape_27 : decode cX3_shape 27 = .ok (.iload_n 2, 1) := by decide +kernel
theorem dX3_shape_28 : decode cX3_shape 28 = .ok (.iastore, 1) := by decide +kernel
theorem dX3_shape_29 : decode cX3_shape 29 = .ok (.aload_n 0, 1) := by decide +kernel
theorem dX3_shape_30 : decode cX3_shape 30 = .ok (.getfield 10, 3) := by decide +kernel
theorem dX3_shape_33 : decode cX3_shape 33 = .ok (.getfield 46, 3) := by decide +kernel
theorem dX3_shape_36 : decode cX3_shape 36 = .ok (.iload_n 1, 1) := by decide +kernel
theorem dX3_shape_37 : decode cX3_shape 37 = .ok (.iload_n 3, 1) := by decide +kernel
theorem dX3_shape_38 : decode cX3_shape 38 = .ok (.iastore, 1) := by decide +kernel
theorem dX3_shape_39 : decode cX3_shape 39 = .ok (.return_, 1) := by decide +kernel
set_option maxRecDepth 20000 in
theorem ggX3_setGauge_X3_requireNumber : GoodIn wsX3_setGauge wsX3_requireNumber := goodIn_ca (goodIn_r _ [6, 7, 8, 5, 9, 10, 11] (by decide +kernel) (by decide +kernel)) (goodIn_sub (fun _ h => List.mem_cons_of_mem _ (List.mem_append_right _ h)) (by decide +kernel))
set_option maxRecDepth 20000 in
theorem gX3_setGauge_X3_requireNumber : GoodIn wsX3_setGauge (va_wsS RX3 34 yX3_requireNumber wsX3_requireNumber) := goodIn_app (goodIn_of _ (by decide +kernel)) ggX3_setGauge_X3_requireNumber
set_option maxRecDepth 20000 in
theorem ggX3_setGauge_X3_requireWithin : GoodIn wsX3_setGauge wsX3_requireWithin := goodIn_ca (goodIn_r _ [9, 10, 11] (by decide +kernel) (by decide +kernel)) (goodIn_sub (fun _ h => List.mem_cons_of_mem _ (List.mem_append_right _ h)) (by decide +kernel))
set_option maxRecDepth 20000 in
theorem gX3_setGauge_X3_requireWithin : GoodIn wsX3_setGauge (va_wsS RX3 38 yX3_requireWithin wsX3_requireWithin) := goodIn_app (goodIn_of _ (by decide +kernel)) ggX3_setGauge_X3_requireWithin
theorem dX3_setGauge_0 : decode cX3_setGauge 0 = .ok (.iload_n 1, 1) := by decide +kernel
theorem dX3_setGauge_1 : decode cX3_setGauge 1 = .ok (.invokestatic 34, 3) := by decide +kernel
theorem dX3_setGauge_4 : decode cX3_setGauge 4 = .ok (.iload_n 2, 1) := by decide +kernel
theorem dX3_setGauge_5 : decode cX3_setGauge 5 = .ok (.iconst 1, 1) := by decide +kernel
theorem dX3_setGauge_6 : decode cX3_setGauge 6 = .ok (.bipush 50, 2) := by decide +kernel
theorem dX3_setGauge_8 : decode cX3_setGauge 8 = .ok (.invokestatic 38, 3) := by decide +kernel
theorem dX3_setGauge_11 : decode cX3_setGauge 11 = .ok (.aload_n 0, 1) := by decide +kernel
theorem dX3_setGauge_12 : decode cX3_setGauge 12 = .ok (.getfield 19, 3) := by decide +kernel
theorem dX3_setGauge_15 : decode cX3_setGauge 15 = .ok (.getfield 49, 3) := by decide +kernel
theorem dX3_setGauge_18 : decode cX3_setGauge 18 = .ok (.iload_n 1, 1) := by decide +kernel
theorem dX3_setGauge_19 : decode cX3_setGauge 19 = .ok (.iaload, 1) := by decide +kernel
theorem dX3_setGauge_20 : decode cX3_setGauge 20 = .ok (.istore_n 3, 1) := by decide +kernel
theorem dX3_setGauge_21 : decode cX3_setGauge 21 = .ok (.aload_n 0, 1) := by decide +kernel
theorem dX3_setGauge_22 : decode cX3_setGauge 22 = .ok (.getfield 19, 3) := by decide +kernel
theorem dX3_setGauge_25 : decode cX3_setGauge 25 = .ok (.getfield 49, 3) := by decide +kernel
theorem dX3_setGauge_28 : decode cX3_setGauge 28 = .ok (.iload_n 1, 1) := by decide +kernel
theorem dX3_setGauge_29 : decode cX3_setGauge 29 = .ok (.iload_n 2, 1) := by decide +kernel
theorem dX3_setGauge_30 : decode cX3_setGauge 30 = .ok (.iastore, 1) := by decide +kernel
theorem dX3_setGauge_31 : decode cX3_setGauge 31 = .ok (.iload_n 3, 1) := by decide +kernel
theorem dX3_setGauge_32 : decode cX3_setGauge 32 = .ok (.ireturn, 1) := by decide +kernel
set_option maxRecDepth 20000 in
theorem ggX3_setSource_X3_requireWithin : GoodIn wsX3_setSource wsX3_requireWithin := goodIn_ca (goodIn_r _ [6, 7, 8] (by decide +kernel) (by decide +kernel)) (goodIn_sub (fun _ h => List.mem_cons_of_mem _ (List.mem_append_right _ h)) (by decide +kernel))
set_option maxRecDepth 20000 in
theorem gX3_setSource_X3_requireWithin : GoodIn wsX3_setSource (va_wsS RX3 38 yX3_requireWithin wsX3_requireWithin) := goodIn_app (goodIn_of _ (by decide +kernel)) ggX3_setSource_X3_requireWithin
theorem dX3_setSource_0 : decode cX3_setSource 0 = .ok (.iload_n 1, 1) := by decide +kernel
theorem dX3_setSource_1 : decode cX3_setSource 1 = .ok (.iconst 0, 1) := by decide +kernel
theorem dX3_setSource_2 : decode cX3_setSource 2 = .ok (.sipush 1000, 3) := by decide +kernel
theorem dX3_setSource_5 : decode cX3_setSource 5 = .ok (.invokestatic 38, 3) := by decide +kernel
theorem dX3_setSource_8 : decode cX3_setSource 8 = .ok (.aload_n 0, 1) := by decide +kernel
theorem dX3_setSource_9 : decode cX3_setSource 9 = .ok (.getfield 10, 3) := by decide +kernel
theorem dX3_setSource_12 : decode cX3_setSource 12 = .ok (.getfield 52, 3) := by decide +kernel
theorem dX3_setSource_15 : decode cX3_setSource 15 = .ok (.istore_n 2, 1) := by decide +kernel
theorem dX3_setSource_16 : decode cX3_setSource 16 = .ok (.aload_n 0, 1) := by decide +kernel
theorem dX3_setSource_17 : decode cX3_setSource 17 = .ok (.getfield 10, 3) := by decide +kernel
theorem dX3_setSource_20 : decode cX3_setSource 20 = .ok (.iload_n 1, 1) := by decide +kernel
theorem dX3_setSource_21 : decode cX3_setSource 21 = .ok (.putfield 52, 3) := by decide +kernel
theorem dX3_setSource_24 : decode cX3_setSource 24 = .ok (.iload_n 2, 1) := by decide +kernel
theorem dX3_setSource_25 : decode cX3_setSource 25 = .ok (.ireturn, 1) := by decide +kernel
set_option maxRecDepth 20000 in
theorem ggX3_rain_X3_requireNumber : GoodIn wsX3_rain wsX3_requireNumber := goodIn_ca (goodIn_r _ [6, 7, 8, 5, 9, 10, 11] (by decide +kernel) (by decide +kernel)) (goodIn_sub (fun _ h => List.mem_cons_of_mem _ (List.mem_append_right _ h)) (by decide +kernel))
set_option maxRecDepth 20000 in
theorem gX3_rain_X3_requireNumber : GoodIn wsX3_rain (va_wsS RX3 34 yX3_requireNumber wsX3_requireNumber) := goodIn_app (goodIn_of _ (by decide +kernel)) ggX3_rain_X3_requireNumber
set_option maxRecDepth 20000 in
theorem ggX3_rain_X3_requireWithin : GoodIn wsX3_rain wsX3_requireWithin := goodIn_ca (goodIn_r _ [9, 10, 11] (by decide +kernel) (by decide +kernel)) (goodIn_sub (fun _ h => List.mem_cons_of_mem _ (List.mem_append_right _ h)) (by decide +kernel))
set_option maxRecDepth 20000 in
theorem gX3_rain_X3_requireWithin : GoodIn wsX3_rain (va_wsS RX3 38 yX3_requireWithin wsX3_requireWithin) := goodIn_app (goodIn_of _ (by decide +kernel)) ggX3_rain_X3_requireWithin
theorem dX3_rain_0 : decode cX3_rain 0 = .ok (.iload_n 1, 1) := by decide +kernel
theorem dX3_rain_1 : decode cX3_rain 1 = .ok (.invokestatic 34, 3) := by decide +kernel
theorem dX3_rain_4 : decode cX3_rain 4 = .ok (.iload_n 2, 1) := by decide +kernel
theorem dX3_rain_5 : decode cX3_rain 5 = .ok (.iconst 1, 1) := by decide +kernel
theorem dX3_rain_6 : decode cX3_rain 6 = .ok (.sipush 10000, 3) := by decide +kernel
theorem dX3_rain_9 : decode cX3_rain 9 = .ok (.invokestatic 38, 3) := by decide +kernel
theorem dX3_rain_12 : decode cX3_rain 12 = .ok (.aload_n 0, 1) := by decide +kernel
theorem dX3_rain_13 : decode cX3_rain 13 = .ok (.getfield 10, 3) := by decide +kernel
theorem dX3_rain_16 : decode cX3_rain 16 = .ok (.getfield 55, 3) := by decide +kernel
theorem dX3_rain_19 : decode cX3_rain 19 = .ok (.iload_n 1, 1) := by decide +kernel
theorem dX3_rain_20 : decode cX3_rain 20 = .ok (.dup2, 1) := by decide +kernel
theorem dX3_rain_21 : decode cX3_rain 21 = .ok (.iaload, 1) := by decide +kernel
theorem dX3_rain_22 : decode cX3_rain 22 = .ok (.iload_n 2, 1) := by decide +kernel
theorem dX3_rain_23 : decode cX3_rain 23 = .ok (.iadd, 1) := by decide +kernel
theorem dX3_rain_24 : decode cX3_rain 24 = .ok (.iastore, 1) := by decide +kernel
theorem dX3_rain_25 : decode cX3_rain 25 = .ok (.aload_n 0, 1) := by decide +kernel
theorem dX3_rain_26 : decode cX3_rain 26 = .ok (.getfield 10, 3) := by decide +kernel
theorem dX3_rain_29 : decode cX3_rain 29 = .ok (.getfield 55, 3) := by decide +kernel
theorem dX3_rain_32 : decode cX3_rain 32 = .ok (.iload_n 1, 1) := by decide +kernel
theorem dX3_rain_33 : decode cX3_rain 33 = .ok (.iaload, 1) := by decide +kernel
theorem dX3_rain_34 : decode cX3_rain 34 = .ok (.ireturn, 1) := by decide +kernel
set_option maxRecDepth 20000 in
theorem ggX3_volume_X3_requireNumber : GoodIn wsX3_volume wsX3_requireNumber := goodIn_ca (goodIn_r _ [6, 7, 8, 5, 9, 10, 11] (by decide +kernel) (by decide +kernel)) (goodIn_sub (fun _ h => List.mem_cons_of_mem _ (List.mem_append_right _ h)) (by decide +kernel))
set_option maxRecDepth 20000 in
theorem gX3_volume_X3_requireNumber : GoodIn wsX3_volume (va_wsS RX3 34 yX3_requireNumber wsX3_requireNumber) := goodIn_app (goodIn_of _ (by decide +kernel)) ggX3_volume_X3_requireNumber
theorem dX3_volume_0 : decode cX3_volume 0 = .ok (.iload_n 1, 1) := by decide +kernel
theorem dX3_volume_1 : decode cX3_volume 1 = .ok (.invokestatic 34, 3) := by decide +kernel
theorem dX3_volume_4 : decode cX3_volume 4 = .ok (.aload_n 0, 1) := by decide +kernel
theorem dX3_volume_5 : decode cX3_volume 5 = .ok (.getfield 10, 3) := by decide +kernel
theorem dX3_volume_8 : decode cX3_volume 8 = .ok (.getfield 58, 3) := by decide +kernel
theorem dX3_volume_11 : decode cX3_volume 11 = .ok (.iload_n 1, 1) := by decide +kernel
theorem dX3_volume_12 : decode cX3_volume 12 = .ok (.iaload, 1) := by decide +kernel
theorem dX3_volume_13 : decode cX3_volume 13 = .ok (.ireturn, 1) := by decide +kernel
set_option maxRecDepth 20000 in
theorem ggX3_volumeByBalance_X3_requireNumber : GoodIn wsX3_volumeByBalance wsX3_requireNumber := goodIn_ca (goodIn_r _ [5, 6, 7, 4, 8, 9, 10] (by decide +kernel) (by decide +kernel)) (goodIn_sub (fun _ h => List.mem_cons_of_mem _ (List.mem_append_right _ h)) (by decide +kernel))
set_option maxRecDepth 20000 in
theorem gX3_volumeByBalance_X3_requireNumber : GoodIn wsX3_volumeByBalance (va_wsS RX3 34 yX3_requireNumber wsX3_requireNumber) := goodIn_app (goodIn_of _ (by decide +kernel)) ggX3_volumeByBalance_X3_requireNumber
set_option maxRecDepth 20000 in
theorem ggX3_volumeByBalance_X2_balanceOf : GoodIn wsX3_volumeByBalance wsX2_balanceOf := goodIn_r _ [15, 16, 17, 18, 23, 24, 25, 26, 27, 28, 29, 30] (by decide +kernel) (by decide +kernel)
set_option maxRecDepth 20000 in
theorem gX3_volumeByBalance_X2_balanceOf : GoodIn wsX3_volumeByBalance (wsV RX3 61 RX2 yX2_balanceOf wsX2_balanceOf) := goodIn_app (goodIn_of _ (by decide +kernel)) ggX3_volumeByBalance_X2_balanceOf
theorem dX3_volumeByBalance_0 : decode cX3_volumeByBalance 0 = .ok (.iload_n 1, 1) := by decide +kernel
theorem dX3_volumeByBalance_1 : decode cX3_volumeByBalance 1 = .ok (.invokestatic 34, 3) := by decide +kernel
theorem dX3_volumeByBalance_4 : decode cX3_volumeByBalance 4 = .ok (.aload_n 0, 1) := by decide +kernel
theorem dX3_volumeByBalance_5 : decode cX3_volumeByBalance 5 = .ok (.getfield 10, 3) := by decide +kernel
theorem dX3_volumeByBalance_8 : decode cX3_volumeByBalance 8 = .ok (.iload_n 1, 1) := by decide +kernel
theorem dX3_volumeByBalance_9 : decode cX3_volumeByBalance 9 = .ok (.invokevirtual 61, 3) := by decide +kernel
theorem dX3_volumeByBalance_12 : decode cX3_volumeByBalance 12 = .ok (.ireturn, 1) := by decide +kernel
set_option maxRecDepth 20000 in
theorem ggX3_level_X3_requireNumber : GoodIn wsX3_level wsX3_requireNumber := goodIn_ca (goodIn_r _ [5, 6, 7, 4, 8, 9, 10] (by decide +kernel) (by decide +kernel)) (goodIn_sub (fun _ h => List.mem_cons_of_mem _ (List.mem_append_right _ h)) (by decide +kernel))
set_option maxRecDepth 20000 in
theorem gX3_level_X3_requireNumber : GoodIn wsX3_level (va_wsS RX3 34 yX3_requireNumber wsX3_requireNumber) := goodIn_app (goodIn_of _ (by decide +kernel)) ggX3_level_X3_requireNumber
set_option maxRecDepth 20000 in
theorem ggX3_level_X2_levelOf : GoodIn wsX3_level wsX2_levelOf := goodIn_r _ [15, 16, 17, 22, 23, 24, 25, 26, 27, 28, 29] (by decide +kernel) (by decide +kernel)
set_option maxRecDepth 20000 in
theorem gX3_level_X2_levelOf : GoodIn wsX3_level (wsV RX3 65 RX2 yX2_levelOf wsX2_levelOf) := goodIn_app (goodIn_of _ (by decide +kernel)) ggX3_level_X2_levelOf
theorem dX3_level_0 : decode cX3_level 0 = .ok (.iload_n 1, 1) := by decide +kernel
theorem dX3_level_1 : decode cX3_level 1 = .ok (.invokestatic 34, 3) := by decide +kernel
theorem dX3_level_4 : decode cX3_level 4 = .ok (.aload_n 0, 1) := by decide +kernel
theorem dX3_level_5 : decode cX3_level 5 = .ok (.getfield 10, 3) := by decide +kernel
theorem dX3_level_8 : decode cX3_level 8 = .ok (.iload_n 1, 1) := by decide +kernel
theorem dX3_level_9 : decode cX3_level 9 = .ok (.invokevirtual 65, 3) := by decide +kernel
theorem dX3_level_12 : decode cX3_level 12 = .ok (.ireturn, 1) := by decide +kernel
set_option maxRecDepth 20000 in
theorem ggX3_flowed_X3_requireNumber : GoodIn wsX3_flowed wsX3_requireNumber := goodIn_ca (goodIn_r _ [6, 7, 8, 5, 9, 10, 11] (by decide +kernel) (by decide +kernel)) (goodIn_sub (fun _ h => List.mem_cons_of_mem _ (List.mem_append_right _ h)) (by decide +kernel))
set_option maxRecDepth 20000 in
theorem gX3_flowed_X3_requireNumber : GoodIn wsX3_flowed (va_wsS RX3 34 yX3_requireNumber wsX3_requireNumber) := goodIn_app (goodIn_of _ (by decide +kernel)) ggX3_flowed_X3_requireNumber
theorem dX3_flowed_0 : decode cX3_flowed 0 = .ok (.iload_n 1, 1) := by decide +kernel
theorem dX3_flowed_1 : decode cX3_flowed 1 = .ok (.invokestatic 34, 3) := by decide +kernel
theorem dX3_flowed_4 : decode cX3_flowed 4 = .ok (.aload_n 0, 1) := by decide +kernel
theorem dX3_flowed_5 : decode cX3_flowed 5 = .ok (.getfield 10, 3) := by decide +kernel
theorem dX3_flowed_8 : decode cX3_flowed 8 = .ok (.getfield 68, 3) := by decide +kernel
theorem dX3_flowed_11 : decode cX3_flowed 11 = .ok (.iload_n 1, 1) := by decide +kernel
theorem dX3_flowed_12 : decode cX3_flowed 12 = .ok (.iaload, 1) := by decide +kernel
theorem dX3_flowed_13 : decode cX3_flowed 13 = .ok (.ireturn, 1) := by decide +kernel
set_option maxRecDepth 20000 in
theorem ggX3_spilled_X3_requireNumber : GoodIn wsX3_spilled wsX3_requireNumber := goodIn_ca (goodIn_r _ [6, 7, 8, 5, 9, 10, 11] (by decide +kernel) (by decide +kernel)) (goodIn_sub (fun _ h => List.mem_cons_of_mem _ (List.mem_append_right _ h)) (by decide +kernel))
set_option maxRecDepth 20000 in
theorem gX3_spilled_X3_requireNumber : GoodIn wsX3_spilled (va_wsS RX3 34 yX3_requireNumber wsX3_requireNumber) := goodIn_app (goodIn_of _ (by decide +kernel)) ggX3_spilled_X3_requireNumber
theorem dX3_spilled_0 : decode cX3_spilled 0 = .ok (.iload_n 1, 1) := by decide +kernel
theorem dX3_spilled_1 : decode cX3_spilled 1 = .ok (.invokestatic 34, 3) := by decide +kernel
theorem dX3_spilled_4 : decode cX3_spilled 4 = .ok (.aload_n 0, 1) := by decide +kernel
theorem dX3_spilled_5 : decode cX3_spilled 5 = .ok (.getfield 10, 3) := by decide +kernel
theorem dX3_spilled_8 : decode cX3_spilled 8 = .ok (.getfield 71, 3) := by decide +kernel
theorem dX3_spilled_11 : decode cX3_spilled 11 = .ok (.iload_n 1, 1) := by decide +kernel
theorem dX3_spilled_12 : decode cX3_spilled 12 = .ok (.iaload, 1) := by decide +kernel
theorem dX3_spilled_13 : decode cX3_spilled 13 = .ok (.ireturn, 1) := by decide +kernel
set_option maxRecDepth 20000 in
theorem ggX3_setRule_X3_requireNumber : GoodIn wsX3_setRule wsX3_requireNumber := goodIn_ca (goodIn_r _ [9, 10, 11, 8, 12, 13, 14] (by decide +kernel) (by decide +kernel)) (goodIn_sub (fun _ h => List.mem_cons_of_mem _ (List.mem_append_right _ h)) (by decide +kernel))
set_option maxRecDepth 20000 in
theorem gX3_setRule_X3_requireNumber : GoodIn wsX3_setRule (va_wsS RX3 34 yX3_requireNumber wsX3_requireNumber) := goodIn_app (goodIn_of _ (by decide +kernel)) ggX3_setRule_X3_requireNumber
set_option maxRecDepth 20000 in
theorem ggX3_setRule_X3_requireWithin : GoodIn wsX3_setRule wsX3_requireWithin := goodIn_ca (goodIn_r _ [12, 13, 14] (by decide +kernel) (by decide +kernel)) (goodIn_sub (fun _ h => List.mem_cons_of_mem _ (List.mem_append_right _ h)) (by decide +kernel))
set_option maxRecDepth 20000 in
theorem gX3_setRule_X3_requireWithin : GoodIn wsX3_setRule (va_wsS RX3 38 yX3_requireWithin wsX3_requireWithin) := goodIn_app (goodIn_of _ (by decide +kernel)) ggX3_setRule_X3_requireWithin
theorem dX3_setRule_0 : decode cX3_setRule 0 = .ok (.iload_n 1, 1) := by decide +kernel
theorem dX3_setRule_1 : decode cX3_setRule 1 = .ok (.invokestatic 34, 3) := by decide +kernel
theorem dX3_setRule_4 : decode cX3_setRule 4 = .ok (.iload_n 2, 1) := by decide +kernel
theorem dX3_setRule_5 : decode cX3_setRule 5 = .ok (.iconst 0, 1) := by decide +kernel
theorem dX3_setRule_6 : decode cX3_setRule 6 = .ok (.sipush 1000, 3) := by decide +kernel
theorem dX3_setRule_9 : decode cX3_setRule 9 = .ok (.invokestatic 38, 3) := by decide +kernel
theorem dX3_setRule_12 : decode cX3_setRule 12 = .ok (.iload_n 3, 1) := by decide +kernel
theorem dX3_setRule_13 : decode cX3_setRule 13 = .ok (.iload_n 2, 1) := by decide +kernel
theorem dX3_setRule_14 : decode cX3_setRule 14 = .ok (.sipush 1000, 3) := by decide +kernel
theorem dX3_setRule_17 : decode cX3_setRule 17 = .ok (.invokestatic 38, 3) := by decide +kernel
theorem dX3_setRule_20 : decode cX3_setRule 20 = .ok (.iload 4, 2) := by decide +kernel
theorem dX3_setRule_22 : decode cX3_setRule 22 = .ok (.iconst 0, 1) := by decide +kernel
theorem dX3_setRule_23 : decode cX3_setRule 23 = .ok (.sipush 1000, 3) := by decide +kernel
theorem dX3_setRule_26 : decode cX3_setRule 26 = .ok (.invokestatic 38, 3) := by decide +kernel
theorem dX3_setRule_29 : decode cX3_setRule 29 = .ok (.iload 5, 2) := by decide +kernel
theorem dX3_setRule_31 : decode cX3_setRule 31 = .ok (.iconst 0, 1) := by decide +kernel
theorem dX3_setRule_32 : decode cX3_setRule 32 = .ok (.bipush 100, 2) := by decide +kernel
theorem dX3_setRule_34 : decode cX3_setRule 34 = .ok (.invokestatic 38, 3) := by decide +kernel
theorem dX3_setRule_37 : decode cX3_setRule 37 = .ok (.aload_n 0, 1) := by decide +kernel
theorem dX3_setRule_38 : decode cX3_setRule 38 = .ok (.getfield 19, 3) := by decide +kernel
theorem dX3_setRule_41 : decode cX3_setRule 41 = .ok (.getfield 74, 3) := by decide +kernel
theorem dX3_setRule_44 : decode cX3_setRule 44 = .ok (.iload_n 1, 1) := by decide +kernel
theorem dX3_setRule_45 : decode cX3_setRule 45 = .ok (.iload_n 2, 1) := by decide +kernel
theorem dX3_setRule_46 : decode cX3_setRule 46 = .ok (.iastore, 1) := by decide +kernel
theorem dX3_setRule_47 : decode cX3_setRule 47 = .ok (.aload_n 0, 1) := by decide +kernel
theorem dX3_setRule_48 : decode cX3_setRule 48 = .ok (.getfield 19, 3) := by decide +kernel
theorem dX3_setRule_51 : decode cX3_setRule 51 = .ok (.getfield 77, 3) := by decide +kernel
theorem dX3_setRule_54 : decode cX3_setRule 54 = .ok (.iload_n 1, 1) := by decide +kernel
theorem dX3_setRule_55 : decode cX3_setRule 55 = .ok (.iload_n 3, 1) := by decide +kernel
theorem dX3_setRule_56 : decode cX3_setRule 56 = .ok (.iastore, 1) := by decide +kernel
theorem dX3_setRule_57 : decode cX3_setRule 57 = .ok (.aload_n 0, 1) := by decide +kernel
theorem dX3_setRule_58 : decode cX3_setRule 58 = .ok (.getfield 19, 3) := by decide +kernel
theorem dX3_setRule_61 : decode cX3_setRule 61 = .ok (.getfield 80, 3) := by decide +kernel
theorem dX3_setRule_64 : decode cX3_setRule 64 = .ok (.iload_n 1, 1) := by decide +kernel
theorem dX3_setRule_65 : decode cX3_setRule 65 = .ok (.iload 4, 2) := by decide +kernel
theorem dX3_setRule_67 : decode cX3_setRule 67 = .ok (.iastore, 1) := by decide +kernel
theorem dX3_setRule_68 : decode cX3_setRule 68 = .ok (.aload_n 0, 1) := by decide +kernel
theorem dX3_setRule_69 : decode cX3_setRule 69 = .ok (.getfield 19, 3) := by decide +kernel
theorem dX3_setRule_72 : decode cX3_setRule 72 = .ok (.getfield 83, 3) := by decide +kernel
theorem dX3_setRule_75 : decode cX3_setRule 75 = .ok (.iload_n 1, 1) := by decide +kernel
theorem dX3_setRule_76 : decode cX3_setRule 76 = .ok (.iload 5, 2) := by decide +kernel
theorem dX3_setRule_78 : decode cX3_setRule 78 = .ok (.iastore, 1) := by decide +kernel
theorem dX3_setRule_79 : decode cX3_setRule 79 = .ok (.return_, 1) := by decide +kernel
set_option maxRecDepth 20000 in
theorem ggX3_byHand_X3_requireNumber : GoodIn wsX3_byHand wsX3_requireNumber := goodIn_ca (goodIn_r _ [9, 10, 11, 8, 12, 13, 14] (by decide +kernel) (by decide +kernel)) (goodIn_sub (fun _ h => List.mem_cons_of_mem _ (List.mem_append_right _ h)) (by decide +kernel))
set_option maxRecDepth 20000 in
theorem gX3_byHand_X3_requireNumber : GoodIn wsX3_byHand (va_wsS RX3 34 yX3_requireNumber wsX3_requireNumber) := goodIn_app (goodIn_of _ (by decide +kernel)) ggX3_byHand_X3_requireNumber
set_option maxRecDepth 20000 in
theorem ggX3_byHand_X3_requireWithin : GoodIn wsX3_byHand wsX3_requireWithin := goodIn_ca (goodIn_r _ [12, 13, 14] (by decide +kernel) (by decide +kernel)) (goodIn_sub (fun _ h => List.mem_cons_of_mem _ (List.mem_append_right _ h)) (by decide +kernel))
set_option maxRecDepth 20000 in
theorem gX3_byHand_X3_requireWithin : GoodIn wsX3_byHand (va_wsS RX3 38 yX3_requireWithin wsX3_requireWithin) := goodIn_app (goodIn_of _ (by decide +kernel)) ggX3_byHand_X3_requireWithin
theorem dX3_byHand_0 : decode cX3_byHand 0 = .ok (.iload_n 1, 1) := by decide +kernel
theorem dX3_byHand_1 : decode cX3_byHand 1 = .ok (.invokestatic 34, 3) := by decide +kernel
theorem dX3_byHand_4 : decode cX3_byHand 4 = .ok (.iload_n 2, 1) := by decide +kernel
theorem dX3_byHand_5 : decode cX3_byHand 5 = .ok (.iconst (-1), 1) := by decide +kernel
theorem dX3_byHand_6 : decode cX3_byHand 6 = .ok (.bipush 10, 2) := by decide +kernel
theorem dX3_byHand_8 : decode cX3_byHand 8 = .ok (.invokestatic 38, 3) := by decide +kernel
theorem dX3_byHand_11 : decode cX3_byHand 11 = .ok (.iload_n 2, 1) := by decide +kernel
theorem dX3_byHand_12 : decode cX3_byHand 12 = .ok (.iconst (-1), 1) := by decide +kernel
theorem dX3_byHand_13 : decode cX3_byHand 13 = .ok (.if_icmp .ne 25, 3) := by decide +kernel
theorem dX3_byHand_16 : decode cX3_byHand 16 = .ok (.aload_n 0, 1) := by decide +kernel
theorem dX3_byHand_17 : decode cX3_byHand 17 = .ok (.getfield 19, 3) := by decide +kernel
theorem dX3_byHand_20 : decode cX3_byHand 20 = .ok (.getfield 86, 3) := by decide +kernel
theorem dX3_byHand_23 : decode cX3_byHand 23 = .ok (.iload_n 1, 1) := by decide +kernel
theorem dX3_byHand_24 : decode cX3_byHand 24 = .ok (.baload, 1) := by decide +kernel
theorem dX3_byHand_25 : decode cX3_byHand 25 = .ok (.ifCond .ne 13, 3) := by decide +kernel
theorem dX3_byHand_28 : decode cX3_byHand 28 = .ok (.new 90, 3) := by decide +kernel
theorem dX3_byHand_31 : decode cX3_byHand 31 = .ok (.dup, 1) := by decide +kernel
theorem dX3_byHand_32 : decode cX3_byHand 32 = .ok (.ldc 92, 2) := by decide +kernel
theorem dX3_byHand_34 : decode cX3_byHand 34 = .ok (.invokespecial 94, 3) := by decide +kernel
theorem dX3_byHand_37 : decode cX3_byHand 37 = .ok (.athrow, 1) := by decide +kernel
theorem dX3_byHand_38 : decode cX3_byHand 38 = .ok (.aload_n 0, 1) := by decide +kernel
theorem dX3_byHand_39 : decode cX3_byHand 39 = .ok (.getfield 19, 3) := by decide +kernel
theorem dX3_byHand_42 : decode cX3_byHand 42 = .ok (.getfield 97, 3) := by decide +kernel
theorem dX3_byHand_45 : decode cX3_byHand 45 = .ok (.iload_n 1, 1) := by decide +kernel
theorem dX3_byHand_46 : decode cX3_byHand 46 = .ok (.iaload, 1) := by decide +kernel
theorem dX3_byHand_47 : decode cX3_byHand 47 = .ok (.istore_n 3, 1) := by decide +kernel
theorem dX3_byHand_48 : decode cX3_byHand 48 = .ok (.aload_n 0, 1) := by decide +kernel
theorem dX3_byHand_49 : decode cX3_byHand 49 = .ok (.getfield 19, 3) := by decide +kernel
theorem dX3_byHand_52 : decode cX3_byHand 52 = .ok (.getfield 86, 3) := by decide +kernel
theorem dX3_byHand_55 : decode cX3_byHand 55 = .ok (.iload_n 1, 1) := by decide +kernel
theorem dX3_byHand_56 : decode cX3_byHand 56 = .ok (.iload_n 2, 1) := by decide +kernel
theorem dX3_byHand_57 : decode cX3_byHand 57 = .ok (.iconst (-1), 1) := by decide +kernel
theorem dX3_byHand_58 : decode cX3_byHand 58 = .ok (.if_icmp .eq 7, 3) := by decide +kernel
theorem dX3_byHand_61 : decode cX3_byHand 61 = .ok (.iconst 1, 1) := by decide +kernel
theorem dX3_byHand_62 : decode cX3_byHand 62 = .ok (.goto 4, 3) := by decide +kernel
theorem dX3_byHand_65 : decode cX3_byHand 65 = .ok (.iconst 0, 1) := by decide +kernel
theorem dX3_byHand_66 : decode cX3_byHand 66 = .ok (.bastore, 1) := by decide +kernel
theorem dX3_byHand_67 : decode cX3_byHand 67 = .ok (.iload_n 2, 1) := by decide +kernel
theorem dX3_byHand_68 : decode cX3_byHand 68 = .ok (.iconst (-1), 1) := by decide +kernel
theorem dX3_byHand_69 : decode cX3_byHand 69 = .ok (.if_icmp .eq 13, 3) := by decide +kernel
theorem dX3_byHand_72 : decode cX3_byHand 72 = .ok (.aload_n 0, 1) := by decide +kernel
theorem dX3_byHand_73 : decode cX3_byHand 73 = .ok (.getfield 19, 3) := by decide +kernel
theorem dX3_byHand_76 : decode cX3_byHand 76 = .ok (.getfield 97, 3) := by decide +kernel
theorem dX3_byHand_79 : decode cX3_byHand 79 = .ok (.iload_n 1, 1) := by decide +kernel
theorem dX3_byHand_80 : decode cX3_byHand 80 = .ok (.iload_n 2, 1) := by decide +kernel
theorem dX3_byHand_81 : decode cX3_byHand 81 = .ok (.iastore, 1) := by decide +kernel
theorem dX3_byHand_82 : decode cX3_byHand 82 = .ok (.iload_n 3, 1) := by decide +kernel
theorem dX3_byHand_83 : decode cX3_byHand 83 = .ok (.ireturn, 1) := by decide +kernel
set_option maxRecDepth 20000 in
theorem ggX3_opening_X3_requireNumber : GoodIn wsX3_opening wsX3_requireNumber := goodIn_ca (goodIn_r _ [6, 7, 8, 5, 9, 10, 11] (by decide +kernel) (by decide +kernel)) (goodIn_sub (fun _ h => List.mem_cons_of_mem _ (List.mem_append_right _ h)) (by decide +kernel))
set_option maxRecDepth 20000 in
theorem gX3_opening_X3_requireNumber : GoodIn wsX3_opening (va_wsS RX3 34 yX3_requireNumber wsX3_requireNumber) := goodIn_app (goodIn_of _ (by decide +kernel)) ggX3_opening_X3_requireNumber
theorem dX3_opening_0 : decode cX3_opening 0 = .ok (.iload_n 1, 1) := by decide +kernel
theorem dX3_opening_1 : decode cX3_opening 1 = .ok (.invokestatic 34, 3) := by decide +kernel
theorem dX3_opening_4 : decode cX3_opening 4 = .ok (.aload_n 0, 1) := by decide +kernel
theorem dX3_opening_5 : decode cX3_opening 5 = .ok (.getfield 19, 3) := by decide +kernel
theorem dX3_opening_8 : decode cX3_opening 8 = .ok (.getfield 97, 3) := by decide +kernel
theorem dX3_opening_11 : decode cX3_opening 11 = .ok (.iload_n 1, 1) := by decide +kernel
theorem dX3_opening_12 : decode cX3_opening 12 = .ok (.iaload, 1) := by decide +kernel
theorem dX3_opening_13 : decode cX3_opening 13 = .ok (.ireturn, 1) := by decide +kernel
set_option maxRecDepth 20000 in
theorem ggX3_safety_X3_requireNumber : GoodIn wsX3_safety wsX3_requireNumber := goodIn_ca (goodIn_r _ [6, 7, 8, 5, 9, 10, 11] (by decide +kernel) (by decide +kernel)) (goodIn_sub (fun _ h => List.mem_cons_of_mem _ (List.mem_append_right _ h)) (by decide +kernel))
set_option maxRecDepth 20000 in
theorem gX3_safety_X3_requireNumber : GoodIn wsX3_safety (va_wsS RX3 34 yX3_requireNumber wsX3_requireNumber) := goodIn_app (goodIn_of _ (by decide +kernel)) ggX3_safety_X3_requireNumber
theorem dX3_safety_0 : decode cX3_safety 0 = .ok (.iload_n 1, 1) := by decide +kernel
theorem dX3_safety_1 : decode cX3_safety 1 = .ok (.invokestatic 34, 3) := by decide +kernel
theorem dX3_safety_4 : decode cX3_safety 4 = .ok (.aload_n 0, 1) := by decide +kernel
theorem dX3_safety_5 : decode cX3_safety 5 = .ok (.getfield 19, 3) := by decide +kernel
theorem dX3_safety_8 : decode cX3_safety 8 = .ok (.getfield 100, 3) := by decide +kernel
theorem dX3_safety_11 : decode cX3_safety 11 = .ok (.iload_n 1, 1) := by decide +kernel
theorem dX3_safety_12 : decode cX3_safety 12 = .ok (.iaload, 1) := by decide +kernel
theorem dX3_safety_13 : decode cX3_safety 13 = .ok (.ireturn, 1) := by decide +kernel
set_option maxRecDepth 20000 in
theorem ggX3_fall_X3_requireNumber : GoodIn wsX3_fall wsX3_requireNumber := goodIn_ca (goodIn_r _ [8, 9, 10, 7, 11, 12, 13] (by decide +kernel) (by decide +kernel)) (goodIn_sub (fun _ h => List.mem_cons_of_mem _ (List.mem_append_right _ h)) (by decide +kernel))
set_option maxRecDepth 20000 in
theorem gX3_fall_X3_requireNumber : GoodIn wsX3_fall (va_wsS RX3 34 yX3_requireNumber wsX3_requireNumber) := goodIn_app (goodIn_of _ (by decide +kernel)) ggX3_fall_X3_requireNumber
theorem dX3_fall_0 : decode cX3_fall 0 = .ok (.iload_n 1, 1) := by decide +kernel
theorem dX3_fall_1 : decode cX3_fall 1 = .ok (.invokestatic 34, 3) := by decide +kernel
theorem dX3_fall_4 : decode cX3_fall 4 = .ok (.aload_n 0, 1) := by decide +kernel
theorem dX3_fall_5 : decode cX3_fall 5 = .ok (.getfield 26, 3) := by decide +kernel
theorem dX3_fall_8 : decode cX3_fall 8 = .ok (.getfield 103, 3) := by decide +kernel
theorem dX3_fall_11 : decode cX3_fall 11 = .ok (.iload_n 1, 1) := by decide +kernel
theorem dX3_fall_12 : decode cX3_fall 12 = .ok (.baload, 1) := by decide +kernel
theorem dX3_fall_13 : decode cX3_fall 13 = .ok (.ifCond .eq 13, 3) := by decide +kernel
theorem dX3_fall_16 : decode cX3_fall 16 = .ok (.new 90, 3) := by decide +kernel
theorem dX3_fall_19 : decode cX3_fall 19 = .ok (.dup, 1) := by decide +kernel
theorem dX3_fall_20 : decode cX3_fall 20 = .ok (.ldc 106, 2) := by decide +kernel
theorem dX3_fall_22 : decode cX3_fall 22 = .ok (.invokespecial 94, 3) := by decide +kernel
theorem dX3_fall_25 : decode cX3_fall 25 = .ok (.athrow, 1) := by decide +kernel
theorem dX3_fall_26 : decode cX3_fall 26 = .ok (.aload_n 0, 1) := by decide +kernel
theorem dX3_fall_27 : decode cX3_fall 27 = .ok (.getfield 26, 3) := by decide +kernel
theorem dX3_fall_30 : decode cX3_fall 30 = .ok (.getfield 103, 3) := by decide +kernel
theorem dX3_fall_33 : decode cX3_fall 33 = .ok (.iload_n 1, 1) := by decide +kernel
theorem dX3_fall_34 : decode cX3_fall 34 = .ok (.iconst 1, 1) := by decide +kernel
theorem dX3_fall_35 : decode cX3_fall 35 = .ok (.bastore, 1) := by decide +kernel
theorem dX3_fall_36 : decode cX3_fall 36 = .ok (.return_, 1) := by decide +kernel
set_option maxRecDepth 20000 in
theorem ggX3_comeUp_X3_requireNumber : GoodIn wsX3_comeUp wsX3_requireNumber := goodIn_ca (goodIn_r _ [10, 11, 12, 9, 13, 14, 15] (by decide +kernel) (by decide +kernel)) (goodIn_sub (fun _ h => List.mem_cons_of_mem _ (List.mem_append_right _ h)) (by decide +kernel))
set_option maxRecDepth 20000 in
theorem gX3_comeUp_X3_requireNumber : GoodIn wsX3_comeUp (va_wsS RX3 34 yX3_requireNumber wsX3_requireNumber) := goodIn_app (goodIn_of _ (by decide +kernel)) ggX3_comeUp_X3_requireNumber
set_option maxRecDepth 20000 in
theorem ggX3_comeUp_J7_fill_53178 : GoodIn wsX3_comeUp wsJ7_fill_53178 := goodIn_r _ [19] (by decide +kernel) (by decide +kernel)
set_option maxRecDepth 20000 in
theorem gX3_comeUp_J7_fill_53178 : GoodIn wsX3_comeUp (va_wsS RX3 114 yJ7_fill_53178 wsJ7_fill_53178) := goodIn_app (goodIn_of _ (by decide +kernel)) ggX3_comeUp_J7_fill_53178
theorem dX3_comeUp_0 : decode cX3_comeUp 0 = .ok (.iload_n 1, 1) := by decide +kernel
theorem dX3_comeUp_1 : decode cX3_comeUp 1 = .ok (.invokestatic 34, 3) := by decide +kernel
theorem dX3_comeUp_4 : decode cX3_comeUp 4 = .ok (.aload_n 0, 1) := by decide +kernel
theorem dX3_comeUp_5 : decode cX3_comeUp 5 = .ok (.getfield 26, 3) := by decide +kernel
theorem dX3_comeUp_8 : decode cX3_comeUp 8 = .ok (.getfield 103, 3) := by decide +kernel
theorem dX3_comeUp_11 : decode cX3_comeUp 11 = .ok (.iload_n 1, 1) := by decide +kernel
theorem dX3_comeUp_12 : decode cX3_comeUp 12 = .ok (.baload, 1) := by decide +kernel
theorem dX3_comeUp_13 : decode cX3_comeUp 13 = .ok (.ifCond .ne 13, 3) := by decide +kernel
theorem dX3_comeUp_16 : decode cX3_comeUp 16 = .ok (.new 90, 3) := by decide +kernel
theorem dX3_comeUp_19 : decode cX3_comeUp 19 = .ok (.dup, 1) := by decide +kernel
theorem dX3_comeUp_20 : decode cX3_comeUp 20 = .ok (.ldc 108, 2) := by decide +kernel
theorem dX3_comeUp_22 : decode cX3_comeUp 22 = .ok (.invokespecial 94, 3) := by decide +kernel
theorem dX3_comeUp_25 : decode cX3_comeUp 25 = .ok (.athrow, 1) := by decide +kernel
theorem dX3_comeUp_26 : decode cX3_comeUp 26 = .ok (.aload_n 0, 1) := by decide +kernel
theorem dX3_comeUp_27 : decode cX3_comeUp 27 = .ok (.getfield 26, 3) := by decide +kernel
theorem dX3_comeUp_30 : decode cX3_comeUp 30 = .ok (.getfield 103, 3) := by decide +kernel
theorem dX3_comeUp_33 : decode cX3_comeUp 33 = .ok (.iload_n 1, 1) := by decide +kernel
theorem dX3_comeUp_34 : decode cX3_comeUp 34 = .ok (.iconst 0, 1) := by decide +kernel
theorem dX3_comeUp_35 : decode cX3_comeUp 35 = .ok (.bastore, 1) := by decide +kernel
theorem dX3_comeUp_36 : decode cX3_comeUp 36 = .ok (.aload_n 0, 1) := by decide +kernel
theorem dX3_comeUp_37 : decode cX3_comeUp 37 = .ok (.getfield 26, 3) := by decide +kernel
theorem dX3_comeUp_40 : decode cX3_comeUp 40 = .ok (.getfield 110, 3) := by decide +kernel
theorem dX3_comeUp_43 : decode cX3_comeUp 43 = .ok (.iload_n 1, 1) := by decide +kernel
theorem dX3_comeUp_44 : decode cX3_comeUp 44 = .ok (.aaload, 1) := by decide +kernel
theorem dX3_comeUp_45 : decode cX3_comeUp 45 = .ok (.aload_n 0, 1) := by decide +kernel
theorem dX3_comeUp_46 : decode cX3_comeUp 46 = .ok (.getfield 30, 3) := by decide +kernel
theorem dX3_comeUp_49 : decode cX3_comeUp 49 = .ok (.invokestatic 114, 3) := by decide +kernel
theorem dX3_comeUp_52 : decode cX3_comeUp 52 = .ok (.return_, 1) := by decide +kernel
set_option maxRecDepth 20000 in
theorem ggX3_setGroup_X3_requireNumber : GoodIn wsX3_setGroup wsX3_requireNumber := goodIn_ca (goodIn_r _ [6, 7, 8, 5, 9, 10, 11] (by decide +kernel) (by decide +kernel)) (goodIn_sub (fun _ h => List.mem_cons_of_mem _ (List.mem_append_right _ h)) (by decide +kernel))
set_option maxRecDepth 20000 in
theorem gX3_setGroup_X3_requireNumber : GoodIn wsX3_setGroup (va_wsS RX3 34 yX3_requireNumber wsX3_requireNumber) := goodIn_app (goodIn_of _ (by decide +kernel)) ggX3_setGroup_X3_requireNumber
set_option maxRecDepth 20000 in
theorem ggX3_setGroup_X3_requireWithin : GoodIn wsX3_setGroup wsX3_requireWithin := goodIn_ca (goodIn_r _ [9, 10, 11] (by decide +kernel) (by decide +kernel)) (goodIn_sub (fun _ h => List.mem_cons_of_mem _ (List.mem_append_right _ h)) (by decide +kernel))
set_option maxRecDepth 20000 in
theorem gX3_setGroup_X3_requireWithin : GoodIn wsX3_setGroup (va_wsS RX3 38 yX3_requireWithin wsX3_requireWithin) := goodIn_app (goodIn_of _ (by decide +kernel)) ggX3_setGroup_X3_requireWithin
theorem dX3_setGroup_0 : decode cX3_setGroup 0 = .ok (.iload_n 1, 1) := by decide +kernel
theorem dX3_setGroup_1 : decode cX3_setGroup 1 = .ok (.invokestatic 34, 3) := by decide +kernel
theorem dX3_setGroup_4 : decode cX3_setGroup 4 = .ok (.iload_n 2, 1) := by decide +kernel
theorem dX3_setGroup_5 : decode cX3_setGroup 5 = .ok (.iconst 0, 1) := by decide +kernel
theorem dX3_setGroup_6 : decode cX3_setGroup 6 = .ok (.iconst 3, 1) := by decide +kernel
theorem dX3_setGroup_7 : decode cX3_setGroup 7 = .ok (.invokestatic 38, 3) := by decide +kernel
theorem dX3_setGroup_10 : decode cX3_setGroup 10 = .ok (.aload_n 0, 1) := by decide +kernel
theorem dX3_setGroup_11 : decode cX3_setGroup 11 = .ok (.getfield 26, 3) := by decide +kernel
theorem dX3_setGroup_14 : decode cX3_setGroup 14 = .ok (.getfield 120, 3) := by decide +kernel
theorem dX3_setGroup_17 : decode cX3_setGroup 17 = .ok (.iload_n 1, 1) := by decide +kernel
theorem dX3_setGroup_18 : decode cX3_setGroup 18 = .ok (.iaload, 1) := by decide +kernel
theorem dX3_setGroup_19 : decode cX3_setGroup 19 = .ok (.istore_n 3, 1) := by decide +kernel
theorem dX3_setGroup_20 : decode cX3_setGroup 20 = .ok (.aload_n 0, 1) := by decide +kernel
theorem dX3_setGroup_21 : decode cX3_setGroup 21 = .ok (.getfield 26, 3) := by decide +kernel
theorem dX3_setGroup_24 : decode cX3_setGroup 24 = .ok (.getfield 120, 3) := by decide +kernel
theorem dX3_setGroup_27 : decode cX3_setGroup 27 = .ok (.iload_n 1, 1) := by decide +kernel
theorem dX3_setGroup_28 : decode cX3_setGroup 28 = .ok (.iload_n 2, 1) := by decide +kernel
theorem dX3_setGroup_29 : decode cX3_setGroup 29 = .ok (.iastore, 1) := by decide +kernel
theorem dX3_setGroup_30 : decode cX3_setGroup 30 = .ok (.iload_n 3, 1) := by decide +kernel
theorem dX3_setGroup_31 : decode cX3_setGroup 31 = .ok (.ireturn, 1) := by decide +kernel
set_option maxRecDepth 20000 in
theorem ggX3_setStuck_X3_requireNumber : GoodIn wsX3_setStuck wsX3_requireNumber := goodIn_ca (goodIn_r _ [6, 7, 8, 5, 9, 10, 11] (by decide +kernel) (by decide +kernel)) (goodIn_sub (fun _ h => List.mem_cons_of_mem _ (List.mem_append_right _ h)) (by decide +kernel))
set_option maxRecDepth 20000 in
theorem gX3_setStuck_X3_requireNumber : GoodIn wsX3_setStuck (va_wsS RX3 34 yX3_requireNumber wsX3_requireNumber) := goodIn_app (goodIn_of _ (by decide +kernel)) ggX3_setStuck_X3_requireNumber
theorem dX3_setStuck_0 : decode cX3_setStuck 0 = .ok (.iload_n 1, 1) := by decide +kernel
theorem dX3_setStuck_1 : decode cX3_setStuck 1 = .ok (.invokestatic 34, 3) := by decide +kernel
theorem dX3_setStuck_4 : decode cX3_setStuck 4 = .ok (.aload_n 0, 1) := by decide +kernel
theorem dX3_setStuck_5 : decode cX3_setStuck 5 = .ok (.getfield 26, 3) := by decide +kernel
theorem dX3_setStuck_8 : decode cX3_setStuck 8 = .ok (.getfield 123, 3) := by decide +kernel
theorem dX3_setStuck_11 : decode cX3_setStuck 11 = .ok (.iload_n 1, 1) := by decide +kernel
theorem dX3_setStuck_12 : decode cX3_setStuck 12 = .ok (.baload, 1) := by decide +kernel
theorem dX3_setStuck_13 : decode cX3_setStuck 13 = .ok (.istore_n 3, 1) := by decide +kernel
theorem dX3_setStuck_14 : decode cX3_setStuck 14 = .ok (.aload_n 0, 1) := by decide +kernel
theorem dX3_setStuck_15 : decode cX3_setStuck 15 = .ok (.getfield 26, 3) := by decide +kernel
theorem dX3_setStuck_18 : decode cX3_setStuck 18 = .ok (.getfield 123, 3) := by decide +kernel
theorem dX3_setStuck_21 : decode cX3_setStuck 21 = .ok (.iload_n 1, 1) := by decide +kernel
theorem dX3_setStuck_22 : decode cX3_setStuck 22 = .ok (.iload_n 2, 1) := by decide +kernel
theorem dX3_setStuck_23 : decode cX3_setStuck 23 = .ok (.bastore, 1) := by decide +kernel
theorem dX3_setStuck_24 : decode cX3_setStuck 24 = .ok (.iload_n 3, 1) := by decide +kernel
theorem dX3_setStuck_25 : decode cX3_setStuck 25 = .ok (.ireturn, 1) := by decide +kernel
set_option maxRecDepth 20000 in
theorem ggX3_setTimes_X3_requireWithin : GoodIn wsX3_setTimes wsX3_requireWithin := goodIn_ca (goodIn_r _ [7, 8, 9] (by decide +kernel) (by decide +kernel)) (goodIn_sub (fun _ h => List.mem_cons_of_mem _ (List.mem_append_right _ h)) (by decide +kernel))
set_option maxRecDepth 20000 in
theorem gX3_setTimes_X3_requireWithin : GoodIn wsX3_setTimes (va_wsS RX3 38 yX3_requireWithin wsX3_requireWithin) := goodIn_app (goodIn_of _ (by decide +kernel)) ggX3_setTimes_X3_requireWithin
theorem dX3_setTimes_0 : decode cX3_setTimes 0 = .ok (.iload_n 1, 1) := by decide +kernel
theorem dX3_setTimes_1 : decode cX3_setTimes 1 = .ok (.iconst 1, 1) := by decide +kernel
theorem dX3_setTimes_2 : decode cX3_setTimes 2 = .ok (.bipush 50, 2) := by decide +kernel
theorem dX3_setTimes_4 : decode cX3_setTimes 4 = .ok (.invokestatic 38, 3) := by decide +kernel
theorem dX3_setTimes_7 : decode cX3_setTimes 7 = .ok (.iload_n 2, 1) := by decide +kernel
theorem dX3_setTimes_8 : decode cX3_setTimes 8 = .ok (.iload_n 1, 1) := by decide +kernel
theorem dX3_setTimes_9 : decode cX3_setTimes 9 = .ok (.bipush 100, 2) := by decide +kernel
theorem dX3_setTimes_11 : decode cX3_setTimes 11 = .ok (.invokestatic 38, 3) := by decide +kernel
theorem dX3_setTimes_14 : decode cX3_setTimes 14 = .ok (.aload_n 0, 1) := by decide +kernel
theorem dX3_setTimes_15 : decode cX3_setTimes 15 = .ok (.getfield 26, 3) := by decide +kernel
theorem dX3_setTimes_18 : decode cX3_setTimes 18 = .ok (.iload_n 1, 1) := by decide +kernel
theorem dX3_setTimes_19 : decode cX3_setTimes 19 = .ok (.putfield 126, 3) := by decide +kernel
theorem dX3_setTimes_22 : decode cX3_setTimes 22 = .ok (.aload_n 0, 1) := by decide +kernel
theorem dX3_setTimes_23 : decode cX3_setTimes 23 = .ok (.getfield 26, 3) := by decide +kernel
theorem dX3_setTimes_26 : decode cX3_setTimes 26 = .ok (.iload_n 2, 1) := by decide +kernel
theorem dX3_setTimes_27 : decode cX3_setTimes 27 = .ok (.putfield 129, 3) := by decide +kernel
theorem dX3_setTimes_30 : decode cX3_setTimes 30 = .ok (.return_, 1) := by decide +kernel
set_option maxRecDepth 20000 in
theorem ggX3_believed_X3_requireNumber : GoodIn wsX3_believed wsX3_requireNumber := goodIn_ca (goodIn_r _ [6, 7, 8, 5, 9, 10, 11] (by decide +kernel) (by decide +kernel)) (goodIn_sub (fun _ h => List.mem_cons_of_mem _ (List.mem_append_right _ h)) (by decide +kernel))
set_option maxRecDepth 20000 in
theorem gX3_believed_X3_requireNumber : GoodIn wsX3_believed (va_wsS RX3 34 yX3_requireNumber wsX3_requireNumber) := goodIn_app (goodIn_of _ (by decide +kernel)) ggX3_believed_X3_requireNumber
set_option maxRecDepth 20000 in
theorem ggX3_believed_X1_hasNews : GoodIn wsX3_believed wsX1_hasNews := goodIn_r _ [16, 17, 22, 23, 24, 25, 26, 27, 28, 29, 30, 31, 32, 33] (by decide +kernel) (by decide +kernel)
set_option maxRecDepth 20000 in
theorem gX3_believed_X1_hasNews : GoodIn wsX3_believed (wsV RX3 132 RX1 yX1_hasNews wsX1_hasNews) := goodIn_app (goodIn_of _ (by decide +kernel)) ggX3_believed_X1_hasNews
theorem dX3_believed_0 : decode cX3_believed 0 = .ok (.iload_n 1, 1) := by decide +kernel
theorem dX3_believed_1 : decode cX3_believed 1 = .ok (.invokestatic 34, 3) := by decide +kernel
theorem dX3_believed_4 : decode cX3_believed 4 = .ok (.iload_n 2, 1) := by decide +kernel
theorem dX3_believed_5 : decode cX3_believed 5 = .ok (.invokestatic 34, 3) := by decide +kernel
theorem dX3_believed_8 : decode cX3_believed 8 = .ok (.aload_n 0, 1) := by decide +kernel
theorem dX3_believed_9 : decode cX3_believed 9 = .ok (.getfield 26, 3) := by decide +kernel
theorem dX3_believed_12 : decode cX3_believed 12 = .ok (.iload_n 1, 1) := by decide +kernel
theorem dX3_believed_13 : decode cX3_believed 13 = .ok (.iload_n 2, 1) := by decide +kernel
theorem dX3_believed_14 : decode cX3_believed 14 = .ok (.invokevirtual 132, 3) := by decide +kernel
theorem dX3_believed_17 : decode cX3_believed 17 = .ok (.ifCond .eq 17, 3) := by decide +kernel
theorem dX3_believed_20 : decode cX3_believed 20 = .ok (.aload_n 0, 1) := by decide +kernel
theorem dX3_believed_21 : decode cX3_believed 21 = .ok (.getfield 26, 3) := by decide +kernel
theorem dX3_believed_24 : decode cX3_believed 24 = .ok (.getfield 136, 3) := by decide +kernel
theorem dX3_believed_27 : decode cX3_believed 27 = .ok (.iload_n 1, 1) := by decide +kernel
theorem dX3_believed_28 : decode cX3_believed 28 = .ok (.aaload, 1) := by decide +kernel
theorem dX3_believed_29 : decode cX3_believed 29 = .ok (.iload_n 2, 1) := by decide +kernel
theorem dX3_believed_30 : decode cX3_believed 30 = .ok (.iaload, 1) := by decide +kernel
theorem dX3_believed_31 : decode cX3_believed 31 = .ok (.goto 4, 3) := by decide +kernel
theorem dX3_believed_34 : decode cX3_believed 34 = .ok (.iconst (-1), 1) := by decide +kernel
theorem dX3_believed_35 : decode cX3_believed 35 = .ok (.ireturn, 1) := by decide +kernel
set_option maxRecDepth 20000 in
theorem ggX3_version_X3_requireNumber : GoodIn wsX3_version wsX3_requireNumber := goodIn_ca (goodIn_r _ [6, 7, 8, 5, 9, 10, 11] (by decide +kernel) (by decide +kernel)) (goodIn_sub (fun _ h => List.mem_cons_of_mem _ (List.mem_append_right _ h)) (by decide +kernel))
set_option maxRecDepth 20000 in
theorem gX3_version_X3_requireNumber : GoodIn wsX3_version (va_wsS RX3 34 yX3_requireNumber wsX3_requireNumber) := goodIn_app (goodIn_of _ (by decide +kernel)) ggX3_version_X3_requireNumber
theorem dX3_version_0 : decode cX3_version 0 = .ok (.iload_n 1, 1) := by decide +kernel
theorem dX3_version_1 : decode cX3_version 1 = .ok (.invokestatic 34, 3) := by decide +kernel
theorem dX3_version_4 : decode cX3_version 4 = .ok (.iload_n 2, 1) := by decide +kernel
theorem dX3_version_5 : decode cX3_version 5 = .ok (.invokestatic 34, 3) := by decide +kernel
theorem dX3_version_8 : decode cX3_version 8 = .ok (.aload_n 0, 1) := by decide +kernel
theorem dX3_version_9 : decode cX3_version 9 = .ok (.getfield 26, 3) := by decide +kernel
theorem dX3_version_12 : decode cX3_version 12 = .ok (.getfield 139, 3) := by decide +kernel
theorem dX3_version_15 : decode cX3_version 15 = .ok (.iload_n 1, 1) := by decide +kernel
theorem dX3_version_16 : decode cX3_version 16 = .ok (.aaload, 1) := by decide +kernel
theorem dX3_version_17 : decode cX3_version 17 = .ok (.iload_n 2, 1) := by decide +kernel
theorem dX3_version_18 : decode cX3_version 18 = .ok (.iaload, 1) := by decide +kernel
theorem dX3_version_19 : decode cX3_version 19 = .ok (.ireturn, 1) := by decide +kernel
set_option maxRecDepth 20000 in
theorem ggX3_age_X3_requireNumber : GoodIn wsX3_age wsX3_requireNumber := goodIn_ca (goodIn_r _ [7, 8, 9, 6, 10, 11, 12] (by decide +kernel) (by decide +kernel)) (goodIn_sub (fun _ h => List.mem_cons_of_mem _ (List.mem_append_right _ h)) (by decide +kernel))
set_option maxRecDepth 20000 in
theorem gX3_age_X3_requireNumber : GoodIn wsX3_age (va_wsS RX3 34 yX3_requireNumber wsX3_requireNumber) := goodIn_app (goodIn_of _ (by decide +kernel)) ggX3_age_X3_requireNumber
set_option maxRecDepth 20000 in
theorem ggX3_age_X1_hasNews : GoodIn wsX3_age wsX1_hasNews := goodIn_r _ [17, 18, 23, 24, 25, 26, 27, 28, 29, 30, 31, 32, 33, 34] (by decide +kernel) (by decide +kernel)
set_option maxRecDepth 20000 in
theorem gX3_age_X1_hasNews : GoodIn wsX3_age (wsV RX3 132 RX1 yX1_hasNews wsX1_hasNews) := goodIn_app (goodIn_of _ (by decide +kernel)) ggX3_age_X1_hasNews
theorem dX3_age_0 : decode cX3_age 0 = .ok (.iload_n 1, 1) := by decide +kernel
theorem dX3_age_1 : decode cX3_age 1 = .ok (.invokestatic 34, 3) := by decide +kernel
theorem dX3_age_4 : decode cX3_age 4 = .ok (.iload_n 2, 1) := by decide +kernel
theorem dX3_age_5 : decode cX3_age 5 = .ok (.invokestatic 34, 3) := by decide +kernel
theorem dX3_age_8 : decode cX3_age 8 = .ok (.aload_n 0, 1) := by decide +kernel
theorem dX3_age_9 : decode cX3_age 9 = .ok (.getfield 26, 3) := by decide +kernel
theorem dX3_age_12 : decode cX3_age 12 = .ok (.iload_n 1, 1) := by decide +kernel
theorem dX3_age_13 : decode cX3_age 13 = .ok (.iload_n 2, 1) := by decide +kernel
theorem dX3_age_14 : decode cX3_age 14 = .ok (.invokevirtual 132, 3) := by decide +kernel
theorem dX3_age_17 : decode cX3_age 17 = .ok (.ifCond .eq 22, 3) := by decide +kernel
theorem dX3_age_20 : decode cX3_age 20 = .ok (.aload_n 0, 1) := by decide +kernel
theorem dX3_age_21 : decode cX3_age 21 = .ok (.getfield 30, 3) := by decide +kernel
theorem dX3_age_24 : decode cX3_age 24 = .ok (.aload_n 0, 1) := by decide +kernel
theorem dX3_age_25 : decode cX3_age 25 = .ok (.getfield 26, 3) := by decide +kernel
theorem dX3_age_28 : decode cX3_age 28 = .ok (.getfield 142, 3) := by decide +kernel
theorem dX3_age_31 : decode cX3_age 31 = .ok (.iload_n 1, 1) := by decide +kernel
theorem dX3_age_32 : decode cX3_age 32 = .ok (.aaload, 1) := by decide +kernel
theorem dX3_age_33 : decode cX3_age 33 = .ok (.iload_n 2, 1) := by decide +kernel
theorem dX3_age_34 : decode cX3_age 34 = .ok (.iaload, 1) := by decide +kernel
theorem dX3_age_35 : decode cX3_age 35 = .ok (.isub, 1) := by decide +kernel
theorem dX3_age_36 : decode cX3_age 36 = .ok (.goto 4, 3) := by decide +kernel
theorem dX3_age_39 : decode cX3_age 39 = .ok (.iconst (-1), 1) := by decide +kernel
theorem dX3_age_40 : decode cX3_age 40 = .ok (.ireturn, 1) := by decide +kernel
set_option maxRecDepth 20000 in
theorem ggX3_beat_X3_requireNumber : GoodIn wsX3_beat wsX3_requireNumber := goodIn_ca (goodIn_r _ [6, 7, 8, 5, 9, 10, 11] (by decide +kernel) (by decide +kernel)) (goodIn_sub (fun _ h => List.mem_cons_of_mem _ (List.mem_append_right _ h)) (by decide +kernel))
set_option maxRecDepth 20000 in
theorem gX3_beat_X3_requireNumber : GoodIn wsX3_beat (va_wsS RX3 34 yX3_requireNumber wsX3_requireNumber) := goodIn_app (goodIn_of _ (by decide +kernel)) ggX3_beat_X3_requireNumber
theorem dX3_beat_0 : decode cX3_beat 0 = .ok (.iload_n 1, 1) := by decide +kernel
theorem dX3_beat_1 : decode cX3_beat 1 = .ok (.invokestatic 34, 3) := by decide +kernel
theorem dX3_beat_4 : decode cX3_beat 4 = .ok (.iload_n 2, 1) := by decide +kernel
theorem dX3_beat_5 : decode cX3_beat 5 = .ok (.invokestatic 34, 3) := by decide +kernel
theorem dX3_beat_8 : decode cX3_beat 8 = .ok (.aload_n 0, 1) := by decide +kernel
theorem dX3_beat_9 : decode cX3_beat 9 = .ok (.getfield 26, 3) := by decide +kernel
theorem dX3_beat_12 : decode cX3_beat 12 = .ok (.getfield 145, 3) := by decide +kernel
theorem dX3_beat_15 : decode cX3_beat 15 = .ok (.iload_n 1, 1) := by decide +kernel
theorem dX3_beat_16 : decode cX3_beat 16 = .ok (.aaload, 1) := by decide +kernel
theorem dX3_beat_17 : decode cX3_beat 17 = .ok (.iload_n 2, 1) := by decide +kernel
theorem dX3_beat_18 : decode cX3_beat 18 = .ok (.iaload, 1) := by decide +kernel
theorem dX3_beat_19 : decode cX3_beat 19 = .ok (.ireturn, 1) := by decide +kernel
set_option maxRecDepth 20000 in
theorem ggX3_status_X3_requireNumber : GoodIn wsX3_status wsX3_requireNumber := goodIn_ca (goodIn_r _ [6, 7, 8, 5, 9, 10, 11] (by decide +kernel) (by decide +kernel)) (goodIn_sub (fun _ h => List.mem_cons_of_mem _ (List.mem_append_right _ h)) (by decide +kernel))
set_option maxRecDepth 20000 in
theorem gX3_status_X3_requireNumber : GoodIn wsX3_status (va_wsS RX3 34 yX3_requireNumber wsX3_requireNumber) := goodIn_app (goodIn_of _ (by decide +kernel)) ggX3_status_X3_requireNumber
theorem dX3_status_0 : decode cX3_status 0 = .ok (.iload_n 1, 1) := by decide +kernel
theorem dX3_status_1 : decode cX3_status 1 = .ok (.invokestatic 34, 3) := by decide +kernel
theorem dX3_status_4 : decode cX3_status 4 = .ok (.iload_n 2, 1) := by decide +kernel
theorem dX3_status_5 : decode cX3_status 5 = .ok (.invokestatic 34, 3) := by decide +kernel
theorem dX3_status_8 : decode cX3_status 8 = .ok (.aload_n 0, 1) := by decide +kernel
theorem dX3_status_9 : decode cX3_status 9 = .ok (.getfield 26, 3) := by decide +kernel
theorem dX3_status_12 : decode cX3_status 12 = .ok (.getfield 148, 3) := by decide +kernel
theorem dX3_status_15 : decode cX3_status 15 = .ok (.iload_n 1, 1) := by decide +kernel
theorem dX3_status_16 : decode cX3_status 16 = .ok (.aaload, 1) := by decide +kernel
theorem dX3_status_17 : decode cX3_status 17 = .ok (.iload_n 2, 1) := by decide +kernel
theorem dX3_status_18 : decode cX3_status 18 = .ok (.iaload, 1) := by decide +kernel
theorem dX3_status_19 : decode cX3_status 19 = .ok (.ireturn, 1) := by decide +kernel
set_option maxRecDepth 20000 in
theorem ggX3_partner_X3_requireNumber : GoodIn wsX3_partner wsX3_requireNumber := goodIn_ca (goodIn_r _ [7, 8, 9, 6, 10, 11, 12] (by decide +kernel) (by decide +kernel)) (goodIn_sub (fun _ h => List.mem_cons_of_mem _ (List.mem_append_right _ h)) (by decide +kernel))
set_option maxRecDepth 20000 in
theorem gX3_partner_X3_requireNumber : GoodIn wsX3_partner (va_wsS RX3 34 yX3_requireNumber wsX3_requireNumber) := goodIn_app (goodIn_of _ (by decide +kernel)) ggX3_partner_X3_requireNumber
set_option maxRecDepth 20000 in
theorem ggX3_partner_X1_calledBy : GoodIn wsX3_partner wsX1_calledBy := goodIn_r _ [17, 18, 19, 20, 16, 21, 22, 27, 28, 29, 30, 31, 32, 33, 34, 35, 36, 37, 38] (by decide +kernel) (by decide +kernel)
set_option maxRecDepth 20000 in
theorem gX3_partner_X1_calledBy : GoodIn wsX3_partner (wsV RX3 151 RX1 yX1_calledBy wsX1_calledBy) := goodIn_app (goodIn_of _ (by decide +kernel)) ggX3_partner_X1_calledBy
theorem dX3_partner_0 : decode cX3_partner 0 = .ok (.iload_n 1, 1) := by decide +kernel
theorem dX3_partner_1 : decode cX3_partner 1 = .ok (.invokestatic 34, 3) := by decide +kernel
theorem dX3_partner_4 : decode cX3_partner 4 = .ok (.aload_n 0, 1) := by decide +kernel
theorem dX3_partner_5 : decode cX3_partner 5 = .ok (.getfield 26, 3) := by decide +kernel
theorem dX3_partner_8 : decode cX3_partner 8 = .ok (.getfield 103, 3) := by decide +kernel
theorem dX3_partner_11 : decode cX3_partner 11 = .ok (.iload_n 1, 1) := by decide +kernel
theorem dX3_partner_12 : decode cX3_partner 12 = .ok (.baload, 1) := by decide +kernel
theorem dX3_partner_13 : decode cX3_partner 13 = .ok (.ifCond .eq 7, 3) := by decide +kernel
theorem dX3_partner_16 : decode cX3_partner 16 = .ok (.iconst (-1), 1) := by decide +kernel
theorem dX3_partner_17 : decode cX3_partner 17 = .ok (.goto 17, 3) := by decide +kernel
theorem dX3_partner_20 : decode cX3_partner 20 = .ok (.aload_n 0, 1) := by decide +kernel
theorem dX3_partner_21 : decode cX3_partner 21 = .ok (.getfield 26, 3) := by decide +kernel
theorem dX3_partner_24 : decode cX3_partner 24 = .ok (.iload_n 1, 1) := by decide +kernel
theorem dX3_partner_25 : decode cX3_partner 25 = .ok (.aload_n 0, 1) := by decide +kernel
theorem dX3_partner_26 : decode cX3_partner 26 = .ok (.getfield 30, 3) := by decide +kernel
theorem dX3_partner_29 : decode cX3_partner 29 = .ok (.iconst 1, 1) := by decide +kernel
theorem dX3_partner_30 : decode cX3_partner 30 = .ok (.iadd, 1) := by decide +kernel
theorem dX3_partner_31 : decode cX3_partner 31 = .ok (.invokevirtual 151, 3) := by decide +kernel
theorem dX3_partner_34 : decode cX3_partner 34 = .ok (.ireturn, 1) := by decide +kernel
set_option maxRecDepth 20000 in
theorem ggX3_freshest_X3_requireNumber : GoodIn wsX3_freshest wsX3_requireNumber := goodIn_ca (goodIn_r _ [5, 6, 7, 4, 8, 9, 10] (by decide +kernel) (by decide +kernel)) (goodIn_sub (fun _ h => List.mem_cons_of_mem _ (List.mem_append_right _ h)) (by decide +kernel))
set_option maxRecDepth 20000 in
theorem gX3_freshest_X3_requireNumber : GoodIn wsX3_freshest (va_wsS RX3 34 yX3_requireNumber wsX3_requireNumber) := goodIn_app (goodIn_of _ (by decide +kernel)) ggX3_freshest_X3_requireNumber
set_option maxRecDepth 20000 in
theorem ggX3_freshest_X1_freshestOf : GoodIn wsX3_freshest wsX1_freshestOf := goodIn_r _ [15, 16, 21, 22, 23, 24, 25, 26, 27, 28, 29, 30, 31, 32] (by decide +kernel) (by decide +kernel)
set_option maxRecDepth 20000 in
theorem gX3_freshest_X1_freshestOf : GoodIn wsX3_freshest (wsV RX3 155 RX1 yX1_freshestOf wsX1_freshestOf) := goodIn_app (goodIn_of _ (by decide +kernel)) ggX3_freshest_X1_freshestOf
theorem dX3_freshest_0 : decode cX3_freshest 0 = .ok (.iload_n 1, 1) := by decide +kernel
theorem dX3_freshest_1 : decode cX3_freshest 1 = .ok (.invokestatic 34, 3) := by decide +kernel
theorem dX3_freshest_4 : decode cX3_freshest 4 = .ok (.aload_n 0, 1) := by decide +kernel
theorem dX3_freshest_5 : decode cX3_freshest 5 = .ok (.getfield 26, 3) := by decide +kernel
theorem dX3_freshest_8 : decode cX3_freshest 8 = .ok (.iload_n 1, 1) := by decide +kernel
theorem dX3_freshest_9 : decode cX3_freshest 9 = .ok (.invokevirtual 155, 3) := by decide +kernel
theorem dX3_freshest_12 : decode cX3_freshest 12 = .ok (.ireturn, 1) := by decide +kernel
set_option maxRecDepth 20000 in
theorem ggX3_agree_X3_requireNumber : GoodIn wsX3_agree wsX3_requireNumber := goodIn_ca (goodIn_r _ [6, 7, 8, 5, 9, 10, 11] (by decide +kernel) (by decide +kernel)) (goodIn_sub (fun _ h => List.mem_cons_of_mem _ (List.mem_append_right _ h)) (by decide +kernel))
set_option maxRecDepth 20000 in
theorem gX3_agree_X3_requireNumber : GoodIn wsX3_agree (va_wsS RX3 34 yX3_requireNumber wsX3_requireNumber) := goodIn_app (goodIn_of _ (by decide +kernel)) ggX3_agree_X3_requireNumber
set_option maxRecDepth 20000 in
theorem ggX3_agree_X2_levelOf : GoodIn wsX3_agree wsX2_levelOf := goodIn_r _ [16, 17, 18, 35, 36, 37, 38, 39, 40, 41, 42] (by decide +kernel) (by decide +kernel)
set_option maxRecDepth 20000 in
theorem gX3_agree_X2_levelOf : GoodIn wsX3_agree (wsV RX3 65 RX2 yX2_levelOf wsX2_levelOf) := goodIn_app (goodIn_of _ (by decide +kernel)) ggX3_agree_X2_levelOf
set_option maxRecDepth 20000 in
theorem ggX3_agree_X1_believersOf : GoodIn wsX3_agree wsX1_believersOf := goodIn_r _ [23, 24, 25, 26, 27, 28, 22, 29, 30, 43, 44, 45, 46, 47, 48, 49, 50, 51, 52, 53, 54] (by decide +kernel) (by decide +kernel)
set_option maxRecDepth 20000 in
theorem gX3_agree_X1_believersOf : GoodIn wsX3_agree (wsV RX3 158 RX1 yX1_believersOf wsX1_believersOf) := goodIn_app (goodIn_of _ (by decide +kernel)) ggX3_agree_X1_believersOf
theorem dX3_agree_0 : decode cX3_agree 0 = .ok (.iload_n 1, 1) := by decide +kernel
theorem dX3_agree_1 : decode cX3_agree 1 = .ok (.invokestatic 34, 3) := by decide +kernel
theorem dX3_agree_4 : decode cX3_agree 4 = .ok (.aload_n 0, 1) := by decide +kernel
theorem dX3_agree_5 : decode cX3_agree 5 = .ok (.getfield 26, 3) := by decide +kernel
theorem dX3_agree_8 : decode cX3_agree 8 = .ok (.iload_n 1, 1) := by decide +kernel
theorem dX3_agree_9 : decode cX3_agree 9 = .ok (.aload_n 0, 1) := by decide +kernel
theorem dX3_agree_10 : decode cX3_agree 10 = .ok (.getfield 10, 3) := by decide +kernel
theorem dX3_agree_13 : decode cX3_agree 13 = .ok (.iload_n 1, 1) := by decide +kernel
theorem dX3_agree_14 : decode cX3_agree 14 = .ok (.invokevirtual 65, 3) := by decide +kernel
theorem dX3_agree_17 : decode cX3_agree 17 = .ok (.invokevirtual 158, 3) := by decide +kernel
theorem dX3_agree_20 : decode cX3_agree 20 = .ok (.ireturn, 1) := by decide +kernel
set_option maxRecDepth 20000 in
theorem ggX3_unnoticed_X1_countUnnoticed : GoodIn wsX3_unnoticed wsX1_countUnnoticed := goodIn_r _ [6, 7, 8, 9, 10, 5, 11, 12, 17, 18, 19, 20, 21, 22, 23, 24, 25, 26, 27, 28] (by decide +kernel) (by decide +kernel)
set_option maxRecDepth 20000 in
theorem gX3_unnoticed_X1_countUnnoticed : GoodIn wsX3_unnoticed (wsV RX3 161 RX1 yX1_countUnnoticed wsX1_countUnnoticed) := goodIn_app (goodIn_of _ (by decide +kernel)) ggX3_unnoticed_X1_countUnnoticed
theorem dX3_unnoticed_0 : decode cX3_unnoticed 0 = .ok (.aload_n 0, 1) := by decide +kernel
theorem dX3_unnoticed_1 : decode cX3_unnoticed 1 = .ok (.getfield 26, 3) := by decide +kernel
theorem dX3_unnoticed_4 : decode cX3_unnoticed 4 = .ok (.invokevirtual 161, 3) := by decide +kernel
theorem dX3_unnoticed_7 : decode cX3_unnoticed 7 = .ok (.ireturn, 1) := by decide +kernel
set_option maxRecDepth 20000 in
theorem ggX3_mistaken_X1_countMistaken : GoodIn wsX3_mistaken wsX1_countMistaken := goodIn_r _ [6, 7, 8, 9, 10, 5, 11, 12, 17, 18, 19, 20, 21, 22, 23, 24, 25, 26, 27, 28] (by decide +kernel) (by decide +kernel)
set_option maxRecDepth 20000 in
theorem gX3_mistaken_X1_countMistaken : GoodIn wsX3_mistaken (wsV RX3 165 RX1 yX1_countMistaken wsX1_countMistaken) := goodIn_app (goodIn_of _ (by decide +kernel)) ggX3_mistaken_X1_countMistaken
theorem dX3_mistaken_0 : decode cX3_mistaken 0 = .ok (.aload_n 0, 1) := by decide +kernel
theorem dX3_mistaken_1 : decode cX3_mistaken 1 = .ok (.getfield 26, 3) := by decide +kernel
theorem dX3_mistaken_4 : decode cX3_mistaken 4 = .ok (.invokevirtual 165, 3) := by decide +kernel
theorem dX3_mistaken_7 : decode cX3_mistaken 7 = .ok (.ireturn, 1) := by decide +kernel
theorem dX3_vain_0 : decode cX3_vain 0 = .ok (.aload_n 0, 1) := by decide +kernel
theorem dX3_vain_1 : decode cX3_vain 1 = .ok (.getfield 26, 3) := by decide +kernel
theorem dX3_vain_4 : decode cX3_vain 4 = .ok (.getfield 168, 3) := by decide +kernel
theorem dX3_vain_7 : decode cX3_vain 7 = .ok (.ireturn, 1) := by decide +kernel
set_option maxRecDepth 20000 in
theorem ggX3_tick_X3_requireWithin : GoodIn wsX3_tick wsX3_requireWithin := goodIn_ca (goodIn_r _ [7, 8, 9] (by decide +kernel) (by decide +kernel)) (goodIn_sub (fun _ h => List.mem_cons_of_mem _ (List.mem_append_right _ h)) (by decide +kernel))
set_option maxRecDepth 20000 in
theorem gX3_tick_X3_requireWithin : GoodIn wsX3_tick (va_wsS RX3 38 yX3_requireWithin wsX3_requireWithin) := goodIn_app (goodIn_of _ (by decide +kernel)) ggX3_tick_X3_requireWithin
set_option maxRecDepth 20000 in
theorem ggX3_tick_X3_passOneTick : GoodIn wsX3_tick wsX3_passOneTick := goodIn_r _ [13, 3, 14, 15, 16, 17, 18, 19, 20, 21, 22, 23, 24, 25, 26, 27, 28, 29, 30, 31, 32, 33, 34, 35, 36, 37, 38, 39, 40, 41, 42, 43, 44, 45, 46, 47, 48, 49, 50, 51, 52, 53, 54, 55, 56, 57, 58, 59, 60, 61, 62, 63, 64, 65, 66, 67, 68, 69, 70, 71, 72, 73, 74, 75, 76, 77, 78, 79, 80, 81, 82, 83, 84, 85, 86, 87, 88, 89, 90, 91, 92, 93, 94, 95, 96, 97, 98, 99, 100, 101, 102, 103, 104, 105, 106, 107, 108, 109, 110, 111, 112, 113, 114, 115, 116, 117, 118, 119, 120, 121, 122, 123, 124, 125, 126, 127, 6, 128, 129, 130, 131, 132, 133, 134, 135, 136, 137, 138, 139, 140, 141, 142, 143, 144, 145, 146, 147, 148, 149, 150, 151, 152, 153, 154, 155, 156, 157, 158, 159, 160, 161, 162, 163, 164, 165, 166, 167, 168, 169, 170, 171, 172, 173, 174, 175, 176, 177, 178, 179, 180, 181, 182, 183, 184, 185, 186, 187, 188, 189, 190] (by decide +kernel) (by decide +kernel)
set_option maxRecDepth 20000 in
theorem gX3_tick_X3_passOneTick : GoodIn wsX3_tick (wsV RX3 173 RX3 yX3_passOneTick wsX3_passOneTick) := goodIn_app (goodIn_of _ (by decide +kernel)) ggX3_tick_X3_passOneTick
theorem dX3_tick_0 : decode cX3_tick 0 = .ok (.iload_n 1, 1) := by decide +kernel
theorem dX3_tick_1 : decode cX3_tick 1 = .ok (.iconst 1, 1) := by decide +kernel
theorem dX3_tick_2 : decode cX3_tick 2 = .ok (.bipush 100, 2) := by decide +kernel
theorem dX3_tick_4 : decode cX3_tick 4 = .ok (.invokestatic 38, 3) := by decide +kernel
theorem dX3_tick_7 : decode cX3_tick 7 = .ok (.aload_n 0, 1) := by decide +kernel
theorem dX3_tick_8 : decode cX3_tick 8 = .ok (.getfield 30, 3) := by decide +kernel
theorem dX3_tick_11 : decode cX3_tick 11 = .ok (.iload_n 1, 1) := by decide +kernel
theorem dX3_tick_12 : decode cX3_tick 12 = .ok (.iadd, 1) := by decide +kernel
theorem dX3_tick_13 : decode cX3_tick 13 = .ok (.sipush 5000, 3) := by decide +kernel
theorem dX3_tick_16 : decode cX3_tick 16 = .ok (.if_icmp .le 13, 3) := by decide +kernel
theorem dX3_tick_19 : decode cX3_tick 19 = .ok (.new 90, 3) := by decide +kernel
theorem dX3_tick_22 : decode cX3_tick 22 = .ok (.dup, 1) := by decide +kernel
theorem dX3_tick_23 : decode cX3_tick 23 = .ok (.ldc 171, 2) := by decide +kernel
theorem dX3_tick_25 : decode cX3_tick 25 = .ok (.invokespecial 94, 3) := by decide +kernel
theorem dX3_tick_28 : decode cX3_tick 28 = .ok (.athrow, 1) := by decide +kernel
theorem dX3_tick_29 : decode cX3_tick 29 = .ok (.iconst 0, 1) := by decide +kernel
theorem dX3_tick_30 : decode cX3_tick 30 = .ok (.istore_n 2, 1) := by decide +kernel
theorem dX3_tick_31 : decode cX3_tick 31 = .ok (.iconst 0, 1) := by decide +kernel
theorem dX3_tick_32 : decode cX3_tick 32 = .ok (.istore_n 3, 1) := by decide +kernel
theorem dX3_tick_33 : decode cX3_tick 33 = .ok (.iload_n 3, 1) := by decide +kernel
theorem dX3_tick_34 : decode cX3_tick 34 = .ok (.iload_n 1, 1) := by decide +kernel
theorem dX3_tick_35 : decode cX3_tick 35 = .ok (.if_icmp .ge 16, 3) := by decide +kernel
theorem dX3_tick_38 : decode cX3_tick 38 = .ok (.iload_n 2, 1) := by decide +kernel
theorem dX3_tick_39 : decode cX3_tick 39 = .ok (.aload_n 0, 1) := by decide +kernel
theorem dX3_tick_40 : decode cX3_tick 40 = .ok (.invokevirtual 173, 3) := by decide +kernel
theorem dX3_tick_43 : decode cX3_tick 43 = .ok (.iadd, 1) := by decide +kernel
theorem dX3_tick_44 : decode cX3_tick 44 = .ok (.istore_n 2, 1) := by decide +kernel
theorem dX3_tick_45 : decode cX3_tick 45 = .ok (.iinc 3 1, 3) := by decide +kernel
theorem dX3_tick_48 : decode cX3_tick 48 = .ok (.goto (-15), 3) := by decide +kernel
theorem dX3_tick_51 : decode cX3_tick 51 = .ok (.iload_n 2, 1) := by decide +kernel
theorem dX3_tick_52 : decode cX3_tick 52 = .ok (.ireturn, 1) := by decide +kernel
theorem dX3_time_0 : decode cX3_time 0 = .ok (.aload_n 0, 1) := by decide +kernel
theorem dX3_time_1 : decode cX3_time 1 = .ok (.getfield 30, 3) := by decide +kernel
theorem dX3_time_4 : decode cX3_time 4 = .ok (.ireturn, 1) := by decide +kernel
set_option maxRecDepth 20000 in
theorem ggX3_passOneTick_X2_takeIn : GoodIn wsX3_passOneTick wsX2_takeIn := goodIn_r _ [9, 10, 11, 12, 13, 14, 8, 15, 16, 17, 152, 153, 154, 155, 156, 157, 158, 159] (by decide +kernel) (by decide +kernel)
set_option maxRecDepth 20000 in
theorem gX3_passOneTick_X2_takeIn : GoodIn wsX3_passOneTick (wsV RX3 176 RX2 yX2_takeIn wsX2_takeIn) := goodIn_app (goodIn_of _ (by decide +kernel)) ggX3_passOneTick_X2_takeIn
set_option maxRecDepth 20000 in
theorem ggX3_passOneTick_X2_letThrough : GoodIn wsX3_passOneTick wsX2_letThrough := goodIn_r _ [21, 16, 22, 23, 24, 25, 26, 27, 28, 29, 30, 31, 32, 33, 34, 35, 36, 8, 37, 152, 153, 154, 155, 156, 157, 158, 159, 160, 161, 162, 163, 164, 165, 166, 167] (by decide +kernel) (by decide +kernel)
set_option maxRecDepth 20000 in
theorem gX3_passOneTick_X2_letThrough : GoodIn wsX3_passOneTick (wsV RX3 179 RX2 yX2_letThrough wsX2_letThrough) := goodIn_app (goodIn_of _ (by decide +kernel)) ggX3_passOneTick_X2_letThrough
set_option maxRecDepth 20000 in
theorem ggX3_passOneTick_X2_spillOver : GoodIn wsX3_passOneTick wsX2_spillOver := goodIn_r _ [41, 16, 42, 43, 44, 45, 24, 46, 47, 34, 35, 36, 8, 37, 152, 153, 154, 155, 156, 157, 158, 159] (by decide +kernel) (by decide +kernel)
set_option maxRecDepth 20000 in
theorem gX3_passOneTick_X2_spillOver : GoodIn wsX3_passOneTick (wsV RX3 183 RX2 yX2_spillOver wsX2_spillOver) := goodIn_app (goodIn_of _ (by decide +kernel)) ggX3_passOneTick_X2_spillOver
set_option maxRecDepth 20000 in
theorem ggX3_passOneTick_X1_measureAll : GoodIn wsX3_passOneTick wsX1_measureAll := goodIn_r _ [52, 53, 54, 55, 56, 8, 57, 42, 16, 58, 59, 60, 51, 61, 62, 63, 64, 65, 66, 67, 168, 169, 170, 171, 172, 173, 174, 175, 176, 177, 178, 179, 152, 153, 154, 155, 156, 157, 158, 159] (by decide +kernel) (by decide +kernel)
set_option maxRecDepth 20000 in
theorem gX3_passOneTick_X1_measureAll : GoodIn wsX3_passOneTick (wsV RX3 186 RX1 yX1_measureAll wsX1_measureAll) := goodIn_app (goodIn_of _ (by decide +kernel)) ggX3_passOneTick_X1_measureAll
set_option maxRecDepth 20000 in
theorem ggX3_passOneTick_X1_callAll : GoodIn wsX3_passOneTick wsX1_callAll := goodIn_r _ [71, 53, 72, 73, 74, 51, 75, 76, 77, 78, 79, 80, 81, 82, 83, 84, 85, 86, 87, 88, 89, 90, 91, 92, 93, 94, 65, 63, 64, 95, 96, 97, 98, 66, 67, 168, 169, 170, 171, 172, 173, 174, 175, 176, 177, 178, 179] (by decide +kernel) (by decide +kernel)
set_option maxRecDepth 20000 in
theorem gX3_passOneTick_X1_callAll : GoodIn wsX3_passOneTick (wsV RX3 190 RX1 yX1_callAll wsX1_callAll) := goodIn_app (goodIn_of _ (by decide +kernel)) ggX3_passOneTick_X1_callAll
set_option maxRecDepth 20000 in
theorem ggX3_passOneTick_X1_lookAll : GoodIn wsX3_passOneTick wsX1_lookAll := goodIn_r _ [102, 53, 103, 104, 105, 51, 106, 86, 67, 107, 108, 109, 110, 111, 112, 168, 169, 170, 171, 172, 173, 174, 175, 176, 177, 178, 179] (by decide +kernel) (by decide +kernel)
set_option maxRecDepth 20000 in
theorem gX3_passOneTick_X1_lookAll : GoodIn wsX3_passOneTick (wsV RX3 193 RX1 yX1_lookAll wsX1_lookAll) := goodIn_app (goodIn_of _ (by decide +kernel)) ggX3_passOneTick_X1_lookAll
set_option maxRecDepth 20000 in
theorem ggX3_passOneTick_X3_ruleGates : GoodIn wsX3_passOneTick wsX3_ruleGates := goodIn_r _ [117, 4, 118, 3, 119, 120, 121, 122, 116, 123, 1, 124, 125, 126, 127, 128, 129, 51, 130, 64, 131, 132, 133, 134, 65, 135, 136, 137, 30, 138, 32, 139, 23, 24, 25, 140, 141, 142, 143, 144, 145, 146, 147, 45, 46, 148, 149, 150, 151, 168, 169, 170, 171, 172, 173, 174, 175, 176, 177, 178, 179, 160, 161, 162, 163, 164, 165, 166, 167] (by decide +kernel) (by decide +kernel)
set_option maxRecDepth 20000 in
theorem gX3_passOneTick_X3_ruleGates : GoodIn wsX3_passOneTick (wsV RX3 196 RX3 yX3_ruleGates wsX3_ruleGates) := goodIn_app (goodIn_of _ (by decide +kernel)) ggX3_passOneTick_X3_ruleGates
theorem dX3_passOneTick_0 : decode cX3_passOneTick 0 = .ok (.aload_n 0, 1) := by decide +kernel
theorem dX3_passOneTick_1 : decode cX3_passOneTick 1 = .ok (.dup, 1) := by decide +kernel
theorem dX3_passOneTick_2 : decode cX3_passOneTick 2 = .ok (.getfield 30, 3) := by decide +kernel
theorem dX3_passOneTick_5 : decode cX3_passOneTick 5 = .ok (.iconst 1, 1) := by decide +kernel
theorem dX3_passOneTick_6 : decode cX3_passOneTick 6 = .ok (.iadd, 1) := by decide +kernel
theorem dX3_passOneTick_7 : decode cX3_passOneTick 7 = .ok (.putfield 30, 3) := by decide +kernel
theorem dX3_passOneTick_10 : decode cX3_passOneTick 10 = .ok (.aload_n 0, 1) := by decide +kernel
theorem dX3_passOneTick_11 : decode cX3_passOneTick 11 = .ok (.getfield 10, 3) := by decide +kernel
theorem dX3_passOneTick_14 : decode cX3_passOneTick 14 = .ok (.invokevirtual 176, 3) := by decide +kernel
theorem dX3_passOneTick_17 : decode cX3_passOneTick 17 = .ok (.aload_n 0, 1) := by decide +kernel
theorem dX3_passOneTick_18 : decode cX3_passOneTick 18 = .ok (.getfield 10, 3) := by decide +kernel
theorem dX3_passOneTick_21 : decode cX3_passOneTick 21 = .ok (.aload_n 0, 1) := by decide +kernel
theorem dX3_passOneTick_22 : decode cX3_passOneTick 22 = .ok (.getfield 19, 3) := by decide +kernel
theorem dX3_passOneTick_25 : decode cX3_passOneTick 25 = .ok (.invokevirtual 179, 3) := by decide +kernel
theorem dX3_passOneTick_28 : decode cX3_passOneTick 28 = .ok (.aload_n 0, 1) := by decide +kernel
theorem dX3_passOneTick_29 : decode cX3_passOneTick 29 = .ok (.getfield 10, 3) := by decide +kernel
theorem dX3_passOneTick_32 : decode cX3_passOneTick 32 = .ok (.invokevirtual 183, 3) := by decide +kernel
theorem dX3_passOneTick_35 : decode cX3_passOneTick 35 = .ok (.istore_n 1, 1) := by decide +kernel
theorem dX3_passOneTick_36 : decode cX3_passOneTick 36 = .ok (.aload_n 0, 1) := by decide +kernel
theorem dX3_passOneTick_37 : decode cX3_passOneTick 37 = .ok (.getfield 26, 3) := by decide +kernel
theorem dX3_passOneTick_40 : decode cX3_passOneTick 40 = .ok (.aload_n 0, 1) := by decide +kernel
theorem dX3_passOneTick_41 : decode cX3_passOneTick 41 = .ok (.getfield 10, 3) := by decide +kernel
theorem dX3_passOneTick_44 : decode cX3_passOneTick 44 = .ok (.aload_n 0, 1) := by decide +kernel
theorem dX3_passOneTick_45 : decode cX3_passOneTick 45 = .ok (.getfield 30, 3) := by decide +kernel
theorem dX3_passOneTick_48 : decode cX3_passOneTick 48 = .ok (.invokevirtual 186, 3) := by decide +kernel
theorem dX3_passOneTick_51 : decode cX3_passOneTick 51 = .ok (.aload_n 0, 1) := by decide +kernel
theorem dX3_passOneTick_52 : decode cX3_passOneTick 52 = .ok (.getfield 26, 3) := by decide +kernel
theorem dX3_passOneTick_55 : decode cX3_passOneTick 55 = .ok (.aload_n 0, 1) := by decide +kernel
theorem dX3_passOneTick_56 : decode cX3_passOneTick 56 = .ok (.getfield 30, 3) := by decide +kernel
theorem dX3_passOneTick_59 : decode cX3_passOneTick 59 = .ok (.invokevirtual 190, 3) := by decide +kernel
theorem dX3_passOneTick_62 : decode cX3_passOneTick 62 = .ok (.aload_n 0, 1) := by decide +kernel
theorem dX3_passOneTick_63 : decode cX3_passOneTick 63 = .ok (.getfield 26, 3) := by decide +kernel
theorem dX3_passOneTick_66 : decode cX3_passOneTick 66 = .ok (.aload_n 0, 1) := by decide +kernel
theorem dX3_passOneTick_67 : decode cX3_passOneTick 67 = .ok (.getfield 30, 3) := by decide +kernel
theorem dX3_passOneTick_70 : decode cX3_passOneTick 70 = .ok (.invokevirtual 193, 3) := by decide +kernel
theorem dX3_passOneTick_73 : decode cX3_passOneTick 73 = .ok (.aload_n 0, 1) := by decide +kernel
theorem dX3_passOneTick_74 : decode cX3_passOneTick 74 = .ok (.invokevirtual 196, 3) := by decide +kernel
theorem dX3_passOneTick_77 : decode cX3_passOneTick 77 = .ok (.iload_n 1, 1) := by decide +kernel
theorem dX3_passOneTick_78 : decode cX3_passOneTick 78 = .ok (.ireturn, 1) := by decide +kernel
set_option maxRecDepth 20000 in
theorem ggX3_ruleGates_X3_ruleGate : GoodIn wsX3_ruleGates wsX3_ruleGate := goodIn_r _ [9, 1, 10, 3, 11, 12, 13, 14, 15, 16, 17, 18, 19, 20, 21, 22, 23, 24, 25, 26, 27, 28, 29, 30, 31, 32, 33, 34, 35, 36, 37, 38, 39, 40, 41, 42, 43, 44, 45, 46, 47, 48, 61, 62, 63, 64, 65, 66, 67, 68, 49, 50, 51, 52, 53, 54, 55, 56, 57, 58, 59, 60] (by decide +kernel) (by decide +kernel)
set_option maxRecDepth 20000 in
theorem gX3_ruleGates_X3_ruleGate : GoodIn wsX3_ruleGates (wsV RX3 199 RX3 yX3_ruleGate wsX3_ruleGate) := goodIn_app (goodIn_of _ (by decide +kernel)) ggX3_ruleGates_X3_ruleGate
theorem dX3_ruleGates_0 : decode cX3_ruleGates 0 = .ok (.iconst 0, 1) := by decide +kernel
theorem dX3_ruleGates_1 : decode cX3_ruleGates 1 = .ok (.istore_n 1, 1) := by decide +kernel
theorem dX3_ruleGates_2 : decode cX3_ruleGates 2 = .ok (.iload_n 1, 1) := by decide +kernel
theorem dX3_ruleGates_3 : decode cX3_ruleGates 3 = .ok (.bipush 8, 2) := by decide +kernel
theorem dX3_ruleGates_5 : decode cX3_ruleGates 5 = .ok (.if_icmp .ge 38, 3) := by decide +kernel
theorem dX3_ruleGates_8 : decode cX3_ruleGates 8 = .ok (.aload_n 0, 1) := by decide +kernel
theorem dX3_ruleGates_9 : decode cX3_ruleGates 9 = .ok (.getfield 26, 3) := by decide +kernel
theorem dX3_ruleGates_12 : decode cX3_ruleGates 12 = .ok (.getfield 103, 3) := by decide +kernel
theorem dX3_ruleGates_15 : decode cX3_ruleGates 15 = .ok (.iload_n 1, 1) := by decide +kernel
theorem dX3_ruleGates_16 : decode cX3_ruleGates 16 = .ok (.baload, 1) := by decide +kernel
theorem dX3_ruleGates_17 : decode cX3_ruleGates 17 = .ok (.ifCond .ne 20, 3) := by decide +kernel
theorem dX3_ruleGates_20 : decode cX3_ruleGates 20 = .ok (.aload_n 0, 1) := by decide +kernel
theorem dX3_ruleGates_21 : decode cX3_ruleGates 21 = .ok (.getfield 19, 3) := by decide +kernel
theorem dX3_ruleGates_24 : decode cX3_ruleGates 24 = .ok (.getfield 86, 3) := by decide +kernel
theorem dX3_ruleGates_27 : decode cX3_ruleGates 27 = .ok (.iload_n 1, 1) := by decide +kernel
theorem dX3_ruleGates_28 : decode cX3_ruleGates 28 = .ok (.baload, 1) := by decide +kernel
theorem dX3_ruleGates_29 : decode cX3_ruleGates 29 = .ok (.ifCond .ne 8, 3) := by decide +kernel
theorem dX3_ruleGates_32 : decode cX3_ruleGates 32 = .ok (.aload_n 0, 1) := by decide +kernel
theorem dX3_ruleGates_33 : decode cX3_ruleGates 33 = .ok (.iload_n 1, 1) := by decide +kernel
theorem dX3_ruleGates_34 : decode cX3_ruleGates 34 = .ok (.invokevirtual 199, 3) := by decide +kernel
theorem dX3_ruleGates_37 : decode cX3_ruleGates 37 = .ok (.iinc 1 1, 3) := by decide +kernel
theorem dX3_ruleGates_40 : decode cX3_ruleGates 40 = .ok (.goto (-38), 3) := by decide +kernel
theorem dX3_ruleGates_43 : decode cX3_ruleGates 43 = .ok (.return_, 1) := by decide +kernel
set_option maxRecDepth 20000 in
theorem ggX3_ruleGate_X1_isOld : GoodIn wsX3_ruleGate wsX1_isOld := goodIn_r _ [11, 12, 13, 14, 15, 10, 16, 17, 50, 51, 52, 53, 54, 55, 56, 57, 58, 59, 60, 61] (by decide +kernel) (by decide +kernel)
set_option maxRecDepth 20000 in
theorem gX3_ruleGate_X1_isOld : GoodIn wsX3_ruleGate (wsV RX3 202 RX1 yX1_isOld wsX1_isOld) := goodIn_app (goodIn_of _ (by decide +kernel)) ggX3_ruleGate_X1_isOld
set_option maxRecDepth 20000 in
theorem ggX3_ruleGate_X0_openForSafety : GoodIn wsX3_ruleGate wsX0_openForSafety := goodIn_r _ [22, 23, 24, 25, 26, 27, 28, 42, 43, 44, 45, 46, 47, 48, 49] (by decide +kernel) (by decide +kernel)
set_option maxRecDepth 20000 in
theorem gX3_ruleGate_X0_openForSafety : GoodIn wsX3_ruleGate (wsV RX3 206 RX0 yX0_openForSafety wsX0_openForSafety) := goodIn_app (goodIn_of _ (by decide +kernel)) ggX3_ruleGate_X0_openForSafety
set_option maxRecDepth 20000 in
theorem ggX3_ruleGate_X0_follow : GoodIn wsX3_ruleGate wsX0_follow := goodIn_r _ [32, 33, 23, 24, 25, 26, 27, 34, 35, 36, 37, 42, 43, 44, 45, 46, 47, 48, 49] (by decide +kernel) (by decide +kernel)
set_option maxRecDepth 20000 in
theorem gX3_ruleGate_X0_follow : GoodIn wsX3_ruleGate (wsV RX3 209 RX0 yX0_follow wsX0_follow) := goodIn_app (goodIn_of _ (by decide +kernel)) ggX3_ruleGate_X0_follow
theorem dX3_ruleGate_0 : decode cX3_ruleGate 0 = .ok (.iload_n 1, 1) := by decide +kernel
theorem dX3_ruleGate_1 : decode cX3_ruleGate 1 = .ok (.iconst 1, 1) := by decide +kernel
theorem dX3_ruleGate_2 : decode cX3_ruleGate 2 = .ok (.iadd, 1) := by decide +kernel
theorem dX3_ruleGate_3 : decode cX3_ruleGate 3 = .ok (.istore_n 2, 1) := by decide +kernel
theorem dX3_ruleGate_4 : decode cX3_ruleGate 4 = .ok (.iload_n 2, 1) := by decide +kernel
theorem dX3_ruleGate_5 : decode cX3_ruleGate 5 = .ok (.bipush 8, 2) := by decide +kernel
theorem dX3_ruleGate_7 : decode cX3_ruleGate 7 = .ok (.if_icmp .ge 7, 3) := by decide +kernel
theorem dX3_ruleGate_10 : decode cX3_ruleGate 10 = .ok (.iconst 1, 1) := by decide +kernel
theorem dX3_ruleGate_11 : decode cX3_ruleGate 11 = .ok (.goto 4, 3) := by decide +kernel
theorem dX3_ruleGate_14 : decode cX3_ruleGate 14 = .ok (.iconst 0, 1) := by decide +kernel
theorem dX3_ruleGate_15 : decode cX3_ruleGate 15 = .ok (.istore_n 3, 1) := by decide +kernel
theorem dX3_ruleGate_16 : decode cX3_ruleGate 16 = .ok (.iload_n 3, 1) := by decide +kernel
theorem dX3_ruleGate_17 : decode cX3_ruleGate 17 = .ok (.ifCond .eq 37, 3) := by decide +kernel
theorem dX3_ruleGate_20 : decode cX3_ruleGate 20 = .ok (.aload_n 0, 1) := by decide +kernel
theorem dX3_ruleGate_21 : decode cX3_ruleGate 21 = .ok (.getfield 26, 3) := by decide +kernel
theorem dX3_ruleGate_24 : decode cX3_ruleGate 24 = .ok (.iload_n 1, 1) := by decide +kernel
theorem dX3_ruleGate_25 : decode cX3_ruleGate 25 = .ok (.iload_n 2, 1) := by decide +kernel
theorem dX3_ruleGate_26 : decode cX3_ruleGate 26 = .ok (.aload_n 0, 1) := by decide +kernel
theorem dX3_ruleGate_27 : decode cX3_ruleGate 27 = .ok (.getfield 30, 3) := by decide +kernel
theorem dX3_ruleGate_30 : decode cX3_ruleGate 30 = .ok (.aload_n 0, 1) := by decide +kernel
theorem dX3_ruleGate_31 : decode cX3_ruleGate 31 = .ok (.getfield 19, 3) := by decide +kernel
theorem dX3_ruleGate_34 : decode cX3_ruleGate 34 = .ok (.getfield 83, 3) := by decide +kernel
theorem dX3_ruleGate_37 : decode cX3_ruleGate 37 = .ok (.iload_n 1, 1) := by decide +kernel
theorem dX3_ruleGate_38 : decode cX3_ruleGate 38 = .ok (.iaload, 1) := by decide +kernel
theorem dX3_ruleGate_39 : decode cX3_ruleGate 39 = .ok (.invokevirtual 202, 3) := by decide +kernel
theorem dX3_ruleGate_42 : decode cX3_ruleGate 42 = .ok (.ifCond .eq 12, 3) := by decide +kernel
theorem dX3_ruleGate_45 : decode cX3_ruleGate 45 = .ok (.aload_n 0, 1) := by decide +kernel
theorem dX3_ruleGate_46 : decode cX3_ruleGate 46 = .ok (.getfield 19, 3) := by decide +kernel
theorem dX3_ruleGate_49 : decode cX3_ruleGate 49 = .ok (.iload_n 1, 1) := by decide +kernel
theorem dX3_ruleGate_50 : decode cX3_ruleGate 50 = .ok (.invokevirtual 206, 3) := by decide +kernel
theorem dX3_ruleGate_53 : decode cX3_ruleGate 53 = .ok (.return_, 1) := by decide +kernel
theorem dX3_ruleGate_54 : decode cX3_ruleGate 54 = .ok (.iload_n 3, 1) := by decide +kernel
theorem dX3_ruleGate_55 : decode cX3_ruleGate 55 = .ok (.ifCond .eq 26, 3) := by decide +kernel
theorem dX3_ruleGate_58 : decode cX3_ruleGate 58 = .ok (.aload_n 0, 1) := by decide +kernel
theorem dX3_ruleGate_59 : decode cX3_ruleGate 59 = .ok (.getfield 26, 3) := by decide +kernel
theorem dX3_ruleGate_62 : decode cX3_ruleGate 62 = .ok (.getfield 136, 3) := by decide +kernel
theorem dX3_ruleGate_65 : decode cX3_ruleGate 65 = .ok (.iload_n 1, 1) := by decide +kernel
theorem dX3_ruleGate_66 : decode cX3_ruleGate 66 = .ok (.aaload, 1) := by decide +kernel
theorem dX3_ruleGate_67 : decode cX3_ruleGate 67 = .ok (.iload_n 2, 1) := by decide +kernel
theorem dX3_ruleGate_68 : decode cX3_ruleGate 68 = .ok (.iaload, 1) := by decide +kernel
theorem dX3_ruleGate_69 : decode cX3_ruleGate 69 = .ok (.aload_n 0, 1) := by decide +kernel
theorem dX3_ruleGate_70 : decode cX3_ruleGate 70 = .ok (.getfield 19, 3) := by decide +kernel
theorem dX3_ruleGate_73 : decode cX3_ruleGate 73 = .ok (.getfield 80, 3) := by decide +kernel
theorem dX3_ruleGate_76 : decode cX3_ruleGate 76 = .ok (.iload_n 1, 1) := by decide +kernel
theorem dX3_ruleGate_77 : decode cX3_ruleGate 77 = .ok (.iaload, 1) := by decide +kernel
theorem dX3_ruleGate_78 : decode cX3_ruleGate 78 = .ok (.if_icmp .ge 7, 3) := by decide +kernel
theorem dX3_ruleGate_81 : decode cX3_ruleGate 81 = .ok (.iconst 1, 1) := by decide +kernel
theorem dX3_ruleGate_82 : decode cX3_ruleGate 82 = .ok (.goto 4, 3) := by decide +kernel
theorem dX3_ruleGate_85 : decode cX3_ruleGate 85 = .ok (.iconst 0, 1) := by decide +kernel
theorem dX3_ruleGate_86 : decode cX3_ruleGate 86 = .ok (.istore 4, 2) := by decide +kernel
theorem dX3_ruleGate_88 : decode cX3_ruleGate 88 = .ok (.aload_n 0, 1) := by decide +kernel
theorem dX3_ruleGate_89 : decode cX3_ruleGate 89 = .ok (.getfield 19, 3) := by decide +kernel
theorem dX3_ruleGate_92 : decode cX3_ruleGate 92 = .ok (.iload_n 1, 1) := by decide +kernel
theorem dX3_ruleGate_93 : decode cX3_ruleGate 93 = .ok (.aload_n 0, 1) := by decide +kernel
theorem dX3_ruleGate_94 : decode cX3_ruleGate 94 = .ok (.getfield 26, 3) := by decide +kernel
theorem dX3_ruleGate_97 : decode cX3_ruleGate 97 = .ok (.getfield 136, 3) := by decide +kernel
theorem dX3_ruleGate_100 : decode cX3_ruleGate 100 = .ok (.iload_n 1, 1) := by decide +kernel
theorem dX3_ruleGate_101 : decode cX3_ruleGate 101 = .ok (.aaload, 1) := by decide +kernel
theorem dX3_ruleGate_102 : decode cX3_ruleGate 102 = .ok (.iload_n 1, 1) := by decide +kernel
theorem dX3_ruleGate_103 : decode cX3_ruleGate 103 = .ok (.iaload, 1) := by decide +kernel
theorem dX3_ruleGate_104 : decode cX3_ruleGate 104 = .ok (.iload 4, 2) := by decide +kernel
theorem dX3_ruleGate_106 : decode cX3_ruleGate 106 = .ok (.invokevirtual 209, 3) := by decide +kernel
theorem dX3_ruleGate_109 : decode cX3_ruleGate 109 = .ok (.return_, 1) := by decide +kernel
set_option maxRecDepth 20000 in
theorem ggX3_requireNumber_X3_requireWithin : GoodIn wsX3_requireNumber wsX3_requireWithin := goodIn_ca (goodIn_r _ [4, 5, 6] (by decide +kernel) (by decide +kernel)) (goodIn_sub (fun _ h => List.mem_cons_of_mem _ (List.mem_append_right _ h)) (by decide +kernel))
set_option maxRecDepth 20000 in
theorem gX3_requireNumber_X3_requireWithin : GoodIn wsX3_requireNumber (va_wsS RX3 38 yX3_requireWithin wsX3_requireWithin) := goodIn_app (goodIn_of _ (by decide +kernel)) ggX3_requireNumber_X3_requireWithin
theorem dX3_requireNumber_0 : decode cX3_requireNumber 0 = .ok (.iload_n 0, 1) := by decide +kernel
theorem dX3_requireNumber_1 : decode cX3_requireNumber 1 = .ok (.iconst 0, 1) := by decide +kernel
theorem dX3_requireNumber_2 : decode cX3_requireNumber 2 = .ok (.bipush 7, 2) := by decide +kernel
theorem dX3_requireNumber_4 : decode cX3_requireNumber 4 = .ok (.invokestatic 38, 3) := by decide +kernel
theorem dX3_requireNumber_7 : decode cX3_requireNumber 7 = .ok (.return_, 1) := by decide +kernel
theorem dX3_requireWithin_0 : decode cX3_requireWithin 0 = .ok (.iload_n 0, 1) := by decide +kernel
theorem dX3_requireWithin_1 : decode cX3_requireWithin 1 = .ok (.iload_n 1, 1) := by decide +kernel
theorem dX3_requireWithin_2 : decode cX3_requireWithin 2 = .ok (.if_icmp .lt 8, 3) := by decide +kernel
theorem dX3_requireWithin_5 : decode cX3_requireWithin 5 = .ok (.iload_n 0, 1) := by decide +kernel
theorem dX3_requireWithin_6 : decode cX3_requireWithin 6 = .ok (.iload_n 2, 1) := by decide +kernel
theorem dX3_requireWithin_7 : decode cX3_requireWithin 7 = .ok (.if_icmp .le 13, 3) := by decide +kernel
theorem dX3_requireWithin_10 : decode cX3_requireWithin 10 = .ok (.new 213, 3) := by decide +kernel
theorem dX3_requireWithin_13 : decode cX3_requireWithin 13 = .ok (.dup, 1) := by decide +kernel
theorem dX3_requireWithin_14 : decode cX3_requireWithin 14 = .ok (.ldc 215, 2) := by decide +kernel
theorem dX3_requireWithin_16 : decode cX3_requireWithin 16 = .ok (.invokespecial 217, 3) := by decide +kernel
theorem dX3_requireWithin_19 : decode cX3_requireWithin 19 = .ok (.athrow, 1) := by decide +kernel
theorem dX3_requireWithin_20 : decode cX3_requireWithin 20 = .ok (.return_, 1) := by decide +kernel
