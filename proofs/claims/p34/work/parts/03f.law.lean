/-! 03f: the law -/
theorem goodIn_nil {big : List Cond} : GoodIn big [] := fun _ h => nomatch h
theorem goodIn_c1 {big a : List Cond} {c : Cond} (hc : GoodIn big [c]) (ha : GoodIn big a) : GoodIn big (c :: a) := fun w h => (List.mem_cons.mp h).elim (fun e => hc w (List.mem_singleton.mpr e)) (ha w)
theorem goodIn_1 {big : List Cond} {c : Cond} {i : Nat} (h : big[i]? = some c) (hg : goodWord c = true) : GoodIn big [c] := fun w hw => by
  obtain rfl := List.mem_singleton.mp hw
  exact ⟨List.mem_of_getElem? h, good_of_word hg⟩
theorem dL_dice_0 : decode cL_dice 0 = .ok (.iload_n 1, 1) := by decide +kernel
theorem dL_dice_1 : decode cL_dice 1 = .ok (.aload_n 0, 1) := by decide +kernel
theorem dL_dice_2 : decode cL_dice 2 = .ok (.arraylength, 1) := by decide +kernel
theorem dL_dice_3 : decode cL_dice 3 = .ok (.if_icmp .ge 9, 3) := by decide +kernel
theorem dL_dice_6 : decode cL_dice 6 = .ok (.aload_n 0, 1) := by decide +kernel
theorem dL_dice_7 : decode cL_dice 7 = .ok (.iload_n 1, 1) := by decide +kernel
theorem dL_dice_8 : decode cL_dice 8 = .ok (.iaload, 1) := by decide +kernel
theorem dL_dice_9 : decode cL_dice 9 = .ok (.goto 23, 3) := by decide +kernel
theorem dL_dice_12 : decode cL_dice 12 = .ok (.ldc 7, 2) := by decide +kernel
theorem dL_dice_14 : decode cL_dice 14 = .ok (.iload_n 1, 1) := by decide +kernel
theorem dL_dice_15 : decode cL_dice 15 = .ok (.sipush 311, 3) := by decide +kernel
theorem dL_dice_18 : decode cL_dice 18 = .ok (.iadd, 1) := by decide +kernel
theorem dL_dice_19 : decode cL_dice 19 = .ok (.imul, 1) := by decide +kernel
theorem dL_dice_20 : decode cL_dice 20 = .ok (.sipush 709, 3) := by decide +kernel
theorem dL_dice_23 : decode cL_dice 23 = .ok (.iload_n 1, 1) := by decide +kernel
theorem dL_dice_24 : decode cL_dice 24 = .ok (.imul, 1) := by decide +kernel
theorem dL_dice_25 : decode cL_dice 25 = .ok (.iload_n 1, 1) := by decide +kernel
theorem dL_dice_26 : decode cL_dice 26 = .ok (.imul, 1) := by decide +kernel
theorem dL_dice_27 : decode cL_dice 27 = .ok (.iadd, 1) := by decide +kernel
theorem dL_dice_28 : decode cL_dice 28 = .ok (.sipush 199, 3) := by decide +kernel
theorem dL_dice_31 : decode cL_dice 31 = .ok (.iadd, 1) := by decide +kernel
theorem dL_dice_32 : decode cL_dice 32 = .ok (.ldc 8, 2) := by decide +kernel
theorem dL_dice_34 : decode cL_dice 34 = .ok (.iand, 1) := by decide +kernel
theorem dL_dice_35 : decode cL_dice 35 = .ok (.ireturn, 1) := by decide +kernel
set_option maxRecDepth 20000 in
theorem ggL_act_X3_setGauge : GoodIn wsL_act wsX3_setGauge := goodIn_ca (goodIn_r _ [7, 8, 9, 10, 11, 6, 12, 13, 14, 15, 16, 17, 198, 199, 200, 201, 202, 203, 204, 205, 206, 207, 208, 209] (by decide +kernel) (by decide +kernel)) (goodIn_sub (fun _ h => List.mem_cons_of_mem _ (List.mem_append_left _ (List.mem_append_right _ h))) (by decide +kernel))
set_option maxRecDepth 20000 in
theorem gL_act_X3_setGauge : GoodIn wsL_act (wsV RL 9 RX3 yX3_setGauge wsX3_setGauge) := goodIn_app (goodIn_of _ (by decide +kernel)) ggL_act_X3_setGauge
set_option maxRecDepth 20000 in
theorem ggL_act_X3_setSource : GoodIn wsL_act wsX3_setSource := goodIn_ca (goodIn_r _ [21, 22, 23, 13, 14, 6, 15, 16, 17, 198, 199, 200, 201, 210, 211, 212, 213, 214, 215, 216, 217] (by decide +kernel) (by decide +kernel)) (goodIn_sub (fun _ h => List.mem_cons_of_mem _ (List.mem_append_left _ (List.mem_append_right _ h))) (by decide +kernel))
set_option maxRecDepth 20000 in
theorem gL_act_X3_setSource : GoodIn wsL_act (wsV RL 15 RX3 yX3_setSource wsX3_setSource) := goodIn_app (goodIn_of _ (by decide +kernel)) ggL_act_X3_setSource
set_option maxRecDepth 20000 in
theorem ggL_act_X3_rain : GoodIn wsL_act wsX3_rain := goodIn_ca (goodIn_r _ [27, 22, 28, 10, 11, 6, 12, 13, 14, 15, 16, 17, 198, 199, 200, 201, 210, 211, 212, 213, 214, 215, 216, 217] (by decide +kernel) (by decide +kernel)) (goodIn_sub (fun _ h => List.mem_cons_of_mem _ (List.mem_append_left _ (List.mem_append_right _ h))) (by decide +kernel))
set_option maxRecDepth 20000 in
theorem gL_act_X3_rain : GoodIn wsL_act (wsV RL 19 RX3 yX3_rain wsX3_rain) := goodIn_app (goodIn_of _ (by decide +kernel)) ggL_act_X3_rain
set_option maxRecDepth 20000 in
theorem ggL_act_X3_byHand : GoodIn wsL_act wsX3_byHand := goodIn_ca (goodIn_ca (goodIn_r _ [32, 33, 34, 8, 35, 36, 10, 11, 6, 12, 13, 14, 15, 16, 17, 198, 199, 200, 201, 202, 203, 204, 205, 206, 207, 208, 209] (by decide +kernel) (by decide +kernel)) (goodIn_sub (fun _ h => List.mem_cons_of_mem _ (List.mem_append_right _ h)) (by decide +kernel))) (goodIn_sub (fun _ h => List.mem_cons_of_mem _ (List.mem_append_left _ (List.mem_append_right _ h))) (by decide +kernel))
set_option maxRecDepth 20000 in
theorem gL_act_X3_byHand : GoodIn wsL_act (wsV RL 22 RX3 yX3_byHand wsX3_byHand) := goodIn_app (goodIn_of _ (by decide +kernel)) ggL_act_X3_byHand
set_option maxRecDepth 20000 in
theorem ggL_act_X3_setGroup : GoodIn wsL_act wsX3_setGroup := goodIn_ca (goodIn_r _ [40, 41, 42, 10, 11, 6, 12, 13, 14, 15, 16, 17, 198, 199, 200, 201, 218, 219, 220, 221, 222, 223, 224, 225, 226, 227, 228, 229] (by decide +kernel) (by decide +kernel)) (goodIn_sub (fun _ h => List.mem_cons_of_mem _ (List.mem_append_left _ (List.mem_append_right _ h))) (by decide +kernel))
set_option maxRecDepth 20000 in
theorem gL_act_X3_setGroup : GoodIn wsL_act (wsV RL 25 RX3 yX3_setGroup wsX3_setGroup) := goodIn_app (goodIn_of _ (by decide +kernel)) ggL_act_X3_setGroup
set_option maxRecDepth 20000 in
theorem ggL_act_X3_setStuck : GoodIn wsL_act wsX3_setStuck := goodIn_ca (goodIn_r _ [46, 41, 47, 10, 11, 6, 12, 13, 14, 15, 16, 17, 198, 199, 200, 201, 218, 219, 220, 221, 222, 223, 224, 225, 226, 227, 228, 229] (by decide +kernel) (by decide +kernel)) (goodIn_sub (fun _ h => List.mem_cons_of_mem _ (List.mem_append_left _ (List.mem_append_right _ h))) (by decide +kernel))
set_option maxRecDepth 20000 in
theorem gL_act_X3_setStuck : GoodIn wsL_act (wsV RL 28 RX3 yX3_setStuck wsX3_setStuck) := goodIn_app (goodIn_of _ (by decide +kernel)) ggL_act_X3_setStuck
set_option maxRecDepth 20000 in
theorem ggL_act_X3_tick : GoodIn wsL_act wsX3_tick := goodIn_ca (goodIn_ca (goodIn_r _ [51, 33, 34, 52, 13, 14, 6, 15, 16, 17, 53, 54, 55, 56, 22, 8, 41, 57, 58, 59, 60, 61, 62, 63, 64, 65, 66, 67, 68, 69, 70, 71, 72, 73, 74, 75, 76, 77, 78, 79, 80, 81, 82, 83, 84, 85, 86, 87, 88, 89, 90, 91, 92, 93, 94, 95, 96, 97, 98, 99, 100, 101, 102, 103, 104, 105, 106, 107, 108, 109, 110, 111, 112, 113, 114, 115, 116, 117, 118, 119, 120, 121, 122, 123, 124, 125, 126, 127, 128, 129, 130, 131, 132, 133, 134, 135, 136, 137, 138, 139, 140, 141, 142, 143, 144, 145, 146, 147, 148, 149, 150, 151, 152, 153, 154, 155, 156, 157, 158, 159, 160, 161, 162, 163, 164, 165, 166, 167, 168, 169, 35, 170, 171, 172, 173, 174, 175, 176, 177, 178, 179, 180, 181, 182, 183, 184, 185, 186, 187, 188, 189, 190, 191, 192, 193, 194, 195, 196, 197, 198, 199, 200, 201, 210, 211, 212, 213, 214, 215, 216, 217, 202, 203, 204, 205, 206, 207, 208, 209, 218, 219, 220, 221, 222, 223, 224, 225, 226, 227, 228, 229] (by decide +kernel) (by decide +kernel)) (goodIn_sub (fun _ h => List.mem_cons_of_mem _ (List.mem_append_right _ h)) (by decide +kernel))) (goodIn_sub (fun _ h => List.mem_cons_of_mem _ (List.mem_append_left _ (List.mem_append_right _ h))) (by decide +kernel))
set_option maxRecDepth 20000 in
theorem gL_act_X3_tick : GoodIn wsL_act (wsV RL 32 RX3 yX3_tick wsX3_tick) := goodIn_app (goodIn_of _ (by decide +kernel)) ggL_act_X3_tick
theorem dL_act_0 : decode cL_act 0 = .ok (.iload_n 1, 1) := by decide +kernel
theorem dL_act_1 : decode cL_act 1 = .ok (.ifCond .ne 12, 3) := by decide +kernel
theorem dL_act_4 : decode cL_act 4 = .ok (.aload_n 0, 1) := by decide +kernel
theorem dL_act_5 : decode cL_act 5 = .ok (.iload_n 2, 1) := by decide +kernel
theorem dL_act_6 : decode cL_act 6 = .ok (.iload_n 3, 1) := by decide +kernel
theorem dL_act_7 : decode cL_act 7 = .ok (.invokevirtual 9, 3) := by decide +kernel
theorem dL_act_10 : decode cL_act 10 = .ok (.goto 94, 3) := by decide +kernel
theorem dL_act_13 : decode cL_act 13 = .ok (.iload_n 1, 1) := by decide +kernel
theorem dL_act_14 : decode cL_act 14 = .ok (.iconst 1, 1) := by decide +kernel
theorem dL_act_15 : decode cL_act 15 = .ok (.if_icmp .ne 11, 3) := by decide +kernel
theorem dL_act_18 : decode cL_act 18 = .ok (.aload_n 0, 1) := by decide +kernel
theorem dL_act_19 : decode cL_act 19 = .ok (.iload_n 2, 1) := by decide +kernel
theorem dL_act_20 : decode cL_act 20 = .ok (.invokevirtual 15, 3) := by decide +kernel
theorem dL_act_23 : decode cL_act 23 = .ok (.goto 81, 3) := by decide +kernel
theorem dL_act_26 : decode cL_act 26 = .ok (.iload_n 1, 1) := by decide +kernel
theorem dL_act_27 : decode cL_act 27 = .ok (.iconst 2, 1) := by decide +kernel
theorem dL_act_28 : decode cL_act 28 = .ok (.if_icmp .ne 12, 3) := by decide +kernel
theorem dL_act_31 : decode cL_act 31 = .ok (.aload_n 0, 1) := by decide +kernel
theorem dL_act_32 : decode cL_act 32 = .ok (.iload_n 2, 1) := by decide +kernel
theorem dL_act_33 : decode cL_act 33 = .ok (.iload_n 3, 1) := by decide +kernel
theorem dL_act_34 : decode cL_act 34 = .ok (.invokevirtual 19, 3) := by decide +kernel
theorem dL_act_37 : decode cL_act 37 = .ok (.goto 67, 3) := by decide +kernel
theorem dL_act_40 : decode cL_act 40 = .ok (.iload_n 1, 1) := by decide +kernel
theorem dL_act_41 : decode cL_act 41 = .ok (.iconst 3, 1) := by decide +kernel
theorem dL_act_42 : decode cL_act 42 = .ok (.if_icmp .ne 12, 3) := by decide +kernel
theorem dL_act_45 : decode cL_act 45 = .ok (.aload_n 0, 1) := by decide +kernel
theorem dL_act_46 : decode cL_act 46 = .ok (.iload_n 2, 1) := by decide +kernel
theorem dL_act_47 : decode cL_act 47 = .ok (.iload_n 3, 1) := by decide +kernel
theorem dL_act_48 : decode cL_act 48 = .ok (.invokevirtual 22, 3) := by decide +kernel
theorem dL_act_51 : decode cL_act 51 = .ok (.goto 53, 3) := by decide +kernel
theorem dL_act_54 : decode cL_act 54 = .ok (.iload_n 1, 1) := by decide +kernel
theorem dL_act_55 : decode cL_act 55 = .ok (.iconst 4, 1) := by decide +kernel
theorem dL_act_56 : decode cL_act 56 = .ok (.if_icmp .ne 12, 3) := by decide +kernel
theorem dL_act_59 : decode cL_act 59 = .ok (.aload_n 0, 1) := by decide +kernel
theorem dL_act_60 : decode cL_act 60 = .ok (.iload_n 2, 1) := by decide +kernel
theorem dL_act_61 : decode cL_act 61 = .ok (.iload_n 3, 1) := by decide +kernel
theorem dL_act_62 : decode cL_act 62 = .ok (.invokevirtual 25, 3) := by decide +kernel
theorem dL_act_65 : decode cL_act 65 = .ok (.goto 39, 3) := by decide +kernel
theorem dL_act_68 : decode cL_act 68 = .ok (.iload_n 1, 1) := by decide +kernel
theorem dL_act_69 : decode cL_act 69 = .ok (.iconst 5, 1) := by decide +kernel
theorem dL_act_70 : decode cL_act 70 = .ok (.if_icmp .ne 29, 3) := by decide +kernel
theorem dL_act_73 : decode cL_act 73 = .ok (.aload_n 0, 1) := by decide +kernel
theorem dL_act_74 : decode cL_act 74 = .ok (.iload_n 2, 1) := by decide +kernel
theorem dL_act_75 : decode cL_act 75 = .ok (.iload_n 3, 1) := by decide +kernel
theorem dL_act_76 : decode cL_act 76 = .ok (.iconst 1, 1) := by decide +kernel
theorem dL_act_77 : decode cL_act 77 = .ok (.if_icmp .ne 7, 3) := by decide +kernel
theorem dL_act_80 : decode cL_act 80 = .ok (.iconst 1, 1) := by decide +kernel
theorem dL_act_81 : decode cL_act 81 = .ok (.goto 4, 3) := by decide +kernel
theorem dL_act_84 : decode cL_act 84 = .ok (.iconst 0, 1) := by decide +kernel
theorem dL_act_85 : decode cL_act 85 = .ok (.invokevirtual 28, 3) := by decide +kernel
theorem dL_act_88 : decode cL_act 88 = .ok (.ifCond .eq 7, 3) := by decide +kernel
theorem dL_act_91 : decode cL_act 91 = .ok (.iconst 1, 1) := by decide +kernel
theorem dL_act_92 : decode cL_act 92 = .ok (.goto 12, 3) := by decide +kernel
theorem dL_act_95 : decode cL_act 95 = .ok (.iconst 0, 1) := by decide +kernel
theorem dL_act_96 : decode cL_act 96 = .ok (.goto 8, 3) := by decide +kernel
theorem dL_act_99 : decode cL_act 99 = .ok (.aload_n 0, 1) := by decide +kernel
theorem dL_act_100 : decode cL_act 100 = .ok (.iload_n 2, 1) := by decide +kernel
theorem dL_act_101 : decode cL_act 101 = .ok (.invokevirtual 32, 3) := by decide +kernel
theorem dL_act_104 : decode cL_act 104 = .ok (.ireturn, 1) := by decide +kernel
theorem dL_act_105 : decode cL_act 105 = .ok (.astore 4, 2) := by decide +kernel
theorem dL_act_107 : decode cL_act 107 = .ok (.sipush (-1232), 3) := by decide +kernel
theorem dL_act_110 : decode cL_act 110 = .ok (.ireturn, 1) := by decide +kernel
theorem dL_act_111 : decode cL_act 111 = .ok (.astore 4, 2) := by decide +kernel
theorem dL_act_113 : decode cL_act 113 = .ok (.sipush (-1233), 3) := by decide +kernel
theorem dL_act_116 : decode cL_act 116 = .ok (.ireturn, 1) := by decide +kernel
set_option maxRecDepth 20000 in
theorem ggL_shaped_X3_shape : GoodIn wsL_shaped wsX3_shape := goodIn_ca (goodIn_r _ [6, 7, 8, 9, 10, 11, 5, 12, 13, 14, 15, 16, 17, 18, 19, 20, 21, 22, 23, 24, 25, 26, 27, 28, 29] (by decide +kernel) (by decide +kernel)) (goodIn_sub (fun _ h => List.mem_cons_of_mem _ (List.mem_append_right _ h)) (by decide +kernel))
set_option maxRecDepth 20000 in
theorem gL_shaped_X3_shape : GoodIn wsL_shaped (wsV RL 39 RX3 yX3_shape wsX3_shape) := goodIn_app (goodIn_of _ (by decide +kernel)) ggL_shaped_X3_shape
theorem dL_shaped_0 : decode cL_shaped 0 = .ok (.aload_n 0, 1) := by decide +kernel
theorem dL_shaped_1 : decode cL_shaped 1 = .ok (.iload_n 1, 1) := by decide +kernel
theorem dL_shaped_2 : decode cL_shaped 2 = .ok (.iload_n 2, 1) := by decide +kernel
theorem dL_shaped_3 : decode cL_shaped 3 = .ok (.iload_n 3, 1) := by decide +kernel
theorem dL_shaped_4 : decode cL_shaped 4 = .ok (.invokevirtual 39, 3) := by decide +kernel
theorem dL_shaped_7 : decode cL_shaped 7 = .ok (.iconst 0, 1) := by decide +kernel
theorem dL_shaped_8 : decode cL_shaped 8 = .ok (.ireturn, 1) := by decide +kernel
theorem dL_shaped_9 : decode cL_shaped 9 = .ok (.astore 4, 2) := by decide +kernel
theorem dL_shaped_11 : decode cL_shaped 11 = .ok (.sipush (-1232), 3) := by decide +kernel
theorem dL_shaped_14 : decode cL_shaped 14 = .ok (.ireturn, 1) := by decide +kernel
set_option maxRecDepth 20000 in
theorem ggL_ruled_X3_setRule : GoodIn wsL_ruled wsX3_setRule := goodIn_ca (goodIn_r _ [6, 7, 8, 9, 10, 11, 12, 13, 5, 14, 15, 16, 17, 18, 19, 20, 21, 22, 23, 24, 25, 26, 27, 28, 29, 30, 31] (by decide +kernel) (by decide +kernel)) (goodIn_sub (fun _ h => List.mem_cons_of_mem _ (List.mem_append_right _ h)) (by decide +kernel))
set_option maxRecDepth 20000 in
theorem gL_ruled_X3_setRule : GoodIn wsL_ruled (wsV RL 43 RX3 yX3_setRule wsX3_setRule) := goodIn_app (goodIn_of _ (by decide +kernel)) ggL_ruled_X3_setRule
theorem dL_ruled_0 : decode cL_ruled 0 = .ok (.aload_n 0, 1) := by decide +kernel
theorem dL_ruled_1 : decode cL_ruled 1 = .ok (.iload_n 1, 1) := by decide +kernel
theorem dL_ruled_2 : decode cL_ruled 2 = .ok (.iload_n 2, 1) := by decide +kernel
theorem dL_ruled_3 : decode cL_ruled 3 = .ok (.iload_n 3, 1) := by decide +kernel
theorem dL_ruled_4 : decode cL_ruled 4 = .ok (.iload 4, 2) := by decide +kernel
theorem dL_ruled_6 : decode cL_ruled 6 = .ok (.iload 5, 2) := by decide +kernel
theorem dL_ruled_8 : decode cL_ruled 8 = .ok (.invokevirtual 43, 3) := by decide +kernel
theorem dL_ruled_11 : decode cL_ruled 11 = .ok (.iconst 0, 1) := by decide +kernel
theorem dL_ruled_12 : decode cL_ruled 12 = .ok (.ireturn, 1) := by decide +kernel
theorem dL_ruled_13 : decode cL_ruled 13 = .ok (.astore 6, 2) := by decide +kernel
theorem dL_ruled_15 : decode cL_ruled 15 = .ok (.sipush (-1232), 3) := by decide +kernel
theorem dL_ruled_18 : decode cL_ruled 18 = .ok (.ireturn, 1) := by decide +kernel
set_option maxRecDepth 20000 in
theorem ggL_timed_X3_setTimes : GoodIn wsL_timed wsX3_setTimes := goodIn_ca (goodIn_r _ [6, 7, 8, 9, 10, 11, 5, 12, 13, 14, 15, 16, 17, 18, 19, 20, 21, 22, 23, 24, 25, 26, 27, 28, 29, 30] (by decide +kernel) (by decide +kernel)) (goodIn_sub (fun _ h => List.mem_cons_of_mem _ (List.mem_append_right _ h)) (by decide +kernel))
set_option maxRecDepth 20000 in
theorem gL_timed_X3_setTimes : GoodIn wsL_timed (wsV RL 47 RX3 yX3_setTimes wsX3_setTimes) := goodIn_app (goodIn_of _ (by decide +kernel)) ggL_timed_X3_setTimes
theorem dL_timed_0 : decode cL_timed 0 = .ok (.aload_n 0, 1) := by decide +kernel
theorem dL_timed_1 : decode cL_timed 1 = .ok (.iload_n 1, 1) := by decide +kernel
theorem dL_timed_2 : decode cL_timed 2 = .ok (.iload_n 2, 1) := by decide +kernel
theorem dL_timed_3 : decode cL_timed 3 = .ok (.invokevirtual 47, 3) := by decide +kernel
theorem dL_timed_6 : decode cL_timed 6 = .ok (.iconst 0, 1) := by decide +kernel
theorem dL_timed_7 : decode cL_timed 7 = .ok (.ireturn, 1) := by decide +kernel
theorem dL_timed_8 : decode cL_timed 8 = .ok (.astore_n 3, 1) := by decide +kernel
theorem dL_timed_9 : decode cL_timed 9 = .ok (.sipush (-1232), 3) := by decide +kernel
theorem dL_timed_12 : decode cL_timed 12 = .ok (.ireturn, 1) := by decide +kernel
set_option maxRecDepth 20000 in
theorem ggL_fallen_X3_fall : GoodIn wsL_fallen wsX3_fall := goodIn_ca (goodIn_ca (goodIn_r _ [7, 8, 9, 10, 11, 12, 13, 6, 14, 15, 16, 17, 18, 19, 20, 21, 22, 23, 24, 25, 26, 27, 28, 29, 30, 31, 32, 33, 34, 35] (by decide +kernel) (by decide +kernel)) (goodIn_sub (fun _ h => List.mem_cons_of_mem _ (List.mem_append_left _ (List.mem_append_right _ h))) (by decide +kernel))) (goodIn_sub (fun _ h => List.mem_cons_of_mem _ (List.mem_append_right _ h)) (by decide +kernel))
set_option maxRecDepth 20000 in
theorem gL_fallen_X3_fall : GoodIn wsL_fallen (wsV RL 51 RX3 yX3_fall wsX3_fall) := goodIn_app (goodIn_of _ (by decide +kernel)) ggL_fallen_X3_fall
theorem dL_fallen_0 : decode cL_fallen 0 = .ok (.aload_n 0, 1) := by decide +kernel
theorem dL_fallen_1 : decode cL_fallen 1 = .ok (.iload_n 1, 1) := by decide +kernel
theorem dL_fallen_2 : decode cL_fallen 2 = .ok (.invokevirtual 51, 3) := by decide +kernel
theorem dL_fallen_5 : decode cL_fallen 5 = .ok (.iconst 0, 1) := by decide +kernel
theorem dL_fallen_6 : decode cL_fallen 6 = .ok (.ireturn, 1) := by decide +kernel
theorem dL_fallen_7 : decode cL_fallen 7 = .ok (.astore_n 2, 1) := by decide +kernel
theorem dL_fallen_8 : decode cL_fallen 8 = .ok (.sipush (-1232), 3) := by decide +kernel
theorem dL_fallen_11 : decode cL_fallen 11 = .ok (.ireturn, 1) := by decide +kernel
theorem dL_fallen_12 : decode cL_fallen 12 = .ok (.astore_n 2, 1) := by decide +kernel
theorem dL_fallen_13 : decode cL_fallen 13 = .ok (.sipush (-1233), 3) := by decide +kernel
theorem dL_fallen_16 : decode cL_fallen 16 = .ok (.ireturn, 1) := by decide +kernel
set_option maxRecDepth 20000 in
theorem ggL_risen_X3_comeUp : GoodIn wsL_risen wsX3_comeUp := goodIn_ca (goodIn_ca (goodIn_r _ [7, 8, 9, 10, 11, 12, 13, 14, 15, 6, 16, 17, 18, 19, 20, 21, 22, 23, 24, 25, 26, 27, 28, 29, 30, 31, 32, 33, 34, 35, 36, 37, 38, 39, 40, 41] (by decide +kernel) (by decide +kernel)) (goodIn_sub (fun _ h => List.mem_cons_of_mem _ (List.mem_append_left _ (List.mem_append_right _ h))) (by decide +kernel))) (goodIn_sub (fun _ h => List.mem_cons_of_mem _ (List.mem_append_right _ h)) (by decide +kernel))
set_option maxRecDepth 20000 in
theorem gL_risen_X3_comeUp : GoodIn wsL_risen (wsV RL 55 RX3 yX3_comeUp wsX3_comeUp) := goodIn_app (goodIn_of _ (by decide +kernel)) ggL_risen_X3_comeUp
theorem dL_risen_0 : decode cL_risen 0 = .ok (.aload_n 0, 1) := by decide +kernel
theorem dL_risen_1 : decode cL_risen 1 = .ok (.iload_n 1, 1) := by decide +kernel
theorem dL_risen_2 : decode cL_risen 2 = .ok (.invokevirtual 55, 3) := by decide +kernel
theorem dL_risen_5 : decode cL_risen 5 = .ok (.iconst 0, 1) := by decide +kernel
theorem dL_risen_6 : decode cL_risen 6 = .ok (.ireturn, 1) := by decide +kernel
theorem dL_risen_7 : decode cL_risen 7 = .ok (.astore_n 2, 1) := by decide +kernel
theorem dL_risen_8 : decode cL_risen 8 = .ok (.sipush (-1232), 3) := by decide +kernel
theorem dL_risen_11 : decode cL_risen 11 = .ok (.ireturn, 1) := by decide +kernel
theorem dL_risen_12 : decode cL_risen 12 = .ok (.astore_n 2, 1) := by decide +kernel
theorem dL_risen_13 : decode cL_risen 13 = .ok (.sipush (-1233), 3) := by decide +kernel
theorem dL_risen_16 : decode cL_risen 16 = .ok (.ireturn, 1) := by decide +kernel
set_option maxRecDepth 20000 in
theorem ggL_of_X3_volume : GoodIn wsL_of wsX3_volume := goodIn_ca (goodIn_r _ [6, 7, 8, 9, 10, 5, 11, 12, 13, 14, 15, 16, 126, 127, 128, 129, 130, 131, 132, 133, 134, 135, 136, 137] (by decide +kernel) (by decide +kernel)) (goodIn_sub (fun _ h => List.mem_cons_of_mem _ (List.mem_append_right _ h)) (by decide +kernel))
set_option maxRecDepth 20000 in
theorem gL_of_X3_volume : GoodIn wsL_of (wsV RL 58 RX3 yX3_volume wsX3_volume) := goodIn_app (goodIn_of _ (by decide +kernel)) ggL_of_X3_volume
set_option maxRecDepth 20000 in
theorem ggL_of_X3_volumeByBalance : GoodIn wsL_of wsX3_volumeByBalance := goodIn_ca (goodIn_r _ [20, 7, 9, 10, 5, 11, 12, 13, 14, 15, 16, 21, 22, 23, 24, 25, 26, 27, 28, 126, 127, 128, 129, 130, 131, 132, 133, 134, 135, 136, 137] (by decide +kernel) (by decide +kernel)) (goodIn_sub (fun _ h => List.mem_cons_of_mem _ (List.mem_append_right _ h)) (by decide +kernel))
set_option maxRecDepth 20000 in
theorem gL_of_X3_volumeByBalance : GoodIn wsL_of (wsV RL 61 RX3 yX3_volumeByBalance wsX3_volumeByBalance) := goodIn_app (goodIn_of _ (by decide +kernel)) ggL_of_X3_volumeByBalance
set_option maxRecDepth 20000 in
theorem ggL_of_X3_level : GoodIn wsL_of wsX3_level := goodIn_ca (goodIn_r _ [32, 7, 9, 10, 5, 11, 12, 13, 14, 15, 16, 33, 34, 35, 24, 36, 37, 38, 126, 127, 128, 129, 130, 131, 132, 133, 134, 135, 136, 137] (by decide +kernel) (by decide +kernel)) (goodIn_sub (fun _ h => List.mem_cons_of_mem _ (List.mem_append_right _ h)) (by decide +kernel))
set_option maxRecDepth 20000 in
theorem gL_of_X3_level : GoodIn wsL_of (wsV RL 64 RX3 yX3_level wsX3_level) := goodIn_app (goodIn_of _ (by decide +kernel)) ggL_of_X3_level
set_option maxRecDepth 20000 in
theorem ggL_of_X3_flowed : GoodIn wsL_of wsX3_flowed := goodIn_ca (goodIn_r _ [42, 7, 43, 9, 10, 5, 11, 12, 13, 14, 15, 16, 126, 127, 128, 129, 130, 131, 132, 133, 134, 135, 136, 137] (by decide +kernel) (by decide +kernel)) (goodIn_sub (fun _ h => List.mem_cons_of_mem _ (List.mem_append_right _ h)) (by decide +kernel))
set_option maxRecDepth 20000 in
theorem gL_of_X3_flowed : GoodIn wsL_of (wsV RL 67 RX3 yX3_flowed wsX3_flowed) := goodIn_app (goodIn_of _ (by decide +kernel)) ggL_of_X3_flowed
set_option maxRecDepth 20000 in
theorem ggL_of_X3_spilled : GoodIn wsL_of wsX3_spilled := goodIn_ca (goodIn_r _ [47, 7, 48, 9, 10, 5, 11, 12, 13, 14, 15, 16, 126, 127, 128, 129, 130, 131, 132, 133, 134, 135, 136, 137] (by decide +kernel) (by decide +kernel)) (goodIn_sub (fun _ h => List.mem_cons_of_mem _ (List.mem_append_right _ h)) (by decide +kernel))
set_option maxRecDepth 20000 in
theorem gL_of_X3_spilled : GoodIn wsL_of (wsV RL 70 RX3 yX3_spilled wsX3_spilled) := goodIn_app (goodIn_of _ (by decide +kernel)) ggL_of_X3_spilled
set_option maxRecDepth 20000 in
theorem ggL_of_X3_opening : GoodIn wsL_of wsX3_opening := goodIn_ca (goodIn_r _ [52, 53, 54, 9, 10, 5, 11, 12, 13, 14, 15, 16, 126, 127, 128, 129, 138, 139, 140, 141, 142, 143, 144, 145] (by decide +kernel) (by decide +kernel)) (goodIn_sub (fun _ h => List.mem_cons_of_mem _ (List.mem_append_right _ h)) (by decide +kernel))
set_option maxRecDepth 20000 in
theorem gL_of_X3_opening : GoodIn wsL_of (wsV RL 73 RX3 yX3_opening wsX3_opening) := goodIn_app (goodIn_of _ (by decide +kernel)) ggL_of_X3_opening
set_option maxRecDepth 20000 in
theorem ggL_of_X3_safety : GoodIn wsL_of wsX3_safety := goodIn_ca (goodIn_r _ [58, 53, 59, 9, 10, 5, 11, 12, 13, 14, 15, 16, 126, 127, 128, 129, 138, 139, 140, 141, 142, 143, 144, 145] (by decide +kernel) (by decide +kernel)) (goodIn_sub (fun _ h => List.mem_cons_of_mem _ (List.mem_append_right _ h)) (by decide +kernel))
set_option maxRecDepth 20000 in
theorem gL_of_X3_safety : GoodIn wsL_of (wsV RL 76 RX3 yX3_safety wsX3_safety) := goodIn_app (goodIn_of _ (by decide +kernel)) ggL_of_X3_safety
set_option maxRecDepth 20000 in
theorem ggL_of_X3_partner : GoodIn wsL_of wsX3_partner := goodIn_ca (goodIn_r _ [63, 64, 65, 66, 9, 10, 5, 11, 12, 13, 14, 15, 16, 67, 68, 69, 70, 71, 72, 73, 74, 75, 76, 126, 127, 128, 129, 146, 147, 148, 149, 150, 151, 152, 153, 154, 155, 156, 157] (by decide +kernel) (by decide +kernel)) (goodIn_sub (fun _ h => List.mem_cons_of_mem _ (List.mem_append_right _ h)) (by decide +kernel))
set_option maxRecDepth 20000 in
theorem gL_of_X3_partner : GoodIn wsL_of (wsV RL 79 RX3 yX3_partner wsX3_partner) := goodIn_app (goodIn_of _ (by decide +kernel)) ggL_of_X3_partner
set_option maxRecDepth 20000 in
theorem ggL_of_X3_freshest : GoodIn wsL_of wsX3_freshest := goodIn_ca (goodIn_r _ [80, 64, 9, 10, 5, 11, 12, 13, 14, 15, 16, 81, 82, 83, 70, 84, 85, 126, 127, 128, 129, 146, 147, 148, 149, 150, 151, 152, 153, 154, 155, 156, 157] (by decide +kernel) (by decide +kernel)) (goodIn_sub (fun _ h => List.mem_cons_of_mem _ (List.mem_append_right _ h)) (by decide +kernel))
set_option maxRecDepth 20000 in
theorem gL_of_X3_freshest : GoodIn wsL_of (wsV RL 82 RX3 yX3_freshest wsX3_freshest) := goodIn_app (goodIn_of _ (by decide +kernel)) ggL_of_X3_freshest
set_option maxRecDepth 20000 in
theorem ggL_of_X3_agree : GoodIn wsL_of wsX3_agree := goodIn_ca (goodIn_r _ [89, 64, 7, 9, 10, 5, 11, 12, 13, 14, 15, 16, 33, 34, 35, 24, 36, 37, 38, 90, 91, 92, 70, 93, 94, 95, 96, 97, 98, 99, 85, 126, 127, 128, 129, 130, 131, 132, 133, 134, 135, 136, 137, 146, 147, 148, 149, 150, 151, 152, 153, 154, 155, 156, 157] (by decide +kernel) (by decide +kernel)) (goodIn_sub (fun _ h => List.mem_cons_of_mem _ (List.mem_append_right _ h)) (by decide +kernel))
set_option maxRecDepth 20000 in
theorem gL_of_X3_agree : GoodIn wsL_of (wsV RL 85 RX3 yX3_agree wsX3_agree) := goodIn_app (goodIn_of _ (by decide +kernel)) ggL_of_X3_agree
set_option maxRecDepth 20000 in
theorem ggL_of_X3_believed : GoodIn wsL_of wsX3_believed := goodIn_ca (goodIn_r _ [103, 64, 104, 9, 10, 5, 11, 12, 13, 14, 15, 16, 105, 97, 98, 70, 99, 85, 126, 127, 128, 129, 146, 147, 148, 149, 150, 151, 152, 153, 154, 155, 156, 157] (by decide +kernel) (by decide +kernel)) (goodIn_sub (fun _ h => List.mem_cons_of_mem _ (List.mem_append_right _ h)) (by decide +kernel))
set_option maxRecDepth 20000 in
theorem gL_of_X3_believed : GoodIn wsL_of (wsV RL 88 RX3 yX3_believed wsX3_believed) := goodIn_app (goodIn_of _ (by decide +kernel)) ggL_of_X3_believed
set_option maxRecDepth 20000 in
theorem ggL_of_X3_version : GoodIn wsL_of wsX3_version := goodIn_ca (goodIn_r _ [109, 64, 110, 9, 10, 5, 11, 12, 13, 14, 15, 16, 126, 127, 128, 129, 146, 147, 148, 149, 150, 151, 152, 153, 154, 155, 156, 157] (by decide +kernel) (by decide +kernel)) (goodIn_sub (fun _ h => List.mem_cons_of_mem _ (List.mem_append_right _ h)) (by decide +kernel))
set_option maxRecDepth 20000 in
theorem gL_of_X3_version : GoodIn wsL_of (wsV RL 91 RX3 yX3_version wsX3_version) := goodIn_app (goodIn_of _ (by decide +kernel)) ggL_of_X3_version
set_option maxRecDepth 20000 in
theorem ggL_of_X3_age : GoodIn wsL_of wsX3_age := goodIn_ca (goodIn_r _ [114, 64, 66, 115, 9, 10, 5, 11, 12, 13, 14, 15, 16, 105, 97, 98, 70, 99, 85, 126, 127, 128, 129, 146, 147, 148, 149, 150, 151, 152, 153, 154, 155, 156, 157] (by decide +kernel) (by decide +kernel)) (goodIn_sub (fun _ h => List.mem_cons_of_mem _ (List.mem_append_right _ h)) (by decide +kernel))
set_option maxRecDepth 20000 in
theorem gL_of_X3_age : GoodIn wsL_of (wsV RL 94 RX3 yX3_age wsX3_age) := goodIn_app (goodIn_of _ (by decide +kernel)) ggL_of_X3_age
set_option maxRecDepth 20000 in
theorem ggL_of_X3_beat : GoodIn wsL_of wsX3_beat := goodIn_ca (goodIn_r _ [119, 64, 120, 9, 10, 5, 11, 12, 13, 14, 15, 16, 126, 127, 128, 129, 146, 147, 148, 149, 150, 151, 152, 153, 154, 155, 156, 157] (by decide +kernel) (by decide +kernel)) (goodIn_sub (fun _ h => List.mem_cons_of_mem _ (List.mem_append_right _ h)) (by decide +kernel))
set_option maxRecDepth 20000 in
theorem gL_of_X3_beat : GoodIn wsL_of (wsV RL 97 RX3 yX3_beat wsX3_beat) := goodIn_app (goodIn_of _ (by decide +kernel)) ggL_of_X3_beat
set_option maxRecDepth 20000 in
theorem ggL_of_X3_status : GoodIn wsL_of wsX3_status := goodIn_ca (goodIn_r _ [124, 64, 125, 9, 10, 5, 11, 12, 13, 14, 15, 16, 126, 127, 128, 129, 146, 147, 148, 149, 150, 151, 152, 153, 154, 155, 156, 157] (by decide +kernel) (by decide +kernel)) (goodIn_sub (fun _ h => List.mem_cons_of_mem _ (List.mem_append_right _ h)) (by decide +kernel))
set_option maxRecDepth 20000 in
theorem gL_of_X3_status : GoodIn wsL_of (wsV RL 100 RX3 yX3_status wsX3_status) := goodIn_app (goodIn_of _ (by decide +kernel)) ggL_of_X3_status
theorem dL_of_0 : decode cL_of 0 = .ok (.iload_n 1, 1) := by decide +kernel
theorem dL_of_1 : decode cL_of 1 = .ok (.ifCond .ne 11, 3) := by decide +kernel
theorem dL_of_4 : decode cL_of 4 = .ok (.aload_n 0, 1) := by decide +kernel
theorem dL_of_5 : decode cL_of 5 = .ok (.iload_n 2, 1) := by decide +kernel
theorem dL_of_6 : decode cL_of 6 = .ok (.invokevirtual 58, 3) := by decide +kernel
theorem dL_of_9 : decode cL_of 9 = .ok (.goto 190, 3) := by decide +kernel
theorem dL_of_12 : decode cL_of 12 = .ok (.iload_n 1, 1) := by decide +kernel
theorem dL_of_13 : decode cL_of 13 = .ok (.iconst 1, 1) := by decide +kernel
theorem dL_of_14 : decode cL_of 14 = .ok (.if_icmp .ne 11, 3) := by decide +kernel
theorem dL_of_17 : decode cL_of 17 = .ok (.aload_n 0, 1) := by decide +kernel
theorem dL_of_18 : decode cL_of 18 = .ok (.iload_n 2, 1) := by decide +kernel
theorem dL_of_19 : decode cL_of 19 = .ok (.invokevirtual 61, 3) := by decide +kernel
theorem dL_of_22 : decode cL_of 22 = .ok (.goto 177, 3) := by decide +kernel
theorem dL_of_25 : decode cL_of 25 = .ok (.iload_n 1, 1) := by decide +kernel
theorem dL_of_26 : decode cL_of 26 = .ok (.iconst 2, 1) := by decide +kernel
theorem dL_of_27 : decode cL_of 27 = .ok (.if_icmp .ne 11, 3) := by decide +kernel
theorem dL_of_30 : decode cL_of 30 = .ok (.aload_n 0, 1) := by decide +kernel
theorem dL_of_31 : decode cL_of 31 = .ok (.iload_n 2, 1) := by decide +kernel
theorem dL_of_32 : decode cL_of 32 = .ok (.invokevirtual 64, 3) := by decide +kernel
theorem dL_of_35 : decode cL_of 35 = .ok (.goto 164, 3) := by decide +kernel
theorem dL_of_38 : decode cL_of 38 = .ok (.iload_n 1, 1) := by decide +kernel
theorem dL_of_39 : decode cL_of 39 = .ok (.iconst 3, 1) := by decide +kernel
theorem dL_of_40 : decode cL_of 40 = .ok (.if_icmp .ne 11, 3) := by decide +kernel
theorem dL_of_43 : decode cL_of 43 = .ok (.aload_n 0, 1) := by decide +kernel
theorem dL_of_44 : decode cL_of 44 = .ok (.iload_n 2, 1) := by decide +kernel
theorem dL_of_45 : decode cL_of 45 = .ok (.invokevirtual 67, 3) := by decide +kernel
theorem dL_of_48 : decode cL_of 48 = .ok (.goto 151, 3) := by decide +kernel
theorem dL_of_51 : decode cL_of 51 = .ok (.iload_n 1, 1) := by decide +kernel
theorem dL_of_52 : decode cL_of 52 = .ok (.iconst 4, 1) := by decide +kernel
theorem dL_of_53 : decode cL_of 53 = .ok (.if_icmp .ne 11, 3) := by decide +kernel
theorem dL_of_56 : decode cL_of 56 = .ok (.aload_n 0, 1) := by decide +kernel
theorem dL_of_57 : decode cL_of 57 = .ok (.iload_n 2, 1) := by decide +kernel
theorem dL_of_58 : decode cL_of 58 = .ok (.invokevirtual 70, 3) := by decide +kernel
theorem dL_of_61 : decode cL_of 61 = .ok (.goto 138, 3) := by decide +kernel
theorem dL_of_64 : decode cL_of 64 = .ok (.iload_n 1, 1) := by decide +kernel
theorem dL_of_65 : decode cL_of 65 = .ok (.iconst 5, 1) := by decide +kernel
theorem dL_of_66 : decode cL_of 66 = .ok (.if_icmp .ne 11, 3) := by decide +kernel
theorem dL_of_69 : decode cL_of 69 = .ok (.aload_n 0, 1) := by decide +kernel
theorem dL_of_70 : decode cL_of 70 = .ok (.iload_n 2, 1) := by decide +kernel
theorem dL_of_71 : decode cL_of 71 = .ok (.invokevirtual 73, 3) := by decide +kernel
theorem dL_of_74 : decode cL_of 74 = .ok (.goto 125, 3) := by decide +kernel
theorem dL_of_77 : decode cL_of 77 = .ok (.iload_n 1, 1) := by decide +kernel
theorem dL_of_78 : decode cL_of 78 = .ok (.bipush 6, 2) := by decide +kernel
theorem dL_of_80 : decode cL_of 80 = .ok (.if_icmp .ne 11, 3) := by decide +kernel
theorem dL_of_83 : decode cL_of 83 = .ok (.aload_n 0, 1) := by decide +kernel
theorem dL_of_84 : decode cL_of 84 = .ok (.iload_n 2, 1) := by decide +kernel
theorem dL_of_85 : decode cL_of 85 = .ok (.invokevirtual 76, 3) := by decide +kernel
theorem dL_of_88 : decode cL_of 88 = .ok (.goto 111, 3) := by decide +kernel
theorem dL_of_91 : decode cL_of 91 = .ok (.iload_n 1, 1) := by decide +kernel
theorem dL_of_92 : decode cL_of 92 = .ok (.bipush 7, 2) := by decide +kernel
theorem dL_of_94 : decode cL_of 94 = .ok (.if_icmp .ne 11, 3) := by decide +kernel
theorem dL_of_97 : decode cL_of 97 = .ok (.aload_n 0, 1) := by decide +kernel
theorem dL_of_98 : decode cL_of 98 = .ok (.iload_n 2, 1) := by decide +kernel
theorem dL_of_99 : decode cL_of 99 = .ok (.invokevirtual 79, 3) := by decide +kernel
theorem dL_of_102 : decode cL_of 102 = .ok (.goto 97, 3) := by decide +kernel
theorem dL_of_105 : decode cL_of 105 = .ok (.iload_n 1, 1) := by decide +kernel
theorem dL_of_106 : decode cL_of 106 = .ok (.bipush 8, 2) := by decide +kernel
theorem dL_of_108 : decode cL_of 108 = .ok (.if_icmp .ne 11, 3) := by decide +kernel
theorem dL_of_111 : decode cL_of 111 = .ok (.aload_n 0, 1) := by decide +kernel
theorem dL_of_112 : decode cL_of 112 = .ok (.iload_n 2, 1) := by decide +kernel
theorem dL_of_113 : decode cL_of 113 = .ok (.invokevirtual 82, 3) := by decide +kernel
theorem dL_of_116 : decode cL_of 116 = .ok (.goto 83, 3) := by decide +kernel
theorem dL_of_119 : decode cL_of 119 = .ok (.iload_n 1, 1) := by decide +kernel
theorem dL_of_120 : decode cL_of 120 = .ok (.bipush 9, 2) := by decide +kernel
theorem dL_of_122 : decode cL_of 122 = .ok (.if_icmp .ne 11, 3) := by decide +kernel
theorem dL_of_125 : decode cL_of 125 = .ok (.aload_n 0, 1) := by decide +kernel
theorem dL_of_126 : decode cL_of 126 = .ok (.iload_n 2, 1) := by decide +kernel
theorem dL_of_127 : decode cL_of 127 = .ok (.invokevirtual 85, 3) := by decide +kernel
theorem dL_of_130 : decode cL_of 130 = .ok (.goto 69, 3) := by decide +kernel
theorem dL_of_133 : decode cL_of 133 = .ok (.iload_n 1, 1) := by decide +kernel
theorem dL_of_134 : decode cL_of 134 = .ok (.bipush 10, 2) := by decide +kernel
theorem dL_of_136 : decode cL_of 136 = .ok (.if_icmp .ne 12, 3) := by decide +kernel
theorem dL_of_139 : decode cL_of 139 = .ok (.aload_n 0, 1) := by decide +kernel
theorem dL_of_140 : decode cL_of 140 = .ok (.iload_n 2, 1) := by decide +kernel
theorem dL_of_141 : decode cL_of 141 = .ok (.iload_n 3, 1) := by decide +kernel
theorem dL_of_142 : decode cL_of 142 = .ok (.invokevirtual 88, 3) := by decide +kernel
theorem dL_of_145 : decode cL_of 145 = .ok (.goto 54, 3) := by decide +kernel
theorem dL_of_148 : decode cL_of 148 = .ok (.iload_n 1, 1) := by decide +kernel
theorem dL_of_149 : decode cL_of 149 = .ok (.bipush 11, 2) := by decide +kernel
theorem dL_of_151 : decode cL_of 151 = .ok (.if_icmp .ne 12, 3) := by decide +kernel
theorem dL_of_154 : decode cL_of 154 = .ok (.aload_n 0, 1) := by decide +kernel
theorem dL_of_155 : decode cL_of 155 = .ok (.iload_n 2, 1) := by decide +kernel
theorem dL_of_156 : decode cL_of 156 = .ok (.iload_n 3, 1) := by decide +kernel
theorem dL_of_157 : decode cL_of 157 = .ok (.invokevirtual 91, 3) := by decide +kernel
theorem dL_of_160 : decode cL_of 160 = .ok (.goto 39, 3) := by decide +kernel
theorem dL_of_163 : decode cL_of 163 = .ok (.iload_n 1, 1) := by decide +kernel
theorem dL_of_164 : decode cL_of 164 = .ok (.bipush 12, 2) := by decide +kernel
theorem dL_of_166 : decode cL_of 166 = .ok (.if_icmp .ne 12, 3) := by decide +kernel
theorem dL_of_169 : decode cL_of 169 = .ok (.aload_n 0, 1) := by decide +kernel
theorem dL_of_170 : decode cL_of 170 = .ok (.iload_n 2, 1) := by decide +kernel
theorem dL_of_171 : decode cL_of 171 = .ok (.iload_n 3, 1) := by decide +kernel
theorem dL_of_172 : decode cL_of 172 = .ok (.invokevirtual 94, 3) := by decide +kernel
theorem dL_of_175 : decode cL_of 175 = .ok (.goto 24, 3) := by decide +kernel
theorem dL_of_178 : decode cL_of 178 = .ok (.iload_n 1, 1) := by decide +kernel
theorem dL_of_179 : decode cL_of 179 = .ok (.bipush 13, 2) := by decide +kernel
theorem dL_of_181 : decode cL_of 181 = .ok (.if_icmp .ne 12, 3) := by decide +kernel
theorem dL_of_184 : decode cL_of 184 = .ok (.aload_n 0, 1) := by decide +kernel
theorem dL_of_185 : decode cL_of 185 = .ok (.iload_n 2, 1) := by decide +kernel
theorem dL_of_186 : decode cL_of 186 = .ok (.iload_n 3, 1) := by decide +kernel
theorem dL_of_187 : decode cL_of 187 = .ok (.invokevirtual 97, 3) := by decide +kernel
theorem dL_of_190 : decode cL_of 190 = .ok (.goto 9, 3) := by decide +kernel
theorem dL_of_193 : decode cL_of 193 = .ok (.aload_n 0, 1) := by decide +kernel
theorem dL_of_194 : decode cL_of 194 = .ok (.iload_n 2, 1) := by decide +kernel
theorem dL_of_195 : decode cL_of 195 = .ok (.iload_n 3, 1) := by decide +kernel
theorem dL_of_196 : decode cL_of 196 = .ok (.invokevirtual 100, 3) := by decide +kernel
theorem dL_of_199 : decode cL_of 199 = .ok (.ireturn, 1) := by decide +kernel
theorem dL_of_200 : decode cL_of 200 = .ok (.astore 4, 2) := by decide +kernel
theorem dL_of_202 : decode cL_of 202 = .ok (.sipush (-1232), 3) := by decide +kernel
theorem dL_of_205 : decode cL_of 205 = .ok (.ireturn, 1) := by decide +kernel
set_option maxRecDepth 20000 in
theorem ggL_all_X3_time : GoodIn wsL_all wsX3_time := goodIn_r _ [13, 14, 124, 125, 126, 127] (by decide +kernel) (by decide +kernel)
set_option maxRecDepth 20000 in
theorem gL_all_X3_time : GoodIn wsL_all (wsV RL 103 RX3 yX3_time wsX3_time) := goodIn_app (goodIn_of _ (by decide +kernel)) ggL_all_X3_time
set_option maxRecDepth 20000 in
theorem ggL_all_X3_vain : GoodIn wsL_all wsX3_vain := goodIn_r _ [18, 19, 20, 124, 125, 126, 127, 128, 129, 130, 131, 132, 133, 134, 135, 136, 137, 138, 139] (by decide +kernel) (by decide +kernel)
set_option maxRecDepth 20000 in
theorem gL_all_X3_vain : GoodIn wsL_all (wsV RL 109 RX3 yX3_vain wsX3_vain) := goodIn_app (goodIn_of _ (by decide +kernel)) ggL_all_X3_vain
set_option maxRecDepth 20000 in
theorem ggL_all_X3_unnoticed : GoodIn wsL_all wsX3_unnoticed := goodIn_r _ [24, 19, 25, 26, 27, 28, 29, 30, 31, 32, 33, 34, 35, 124, 125, 126, 127, 128, 129, 130, 131, 132, 133, 134, 135, 136, 137, 138, 139] (by decide +kernel) (by decide +kernel)
set_option maxRecDepth 20000 in
theorem gL_all_X3_unnoticed : GoodIn wsL_all (wsV RL 114 RX3 yX3_unnoticed wsX3_unnoticed) := goodIn_app (goodIn_of _ (by decide +kernel)) ggL_all_X3_unnoticed
set_option maxRecDepth 20000 in
theorem ggL_all_X3_mistaken : GoodIn wsL_all wsX3_mistaken := goodIn_r _ [39, 19, 40, 41, 42, 28, 43, 30, 31, 32, 33, 34, 35, 124, 125, 126, 127, 128, 129, 130, 131, 132, 133, 134, 135, 136, 137, 138, 139] (by decide +kernel) (by decide +kernel)
set_option maxRecDepth 20000 in
theorem gL_all_X3_mistaken : GoodIn wsL_all (wsV RL 119 RX3 yX3_mistaken wsX3_mistaken) := goodIn_app (goodIn_of _ (by decide +kernel)) ggL_all_X3_mistaken
set_option maxRecDepth 20000 in
theorem ggL_all_X3_volume : GoodIn wsL_all wsX3_volume := goodIn_ca (goodIn_r _ [47, 48, 49, 50, 51, 12, 52, 53, 54, 55, 56, 57, 124, 125, 126, 127, 140, 141, 142, 143, 144, 145, 146, 147] (by decide +kernel) (by decide +kernel)) (goodIn_sub (fun _ h => List.mem_cons_of_mem _ (List.mem_append_right _ h)) (by decide +kernel))
set_option maxRecDepth 20000 in
theorem gL_all_X3_volume : GoodIn wsL_all (wsV RL 58 RX3 yX3_volume wsX3_volume) := goodIn_app (goodIn_of _ (by decide +kernel)) ggL_all_X3_volume
set_option maxRecDepth 20000 in
theorem ggL_all_X3_opening : GoodIn wsL_all wsX3_opening := goodIn_ca (goodIn_r _ [61, 62, 63, 50, 51, 12, 52, 53, 54, 55, 56, 57, 124, 125, 126, 127, 148, 149, 150, 151, 152, 153, 154, 155] (by decide +kernel) (by decide +kernel)) (goodIn_sub (fun _ h => List.mem_cons_of_mem _ (List.mem_append_right _ h)) (by decide +kernel))
set_option maxRecDepth 20000 in
theorem gL_all_X3_opening : GoodIn wsL_all (wsV RL 73 RX3 yX3_opening wsX3_opening) := goodIn_app (goodIn_of _ (by decide +kernel)) ggL_all_X3_opening
set_option maxRecDepth 20000 in
theorem ggL_all_X3_safety : GoodIn wsL_all wsX3_safety := goodIn_ca (goodIn_r _ [67, 62, 68, 50, 51, 12, 52, 53, 54, 55, 56, 57, 124, 125, 126, 127, 148, 149, 150, 151, 152, 153, 154, 155] (by decide +kernel) (by decide +kernel)) (goodIn_sub (fun _ h => List.mem_cons_of_mem _ (List.mem_append_right _ h)) (by decide +kernel))
set_option maxRecDepth 20000 in
theorem gL_all_X3_safety : GoodIn wsL_all (wsV RL 76 RX3 yX3_safety wsX3_safety) := goodIn_app (goodIn_of _ (by decide +kernel)) ggL_all_X3_safety
set_option maxRecDepth 20000 in
theorem ggL_all_X3_agree : GoodIn wsL_all wsX3_agree := goodIn_ca (goodIn_r _ [72, 19, 48, 50, 51, 12, 52, 53, 54, 55, 56, 57, 73, 74, 75, 76, 77, 78, 79, 80, 81, 82, 28, 83, 30, 84, 85, 86, 87, 88, 89, 124, 125, 126, 127, 140, 141, 142, 143, 144, 145, 146, 147, 128, 129, 130, 131, 132, 133, 134, 135, 136, 137, 138, 139] (by decide +kernel) (by decide +kernel)) (goodIn_sub (fun _ h => List.mem_cons_of_mem _ (List.mem_append_right _ h)) (by decide +kernel))
set_option maxRecDepth 20000 in
theorem gL_all_X3_agree : GoodIn wsL_all (wsV RL 85 RX3 yX3_agree wsX3_agree) := goodIn_app (goodIn_of _ (by decide +kernel)) ggL_all_X3_agree
set_option maxRecDepth 20000 in
theorem ggL_all_X3_partner : GoodIn wsL_all wsX3_partner := goodIn_ca (goodIn_r _ [93, 19, 94, 14, 50, 51, 12, 52, 53, 54, 55, 56, 57, 95, 96, 97, 28, 98, 99, 100, 101, 102, 35, 124, 125, 126, 127, 128, 129, 130, 131, 132, 133, 134, 135, 136, 137, 138, 139] (by decide +kernel) (by decide +kernel)) (goodIn_sub (fun _ h => List.mem_cons_of_mem _ (List.mem_append_right _ h)) (by decide +kernel))
set_option maxRecDepth 20000 in
theorem gL_all_X3_partner : GoodIn wsL_all (wsV RL 79 RX3 yX3_partner wsX3_partner) := goodIn_app (goodIn_of _ (by decide +kernel)) ggL_all_X3_partner
set_option maxRecDepth 20000 in
theorem ggL_all_X3_version : GoodIn wsL_all wsX3_version := goodIn_ca (goodIn_r _ [106, 19, 107, 50, 51, 12, 52, 53, 54, 55, 56, 57, 124, 125, 126, 127, 128, 129, 130, 131, 132, 133, 134, 135, 136, 137, 138, 139] (by decide +kernel) (by decide +kernel)) (goodIn_sub (fun _ h => List.mem_cons_of_mem _ (List.mem_append_right _ h)) (by decide +kernel))
set_option maxRecDepth 20000 in
theorem gL_all_X3_version : GoodIn wsL_all (wsV RL 91 RX3 yX3_version wsX3_version) := goodIn_app (goodIn_of _ (by decide +kernel)) ggL_all_X3_version
set_option maxRecDepth 20000 in
theorem ggL_all_X3_beat : GoodIn wsL_all wsX3_beat := goodIn_ca (goodIn_r _ [111, 19, 112, 50, 51, 12, 52, 53, 54, 55, 56, 57, 124, 125, 126, 127, 128, 129, 130, 131, 132, 133, 134, 135, 136, 137, 138, 139] (by decide +kernel) (by decide +kernel)) (goodIn_sub (fun _ h => List.mem_cons_of_mem _ (List.mem_append_right _ h)) (by decide +kernel))
set_option maxRecDepth 20000 in
theorem gL_all_X3_beat : GoodIn wsL_all (wsV RL 97 RX3 yX3_beat wsX3_beat) := goodIn_app (goodIn_of _ (by decide +kernel)) ggL_all_X3_beat
set_option maxRecDepth 20000 in
theorem ggL_all_X3_status : GoodIn wsL_all wsX3_status := goodIn_ca (goodIn_r _ [116, 19, 117, 50, 51, 12, 52, 53, 54, 55, 56, 57, 124, 125, 126, 127, 128, 129, 130, 131, 132, 133, 134, 135, 136, 137, 138, 139] (by decide +kernel) (by decide +kernel)) (goodIn_sub (fun _ h => List.mem_cons_of_mem _ (List.mem_append_right _ h)) (by decide +kernel))
set_option maxRecDepth 20000 in
theorem gL_all_X3_status : GoodIn wsL_all (wsV RL 100 RX3 yX3_status wsX3_status) := goodIn_app (goodIn_of _ (by decide +kernel)) ggL_all_X3_status
set_option maxRecDepth 20000 in
theorem ggL_all_X3_believed : GoodIn wsL_all wsX3_believed := goodIn_ca (goodIn_r _ [121, 19, 122, 50, 51, 12, 52, 53, 54, 55, 56, 57, 123, 86, 87, 28, 88, 89, 124, 125, 126, 127, 128, 129, 130, 131, 132, 133, 134, 135, 136, 137, 138, 139] (by decide +kernel) (by decide +kernel)) (goodIn_sub (fun _ h => List.mem_cons_of_mem _ (List.mem_append_right _ h)) (by decide +kernel))
set_option maxRecDepth 20000 in
theorem gL_all_X3_believed : GoodIn wsL_all (wsV RL 88 RX3 yX3_believed wsX3_believed) := goodIn_app (goodIn_of _ (by decide +kernel)) ggL_all_X3_believed
theorem dL_all_0 : decode cL_all 0 = .ok (.aload_n 0, 1) := by decide +kernel
theorem dL_all_1 : decode cL_all 1 = .ok (.invokevirtual 103, 3) := by decide +kernel
theorem dL_all_4 : decode cL_all 4 = .ok (.i2l, 1) := by decide +kernel
theorem dL_all_5 : decode cL_all 5 = .ok (.ldc2_w 107, 3) := by decide +kernel
theorem dL_all_8 : decode cL_all 8 = .ok (.aload_n 0, 1) := by decide +kernel
theorem dL_all_9 : decode cL_all 9 = .ok (.invokevirtual 109, 3) := by decide +kernel
theorem dL_all_12 : decode cL_all 12 = .ok (.i2l, 1) := by decide +kernel
theorem dL_all_13 : decode cL_all 13 = .ok (.lmul, 1) := by decide +kernel
theorem dL_all_14 : decode cL_all 14 = .ok (.ladd, 1) := by decide +kernel
theorem dL_all_15 : decode cL_all 15 = .ok (.ldc2_w 112, 3) := by decide +kernel
theorem dL_all_18 : decode cL_all 18 = .ok (.aload_n 0, 1) := by decide +kernel
theorem dL_all_19 : decode cL_all 19 = .ok (.invokevirtual 114, 3) := by decide +kernel
theorem dL_all_22 : decode cL_all 22 = .ok (.i2l, 1) := by decide +kernel
theorem dL_all_23 : decode cL_all 23 = .ok (.lmul, 1) := by decide +kernel
theorem dL_all_24 : decode cL_all 24 = .ok (.ladd, 1) := by decide +kernel
theorem dL_all_25 : decode cL_all 25 = .ok (.ldc2_w 117, 3) := by decide +kernel
theorem dL_all_28 : decode cL_all 28 = .ok (.aload_n 0, 1) := by decide +kernel
theorem dL_all_29 : decode cL_all 29 = .ok (.invokevirtual 119, 3) := by decide +kernel
theorem dL_all_32 : decode cL_all 32 = .ok (.i2l, 1) := by decide +kernel
theorem dL_all_33 : decode cL_all 33 = .ok (.lmul, 1) := by decide +kernel
theorem dL_all_34 : decode cL_all 34 = .ok (.ladd, 1) := by decide +kernel
theorem dL_all_35 : decode cL_all 35 = .ok (.lstore_n 1, 1) := by decide +kernel
theorem dL_all_36 : decode cL_all 36 = .ok (.iconst 0, 1) := by decide +kernel
theorem dL_all_37 : decode cL_all 37 = .ok (.istore_n 3, 1) := by decide +kernel
theorem dL_all_38 : decode cL_all 38 = .ok (.iload_n 3, 1) := by decide +kernel
theorem dL_all_39 : decode cL_all 39 = .ok (.bipush 8, 2) := by decide +kernel
theorem dL_all_41 : decode cL_all 41 = .ok (.if_icmp .ge 136, 3) := by decide +kernel
theorem dL_all_44 : decode cL_all 44 = .ok (.ldc2_w 122, 3) := by decide +kernel
theorem dL_all_47 : decode cL_all 47 = .ok (.lload_n 1, 1) := by decide +kernel
theorem dL_all_48 : decode cL_all 48 = .ok (.lmul, 1) := by decide +kernel
theorem dL_all_49 : decode cL_all 49 = .ok (.aload_n 0, 1) := by decide +kernel
theorem dL_all_50 : decode cL_all 50 = .ok (.iload_n 3, 1) := by decide +kernel
theorem dL_all_51 : decode cL_all 51 = .ok (.invokevirtual 58, 3) := by decide +kernel
theorem dL_all_54 : decode cL_all 54 = .ok (.i2l, 1) := by decide +kernel
theorem dL_all_55 : decode cL_all 55 = .ok (.ladd, 1) := by decide +kernel
theorem dL_all_56 : decode cL_all 56 = .ok (.ldc2_w 107, 3) := by decide +kernel
theorem dL_all_59 : decode cL_all 59 = .ok (.aload_n 0, 1) := by decide +kernel
theorem dL_all_60 : decode cL_all 60 = .ok (.iload_n 3, 1) := by decide +kernel
theorem dL_all_61 : decode cL_all 61 = .ok (.invokevirtual 73, 3) := by decide +kernel
theorem dL_all_64 : decode cL_all 64 = .ok (.i2l, 1) := by decide +kernel
theorem dL_all_65 : decode cL_all 65 = .ok (.lmul, 1) := by decide +kernel
theorem dL_all_66 : decode cL_all 66 = .ok (.ladd, 1) := by decide +kernel
theorem dL_all_67 : decode cL_all 67 = .ok (.ldc2_w 112, 3) := by decide +kernel
theorem dL_all_70 : decode cL_all 70 = .ok (.aload_n 0, 1) := by decide +kernel
theorem dL_all_71 : decode cL_all 71 = .ok (.iload_n 3, 1) := by decide +kernel
theorem dL_all_72 : decode cL_all 72 = .ok (.invokevirtual 76, 3) := by decide +kernel
theorem dL_all_75 : decode cL_all 75 = .ok (.i2l, 1) := by decide +kernel
theorem dL_all_76 : decode cL_all 76 = .ok (.lmul, 1) := by decide +kernel
theorem dL_all_77 : decode cL_all 77 = .ok (.ladd, 1) := by decide +kernel
theorem dL_all_78 : decode cL_all 78 = .ok (.ldc2_w 117, 3) := by decide +kernel
theorem dL_all_81 : decode cL_all 81 = .ok (.aload_n 0, 1) := by decide +kernel
theorem dL_all_82 : decode cL_all 82 = .ok (.iload_n 3, 1) := by decide +kernel
theorem dL_all_83 : decode cL_all 83 = .ok (.invokevirtual 85, 3) := by decide +kernel
theorem dL_all_86 : decode cL_all 86 = .ok (.i2l, 1) := by decide +kernel
theorem dL_all_87 : decode cL_all 87 = .ok (.lmul, 1) := by decide +kernel
theorem dL_all_88 : decode cL_all 88 = .ok (.ladd, 1) := by decide +kernel
theorem dL_all_89 : decode cL_all 89 = .ok (.ldc2_w 124, 3) := by decide +kernel
theorem dL_all_92 : decode cL_all 92 = .ok (.aload_n 0, 1) := by decide +kernel
theorem dL_all_93 : decode cL_all 93 = .ok (.iload_n 3, 1) := by decide +kernel
theorem dL_all_94 : decode cL_all 94 = .ok (.invokevirtual 79, 3) := by decide +kernel
theorem dL_all_97 : decode cL_all 97 = .ok (.i2l, 1) := by decide +kernel
theorem dL_all_98 : decode cL_all 98 = .ok (.lmul, 1) := by decide +kernel
theorem dL_all_99 : decode cL_all 99 = .ok (.ladd, 1) := by decide +kernel
theorem dL_all_100 : decode cL_all 100 = .ok (.lstore_n 1, 1) := by decide +kernel
theorem dL_all_101 : decode cL_all 101 = .ok (.iconst 0, 1) := by decide +kernel
theorem dL_all_102 : decode cL_all 102 = .ok (.istore 4, 2) := by decide +kernel
theorem dL_all_104 : decode cL_all 104 = .ok (.iload 4, 2) := by decide +kernel
theorem dL_all_106 : decode cL_all 106 = .ok (.bipush 8, 2) := by decide +kernel
theorem dL_all_108 : decode cL_all 108 = .ok (.if_icmp .ge 63, 3) := by decide +kernel
theorem dL_all_111 : decode cL_all 111 = .ok (.ldc2_w 107, 3) := by decide +kernel
theorem dL_all_114 : decode cL_all 114 = .ok (.lload_n 1, 1) := by decide +kernel
theorem dL_all_115 : decode cL_all 115 = .ok (.lmul, 1) := by decide +kernel
theorem dL_all_116 : decode cL_all 116 = .ok (.aload_n 0, 1) := by decide +kernel
theorem dL_all_117 : decode cL_all 117 = .ok (.iload_n 3, 1) := by decide +kernel
theorem dL_all_118 : decode cL_all 118 = .ok (.iload 4, 2) := by decide +kernel
theorem dL_all_120 : decode cL_all 120 = .ok (.invokevirtual 91, 3) := by decide +kernel
theorem dL_all_123 : decode cL_all 123 = .ok (.i2l, 1) := by decide +kernel
theorem dL_all_124 : decode cL_all 124 = .ok (.ladd, 1) := by decide +kernel
theorem dL_all_125 : decode cL_all 125 = .ok (.ldc2_w 126, 3) := by decide +kernel
theorem dL_all_128 : decode cL_all 128 = .ok (.aload_n 0, 1) := by decide +kernel
theorem dL_all_129 : decode cL_all 129 = .ok (.iload_n 3, 1) := by decide +kernel
theorem dL_all_130 : decode cL_all 130 = .ok (.iload 4, 2) := by decide +kernel
theorem dL_all_132 : decode cL_all 132 = .ok (.invokevirtual 97, 3) := by decide +kernel
theorem dL_all_135 : decode cL_all 135 = .ok (.i2l, 1) := by decide +kernel
theorem dL_all_136 : decode cL_all 136 = .ok (.lmul, 1) := by decide +kernel
theorem dL_all_137 : decode cL_all 137 = .ok (.ladd, 1) := by decide +kernel
theorem dL_all_138 : decode cL_all 138 = .ok (.ldc2_w 128, 3) := by decide +kernel
theorem dL_all_141 : decode cL_all 141 = .ok (.aload_n 0, 1) := by decide +kernel
theorem dL_all_142 : decode cL_all 142 = .ok (.iload_n 3, 1) := by decide +kernel
theorem dL_all_143 : decode cL_all 143 = .ok (.iload 4, 2) := by decide +kernel
theorem dL_all_145 : decode cL_all 145 = .ok (.invokevirtual 100, 3) := by decide +kernel
theorem dL_all_148 : decode cL_all 148 = .ok (.i2l, 1) := by decide +kernel
theorem dL_all_149 : decode cL_all 149 = .ok (.lmul, 1) := by decide +kernel
theorem dL_all_150 : decode cL_all 150 = .ok (.ladd, 1) := by decide +kernel
theorem dL_all_151 : decode cL_all 151 = .ok (.ldc2_w 130, 3) := by decide +kernel
theorem dL_all_154 : decode cL_all 154 = .ok (.aload_n 0, 1) := by decide +kernel
theorem dL_all_155 : decode cL_all 155 = .ok (.iload_n 3, 1) := by decide +kernel
theorem dL_all_156 : decode cL_all 156 = .ok (.iload 4, 2) := by decide +kernel
theorem dL_all_158 : decode cL_all 158 = .ok (.invokevirtual 88, 3) := by decide +kernel
theorem dL_all_161 : decode cL_all 161 = .ok (.i2l, 1) := by decide +kernel
theorem dL_all_162 : decode cL_all 162 = .ok (.lmul, 1) := by decide +kernel
theorem dL_all_163 : decode cL_all 163 = .ok (.ladd, 1) := by decide +kernel
theorem dL_all_164 : decode cL_all 164 = .ok (.lstore_n 1, 1) := by decide +kernel
theorem dL_all_165 : decode cL_all 165 = .ok (.iinc 4 1, 3) := by decide +kernel
theorem dL_all_168 : decode cL_all 168 = .ok (.goto (-64), 3) := by decide +kernel
theorem dL_all_171 : decode cL_all 171 = .ok (.iinc 3 1, 3) := by decide +kernel
theorem dL_all_174 : decode cL_all 174 = .ok (.goto (-136), 3) := by decide +kernel
theorem dL_all_177 : decode cL_all 177 = .ok (.lload_n 1, 1) := by decide +kernel
theorem dL_all_178 : decode cL_all 178 = .ok (.lreturn, 1) := by decide +kernel
set_option maxRecDepth 20000 in
theorem ggL_keeps_X3_volume : GoodIn wsL_keeps wsX3_volume := goodIn_ca (goodIn_r _ [5, 6, 7, 8, 9, 4, 10, 11, 12, 13, 14, 15, 38, 39, 40, 41, 42, 43, 44, 45, 46, 47, 48, 49] (by decide +kernel) (by decide +kernel)) (goodIn_sub (fun _ h => List.mem_cons_of_mem _ (List.mem_append_right _ h)) (by decide +kernel))
set_option maxRecDepth 20000 in
theorem gL_keeps_X3_volume : GoodIn wsL_keeps (wsV RL 58 RX3 yX3_volume wsX3_volume) := goodIn_app (goodIn_of _ (by decide +kernel)) ggL_keeps_X3_volume
set_option maxRecDepth 20000 in
theorem ggL_keeps_X3_flowed : GoodIn wsL_keeps wsX3_flowed := goodIn_ca (goodIn_r _ [19, 6, 20, 8, 9, 4, 10, 11, 12, 13, 14, 15, 38, 39, 40, 41, 42, 43, 44, 45, 46, 47, 48, 49] (by decide +kernel) (by decide +kernel)) (goodIn_sub (fun _ h => List.mem_cons_of_mem _ (List.mem_append_right _ h)) (by decide +kernel))
set_option maxRecDepth 20000 in
theorem gL_keeps_X3_flowed : GoodIn wsL_keeps (wsV RL 67 RX3 yX3_flowed wsX3_flowed) := goodIn_app (goodIn_of _ (by decide +kernel)) ggL_keeps_X3_flowed
set_option maxRecDepth 20000 in
theorem ggL_keeps_X3_spilled : GoodIn wsL_keeps wsX3_spilled := goodIn_ca (goodIn_r _ [24, 6, 25, 8, 9, 4, 10, 11, 12, 13, 14, 15, 38, 39, 40, 41, 42, 43, 44, 45, 46, 47, 48, 49] (by decide +kernel) (by decide +kernel)) (goodIn_sub (fun _ h => List.mem_cons_of_mem _ (List.mem_append_right _ h)) (by decide +kernel))
set_option maxRecDepth 20000 in
theorem gL_keeps_X3_spilled : GoodIn wsL_keeps (wsV RL 70 RX3 yX3_spilled wsX3_spilled) := goodIn_app (goodIn_of _ (by decide +kernel)) ggL_keeps_X3_spilled
set_option maxRecDepth 20000 in
theorem ggL_keeps_X3_opening : GoodIn wsL_keeps wsX3_opening := goodIn_ca (goodIn_r _ [29, 30, 31, 8, 9, 4, 10, 11, 12, 13, 14, 15, 38, 39, 40, 41, 50, 51, 52, 53, 54, 55, 56, 57] (by decide +kernel) (by decide +kernel)) (goodIn_sub (fun _ h => List.mem_cons_of_mem _ (List.mem_append_right _ h)) (by decide +kernel))
set_option maxRecDepth 20000 in
theorem gL_keeps_X3_opening : GoodIn wsL_keeps (wsV RL 73 RX3 yX3_opening wsX3_opening) := goodIn_app (goodIn_of _ (by decide +kernel)) ggL_keeps_X3_opening
set_option maxRecDepth 20000 in
theorem ggL_keeps_X3_beat : GoodIn wsL_keeps wsX3_beat := goodIn_ca (goodIn_r _ [35, 36, 37, 8, 9, 4, 10, 11, 12, 13, 14, 15, 38, 39, 40, 41, 58, 59, 60, 61, 62, 63, 64, 65, 66, 67, 68, 69] (by decide +kernel) (by decide +kernel)) (goodIn_sub (fun _ h => List.mem_cons_of_mem _ (List.mem_append_right _ h)) (by decide +kernel))
set_option maxRecDepth 20000 in
theorem gL_keeps_X3_beat : GoodIn wsL_keeps (wsV RL 97 RX3 yX3_beat wsX3_beat) := goodIn_app (goodIn_of _ (by decide +kernel)) ggL_keeps_X3_beat
theorem dL_keeps_0 : decode cL_keeps 0 = .ok (.iconst 0, 1) := by decide +kernel
theorem dL_keeps_1 : decode cL_keeps 1 = .ok (.istore_n 3, 1) := by decide +kernel
theorem dL_keeps_2 : decode cL_keeps 2 = .ok (.iload_n 3, 1) := by decide +kernel
theorem dL_keeps_3 : decode cL_keeps 3 = .ok (.bipush 8, 2) := by decide +kernel
theorem dL_keeps_5 : decode cL_keeps 5 = .ok (.if_icmp .ge 95, 3) := by decide +kernel
theorem dL_keeps_8 : decode cL_keeps 8 = .ok (.aload_n 1, 1) := by decide +kernel
theorem dL_keeps_9 : decode cL_keeps 9 = .ok (.bipush 8, 2) := by decide +kernel
theorem dL_keeps_11 : decode cL_keeps 11 = .ok (.iload_n 3, 1) := by decide +kernel
theorem dL_keeps_12 : decode cL_keeps 12 = .ok (.imul, 1) := by decide +kernel
theorem dL_keeps_13 : decode cL_keeps 13 = .ok (.iconst 4, 1) := by decide +kernel
theorem dL_keeps_14 : decode cL_keeps 14 = .ok (.iadd, 1) := by decide +kernel
theorem dL_keeps_15 : decode cL_keeps 15 = .ok (.aload_n 0, 1) := by decide +kernel
theorem dL_keeps_16 : decode cL_keeps 16 = .ok (.iload_n 3, 1) := by decide +kernel
theorem dL_keeps_17 : decode cL_keeps 17 = .ok (.invokevirtual 58, 3) := by decide +kernel
theorem dL_keeps_20 : decode cL_keeps 20 = .ok (.iastore, 1) := by decide +kernel
theorem dL_keeps_21 : decode cL_keeps 21 = .ok (.aload_n 1, 1) := by decide +kernel
theorem dL_keeps_22 : decode cL_keeps 22 = .ok (.bipush 8, 2) := by decide +kernel
theorem dL_keeps_24 : decode cL_keeps 24 = .ok (.iload_n 3, 1) := by decide +kernel
theorem dL_keeps_25 : decode cL_keeps 25 = .ok (.imul, 1) := by decide +kernel
theorem dL_keeps_26 : decode cL_keeps 26 = .ok (.iconst 5, 1) := by decide +kernel
theorem dL_keeps_27 : decode cL_keeps 27 = .ok (.iadd, 1) := by decide +kernel
theorem dL_keeps_28 : decode cL_keeps 28 = .ok (.aload_n 0, 1) := by decide +kernel
theorem dL_keeps_29 : decode cL_keeps 29 = .ok (.iload_n 3, 1) := by decide +kernel
theorem dL_keeps_30 : decode cL_keeps 30 = .ok (.invokevirtual 67, 3) := by decide +kernel
theorem dL_keeps_33 : decode cL_keeps 33 = .ok (.iastore, 1) := by decide +kernel
theorem dL_keeps_34 : decode cL_keeps 34 = .ok (.aload_n 1, 1) := by decide +kernel
theorem dL_keeps_35 : decode cL_keeps 35 = .ok (.bipush 8, 2) := by decide +kernel
theorem dL_keeps_37 : decode cL_keeps 37 = .ok (.iload_n 3, 1) := by decide +kernel
theorem dL_keeps_38 : decode cL_keeps 38 = .ok (.imul, 1) := by decide +kernel
theorem dL_keeps_39 : decode cL_keeps 39 = .ok (.bipush 6, 2) := by decide +kernel
theorem dL_keeps_41 : decode cL_keeps 41 = .ok (.iadd, 1) := by decide +kernel
theorem dL_keeps_42 : decode cL_keeps 42 = .ok (.aload_n 0, 1) := by decide +kernel
theorem dL_keeps_43 : decode cL_keeps 43 = .ok (.iload_n 3, 1) := by decide +kernel
theorem dL_keeps_44 : decode cL_keeps 44 = .ok (.invokevirtual 70, 3) := by decide +kernel
theorem dL_keeps_47 : decode cL_keeps 47 = .ok (.iastore, 1) := by decide +kernel
theorem dL_keeps_48 : decode cL_keeps 48 = .ok (.aload_n 1, 1) := by decide +kernel
theorem dL_keeps_49 : decode cL_keeps 49 = .ok (.bipush 8, 2) := by decide +kernel
theorem dL_keeps_51 : decode cL_keeps 51 = .ok (.iload_n 3, 1) := by decide +kernel
theorem dL_keeps_52 : decode cL_keeps 52 = .ok (.imul, 1) := by decide +kernel
theorem dL_keeps_53 : decode cL_keeps 53 = .ok (.bipush 7, 2) := by decide +kernel
theorem dL_keeps_55 : decode cL_keeps 55 = .ok (.iadd, 1) := by decide +kernel
theorem dL_keeps_56 : decode cL_keeps 56 = .ok (.aload_n 0, 1) := by decide +kernel
theorem dL_keeps_57 : decode cL_keeps 57 = .ok (.iload_n 3, 1) := by decide +kernel
theorem dL_keeps_58 : decode cL_keeps 58 = .ok (.invokevirtual 73, 3) := by decide +kernel
theorem dL_keeps_61 : decode cL_keeps 61 = .ok (.iastore, 1) := by decide +kernel
theorem dL_keeps_62 : decode cL_keeps 62 = .ok (.iconst 0, 1) := by decide +kernel
theorem dL_keeps_63 : decode cL_keeps 63 = .ok (.istore 4, 2) := by decide +kernel
theorem dL_keeps_65 : decode cL_keeps 65 = .ok (.iload 4, 2) := by decide +kernel
theorem dL_keeps_67 : decode cL_keeps 67 = .ok (.bipush 8, 2) := by decide +kernel
theorem dL_keeps_69 : decode cL_keeps 69 = .ok (.if_icmp .ge 25, 3) := by decide +kernel
theorem dL_keeps_72 : decode cL_keeps 72 = .ok (.aload_n 2, 1) := by decide +kernel
theorem dL_keeps_73 : decode cL_keeps 73 = .ok (.bipush 8, 2) := by decide +kernel
theorem dL_keeps_75 : decode cL_keeps 75 = .ok (.iload_n 3, 1) := by decide +kernel
theorem dL_keeps_76 : decode cL_keeps 76 = .ok (.imul, 1) := by decide +kernel
theorem dL_keeps_77 : decode cL_keeps 77 = .ok (.iload 4, 2) := by decide +kernel
theorem dL_keeps_79 : decode cL_keeps 79 = .ok (.iadd, 1) := by decide +kernel
theorem dL_keeps_80 : decode cL_keeps 80 = .ok (.aload_n 0, 1) := by decide +kernel
theorem dL_keeps_81 : decode cL_keeps 81 = .ok (.iload_n 3, 1) := by decide +kernel
theorem dL_keeps_82 : decode cL_keeps 82 = .ok (.iload 4, 2) := by decide +kernel
theorem dL_keeps_84 : decode cL_keeps 84 = .ok (.invokevirtual 97, 3) := by decide +kernel
theorem dL_keeps_87 : decode cL_keeps 87 = .ok (.iastore, 1) := by decide +kernel
theorem dL_keeps_88 : decode cL_keeps 88 = .ok (.iinc 4 1, 3) := by decide +kernel
theorem dL_keeps_91 : decode cL_keeps 91 = .ok (.goto (-26), 3) := by decide +kernel
theorem dL_keeps_94 : decode cL_keeps 94 = .ok (.iinc 3 1, 3) := by decide +kernel
theorem dL_keeps_97 : decode cL_keeps 97 = .ok (.goto (-95), 3) := by decide +kernel
theorem dL_keeps_100 : decode cL_keeps 100 = .ok (.return_, 1) := by decide +kernel
set_option maxRecDepth 20000 in
theorem ggL_isWater_X3_flowed : GoodIn wsL_isWater wsX3_flowed := goodIn_ca (goodIn_r _ [5, 6, 7, 8, 9, 4, 10, 11, 12, 13, 14, 15, 48, 49, 50, 51, 52, 53, 54, 55, 56, 57, 58, 59] (by decide +kernel) (by decide +kernel)) (goodIn_sub (fun _ h => List.mem_cons_of_mem _ (List.mem_append_right _ h)) (by decide +kernel))
set_option maxRecDepth 20000 in
theorem gL_isWater_X3_flowed : GoodIn wsL_isWater (wsV RL 67 RX3 yX3_flowed wsX3_flowed) := goodIn_app (goodIn_of _ (by decide +kernel)) ggL_isWater_X3_flowed
set_option maxRecDepth 20000 in
theorem ggL_isWater_X3_spilled : GoodIn wsL_isWater wsX3_spilled := goodIn_ca (goodIn_r _ [19, 6, 20, 8, 9, 4, 10, 11, 12, 13, 14, 15, 48, 49, 50, 51, 52, 53, 54, 55, 56, 57, 58, 59] (by decide +kernel) (by decide +kernel)) (goodIn_sub (fun _ h => List.mem_cons_of_mem _ (List.mem_append_right _ h)) (by decide +kernel))
set_option maxRecDepth 20000 in
theorem gL_isWater_X3_spilled : GoodIn wsL_isWater (wsV RL 70 RX3 yX3_spilled wsX3_spilled) := goodIn_app (goodIn_of _ (by decide +kernel)) ggL_isWater_X3_spilled
set_option maxRecDepth 20000 in
theorem ggL_isWater_X3_volume : GoodIn wsL_isWater wsX3_volume := goodIn_ca (goodIn_r _ [24, 6, 25, 8, 9, 4, 10, 11, 12, 13, 14, 15, 48, 49, 50, 51, 52, 53, 54, 55, 56, 57, 58, 59] (by decide +kernel) (by decide +kernel)) (goodIn_sub (fun _ h => List.mem_cons_of_mem _ (List.mem_append_right _ h)) (by decide +kernel))
set_option maxRecDepth 20000 in
theorem gL_isWater_X3_volume : GoodIn wsL_isWater (wsV RL 58 RX3 yX3_volume wsX3_volume) := goodIn_app (goodIn_of _ (by decide +kernel)) ggL_isWater_X3_volume
set_option maxRecDepth 20000 in
theorem ggL_isWater_X3_volumeByBalance : GoodIn wsL_isWater wsX3_volumeByBalance := goodIn_ca (goodIn_r _ [29, 6, 8, 9, 4, 10, 11, 12, 13, 14, 15, 30, 31, 32, 33, 34, 35, 36, 37, 48, 49, 50, 51, 52, 53, 54, 55, 56, 57, 58, 59] (by decide +kernel) (by decide +kernel)) (goodIn_sub (fun _ h => List.mem_cons_of_mem _ (List.mem_append_right _ h)) (by decide +kernel))
set_option maxRecDepth 20000 in
theorem gL_isWater_X3_volumeByBalance : GoodIn wsL_isWater (wsV RL 61 RX3 yX3_volumeByBalance wsX3_volumeByBalance) := goodIn_app (goodIn_of _ (by decide +kernel)) ggL_isWater_X3_volumeByBalance
set_option maxRecDepth 20000 in
theorem ggL_isWater_X3_level : GoodIn wsL_isWater wsX3_level := goodIn_ca (goodIn_r _ [41, 6, 8, 9, 4, 10, 11, 12, 13, 14, 15, 42, 43, 44, 33, 45, 46, 47, 48, 49, 50, 51, 52, 53, 54, 55, 56, 57, 58, 59] (by decide +kernel) (by decide +kernel)) (goodIn_sub (fun _ h => List.mem_cons_of_mem _ (List.mem_append_right _ h)) (by decide +kernel))
set_option maxRecDepth 20000 in
theorem gL_isWater_X3_level : GoodIn wsL_isWater (wsV RL 64 RX3 yX3_level wsX3_level) := goodIn_app (goodIn_of _ (by decide +kernel)) ggL_isWater_X3_level
theorem dL_isWater_0 : decode cL_isWater 0 = .ok (.iconst 0, 1) := by decide +kernel
theorem dL_isWater_1 : decode cL_isWater 1 = .ok (.istore 5, 2) := by decide +kernel
theorem dL_isWater_3 : decode cL_isWater 3 = .ok (.iconst 0, 1) := by decide +kernel
theorem dL_isWater_4 : decode cL_isWater 4 = .ok (.istore 6, 2) := by decide +kernel
theorem dL_isWater_6 : decode cL_isWater 6 = .ok (.iconst 0, 1) := by decide +kernel
theorem dL_isWater_7 : decode cL_isWater 7 = .ok (.istore 7, 2) := by decide +kernel
theorem dL_isWater_9 : decode cL_isWater 9 = .ok (.iconst 1, 1) := by decide +kernel
theorem dL_isWater_10 : decode cL_isWater 10 = .ok (.istore 8, 2) := by decide +kernel
theorem dL_isWater_12 : decode cL_isWater 12 = .ok (.iconst 0, 1) := by decide +kernel
theorem dL_isWater_13 : decode cL_isWater 13 = .ok (.istore 9, 2) := by decide +kernel
theorem dL_isWater_15 : decode cL_isWater 15 = .ok (.iload 9, 2) := by decide +kernel
theorem dL_isWater_17 : decode cL_isWater 17 = .ok (.bipush 8, 2) := by decide +kernel
theorem dL_isWater_19 : decode cL_isWater 19 = .ok (.if_icmp .ge 270, 3) := by decide +kernel
theorem dL_isWater_22 : decode cL_isWater 22 = .ok (.iload 8, 2) := by decide +kernel
theorem dL_isWater_24 : decode cL_isWater 24 = .ok (.ifCond .eq 265, 3) := by decide +kernel
theorem dL_isWater_27 : decode cL_isWater 27 = .ok (.aload_n 2, 1) := by decide +kernel
theorem dL_isWater_28 : decode cL_isWater 28 = .ok (.bipush 8, 2) := by decide +kernel
theorem dL_isWater_30 : decode cL_isWater 30 = .ok (.iload 9, 2) := by decide +kernel
theorem dL_isWater_32 : decode cL_isWater 32 = .ok (.imul, 1) := by decide +kernel
theorem dL_isWater_33 : decode cL_isWater 33 = .ok (.iconst 4, 1) := by decide +kernel
theorem dL_isWater_34 : decode cL_isWater 34 = .ok (.iadd, 1) := by decide +kernel
theorem dL_isWater_35 : decode cL_isWater 35 = .ok (.iaload, 1) := by decide +kernel
theorem dL_isWater_36 : decode cL_isWater 36 = .ok (.aload_n 1, 1) := by decide +kernel
theorem dL_isWater_37 : decode cL_isWater 37 = .ok (.bipush 8, 2) := by decide +kernel
theorem dL_isWater_39 : decode cL_isWater 39 = .ok (.iload 9, 2) := by decide +kernel
theorem dL_isWater_41 : decode cL_isWater 41 = .ok (.imul, 1) := by decide +kernel
theorem dL_isWater_42 : decode cL_isWater 42 = .ok (.iconst 3, 1) := by decide +kernel
theorem dL_isWater_43 : decode cL_isWater 43 = .ok (.iadd, 1) := by decide +kernel
theorem dL_isWater_44 : decode cL_isWater 44 = .ok (.iaload, 1) := by decide +kernel
theorem dL_isWater_45 : decode cL_isWater 45 = .ok (.iadd, 1) := by decide +kernel
theorem dL_isWater_46 : decode cL_isWater 46 = .ok (.iload 9, 2) := by decide +kernel
theorem dL_isWater_48 : decode cL_isWater 48 = .ok (.ifCond .ne 9, 3) := by decide +kernel
theorem dL_isWater_51 : decode cL_isWater 51 = .ok (.aload_n 3, 1) := by decide +kernel
theorem dL_isWater_52 : decode cL_isWater 52 = .ok (.iconst 0, 1) := by decide +kernel
theorem dL_isWater_53 : decode cL_isWater 53 = .ok (.iaload, 1) := by decide +kernel
theorem dL_isWater_54 : decode cL_isWater 54 = .ok (.goto 4, 3) := by decide +kernel
theorem dL_isWater_57 : decode cL_isWater 57 = .ok (.iconst 0, 1) := by decide +kernel
theorem dL_isWater_58 : decode cL_isWater 58 = .ok (.iadd, 1) := by decide +kernel
theorem dL_isWater_59 : decode cL_isWater 59 = .ok (.istore 10, 2) := by decide +kernel
theorem dL_isWater_61 : decode cL_isWater 61 = .ok (.aload_n 0, 1) := by decide +kernel
theorem dL_isWater_62 : decode cL_isWater 62 = .ok (.iload 9, 2) := by decide +kernel
theorem dL_isWater_64 : decode cL_isWater 64 = .ok (.invokevirtual 67, 3) := by decide +kernel
theorem dL_isWater_67 : decode cL_isWater 67 = .ok (.aload_n 2, 1) := by decide +kernel
theorem dL_isWater_68 : decode cL_isWater 68 = .ok (.bipush 8, 2) := by decide +kernel
theorem dL_isWater_70 : decode cL_isWater 70 = .ok (.iload 9, 2) := by decide +kernel
theorem dL_isWater_72 : decode cL_isWater 72 = .ok (.imul, 1) := by decide +kernel
theorem dL_isWater_73 : decode cL_isWater 73 = .ok (.iconst 5, 1) := by decide +kernel
theorem dL_isWater_74 : decode cL_isWater 74 = .ok (.iadd, 1) := by decide +kernel
theorem dL_isWater_75 : decode cL_isWater 75 = .ok (.iaload, 1) := by decide +kernel
theorem dL_isWater_76 : decode cL_isWater 76 = .ok (.isub, 1) := by decide +kernel
theorem dL_isWater_77 : decode cL_isWater 77 = .ok (.istore 11, 2) := by decide +kernel
theorem dL_isWater_79 : decode cL_isWater 79 = .ok (.aload_n 2, 1) := by decide +kernel
theorem dL_isWater_80 : decode cL_isWater 80 = .ok (.bipush 8, 2) := by decide +kernel
theorem dL_isWater_82 : decode cL_isWater 82 = .ok (.iload 9, 2) := by decide +kernel
theorem dL_isWater_84 : decode cL_isWater 84 = .ok (.imul, 1) := by decide +kernel
theorem dL_isWater_85 : decode cL_isWater 85 = .ok (.bipush 7, 2) := by decide +kernel
theorem dL_isWater_87 : decode cL_isWater 87 = .ok (.iadd, 1) := by decide +kernel
theorem dL_isWater_88 : decode cL_isWater 88 = .ok (.iaload, 1) := by decide +kernel
theorem dL_isWater_89 : decode cL_isWater 89 = .ok (.aload_n 1, 1) := by decide +kernel
theorem dL_isWater_90 : decode cL_isWater 90 = .ok (.bipush 8, 2) := by decide +kernel
theorem dL_isWater_92 : decode cL_isWater 92 = .ok (.iload 9, 2) := by decide +kernel
theorem dL_isWater_94 : decode cL_isWater 94 = .ok (.imul, 1) := by decide +kernel
theorem dL_isWater_95 : decode cL_isWater 95 = .ok (.iconst 2, 1) := by decide +kernel
theorem dL_isWater_96 : decode cL_isWater 96 = .ok (.iadd, 1) := by decide +kernel
theorem dL_isWater_97 : decode cL_isWater 97 = .ok (.iaload, 1) := by decide +kernel
theorem dL_isWater_98 : decode cL_isWater 98 = .ok (.imul, 1) := by decide +kernel
theorem dL_isWater_99 : decode cL_isWater 99 = .ok (.istore 12, 2) := by decide +kernel
theorem dL_isWater_101 : decode cL_isWater 101 = .ok (.aload_n 0, 1) := by decide +kernel
theorem dL_isWater_102 : decode cL_isWater 102 = .ok (.iload 9, 2) := by decide +kernel
theorem dL_isWater_104 : decode cL_isWater 104 = .ok (.invokevirtual 70, 3) := by decide +kernel
theorem dL_isWater_107 : decode cL_isWater 107 = .ok (.aload_n 2, 1) := by decide +kernel
theorem dL_isWater_108 : decode cL_isWater 108 = .ok (.bipush 8, 2) := by decide +kernel
theorem dL_isWater_110 : decode cL_isWater 110 = .ok (.iload 9, 2) := by decide +kernel
theorem dL_isWater_112 : decode cL_isWater 112 = .ok (.imul, 1) := by decide +kernel
theorem dL_isWater_113 : decode cL_isWater 113 = .ok (.bipush 6, 2) := by decide +kernel
theorem dL_isWater_115 : decode cL_isWater 115 = .ok (.iadd, 1) := by decide +kernel
theorem dL_isWater_116 : decode cL_isWater 116 = .ok (.iaload, 1) := by decide +kernel
theorem dL_isWater_117 : decode cL_isWater 117 = .ok (.isub, 1) := by decide +kernel
theorem dL_isWater_118 : decode cL_isWater 118 = .ok (.istore 13, 2) := by decide +kernel
theorem dL_isWater_120 : decode cL_isWater 120 = .ok (.aload_n 1, 1) := by decide +kernel
