set_option maxRecDepth 20000 in
theorem ggX4_partner_X4_asks : GoodIn wsX4_partner wsX4_asks := goodIn_r _ [7, 8, 9, 6, 10, 11, 12, 13, 14, 15, 16, 17, 18, 31, 32, 33, 34, 35, 36, 37, 38, 39, 40, 41, 42, 43, 44, 45, 46, 47, 48, 49, 50, 51, 52, 53, 54, 55, 56, 57, 58, 59, 60] (by decide +kernel) (by decide +kernel)
set_option maxRecDepth 20000 in
theorem gX4_partner_X4_asks : GoodIn wsX4_partner (wsV RX4 107 RX4 yX4_asks wsX4_asks) := goodIn_app (goodIn_of _ (by decide +kernel)) ggX4_partner_X4_asks
set_option maxRecDepth 20000 in
theorem ggX4_partner_X4_called : GoodIn wsX4_partner wsX4_called := goodIn_r _ [22, 23, 24, 25, 6, 26, 27, 28, 29, 30, 31, 32, 33, 34, 35, 36, 37, 38, 39, 40, 41, 42, 43, 44, 45, 46, 47, 48, 49, 50, 51, 52, 53, 54, 55, 56, 57, 58, 59, 60] (by decide +kernel) (by decide +kernel)
set_option maxRecDepth 20000 in
theorem gX4_partner_X4_called : GoodIn wsX4_partner (wsV RX4 134 RX4 yX4_called wsX4_called) := goodIn_app (goodIn_of _ (by decide +kernel)) ggX4_partner_X4_called
theorem dX4_partner_0 : decode cX4_partner 0 = .ok (.aload_n 0, 1) := by decide +kernel
theorem dX4_partner_1 : decode cX4_partner 1 = .ok (.iload_n 1, 1) := by decide +kernel
theorem dX4_partner_2 : decode cX4_partner 2 = .ok (.invokevirtual 107, 3) := by decide +kernel
theorem dX4_partner_5 : decode cX4_partner 5 = .ok (.ifCond .ne 7, 3) := by decide +kernel
theorem dX4_partner_8 : decode cX4_partner 8 = .ok (.iconst 0, 1) := by decide +kernel
theorem dX4_partner_9 : decode cX4_partner 9 = .ok (.goto 27, 3) := by decide +kernel
theorem dX4_partner_12 : decode cX4_partner 12 = .ok (.aload_n 0, 1) := by decide +kernel
theorem dX4_partner_13 : decode cX4_partner 13 = .ok (.getfield 56, 3) := by decide +kernel
theorem dX4_partner_16 : decode cX4_partner 16 = .ok (.iload_n 1, 1) := by decide +kernel
theorem dX4_partner_17 : decode cX4_partner 17 = .ok (.baload, 1) := by decide +kernel
theorem dX4_partner_18 : decode cX4_partner 18 = .ok (.ifCond .eq 7, 3) := by decide +kernel
theorem dX4_partner_21 : decode cX4_partner 21 = .ok (.iconst (-1), 1) := by decide +kernel
theorem dX4_partner_22 : decode cX4_partner 22 = .ok (.goto 14, 3) := by decide +kernel
theorem dX4_partner_25 : decode cX4_partner 25 = .ok (.aload_n 0, 1) := by decide +kernel
theorem dX4_partner_26 : decode cX4_partner 26 = .ok (.iload_n 1, 1) := by decide +kernel
theorem dX4_partner_27 : decode cX4_partner 27 = .ok (.aload_n 0, 1) := by decide +kernel
theorem dX4_partner_28 : decode cX4_partner 28 = .ok (.getfield 118, 3) := by decide +kernel
theorem dX4_partner_31 : decode cX4_partner 31 = .ok (.iconst 1, 1) := by decide +kernel
theorem dX4_partner_32 : decode cX4_partner 32 = .ok (.iadd, 1) := by decide +kernel
theorem dX4_partner_33 : decode cX4_partner 33 = .ok (.invokevirtual 134, 3) := by decide +kernel
theorem dX4_partner_36 : decode cX4_partner 36 = .ok (.ireturn, 1) := by decide +kernel
set_option maxRecDepth 20000 in
theorem ggX4_freshest_X4_asks : GoodIn wsX4_freshest wsX4_asks := goodIn_r _ [6, 7, 8, 5, 9, 10, 11, 12, 13, 14, 15, 16, 17, 25, 26, 27, 28, 29, 30, 31, 32, 33, 34, 35, 36, 37, 38, 39, 40, 41, 42, 43, 44, 45, 46, 47, 48, 49, 50, 51, 52, 53, 54] (by decide +kernel) (by decide +kernel)
set_option maxRecDepth 20000 in
theorem gX4_freshest_X4_asks : GoodIn wsX4_freshest (wsV RX4 107 RX4 yX4_asks wsX4_asks) := goodIn_app (goodIn_of _ (by decide +kernel)) ggX4_freshest_X4_asks
set_option maxRecDepth 20000 in
theorem ggX4_freshest_X4_at : GoodIn wsX4_freshest wsX4_at := goodIn_r _ [20] (by decide +kernel) (by decide +kernel)
set_option maxRecDepth 20000 in
theorem gX4_freshest_X4_at : GoodIn wsX4_freshest (va_wsS RX4 114 yX4_at wsX4_at) := goodIn_app (goodIn_of _ (by decide +kernel)) ggX4_freshest_X4_at
set_option maxRecDepth 20000 in
theorem ggX4_freshest_X4_hasNews : GoodIn wsX4_freshest wsX4_hasNews := goodIn_r _ [24, 1, 18, 19, 5, 20, 25, 26, 27, 28, 29, 30, 31, 32, 33, 34, 35, 36, 37, 38, 39, 40, 41, 42, 43, 44, 45, 46, 47, 48, 49, 50, 51, 52, 53, 54] (by decide +kernel) (by decide +kernel)
set_option maxRecDepth 20000 in
theorem gX4_freshest_X4_hasNews : GoodIn wsX4_freshest (wsV RX4 125 RX4 yX4_hasNews wsX4_hasNews) := goodIn_app (goodIn_of _ (by decide +kernel)) ggX4_freshest_X4_hasNews
theorem dX4_freshest_0 : decode cX4_freshest 0 = .ok (.aload_n 0, 1) := by decide +kernel
theorem dX4_freshest_1 : decode cX4_freshest 1 = .ok (.iload_n 1, 1) := by decide +kernel
theorem dX4_freshest_2 : decode cX4_freshest 2 = .ok (.invokevirtual 107, 3) := by decide +kernel
theorem dX4_freshest_5 : decode cX4_freshest 5 = .ok (.ifCond .ne 5, 3) := by decide +kernel
theorem dX4_freshest_8 : decode cX4_freshest 8 = .ok (.iconst 0, 1) := by decide +kernel
theorem dX4_freshest_9 : decode cX4_freshest 9 = .ok (.ireturn, 1) := by decide +kernel
theorem dX4_freshest_10 : decode cX4_freshest 10 = .ok (.iconst 0, 1) := by decide +kernel
theorem dX4_freshest_11 : decode cX4_freshest 11 = .ok (.istore_n 2, 1) := by decide +kernel
theorem dX4_freshest_12 : decode cX4_freshest 12 = .ok (.iconst 1, 1) := by decide +kernel
theorem dX4_freshest_13 : decode cX4_freshest 13 = .ok (.istore_n 3, 1) := by decide +kernel
theorem dX4_freshest_14 : decode cX4_freshest 14 = .ok (.iload_n 3, 1) := by decide +kernel
theorem dX4_freshest_15 : decode cX4_freshest 15 = .ok (.bipush 8, 2) := by decide +kernel
theorem dX4_freshest_17 : decode cX4_freshest 17 = .ok (.if_icmp .ge 38, 3) := by decide +kernel
theorem dX4_freshest_20 : decode cX4_freshest 20 = .ok (.aload_n 0, 1) := by decide +kernel
theorem dX4_freshest_21 : decode cX4_freshest 21 = .ok (.getfield 65, 3) := by decide +kernel
theorem dX4_freshest_24 : decode cX4_freshest 24 = .ok (.iload_n 3, 1) := by decide +kernel
theorem dX4_freshest_25 : decode cX4_freshest 25 = .ok (.iload_n 1, 1) := by decide +kernel
theorem dX4_freshest_26 : decode cX4_freshest 26 = .ok (.invokestatic 114, 3) := by decide +kernel
theorem dX4_freshest_29 : decode cX4_freshest 29 = .ok (.iaload, 1) := by decide +kernel
theorem dX4_freshest_30 : decode cX4_freshest 30 = .ok (.aload_n 0, 1) := by decide +kernel
theorem dX4_freshest_31 : decode cX4_freshest 31 = .ok (.getfield 65, 3) := by decide +kernel
theorem dX4_freshest_34 : decode cX4_freshest 34 = .ok (.iload_n 2, 1) := by decide +kernel
theorem dX4_freshest_35 : decode cX4_freshest 35 = .ok (.iload_n 1, 1) := by decide +kernel
theorem dX4_freshest_36 : decode cX4_freshest 36 = .ok (.invokestatic 114, 3) := by decide +kernel
theorem dX4_freshest_39 : decode cX4_freshest 39 = .ok (.iaload, 1) := by decide +kernel
theorem dX4_freshest_40 : decode cX4_freshest 40 = .ok (.if_icmp .le 7, 3) := by decide +kernel
theorem dX4_freshest_43 : decode cX4_freshest 43 = .ok (.iload_n 3, 1) := by decide +kernel
theorem dX4_freshest_44 : decode cX4_freshest 44 = .ok (.goto 4, 3) := by decide +kernel
theorem dX4_freshest_47 : decode cX4_freshest 47 = .ok (.iload_n 2, 1) := by decide +kernel
theorem dX4_freshest_48 : decode cX4_freshest 48 = .ok (.istore_n 2, 1) := by decide +kernel
theorem dX4_freshest_49 : decode cX4_freshest 49 = .ok (.iinc 3 1, 3) := by decide +kernel
theorem dX4_freshest_52 : decode cX4_freshest 52 = .ok (.goto (-38), 3) := by decide +kernel
theorem dX4_freshest_55 : decode cX4_freshest 55 = .ok (.aload_n 0, 1) := by decide +kernel
theorem dX4_freshest_56 : decode cX4_freshest 56 = .ok (.iload_n 2, 1) := by decide +kernel
theorem dX4_freshest_57 : decode cX4_freshest 57 = .ok (.iload_n 1, 1) := by decide +kernel
theorem dX4_freshest_58 : decode cX4_freshest 58 = .ok (.invokevirtual 125, 3) := by decide +kernel
theorem dX4_freshest_61 : decode cX4_freshest 61 = .ok (.ifCond .eq 7, 3) := by decide +kernel
theorem dX4_freshest_64 : decode cX4_freshest 64 = .ok (.iload_n 2, 1) := by decide +kernel
theorem dX4_freshest_65 : decode cX4_freshest 65 = .ok (.goto 4, 3) := by decide +kernel
theorem dX4_freshest_68 : decode cX4_freshest 68 = .ok (.iconst (-1), 1) := by decide +kernel
theorem dX4_freshest_69 : decode cX4_freshest 69 = .ok (.ireturn, 1) := by decide +kernel
set_option maxRecDepth 20000 in
theorem ggX4_agree_X4_asks : GoodIn wsX4_agree wsX4_asks := goodIn_r _ [7, 8, 9, 6, 10, 11, 12, 13, 14, 15, 16, 17, 18, 33, 34, 35, 36, 37, 38, 39, 40, 41, 42, 43, 44, 45, 46, 47, 48, 49, 50, 51, 52, 53, 54, 55, 56, 57, 58, 59, 60, 61, 62] (by decide +kernel) (by decide +kernel)
set_option maxRecDepth 20000 in
theorem gX4_agree_X4_asks : GoodIn wsX4_agree (wsV RX4 107 RX4 yX4_asks wsX4_asks) := goodIn_app (goodIn_of _ (by decide +kernel)) ggX4_agree_X4_asks
set_option maxRecDepth 20000 in
theorem ggX4_agree_X4_hasNews : GoodIn wsX4_agree wsX4_hasNews := goodIn_r _ [22, 23, 24, 25, 6, 26, 33, 34, 35, 36, 37, 38, 39, 40, 41, 42, 43, 44, 45, 46, 47, 48, 49, 50, 51, 52, 53, 54, 55, 56, 57, 58, 59, 60, 61, 62] (by decide +kernel) (by decide +kernel)
set_option maxRecDepth 20000 in
theorem gX4_agree_X4_hasNews : GoodIn wsX4_agree (wsV RX4 125 RX4 yX4_hasNews wsX4_hasNews) := goodIn_app (goodIn_of _ (by decide +kernel)) ggX4_agree_X4_hasNews
set_option maxRecDepth 20000 in
theorem ggX4_agree_X4_at : GoodIn wsX4_agree wsX4_at := goodIn_r _ [26] (by decide +kernel) (by decide +kernel)
set_option maxRecDepth 20000 in
theorem gX4_agree_X4_at : GoodIn wsX4_agree (va_wsS RX4 114 yX4_at wsX4_at) := goodIn_app (goodIn_of _ (by decide +kernel)) ggX4_agree_X4_at
set_option maxRecDepth 20000 in
theorem ggX4_agree_X4_levelOf : GoodIn wsX4_agree wsX4_levelOf := goodIn_r _ [30, 31, 32, 33, 34, 35, 36, 37, 38, 39, 40, 41, 42, 43, 44, 45, 46, 47, 48, 49, 50, 51, 52, 53, 54, 55, 56, 57, 58, 59, 60, 61, 62] (by decide +kernel) (by decide +kernel)
set_option maxRecDepth 20000 in
theorem gX4_agree_X4_levelOf : GoodIn wsX4_agree (wsV RX4 110 RX4 yX4_levelOf wsX4_levelOf) := goodIn_app (goodIn_of _ (by decide +kernel)) ggX4_agree_X4_levelOf
theorem dX4_agree_0 : decode cX4_agree 0 = .ok (.aload_n 0, 1) := by decide +kernel
theorem dX4_agree_1 : decode cX4_agree 1 = .ok (.iload_n 1, 1) := by decide +kernel
theorem dX4_agree_2 : decode cX4_agree 2 = .ok (.invokevirtual 107, 3) := by decide +kernel
theorem dX4_agree_5 : decode cX4_agree 5 = .ok (.ifCond .ne 5, 3) := by decide +kernel
theorem dX4_agree_8 : decode cX4_agree 8 = .ok (.iconst 0, 1) := by decide +kernel
theorem dX4_agree_9 : decode cX4_agree 9 = .ok (.ireturn, 1) := by decide +kernel
theorem dX4_agree_10 : decode cX4_agree 10 = .ok (.iconst 0, 1) := by decide +kernel
theorem dX4_agree_11 : decode cX4_agree 11 = .ok (.istore_n 2, 1) := by decide +kernel
theorem dX4_agree_12 : decode cX4_agree 12 = .ok (.iconst 0, 1) := by decide +kernel
theorem dX4_agree_13 : decode cX4_agree 13 = .ok (.istore_n 3, 1) := by decide +kernel
theorem dX4_agree_14 : decode cX4_agree 14 = .ok (.iload_n 3, 1) := by decide +kernel
theorem dX4_agree_15 : decode cX4_agree 15 = .ok (.bipush 8, 2) := by decide +kernel
theorem dX4_agree_17 : decode cX4_agree 17 = .ok (.if_icmp .ge 53, 3) := by decide +kernel
theorem dX4_agree_20 : decode cX4_agree 20 = .ok (.iload_n 2, 1) := by decide +kernel
theorem dX4_agree_21 : decode cX4_agree 21 = .ok (.aload_n 0, 1) := by decide +kernel
theorem dX4_agree_22 : decode cX4_agree 22 = .ok (.getfield 56, 3) := by decide +kernel
theorem dX4_agree_25 : decode cX4_agree 25 = .ok (.iload_n 3, 1) := by decide +kernel
theorem dX4_agree_26 : decode cX4_agree 26 = .ok (.baload, 1) := by decide +kernel
theorem dX4_agree_27 : decode cX4_agree 27 = .ok (.ifCond .ne 34, 3) := by decide +kernel
theorem dX4_agree_30 : decode cX4_agree 30 = .ok (.aload_n 0, 1) := by decide +kernel
theorem dX4_agree_31 : decode cX4_agree 31 = .ok (.iload_n 3, 1) := by decide +kernel
theorem dX4_agree_32 : decode cX4_agree 32 = .ok (.iload_n 1, 1) := by decide +kernel
theorem dX4_agree_33 : decode cX4_agree 33 = .ok (.invokevirtual 125, 3) := by decide +kernel
theorem dX4_agree_36 : decode cX4_agree 36 = .ok (.ifCond .eq 25, 3) := by decide +kernel
theorem dX4_agree_39 : decode cX4_agree 39 = .ok (.aload_n 0, 1) := by decide +kernel
theorem dX4_agree_40 : decode cX4_agree 40 = .ok (.getfield 68, 3) := by decide +kernel
theorem dX4_agree_43 : decode cX4_agree 43 = .ok (.iload_n 3, 1) := by decide +kernel
theorem dX4_agree_44 : decode cX4_agree 44 = .ok (.iload_n 1, 1) := by decide +kernel
theorem dX4_agree_45 : decode cX4_agree 45 = .ok (.invokestatic 114, 3) := by decide +kernel
theorem dX4_agree_48 : decode cX4_agree 48 = .ok (.iaload, 1) := by decide +kernel
theorem dX4_agree_49 : decode cX4_agree 49 = .ok (.aload_n 0, 1) := by decide +kernel
theorem dX4_agree_50 : decode cX4_agree 50 = .ok (.iload_n 1, 1) := by decide +kernel
theorem dX4_agree_51 : decode cX4_agree 51 = .ok (.invokevirtual 110, 3) := by decide +kernel
theorem dX4_agree_54 : decode cX4_agree 54 = .ok (.if_icmp .ne 7, 3) := by decide +kernel
theorem dX4_agree_57 : decode cX4_agree 57 = .ok (.iconst 1, 1) := by decide +kernel
theorem dX4_agree_58 : decode cX4_agree 58 = .ok (.goto 4, 3) := by decide +kernel
theorem dX4_agree_61 : decode cX4_agree 61 = .ok (.iconst 0, 1) := by decide +kernel
theorem dX4_agree_62 : decode cX4_agree 62 = .ok (.iadd, 1) := by decide +kernel
theorem dX4_agree_63 : decode cX4_agree 63 = .ok (.istore_n 2, 1) := by decide +kernel
theorem dX4_agree_64 : decode cX4_agree 64 = .ok (.iinc 3 1, 3) := by decide +kernel
theorem dX4_agree_67 : decode cX4_agree 67 = .ok (.goto (-53), 3) := by decide +kernel
theorem dX4_agree_70 : decode cX4_agree 70 = .ok (.iload_n 2, 1) := by decide +kernel
theorem dX4_agree_71 : decode cX4_agree 71 = .ok (.ireturn, 1) := by decide +kernel
set_option maxRecDepth 20000 in
theorem ggX4_unnoticed_X4_at : GoodIn wsX4_unnoticed wsX4_at := goodIn_r _ [7] (by decide +kernel) (by decide +kernel)
set_option maxRecDepth 20000 in
theorem gX4_unnoticed_X4_at : GoodIn wsX4_unnoticed (va_wsS RX4 114 yX4_at wsX4_at) := goodIn_app (goodIn_of _ (by decide +kernel)) ggX4_unnoticed_X4_at
theorem dX4_unnoticed_0 : decode cX4_unnoticed 0 = .ok (.aload_n 0, 1) := by decide +kernel
theorem dX4_unnoticed_1 : decode cX4_unnoticed 1 = .ok (.iconst 0, 1) := by decide +kernel
theorem dX4_unnoticed_2 : decode cX4_unnoticed 2 = .ok (.putfield 90, 3) := by decide +kernel
theorem dX4_unnoticed_5 : decode cX4_unnoticed 5 = .ok (.iconst 0, 1) := by decide +kernel
theorem dX4_unnoticed_6 : decode cX4_unnoticed 6 = .ok (.istore_n 1, 1) := by decide +kernel
theorem dX4_unnoticed_7 : decode cX4_unnoticed 7 = .ok (.iconst 0, 1) := by decide +kernel
theorem dX4_unnoticed_8 : decode cX4_unnoticed 8 = .ok (.istore_n 2, 1) := by decide +kernel
theorem dX4_unnoticed_9 : decode cX4_unnoticed 9 = .ok (.iload_n 2, 1) := by decide +kernel
theorem dX4_unnoticed_10 : decode cX4_unnoticed 10 = .ok (.bipush 8, 2) := by decide +kernel
theorem dX4_unnoticed_12 : decode cX4_unnoticed 12 = .ok (.if_icmp .ge 82, 3) := by decide +kernel
theorem dX4_unnoticed_15 : decode cX4_unnoticed 15 = .ok (.iconst 0, 1) := by decide +kernel
theorem dX4_unnoticed_16 : decode cX4_unnoticed 16 = .ok (.istore_n 3, 1) := by decide +kernel
theorem dX4_unnoticed_17 : decode cX4_unnoticed 17 = .ok (.iconst 0, 1) := by decide +kernel
theorem dX4_unnoticed_18 : decode cX4_unnoticed 18 = .ok (.istore 4, 2) := by decide +kernel
theorem dX4_unnoticed_20 : decode cX4_unnoticed 20 = .ok (.iload 4, 2) := by decide +kernel
theorem dX4_unnoticed_22 : decode cX4_unnoticed 22 = .ok (.bipush 8, 2) := by decide +kernel
theorem dX4_unnoticed_24 : decode cX4_unnoticed 24 = .ok (.if_icmp .ge 43, 3) := by decide +kernel
theorem dX4_unnoticed_27 : decode cX4_unnoticed 27 = .ok (.iload_n 3, 1) := by decide +kernel
theorem dX4_unnoticed_28 : decode cX4_unnoticed 28 = .ok (.ifCond .ne 27, 3) := by decide +kernel
theorem dX4_unnoticed_31 : decode cX4_unnoticed 31 = .ok (.aload_n 0, 1) := by decide +kernel
theorem dX4_unnoticed_32 : decode cX4_unnoticed 32 = .ok (.getfield 56, 3) := by decide +kernel
theorem dX4_unnoticed_35 : decode cX4_unnoticed 35 = .ok (.iload 4, 2) := by decide +kernel
theorem dX4_unnoticed_37 : decode cX4_unnoticed 37 = .ok (.baload, 1) := by decide +kernel
theorem dX4_unnoticed_38 : decode cX4_unnoticed 38 = .ok (.ifCond .ne 21, 3) := by decide +kernel
theorem dX4_unnoticed_41 : decode cX4_unnoticed 41 = .ok (.aload_n 0, 1) := by decide +kernel
theorem dX4_unnoticed_42 : decode cX4_unnoticed 42 = .ok (.getfield 80, 3) := by decide +kernel
theorem dX4_unnoticed_45 : decode cX4_unnoticed 45 = .ok (.iload 4, 2) := by decide +kernel
theorem dX4_unnoticed_47 : decode cX4_unnoticed 47 = .ok (.iload_n 2, 1) := by decide +kernel
theorem dX4_unnoticed_48 : decode cX4_unnoticed 48 = .ok (.invokestatic 114, 3) := by decide +kernel
theorem dX4_unnoticed_51 : decode cX4_unnoticed 51 = .ok (.iaload, 1) := by decide +kernel
theorem dX4_unnoticed_52 : decode cX4_unnoticed 52 = .ok (.ifCond .ne 7, 3) := by decide +kernel
theorem dX4_unnoticed_55 : decode cX4_unnoticed 55 = .ok (.iconst 1, 1) := by decide +kernel
theorem dX4_unnoticed_56 : decode cX4_unnoticed 56 = .ok (.goto 4, 3) := by decide +kernel
theorem dX4_unnoticed_59 : decode cX4_unnoticed 59 = .ok (.iconst 0, 1) := by decide +kernel
theorem dX4_unnoticed_60 : decode cX4_unnoticed 60 = .ok (.istore_n 3, 1) := by decide +kernel
theorem dX4_unnoticed_61 : decode cX4_unnoticed 61 = .ok (.iinc 4 1, 3) := by decide +kernel
theorem dX4_unnoticed_64 : decode cX4_unnoticed 64 = .ok (.goto (-44), 3) := by decide +kernel
theorem dX4_unnoticed_67 : decode cX4_unnoticed 67 = .ok (.iload_n 1, 1) := by decide +kernel
theorem dX4_unnoticed_68 : decode cX4_unnoticed 68 = .ok (.iload_n 3, 1) := by decide +kernel
theorem dX4_unnoticed_69 : decode cX4_unnoticed 69 = .ok (.ifCond .eq 16, 3) := by decide +kernel
theorem dX4_unnoticed_72 : decode cX4_unnoticed 72 = .ok (.aload_n 0, 1) := by decide +kernel
theorem dX4_unnoticed_73 : decode cX4_unnoticed 73 = .ok (.getfield 56, 3) := by decide +kernel
theorem dX4_unnoticed_76 : decode cX4_unnoticed 76 = .ok (.iload_n 2, 1) := by decide +kernel
theorem dX4_unnoticed_77 : decode cX4_unnoticed 77 = .ok (.baload, 1) := by decide +kernel
theorem dX4_unnoticed_78 : decode cX4_unnoticed 78 = .ok (.ifCond .eq 7, 3) := by decide +kernel
theorem dX4_unnoticed_81 : decode cX4_unnoticed 81 = .ok (.iconst 1, 1) := by decide +kernel
theorem dX4_unnoticed_82 : decode cX4_unnoticed 82 = .ok (.goto 4, 3) := by decide +kernel
theorem dX4_unnoticed_85 : decode cX4_unnoticed 85 = .ok (.iconst 0, 1) := by decide +kernel
theorem dX4_unnoticed_86 : decode cX4_unnoticed 86 = .ok (.iadd, 1) := by decide +kernel
theorem dX4_unnoticed_87 : decode cX4_unnoticed 87 = .ok (.istore_n 1, 1) := by decide +kernel
theorem dX4_unnoticed_88 : decode cX4_unnoticed 88 = .ok (.iinc 2 1, 3) := by decide +kernel
theorem dX4_unnoticed_91 : decode cX4_unnoticed 91 = .ok (.goto (-82), 3) := by decide +kernel
theorem dX4_unnoticed_94 : decode cX4_unnoticed 94 = .ok (.iload_n 1, 1) := by decide +kernel
theorem dX4_unnoticed_95 : decode cX4_unnoticed 95 = .ok (.ireturn, 1) := by decide +kernel
theorem dX4_mistaken_0 : decode cX4_mistaken 0 = .ok (.aload_n 0, 1) := by decide +kernel
theorem dX4_mistaken_1 : decode cX4_mistaken 1 = .ok (.iconst 0, 1) := by decide +kernel
theorem dX4_mistaken_2 : decode cX4_mistaken 2 = .ok (.putfield 90, 3) := by decide +kernel
theorem dX4_mistaken_5 : decode cX4_mistaken 5 = .ok (.iconst 0, 1) := by decide +kernel
theorem dX4_mistaken_6 : decode cX4_mistaken 6 = .ok (.istore_n 1, 1) := by decide +kernel
theorem dX4_mistaken_7 : decode cX4_mistaken 7 = .ok (.iconst 0, 1) := by decide +kernel
theorem dX4_mistaken_8 : decode cX4_mistaken 8 = .ok (.istore_n 2, 1) := by decide +kernel
theorem dX4_mistaken_9 : decode cX4_mistaken 9 = .ok (.iload_n 2, 1) := by decide +kernel
theorem dX4_mistaken_10 : decode cX4_mistaken 10 = .ok (.bipush 64, 2) := by decide +kernel
theorem dX4_mistaken_12 : decode cX4_mistaken 12 = .ok (.if_icmp .ge 51, 3) := by decide +kernel
theorem dX4_mistaken_15 : decode cX4_mistaken 15 = .ok (.iload_n 1, 1) := by decide +kernel
theorem dX4_mistaken_16 : decode cX4_mistaken 16 = .ok (.aload_n 0, 1) := by decide +kernel
theorem dX4_mistaken_17 : decode cX4_mistaken 17 = .ok (.getfield 56, 3) := by decide +kernel
theorem dX4_mistaken_20 : decode cX4_mistaken 20 = .ok (.iload_n 2, 1) := by decide +kernel
theorem dX4_mistaken_21 : decode cX4_mistaken 21 = .ok (.bipush 8, 2) := by decide +kernel
theorem dX4_mistaken_23 : decode cX4_mistaken 23 = .ok (.idiv, 1) := by decide +kernel
theorem dX4_mistaken_24 : decode cX4_mistaken 24 = .ok (.baload, 1) := by decide +kernel
theorem dX4_mistaken_25 : decode cX4_mistaken 25 = .ok (.ifCond .ne 29, 3) := by decide +kernel
theorem dX4_mistaken_28 : decode cX4_mistaken 28 = .ok (.aload_n 0, 1) := by decide +kernel
theorem dX4_mistaken_29 : decode cX4_mistaken 29 = .ok (.getfield 56, 3) := by decide +kernel
theorem dX4_mistaken_32 : decode cX4_mistaken 32 = .ok (.iload_n 2, 1) := by decide +kernel
theorem dX4_mistaken_33 : decode cX4_mistaken 33 = .ok (.bipush 8, 2) := by decide +kernel
theorem dX4_mistaken_35 : decode cX4_mistaken 35 = .ok (.irem, 1) := by decide +kernel
theorem dX4_mistaken_36 : decode cX4_mistaken 36 = .ok (.baload, 1) := by decide +kernel
theorem dX4_mistaken_37 : decode cX4_mistaken 37 = .ok (.ifCond .ne 17, 3) := by decide +kernel
theorem dX4_mistaken_40 : decode cX4_mistaken 40 = .ok (.aload_n 0, 1) := by decide +kernel
theorem dX4_mistaken_41 : decode cX4_mistaken 41 = .ok (.getfield 80, 3) := by decide +kernel
theorem dX4_mistaken_44 : decode cX4_mistaken 44 = .ok (.iload_n 2, 1) := by decide +kernel
theorem dX4_mistaken_45 : decode cX4_mistaken 45 = .ok (.iaload, 1) := by decide +kernel
theorem dX4_mistaken_46 : decode cX4_mistaken 46 = .ok (.iconst 2, 1) := by decide +kernel
theorem dX4_mistaken_47 : decode cX4_mistaken 47 = .ok (.if_icmp .ne 7, 3) := by decide +kernel
theorem dX4_mistaken_50 : decode cX4_mistaken 50 = .ok (.iconst 1, 1) := by decide +kernel
theorem dX4_mistaken_51 : decode cX4_mistaken 51 = .ok (.goto 4, 3) := by decide +kernel
theorem dX4_mistaken_54 : decode cX4_mistaken 54 = .ok (.iconst 0, 1) := by decide +kernel
theorem dX4_mistaken_55 : decode cX4_mistaken 55 = .ok (.iadd, 1) := by decide +kernel
theorem dX4_mistaken_56 : decode cX4_mistaken 56 = .ok (.istore_n 1, 1) := by decide +kernel
theorem dX4_mistaken_57 : decode cX4_mistaken 57 = .ok (.iinc 2 1, 3) := by decide +kernel
theorem dX4_mistaken_60 : decode cX4_mistaken 60 = .ok (.goto (-51), 3) := by decide +kernel
theorem dX4_mistaken_63 : decode cX4_mistaken 63 = .ok (.iload_n 1, 1) := by decide +kernel
theorem dX4_mistaken_64 : decode cX4_mistaken 64 = .ok (.ireturn, 1) := by decide +kernel
theorem dX4_vain_0 : decode cX4_vain 0 = .ok (.aload_n 0, 1) := by decide +kernel
theorem dX4_vain_1 : decode cX4_vain 1 = .ok (.iconst 0, 1) := by decide +kernel
theorem dX4_vain_2 : decode cX4_vain 2 = .ok (.putfield 90, 3) := by decide +kernel
theorem dX4_vain_5 : decode cX4_vain 5 = .ok (.aload_n 0, 1) := by decide +kernel
theorem dX4_vain_6 : decode cX4_vain 6 = .ok (.getfield 137, 3) := by decide +kernel
theorem dX4_vain_9 : decode cX4_vain 9 = .ok (.ireturn, 1) := by decide +kernel
theorem dX4_falls_0 : decode cX4_falls 0 = .ok (.aload_n 0, 1) := by decide +kernel
theorem dX4_falls_1 : decode cX4_falls 1 = .ok (.getfield 16, 3) := by decide +kernel
theorem dX4_falls_4 : decode cX4_falls 4 = .ok (.iconst 0, 1) := by decide +kernel
theorem dX4_falls_5 : decode cX4_falls 5 = .ok (.dup2, 1) := by decide +kernel
theorem dX4_falls_6 : decode cX4_falls 6 = .ok (.iaload, 1) := by decide +kernel
theorem dX4_falls_7 : decode cX4_falls 7 = .ok (.aload_n 0, 1) := by decide +kernel
theorem dX4_falls_8 : decode cX4_falls 8 = .ok (.getfield 104, 3) := by decide +kernel
theorem dX4_falls_11 : decode cX4_falls 11 = .ok (.iadd, 1) := by decide +kernel
theorem dX4_falls_12 : decode cX4_falls 12 = .ok (.iastore, 1) := by decide +kernel
theorem dX4_falls_13 : decode cX4_falls 13 = .ok (.iconst 0, 1) := by decide +kernel
theorem dX4_falls_14 : decode cX4_falls 14 = .ok (.istore_n 1, 1) := by decide +kernel
theorem dX4_falls_15 : decode cX4_falls 15 = .ok (.iload_n 1, 1) := by decide +kernel
theorem dX4_falls_16 : decode cX4_falls 16 = .ok (.bipush 8, 2) := by decide +kernel
theorem dX4_falls_18 : decode cX4_falls 18 = .ok (.if_icmp .ge 31, 3) := by decide +kernel
theorem dX4_falls_21 : decode cX4_falls 21 = .ok (.aload_n 0, 1) := by decide +kernel
theorem dX4_falls_22 : decode cX4_falls 22 = .ok (.getfield 16, 3) := by decide +kernel
theorem dX4_falls_25 : decode cX4_falls 25 = .ok (.iload_n 1, 1) := by decide +kernel
theorem dX4_falls_26 : decode cX4_falls 26 = .ok (.dup2, 1) := by decide +kernel
theorem dX4_falls_27 : decode cX4_falls 27 = .ok (.iaload, 1) := by decide +kernel
theorem dX4_falls_28 : decode cX4_falls 28 = .ok (.aload_n 0, 1) := by decide +kernel
theorem dX4_falls_29 : decode cX4_falls 29 = .ok (.getfield 25, 3) := by decide +kernel
theorem dX4_falls_32 : decode cX4_falls 32 = .ok (.iload_n 1, 1) := by decide +kernel
theorem dX4_falls_33 : decode cX4_falls 33 = .ok (.iaload, 1) := by decide +kernel
theorem dX4_falls_34 : decode cX4_falls 34 = .ok (.iadd, 1) := by decide +kernel
theorem dX4_falls_35 : decode cX4_falls 35 = .ok (.iastore, 1) := by decide +kernel
theorem dX4_falls_36 : decode cX4_falls 36 = .ok (.aload_n 0, 1) := by decide +kernel
theorem dX4_falls_37 : decode cX4_falls 37 = .ok (.getfield 25, 3) := by decide +kernel
theorem dX4_falls_40 : decode cX4_falls 40 = .ok (.iload_n 1, 1) := by decide +kernel
theorem dX4_falls_41 : decode cX4_falls 41 = .ok (.iconst 0, 1) := by decide +kernel
theorem dX4_falls_42 : decode cX4_falls 42 = .ok (.iastore, 1) := by decide +kernel
theorem dX4_falls_43 : decode cX4_falls 43 = .ok (.iinc 1 1, 3) := by decide +kernel
theorem dX4_falls_46 : decode cX4_falls 46 = .ok (.goto (-31), 3) := by decide +kernel
theorem dX4_falls_49 : decode cX4_falls 49 = .ok (.return_, 1) := by decide +kernel
theorem dX4_flowsOn_0 : decode cX4_flowsOn 0 = .ok (.iconst 0, 1) := by decide +kernel
theorem dX4_flowsOn_1 : decode cX4_flowsOn 1 = .ok (.istore_n 1, 1) := by decide +kernel
theorem dX4_flowsOn_2 : decode cX4_flowsOn 2 = .ok (.iload_n 1, 1) := by decide +kernel
theorem dX4_flowsOn_3 : decode cX4_flowsOn 3 = .ok (.bipush 8, 2) := by decide +kernel
theorem dX4_flowsOn_5 : decode cX4_flowsOn 5 = .ok (.if_icmp .ge 49, 3) := by decide +kernel
theorem dX4_flowsOn_8 : decode cX4_flowsOn 8 = .ok (.aload_n 0, 1) := by decide +kernel
theorem dX4_flowsOn_9 : decode cX4_flowsOn 9 = .ok (.getfield 19, 3) := by decide +kernel
theorem dX4_flowsOn_12 : decode cX4_flowsOn 12 = .ok (.iload_n 1, 1) := by decide +kernel
theorem dX4_flowsOn_13 : decode cX4_flowsOn 13 = .ok (.iaload, 1) := by decide +kernel
theorem dX4_flowsOn_14 : decode cX4_flowsOn 14 = .ok (.aload_n 0, 1) := by decide +kernel
theorem dX4_flowsOn_15 : decode cX4_flowsOn 15 = .ok (.getfield 22, 3) := by decide +kernel
theorem dX4_flowsOn_18 : decode cX4_flowsOn 18 = .ok (.iload_n 1, 1) := by decide +kernel
theorem dX4_flowsOn_19 : decode cX4_flowsOn 19 = .ok (.iaload, 1) := by decide +kernel
theorem dX4_flowsOn_20 : decode cX4_flowsOn 20 = .ok (.imul, 1) := by decide +kernel
theorem dX4_flowsOn_21 : decode cX4_flowsOn 21 = .ok (.istore_n 2, 1) := by decide +kernel
theorem dX4_flowsOn_22 : decode cX4_flowsOn 22 = .ok (.aload_n 0, 1) := by decide +kernel
theorem dX4_flowsOn_23 : decode cX4_flowsOn 23 = .ok (.getfield 28, 3) := by decide +kernel
theorem dX4_flowsOn_26 : decode cX4_flowsOn 26 = .ok (.iload_n 1, 1) := by decide +kernel
theorem dX4_flowsOn_27 : decode cX4_flowsOn 27 = .ok (.iload_n 2, 1) := by decide +kernel
theorem dX4_flowsOn_28 : decode cX4_flowsOn 28 = .ok (.aload_n 0, 1) := by decide +kernel
theorem dX4_flowsOn_29 : decode cX4_flowsOn 29 = .ok (.getfield 16, 3) := by decide +kernel
theorem dX4_flowsOn_32 : decode cX4_flowsOn 32 = .ok (.iload_n 1, 1) := by decide +kernel
theorem dX4_flowsOn_33 : decode cX4_flowsOn 33 = .ok (.iaload, 1) := by decide +kernel
theorem dX4_flowsOn_34 : decode cX4_flowsOn 34 = .ok (.if_icmp .ge 7, 3) := by decide +kernel
theorem dX4_flowsOn_37 : decode cX4_flowsOn 37 = .ok (.iload_n 2, 1) := by decide +kernel
theorem dX4_flowsOn_38 : decode cX4_flowsOn 38 = .ok (.goto 9, 3) := by decide +kernel
theorem dX4_flowsOn_41 : decode cX4_flowsOn 41 = .ok (.aload_n 0, 1) := by decide +kernel
theorem dX4_flowsOn_42 : decode cX4_flowsOn 42 = .ok (.getfield 16, 3) := by decide +kernel
theorem dX4_flowsOn_45 : decode cX4_flowsOn 45 = .ok (.iload_n 1, 1) := by decide +kernel
theorem dX4_flowsOn_46 : decode cX4_flowsOn 46 = .ok (.iaload, 1) := by decide +kernel
theorem dX4_flowsOn_47 : decode cX4_flowsOn 47 = .ok (.iastore, 1) := by decide +kernel
theorem dX4_flowsOn_48 : decode cX4_flowsOn 48 = .ok (.iinc 1 1, 3) := by decide +kernel
theorem dX4_flowsOn_51 : decode cX4_flowsOn 51 = .ok (.goto (-49), 3) := by decide +kernel
theorem dX4_flowsOn_54 : decode cX4_flowsOn 54 = .ok (.iconst 0, 1) := by decide +kernel
theorem dX4_flowsOn_55 : decode cX4_flowsOn 55 = .ok (.istore_n 1, 1) := by decide +kernel
theorem dX4_flowsOn_56 : decode cX4_flowsOn 56 = .ok (.iload_n 1, 1) := by decide +kernel
theorem dX4_flowsOn_57 : decode cX4_flowsOn 57 = .ok (.bipush 8, 2) := by decide +kernel
theorem dX4_flowsOn_59 : decode cX4_flowsOn 59 = .ok (.if_icmp .ge 56, 3) := by decide +kernel
theorem dX4_flowsOn_62 : decode cX4_flowsOn 62 = .ok (.aload_n 0, 1) := by decide +kernel
theorem dX4_flowsOn_63 : decode cX4_flowsOn 63 = .ok (.getfield 16, 3) := by decide +kernel
theorem dX4_flowsOn_66 : decode cX4_flowsOn 66 = .ok (.iload_n 1, 1) := by decide +kernel
theorem dX4_flowsOn_67 : decode cX4_flowsOn 67 = .ok (.dup2, 1) := by decide +kernel
theorem dX4_flowsOn_68 : decode cX4_flowsOn 68 = .ok (.iaload, 1) := by decide +kernel
theorem dX4_flowsOn_69 : decode cX4_flowsOn 69 = .ok (.iload_n 1, 1) := by decide +kernel
theorem dX4_flowsOn_70 : decode cX4_flowsOn 70 = .ok (.ifCond .ne 7, 3) := by decide +kernel
theorem dX4_flowsOn_73 : decode cX4_flowsOn 73 = .ok (.iconst 0, 1) := by decide +kernel
theorem dX4_flowsOn_74 : decode cX4_flowsOn 74 = .ok (.goto 11, 3) := by decide +kernel
theorem dX4_flowsOn_77 : decode cX4_flowsOn 77 = .ok (.aload_n 0, 1) := by decide +kernel
theorem dX4_flowsOn_78 : decode cX4_flowsOn 78 = .ok (.getfield 28, 3) := by decide +kernel
theorem dX4_flowsOn_81 : decode cX4_flowsOn 81 = .ok (.iload_n 1, 1) := by decide +kernel
theorem dX4_flowsOn_82 : decode cX4_flowsOn 82 = .ok (.iconst 1, 1) := by decide +kernel
theorem dX4_flowsOn_83 : decode cX4_flowsOn 83 = .ok (.isub, 1) := by decide +kernel
theorem dX4_flowsOn_84 : decode cX4_flowsOn 84 = .ok (.iaload, 1) := by decide +kernel
theorem dX4_flowsOn_85 : decode cX4_flowsOn 85 = .ok (.aload_n 0, 1) := by decide +kernel
theorem dX4_flowsOn_86 : decode cX4_flowsOn 86 = .ok (.getfield 28, 3) := by decide +kernel
theorem dX4_flowsOn_89 : decode cX4_flowsOn 89 = .ok (.iload_n 1, 1) := by decide +kernel
theorem dX4_flowsOn_90 : decode cX4_flowsOn 90 = .ok (.iaload, 1) := by decide +kernel
theorem dX4_flowsOn_91 : decode cX4_flowsOn 91 = .ok (.isub, 1) := by decide +kernel
theorem dX4_flowsOn_92 : decode cX4_flowsOn 92 = .ok (.iadd, 1) := by decide +kernel
theorem dX4_flowsOn_93 : decode cX4_flowsOn 93 = .ok (.iastore, 1) := by decide +kernel
theorem dX4_flowsOn_94 : decode cX4_flowsOn 94 = .ok (.aload_n 0, 1) := by decide +kernel
theorem dX4_flowsOn_95 : decode cX4_flowsOn 95 = .ok (.getfield 31, 3) := by decide +kernel
theorem dX4_flowsOn_98 : decode cX4_flowsOn 98 = .ok (.iload_n 1, 1) := by decide +kernel
theorem dX4_flowsOn_99 : decode cX4_flowsOn 99 = .ok (.dup2, 1) := by decide +kernel
theorem dX4_flowsOn_100 : decode cX4_flowsOn 100 = .ok (.iaload, 1) := by decide +kernel
theorem dX4_flowsOn_101 : decode cX4_flowsOn 101 = .ok (.aload_n 0, 1) := by decide +kernel
theorem dX4_flowsOn_102 : decode cX4_flowsOn 102 = .ok (.getfield 28, 3) := by decide +kernel
theorem dX4_flowsOn_105 : decode cX4_flowsOn 105 = .ok (.iload_n 1, 1) := by decide +kernel
theorem dX4_flowsOn_106 : decode cX4_flowsOn 106 = .ok (.iaload, 1) := by decide +kernel
theorem dX4_flowsOn_107 : decode cX4_flowsOn 107 = .ok (.iadd, 1) := by decide +kernel
theorem dX4_flowsOn_108 : decode cX4_flowsOn 108 = .ok (.iastore, 1) := by decide +kernel
theorem dX4_flowsOn_109 : decode cX4_flowsOn 109 = .ok (.iinc 1 1, 3) := by decide +kernel
theorem dX4_flowsOn_112 : decode cX4_flowsOn 112 = .ok (.goto (-56), 3) := by decide +kernel
theorem dX4_flowsOn_115 : decode cX4_flowsOn 115 = .ok (.return_, 1) := by decide +kernel
theorem dX4_spills_0 : decode cX4_spills 0 = .ok (.iconst 0, 1) := by decide +kernel
theorem dX4_spills_1 : decode cX4_spills 1 = .ok (.istore_n 1, 1) := by decide +kernel
theorem dX4_spills_2 : decode cX4_spills 2 = .ok (.iconst 0, 1) := by decide +kernel
theorem dX4_spills_3 : decode cX4_spills 3 = .ok (.istore_n 2, 1) := by decide +kernel
theorem dX4_spills_4 : decode cX4_spills 4 = .ok (.iload_n 2, 1) := by decide +kernel
theorem dX4_spills_5 : decode cX4_spills 5 = .ok (.bipush 8, 2) := by decide +kernel
theorem dX4_spills_7 : decode cX4_spills 7 = .ok (.if_icmp .ge 93, 3) := by decide +kernel
theorem dX4_spills_10 : decode cX4_spills 10 = .ok (.aload_n 0, 1) := by decide +kernel
theorem dX4_spills_11 : decode cX4_spills 11 = .ok (.getfield 7, 3) := by decide +kernel
theorem dX4_spills_14 : decode cX4_spills 14 = .ok (.iload_n 2, 1) := by decide +kernel
theorem dX4_spills_15 : decode cX4_spills 15 = .ok (.iaload, 1) := by decide +kernel
theorem dX4_spills_16 : decode cX4_spills 16 = .ok (.aload_n 0, 1) := by decide +kernel
theorem dX4_spills_17 : decode cX4_spills 17 = .ok (.getfield 13, 3) := by decide +kernel
theorem dX4_spills_20 : decode cX4_spills 20 = .ok (.iload_n 2, 1) := by decide +kernel
theorem dX4_spills_21 : decode cX4_spills 21 = .ok (.iaload, 1) := by decide +kernel
theorem dX4_spills_22 : decode cX4_spills 22 = .ok (.imul, 1) := by decide +kernel
theorem dX4_spills_23 : decode cX4_spills 23 = .ok (.istore_n 3, 1) := by decide +kernel
theorem dX4_spills_24 : decode cX4_spills 24 = .ok (.aload_n 0, 1) := by decide +kernel
theorem dX4_spills_25 : decode cX4_spills 25 = .ok (.getfield 16, 3) := by decide +kernel
theorem dX4_spills_28 : decode cX4_spills 28 = .ok (.iload_n 2, 1) := by decide +kernel
theorem dX4_spills_29 : decode cX4_spills 29 = .ok (.iaload, 1) := by decide +kernel
theorem dX4_spills_30 : decode cX4_spills 30 = .ok (.iload_n 3, 1) := by decide +kernel
theorem dX4_spills_31 : decode cX4_spills 31 = .ok (.if_icmp .le 14, 3) := by decide +kernel
theorem dX4_spills_34 : decode cX4_spills 34 = .ok (.aload_n 0, 1) := by decide +kernel
theorem dX4_spills_35 : decode cX4_spills 35 = .ok (.getfield 16, 3) := by decide +kernel
theorem dX4_spills_38 : decode cX4_spills 38 = .ok (.iload_n 2, 1) := by decide +kernel
theorem dX4_spills_39 : decode cX4_spills 39 = .ok (.iaload, 1) := by decide +kernel
theorem dX4_spills_40 : decode cX4_spills 40 = .ok (.iload_n 3, 1) := by decide +kernel
theorem dX4_spills_41 : decode cX4_spills 41 = .ok (.isub, 1) := by decide +kernel
theorem dX4_spills_42 : decode cX4_spills 42 = .ok (.goto 4, 3) := by decide +kernel
theorem dX4_spills_45 : decode cX4_spills 45 = .ok (.iconst 0, 1) := by decide +kernel
theorem dX4_spills_46 : decode cX4_spills 46 = .ok (.istore 4, 2) := by decide +kernel
theorem dX4_spills_48 : decode cX4_spills 48 = .ok (.aload_n 0, 1) := by decide +kernel
theorem dX4_spills_49 : decode cX4_spills 49 = .ok (.getfield 16, 3) := by decide +kernel
theorem dX4_spills_52 : decode cX4_spills 52 = .ok (.iload_n 2, 1) := by decide +kernel
theorem dX4_spills_53 : decode cX4_spills 53 = .ok (.dup2, 1) := by decide +kernel
theorem dX4_spills_54 : decode cX4_spills 54 = .ok (.iaload, 1) := by decide +kernel
theorem dX4_spills_55 : decode cX4_spills 55 = .ok (.iload 4, 2) := by decide +kernel
theorem dX4_spills_57 : decode cX4_spills 57 = .ok (.isub, 1) := by decide +kernel
theorem dX4_spills_58 : decode cX4_spills 58 = .ok (.iastore, 1) := by decide +kernel
theorem dX4_spills_59 : decode cX4_spills 59 = .ok (.aload_n 0, 1) := by decide +kernel
theorem dX4_spills_60 : decode cX4_spills 60 = .ok (.getfield 34, 3) := by decide +kernel
theorem dX4_spills_63 : decode cX4_spills 63 = .ok (.iload_n 2, 1) := by decide +kernel
theorem dX4_spills_64 : decode cX4_spills 64 = .ok (.dup2, 1) := by decide +kernel
theorem dX4_spills_65 : decode cX4_spills 65 = .ok (.iaload, 1) := by decide +kernel
theorem dX4_spills_66 : decode cX4_spills 66 = .ok (.iload 4, 2) := by decide +kernel
theorem dX4_spills_68 : decode cX4_spills 68 = .ok (.iadd, 1) := by decide +kernel
theorem dX4_spills_69 : decode cX4_spills 69 = .ok (.iastore, 1) := by decide +kernel
theorem dX4_spills_70 : decode cX4_spills 70 = .ok (.iload_n 1, 1) := by decide +kernel
theorem dX4_spills_71 : decode cX4_spills 71 = .ok (.iload 4, 2) := by decide +kernel
theorem dX4_spills_73 : decode cX4_spills 73 = .ok (.iadd, 1) := by decide +kernel
theorem dX4_spills_74 : decode cX4_spills 74 = .ok (.istore_n 1, 1) := by decide +kernel
theorem dX4_spills_75 : decode cX4_spills 75 = .ok (.iload_n 2, 1) := by decide +kernel
theorem dX4_spills_76 : decode cX4_spills 76 = .ok (.bipush 7, 2) := by decide +kernel
theorem dX4_spills_78 : decode cX4_spills 78 = .ok (.if_icmp .ge 16, 3) := by decide +kernel
theorem dX4_spills_81 : decode cX4_spills 81 = .ok (.aload_n 0, 1) := by decide +kernel
theorem dX4_spills_82 : decode cX4_spills 82 = .ok (.getfield 16, 3) := by decide +kernel
theorem dX4_spills_85 : decode cX4_spills 85 = .ok (.iload_n 2, 1) := by decide +kernel
theorem dX4_spills_86 : decode cX4_spills 86 = .ok (.iconst 1, 1) := by decide +kernel
theorem dX4_spills_87 : decode cX4_spills 87 = .ok (.iadd, 1) := by decide +kernel
theorem dX4_spills_88 : decode cX4_spills 88 = .ok (.dup2, 1) := by decide +kernel
theorem dX4_spills_89 : decode cX4_spills 89 = .ok (.iaload, 1) := by decide +kernel
theorem dX4_spills_90 : decode cX4_spills 90 = .ok (.iload 4, 2) := by decide +kernel
theorem dX4_spills_92 : decode cX4_spills 92 = .ok (.iadd, 1) := by decide +kernel
theorem dX4_spills_93 : decode cX4_spills 93 = .ok (.iastore, 1) := by decide +kernel
theorem dX4_spills_94 : decode cX4_spills 94 = .ok (.iinc 2 1, 3) := by decide +kernel
theorem dX4_spills_97 : decode cX4_spills 97 = .ok (.goto (-93), 3) := by decide +kernel
theorem dX4_spills_100 : decode cX4_spills 100 = .ok (.iload_n 1, 1) := by decide +kernel
theorem dX4_spills_101 : decode cX4_spills 101 = .ok (.ireturn, 1) := by decide +kernel
set_option maxRecDepth 20000 in
theorem ggX4_measures_X4_at : GoodIn wsX4_measures wsX4_at := goodIn_r _ [12] (by decide +kernel) (by decide +kernel)
set_option maxRecDepth 20000 in
theorem gX4_measures_X4_at : GoodIn wsX4_measures (va_wsS RX4 114 yX4_at wsX4_at) := goodIn_app (goodIn_of _ (by decide +kernel)) ggX4_measures_X4_at
set_option maxRecDepth 20000 in
theorem ggX4_measures_X4_levelOf : GoodIn wsX4_measures wsX4_levelOf := goodIn_r _ [16, 17, 18, 19, 20, 21, 22, 23, 24, 25, 26, 27, 28, 29, 30, 31, 32, 33, 34, 35, 36, 37, 38, 39, 40, 41, 42, 43, 44, 45, 46, 47, 48] (by decide +kernel) (by decide +kernel)
set_option maxRecDepth 20000 in
theorem gX4_measures_X4_levelOf : GoodIn wsX4_measures (wsV RX4 110 RX4 yX4_levelOf wsX4_levelOf) := goodIn_app (goodIn_of _ (by decide +kernel)) ggX4_measures_X4_levelOf
theorem dX4_measures_0 : decode cX4_measures 0 = .ok (.iconst 0, 1) := by decide +kernel
theorem dX4_measures_1 : decode cX4_measures 1 = .ok (.istore_n 1, 1) := by decide +kernel
theorem dX4_measures_2 : decode cX4_measures 2 = .ok (.iload_n 1, 1) := by decide +kernel
theorem dX4_measures_3 : decode cX4_measures 3 = .ok (.bipush 8, 2) := by decide +kernel
theorem dX4_measures_5 : decode cX4_measures 5 = .ok (.if_icmp .ge 93, 3) := by decide +kernel
theorem dX4_measures_8 : decode cX4_measures 8 = .ok (.aload_n 0, 1) := by decide +kernel
theorem dX4_measures_9 : decode cX4_measures 9 = .ok (.getfield 56, 3) := by decide +kernel
theorem dX4_measures_12 : decode cX4_measures 12 = .ok (.iload_n 1, 1) := by decide +kernel
theorem dX4_measures_13 : decode cX4_measures 13 = .ok (.baload, 1) := by decide +kernel
theorem dX4_measures_14 : decode cX4_measures 14 = .ok (.ifCond .ne 78, 3) := by decide +kernel
theorem dX4_measures_17 : decode cX4_measures 17 = .ok (.iload_n 1, 1) := by decide +kernel
theorem dX4_measures_18 : decode cX4_measures 18 = .ok (.iload_n 1, 1) := by decide +kernel
theorem dX4_measures_19 : decode cX4_measures 19 = .ok (.invokestatic 114, 3) := by decide +kernel
theorem dX4_measures_22 : decode cX4_measures 22 = .ok (.istore_n 2, 1) := by decide +kernel
theorem dX4_measures_23 : decode cX4_measures 23 = .ok (.aload_n 0, 1) := by decide +kernel
theorem dX4_measures_24 : decode cX4_measures 24 = .ok (.getfield 68, 3) := by decide +kernel
theorem dX4_measures_27 : decode cX4_measures 27 = .ok (.iload_n 2, 1) := by decide +kernel
theorem dX4_measures_28 : decode cX4_measures 28 = .ok (.aload_n 0, 1) := by decide +kernel
theorem dX4_measures_29 : decode cX4_measures 29 = .ok (.getfield 62, 3) := by decide +kernel
theorem dX4_measures_32 : decode cX4_measures 32 = .ok (.iload_n 1, 1) := by decide +kernel
theorem dX4_measures_33 : decode cX4_measures 33 = .ok (.baload, 1) := by decide +kernel
theorem dX4_measures_34 : decode cX4_measures 34 = .ok (.ifCond .eq 12, 3) := by decide +kernel
theorem dX4_measures_37 : decode cX4_measures 37 = .ok (.aload_n 0, 1) := by decide +kernel
theorem dX4_measures_38 : decode cX4_measures 38 = .ok (.getfield 68, 3) := by decide +kernel
theorem dX4_measures_41 : decode cX4_measures 41 = .ok (.iload_n 2, 1) := by decide +kernel
theorem dX4_measures_42 : decode cX4_measures 42 = .ok (.iaload, 1) := by decide +kernel
theorem dX4_measures_43 : decode cX4_measures 43 = .ok (.goto 8, 3) := by decide +kernel
theorem dX4_measures_46 : decode cX4_measures 46 = .ok (.aload_n 0, 1) := by decide +kernel
theorem dX4_measures_47 : decode cX4_measures 47 = .ok (.iload_n 1, 1) := by decide +kernel
theorem dX4_measures_48 : decode cX4_measures 48 = .ok (.invokevirtual 110, 3) := by decide +kernel
theorem dX4_measures_51 : decode cX4_measures 51 = .ok (.iastore, 1) := by decide +kernel
theorem dX4_measures_52 : decode cX4_measures 52 = .ok (.aload_n 0, 1) := by decide +kernel
theorem dX4_measures_53 : decode cX4_measures 53 = .ok (.getfield 65, 3) := by decide +kernel
theorem dX4_measures_56 : decode cX4_measures 56 = .ok (.iload_n 2, 1) := by decide +kernel
theorem dX4_measures_57 : decode cX4_measures 57 = .ok (.dup2, 1) := by decide +kernel
theorem dX4_measures_58 : decode cX4_measures 58 = .ok (.iaload, 1) := by decide +kernel
theorem dX4_measures_59 : decode cX4_measures 59 = .ok (.iconst 1, 1) := by decide +kernel
theorem dX4_measures_60 : decode cX4_measures 60 = .ok (.iadd, 1) := by decide +kernel
theorem dX4_measures_61 : decode cX4_measures 61 = .ok (.iastore, 1) := by decide +kernel
theorem dX4_measures_62 : decode cX4_measures 62 = .ok (.aload_n 0, 1) := by decide +kernel
theorem dX4_measures_63 : decode cX4_measures 63 = .ok (.getfield 71, 3) := by decide +kernel
theorem dX4_measures_66 : decode cX4_measures 66 = .ok (.iload_n 2, 1) := by decide +kernel
theorem dX4_measures_67 : decode cX4_measures 67 = .ok (.aload_n 0, 1) := by decide +kernel
theorem dX4_measures_68 : decode cX4_measures 68 = .ok (.getfield 118, 3) := by decide +kernel
theorem dX4_measures_71 : decode cX4_measures 71 = .ok (.iastore, 1) := by decide +kernel
theorem dX4_measures_72 : decode cX4_measures 72 = .ok (.aload_n 0, 1) := by decide +kernel
theorem dX4_measures_73 : decode cX4_measures 73 = .ok (.getfield 74, 3) := by decide +kernel
theorem dX4_measures_76 : decode cX4_measures 76 = .ok (.iload_n 2, 1) := by decide +kernel
theorem dX4_measures_77 : decode cX4_measures 77 = .ok (.dup2, 1) := by decide +kernel
theorem dX4_measures_78 : decode cX4_measures 78 = .ok (.iaload, 1) := by decide +kernel
theorem dX4_measures_79 : decode cX4_measures 79 = .ok (.iconst 1, 1) := by decide +kernel
theorem dX4_measures_80 : decode cX4_measures 80 = .ok (.iadd, 1) := by decide +kernel
theorem dX4_measures_81 : decode cX4_measures 81 = .ok (.iastore, 1) := by decide +kernel
theorem dX4_measures_82 : decode cX4_measures 82 = .ok (.aload_n 0, 1) := by decide +kernel
theorem dX4_measures_83 : decode cX4_measures 83 = .ok (.getfield 77, 3) := by decide +kernel
theorem dX4_measures_86 : decode cX4_measures 86 = .ok (.iload_n 2, 1) := by decide +kernel
theorem dX4_measures_87 : decode cX4_measures 87 = .ok (.aload_n 0, 1) := by decide +kernel
theorem dX4_measures_88 : decode cX4_measures 88 = .ok (.getfield 118, 3) := by decide +kernel
theorem dX4_measures_91 : decode cX4_measures 91 = .ok (.iastore, 1) := by decide +kernel
theorem dX4_measures_92 : decode cX4_measures 92 = .ok (.iinc 1 1, 3) := by decide +kernel
theorem dX4_measures_95 : decode cX4_measures 95 = .ok (.goto (-93), 3) := by decide +kernel
theorem dX4_measures_98 : decode cX4_measures 98 = .ok (.return_, 1) := by decide +kernel
set_option maxRecDepth 20000 in
theorem ggX4_takes_X4_at : GoodIn wsX4_takes wsX4_at := goodIn_r _ [11] (by decide +kernel) (by decide +kernel)
set_option maxRecDepth 20000 in
theorem gX4_takes_X4_at : GoodIn wsX4_takes (va_wsS RX4 114 yX4_at wsX4_at) := goodIn_app (goodIn_of _ (by decide +kernel)) ggX4_takes_X4_at
theorem dX4_takes_0 : decode cX4_takes 0 = .ok (.iconst 0, 1) := by decide +kernel
theorem dX4_takes_1 : decode cX4_takes 1 = .ok (.istore_n 3, 1) := by decide +kernel
theorem dX4_takes_2 : decode cX4_takes 2 = .ok (.iload_n 3, 1) := by decide +kernel
theorem dX4_takes_3 : decode cX4_takes 3 = .ok (.bipush 8, 2) := by decide +kernel
theorem dX4_takes_5 : decode cX4_takes 5 = .ok (.if_icmp .ge 132, 3) := by decide +kernel
theorem dX4_takes_8 : decode cX4_takes 8 = .ok (.iload_n 1, 1) := by decide +kernel
theorem dX4_takes_9 : decode cX4_takes 9 = .ok (.iload_n 3, 1) := by decide +kernel
theorem dX4_takes_10 : decode cX4_takes 10 = .ok (.invokestatic 114, 3) := by decide +kernel
theorem dX4_takes_13 : decode cX4_takes 13 = .ok (.istore 4, 2) := by decide +kernel
theorem dX4_takes_15 : decode cX4_takes 15 = .ok (.iload_n 2, 1) := by decide +kernel
theorem dX4_takes_16 : decode cX4_takes 16 = .ok (.iload_n 3, 1) := by decide +kernel
theorem dX4_takes_17 : decode cX4_takes 17 = .ok (.invokestatic 114, 3) := by decide +kernel
theorem dX4_takes_20 : decode cX4_takes 20 = .ok (.istore 5, 2) := by decide +kernel
theorem dX4_takes_22 : decode cX4_takes 22 = .ok (.aload_n 0, 1) := by decide +kernel
theorem dX4_takes_23 : decode cX4_takes 23 = .ok (.getfield 65, 3) := by decide +kernel
theorem dX4_takes_26 : decode cX4_takes 26 = .ok (.iload 4, 2) := by decide +kernel
theorem dX4_takes_28 : decode cX4_takes 28 = .ok (.iaload, 1) := by decide +kernel
theorem dX4_takes_29 : decode cX4_takes 29 = .ok (.aload_n 0, 1) := by decide +kernel
theorem dX4_takes_30 : decode cX4_takes 30 = .ok (.getfield 65, 3) := by decide +kernel
theorem dX4_takes_33 : decode cX4_takes 33 = .ok (.iload 5, 2) := by decide +kernel
theorem dX4_takes_35 : decode cX4_takes 35 = .ok (.iaload, 1) := by decide +kernel
theorem dX4_takes_36 : decode cX4_takes 36 = .ok (.if_icmp .ge 45, 3) := by decide +kernel
theorem dX4_takes_39 : decode cX4_takes 39 = .ok (.aload_n 0, 1) := by decide +kernel
theorem dX4_takes_40 : decode cX4_takes 40 = .ok (.getfield 65, 3) := by decide +kernel
theorem dX4_takes_43 : decode cX4_takes 43 = .ok (.iload 4, 2) := by decide +kernel
theorem dX4_takes_45 : decode cX4_takes 45 = .ok (.aload_n 0, 1) := by decide +kernel
theorem dX4_takes_46 : decode cX4_takes 46 = .ok (.getfield 65, 3) := by decide +kernel
theorem dX4_takes_49 : decode cX4_takes 49 = .ok (.iload 5, 2) := by decide +kernel
theorem dX4_takes_51 : decode cX4_takes 51 = .ok (.iaload, 1) := by decide +kernel
theorem dX4_takes_52 : decode cX4_takes 52 = .ok (.iastore, 1) := by decide +kernel
theorem dX4_takes_53 : decode cX4_takes 53 = .ok (.aload_n 0, 1) := by decide +kernel
theorem dX4_takes_54 : decode cX4_takes 54 = .ok (.getfield 68, 3) := by decide +kernel
theorem dX4_takes_57 : decode cX4_takes 57 = .ok (.iload 4, 2) := by decide +kernel
theorem dX4_takes_59 : decode cX4_takes 59 = .ok (.aload_n 0, 1) := by decide +kernel
theorem dX4_takes_60 : decode cX4_takes 60 = .ok (.getfield 68, 3) := by decide +kernel
theorem dX4_takes_63 : decode cX4_takes 63 = .ok (.iload 5, 2) := by decide +kernel
theorem dX4_takes_65 : decode cX4_takes 65 = .ok (.iaload, 1) := by decide +kernel
theorem dX4_takes_66 : decode cX4_takes 66 = .ok (.iastore, 1) := by decide +kernel
theorem dX4_takes_67 : decode cX4_takes 67 = .ok (.aload_n 0, 1) := by decide +kernel
theorem dX4_takes_68 : decode cX4_takes 68 = .ok (.getfield 71, 3) := by decide +kernel
theorem dX4_takes_71 : decode cX4_takes 71 = .ok (.iload 4, 2) := by decide +kernel
theorem dX4_takes_73 : decode cX4_takes 73 = .ok (.aload_n 0, 1) := by decide +kernel
theorem dX4_takes_74 : decode cX4_takes 74 = .ok (.getfield 71, 3) := by decide +kernel
theorem dX4_takes_77 : decode cX4_takes 77 = .ok (.iload 5, 2) := by decide +kernel
theorem dX4_takes_79 : decode cX4_takes 79 = .ok (.iaload, 1) := by decide +kernel
theorem dX4_takes_80 : decode cX4_takes 80 = .ok (.iastore, 1) := by decide +kernel
theorem dX4_takes_81 : decode cX4_takes 81 = .ok (.aload_n 0, 1) := by decide +kernel
theorem dX4_takes_82 : decode cX4_takes 82 = .ok (.getfield 74, 3) := by decide +kernel
theorem dX4_takes_85 : decode cX4_takes 85 = .ok (.iload 4, 2) := by decide +kernel
theorem dX4_takes_87 : decode cX4_takes 87 = .ok (.iaload, 1) := by decide +kernel
theorem dX4_takes_88 : decode cX4_takes 88 = .ok (.aload_n 0, 1) := by decide +kernel
theorem dX4_takes_89 : decode cX4_takes 89 = .ok (.getfield 74, 3) := by decide +kernel
theorem dX4_takes_92 : decode cX4_takes 92 = .ok (.iload 5, 2) := by decide +kernel
theorem dX4_takes_94 : decode cX4_takes 94 = .ok (.iaload, 1) := by decide +kernel
theorem dX4_takes_95 : decode cX4_takes 95 = .ok (.if_icmp .ge 36, 3) := by decide +kernel
theorem dX4_takes_98 : decode cX4_takes 98 = .ok (.aload_n 0, 1) := by decide +kernel
theorem dX4_takes_99 : decode cX4_takes 99 = .ok (.getfield 74, 3) := by decide +kernel
theorem dX4_takes_102 : decode cX4_takes 102 = .ok (.iload 4, 2) := by decide +kernel
theorem dX4_takes_104 : decode cX4_takes 104 = .ok (.aload_n 0, 1) := by decide +kernel
theorem dX4_takes_105 : decode cX4_takes 105 = .ok (.getfield 74, 3) := by decide +kernel
theorem dX4_takes_108 : decode cX4_takes 108 = .ok (.iload 5, 2) := by decide +kernel
theorem dX4_takes_110 : decode cX4_takes 110 = .ok (.iaload, 1) := by decide +kernel
theorem dX4_takes_111 : decode cX4_takes 111 = .ok (.iastore, 1) := by decide +kernel
theorem dX4_takes_112 : decode cX4_takes 112 = .ok (.aload_n 0, 1) := by decide +kernel
theorem dX4_takes_113 : decode cX4_takes 113 = .ok (.getfield 77, 3) := by decide +kernel
theorem dX4_takes_116 : decode cX4_takes 116 = .ok (.iload 4, 2) := by decide +kernel
theorem dX4_takes_118 : decode cX4_takes 118 = .ok (.aload_n 0, 1) := by decide +kernel
theorem dX4_takes_119 : decode cX4_takes 119 = .ok (.getfield 118, 3) := by decide +kernel
theorem dX4_takes_122 : decode cX4_takes 122 = .ok (.iastore, 1) := by decide +kernel
theorem dX4_takes_123 : decode cX4_takes 123 = .ok (.aload_n 0, 1) := by decide +kernel
theorem dX4_takes_124 : decode cX4_takes 124 = .ok (.getfield 80, 3) := by decide +kernel
theorem dX4_takes_127 : decode cX4_takes 127 = .ok (.iload 4, 2) := by decide +kernel
theorem dX4_takes_129 : decode cX4_takes 129 = .ok (.iconst 0, 1) := by decide +kernel
theorem dX4_takes_130 : decode cX4_takes 130 = .ok (.iastore, 1) := by decide +kernel
theorem dX4_takes_131 : decode cX4_takes 131 = .ok (.iinc 3 1, 3) := by decide +kernel
theorem dX4_takes_134 : decode cX4_takes 134 = .ok (.goto (-132), 3) := by decide +kernel
theorem dX4_takes_137 : decode cX4_takes 137 = .ok (.return_, 1) := by decide +kernel
set_option maxRecDepth 20000 in
theorem ggX4_calls_X4_called : GoodIn wsX4_calls wsX4_called := goodIn_r _ [9, 10, 11, 12, 8, 13, 14, 15, 16, 17, 27, 28, 29, 30, 31, 32, 33, 34, 35, 36, 37, 38, 39, 40, 41, 42, 43, 44, 45, 46, 47, 48, 49, 50, 51, 52, 53, 54, 55, 56] (by decide +kernel) (by decide +kernel)
set_option maxRecDepth 20000 in
theorem gX4_calls_X4_called : GoodIn wsX4_calls (wsV RX4 134 RX4 yX4_called wsX4_called) := goodIn_app (goodIn_of _ (by decide +kernel)) ggX4_calls_X4_called
set_option maxRecDepth 20000 in
theorem ggX4_calls_X4_takes : GoodIn wsX4_calls wsX4_takes := goodIn_r _ [21, 22, 23, 24, 25, 26, 2, 14, 15, 16, 8, 17, 27, 28, 29, 30, 31, 32, 33, 34, 35, 36, 37, 38, 39, 40, 41, 42, 43, 44, 45, 46, 47, 48, 49, 50, 51, 52, 53, 54, 55, 56] (by decide +kernel) (by decide +kernel)
set_option maxRecDepth 20000 in
theorem gX4_calls_X4_takes : GoodIn wsX4_calls (wsV RX4 140 RX4 yX4_takes wsX4_takes) := goodIn_app (goodIn_of _ (by decide +kernel)) ggX4_calls_X4_takes
theorem dX4_calls_0 : decode cX4_calls 0 = .ok (.iconst 0, 1) := by decide +kernel
theorem dX4_calls_1 : decode cX4_calls 1 = .ok (.istore_n 1, 1) := by decide +kernel
theorem dX4_calls_2 : decode cX4_calls 2 = .ok (.iload_n 1, 1) := by decide +kernel
theorem dX4_calls_3 : decode cX4_calls 3 = .ok (.bipush 8, 2) := by decide +kernel
theorem dX4_calls_5 : decode cX4_calls 5 = .ok (.if_icmp .ge 106, 3) := by decide +kernel
theorem dX4_calls_8 : decode cX4_calls 8 = .ok (.aload_n 0, 1) := by decide +kernel
theorem dX4_calls_9 : decode cX4_calls 9 = .ok (.getfield 56, 3) := by decide +kernel
theorem dX4_calls_12 : decode cX4_calls 12 = .ok (.iload_n 1, 1) := by decide +kernel
theorem dX4_calls_13 : decode cX4_calls 13 = .ok (.baload, 1) := by decide +kernel
theorem dX4_calls_14 : decode cX4_calls 14 = .ok (.ifCond .eq 7, 3) := by decide +kernel
theorem dX4_calls_17 : decode cX4_calls 17 = .ok (.iconst (-1), 1) := by decide +kernel
theorem dX4_calls_18 : decode cX4_calls 18 = .ok (.goto 12, 3) := by decide +kernel
theorem dX4_calls_21 : decode cX4_calls 21 = .ok (.aload_n 0, 1) := by decide +kernel
theorem dX4_calls_22 : decode cX4_calls 22 = .ok (.iload_n 1, 1) := by decide +kernel
theorem dX4_calls_23 : decode cX4_calls 23 = .ok (.aload_n 0, 1) := by decide +kernel
theorem dX4_calls_24 : decode cX4_calls 24 = .ok (.getfield 118, 3) := by decide +kernel
theorem dX4_calls_27 : decode cX4_calls 27 = .ok (.invokevirtual 134, 3) := by decide +kernel
theorem dX4_calls_30 : decode cX4_calls 30 = .ok (.istore_n 2, 1) := by decide +kernel
theorem dX4_calls_31 : decode cX4_calls 31 = .ok (.iload_n 2, 1) := by decide +kernel
theorem dX4_calls_32 : decode cX4_calls 32 = .ok (.iconst (-1), 1) := by decide +kernel
theorem dX4_calls_33 : decode cX4_calls 33 = .ok (.if_icmp .eq 31, 3) := by decide +kernel
theorem dX4_calls_36 : decode cX4_calls 36 = .ok (.aload_n 0, 1) := by decide +kernel
theorem dX4_calls_37 : decode cX4_calls 37 = .ok (.getfield 56, 3) := by decide +kernel
theorem dX4_calls_40 : decode cX4_calls 40 = .ok (.iload_n 2, 1) := by decide +kernel
theorem dX4_calls_41 : decode cX4_calls 41 = .ok (.baload, 1) := by decide +kernel
theorem dX4_calls_42 : decode cX4_calls 42 = .ok (.ifCond .ne 22, 3) := by decide +kernel
theorem dX4_calls_45 : decode cX4_calls 45 = .ok (.aload_n 0, 1) := by decide +kernel
theorem dX4_calls_46 : decode cX4_calls 46 = .ok (.getfield 59, 3) := by decide +kernel
theorem dX4_calls_49 : decode cX4_calls 49 = .ok (.iload_n 2, 1) := by decide +kernel
theorem dX4_calls_50 : decode cX4_calls 50 = .ok (.iaload, 1) := by decide +kernel
theorem dX4_calls_51 : decode cX4_calls 51 = .ok (.aload_n 0, 1) := by decide +kernel
theorem dX4_calls_52 : decode cX4_calls 52 = .ok (.getfield 59, 3) := by decide +kernel
theorem dX4_calls_55 : decode cX4_calls 55 = .ok (.iload_n 1, 1) := by decide +kernel
theorem dX4_calls_56 : decode cX4_calls 56 = .ok (.iaload, 1) := by decide +kernel
theorem dX4_calls_57 : decode cX4_calls 57 = .ok (.if_icmp .ne 7, 3) := by decide +kernel
theorem dX4_calls_60 : decode cX4_calls 60 = .ok (.iconst 1, 1) := by decide +kernel
theorem dX4_calls_61 : decode cX4_calls 61 = .ok (.goto 4, 3) := by decide +kernel
theorem dX4_calls_64 : decode cX4_calls 64 = .ok (.iconst 0, 1) := by decide +kernel
theorem dX4_calls_65 : decode cX4_calls 65 = .ok (.istore_n 3, 1) := by decide +kernel
theorem dX4_calls_66 : decode cX4_calls 66 = .ok (.aload_n 0, 1) := by decide +kernel
theorem dX4_calls_67 : decode cX4_calls 67 = .ok (.dup, 1) := by decide +kernel
theorem dX4_calls_68 : decode cX4_calls 68 = .ok (.getfield 137, 3) := by decide +kernel
theorem dX4_calls_71 : decode cX4_calls 71 = .ok (.iload_n 2, 1) := by decide +kernel
theorem dX4_calls_72 : decode cX4_calls 72 = .ok (.iconst (-1), 1) := by decide +kernel
theorem dX4_calls_73 : decode cX4_calls 73 = .ok (.if_icmp .eq 11, 3) := by decide +kernel
theorem dX4_calls_76 : decode cX4_calls 76 = .ok (.iload_n 3, 1) := by decide +kernel
theorem dX4_calls_77 : decode cX4_calls 77 = .ok (.ifCond .ne 7, 3) := by decide +kernel
theorem dX4_calls_80 : decode cX4_calls 80 = .ok (.iconst 1, 1) := by decide +kernel
theorem dX4_calls_81 : decode cX4_calls 81 = .ok (.goto 4, 3) := by decide +kernel
theorem dX4_calls_84 : decode cX4_calls 84 = .ok (.iconst 0, 1) := by decide +kernel
theorem dX4_calls_85 : decode cX4_calls 85 = .ok (.iadd, 1) := by decide +kernel
theorem dX4_calls_86 : decode cX4_calls 86 = .ok (.putfield 137, 3) := by decide +kernel
theorem dX4_calls_89 : decode cX4_calls 89 = .ok (.iload_n 3, 1) := by decide +kernel
theorem dX4_calls_90 : decode cX4_calls 90 = .ok (.ifCond .eq 15, 3) := by decide +kernel
theorem dX4_calls_93 : decode cX4_calls 93 = .ok (.aload_n 0, 1) := by decide +kernel
theorem dX4_calls_94 : decode cX4_calls 94 = .ok (.iload_n 1, 1) := by decide +kernel
theorem dX4_calls_95 : decode cX4_calls 95 = .ok (.iload_n 2, 1) := by decide +kernel
theorem dX4_calls_96 : decode cX4_calls 96 = .ok (.invokevirtual 140, 3) := by decide +kernel
theorem dX4_calls_99 : decode cX4_calls 99 = .ok (.aload_n 0, 1) := by decide +kernel
theorem dX4_calls_100 : decode cX4_calls 100 = .ok (.iload_n 2, 1) := by decide +kernel
theorem dX4_calls_101 : decode cX4_calls 101 = .ok (.iload_n 1, 1) := by decide +kernel
theorem dX4_calls_102 : decode cX4_calls 102 = .ok (.invokevirtual 140, 3) := by decide +kernel
theorem dX4_calls_105 : decode cX4_calls 105 = .ok (.iinc 1 1, 3) := by decide +kernel
theorem dX4_calls_108 : decode cX4_calls 108 = .ok (.goto (-106), 3) := by decide +kernel
theorem dX4_calls_111 : decode cX4_calls 111 = .ok (.return_, 1) := by decide +kernel
theorem dX4_looks_0 : decode cX4_looks 0 = .ok (.iconst 0, 1) := by decide +kernel
theorem dX4_looks_1 : decode cX4_looks 1 = .ok (.istore_n 1, 1) := by decide +kernel
theorem dX4_looks_2 : decode cX4_looks 2 = .ok (.iload_n 1, 1) := by decide +kernel
theorem dX4_looks_3 : decode cX4_looks 3 = .ok (.bipush 64, 2) := by decide +kernel
theorem dX4_looks_5 : decode cX4_looks 5 = .ok (.if_icmp .ge 86, 3) := by decide +kernel
theorem dX4_looks_8 : decode cX4_looks 8 = .ok (.aload_n 0, 1) := by decide +kernel
theorem dX4_looks_9 : decode cX4_looks 9 = .ok (.getfield 118, 3) := by decide +kernel
theorem dX4_looks_12 : decode cX4_looks 12 = .ok (.aload_n 0, 1) := by decide +kernel
theorem dX4_looks_13 : decode cX4_looks 13 = .ok (.getfield 77, 3) := by decide +kernel
theorem dX4_looks_16 : decode cX4_looks 16 = .ok (.iload_n 1, 1) := by decide +kernel
theorem dX4_looks_17 : decode cX4_looks 17 = .ok (.iaload, 1) := by decide +kernel
theorem dX4_looks_18 : decode cX4_looks 18 = .ok (.isub, 1) := by decide +kernel
theorem dX4_looks_19 : decode cX4_looks 19 = .ok (.istore_n 2, 1) := by decide +kernel
theorem dX4_looks_20 : decode cX4_looks 20 = .ok (.iload_n 2, 1) := by decide +kernel
theorem dX4_looks_21 : decode cX4_looks 21 = .ok (.aload_n 0, 1) := by decide +kernel
theorem dX4_looks_22 : decode cX4_looks 22 = .ok (.getfield 87, 3) := by decide +kernel
theorem dX4_looks_25 : decode cX4_looks 25 = .ok (.if_icmp .le 7, 3) := by decide +kernel
theorem dX4_looks_28 : decode cX4_looks 28 = .ok (.iconst 2, 1) := by decide +kernel
theorem dX4_looks_29 : decode cX4_looks 29 = .ok (.goto 16, 3) := by decide +kernel
theorem dX4_looks_32 : decode cX4_looks 32 = .ok (.iload_n 2, 1) := by decide +kernel
theorem dX4_looks_33 : decode cX4_looks 33 = .ok (.aload_n 0, 1) := by decide +kernel
theorem dX4_looks_34 : decode cX4_looks 34 = .ok (.getfield 83, 3) := by decide +kernel
theorem dX4_looks_37 : decode cX4_looks 37 = .ok (.if_icmp .le 7, 3) := by decide +kernel
theorem dX4_looks_40 : decode cX4_looks 40 = .ok (.iconst 1, 1) := by decide +kernel
theorem dX4_looks_41 : decode cX4_looks 41 = .ok (.goto 4, 3) := by decide +kernel
theorem dX4_looks_44 : decode cX4_looks 44 = .ok (.iconst 0, 1) := by decide +kernel
theorem dX4_looks_45 : decode cX4_looks 45 = .ok (.istore_n 3, 1) := by decide +kernel
theorem dX4_looks_46 : decode cX4_looks 46 = .ok (.aload_n 0, 1) := by decide +kernel
theorem dX4_looks_47 : decode cX4_looks 47 = .ok (.getfield 80, 3) := by decide +kernel
theorem dX4_looks_50 : decode cX4_looks 50 = .ok (.iload_n 1, 1) := by decide +kernel
theorem dX4_looks_51 : decode cX4_looks 51 = .ok (.aload_n 0, 1) := by decide +kernel
theorem dX4_looks_52 : decode cX4_looks 52 = .ok (.getfield 56, 3) := by decide +kernel
theorem dX4_looks_55 : decode cX4_looks 55 = .ok (.iload_n 1, 1) := by decide +kernel
theorem dX4_looks_56 : decode cX4_looks 56 = .ok (.bipush 8, 2) := by decide +kernel
theorem dX4_looks_58 : decode cX4_looks 58 = .ok (.idiv, 1) := by decide +kernel
theorem dX4_looks_59 : decode cX4_looks 59 = .ok (.baload, 1) := by decide +kernel
theorem dX4_looks_60 : decode cX4_looks 60 = .ok (.ifCond .ne 14, 3) := by decide +kernel
theorem dX4_looks_63 : decode cX4_looks 63 = .ok (.iload_n 1, 1) := by decide +kernel
theorem dX4_looks_64 : decode cX4_looks 64 = .ok (.bipush 8, 2) := by decide +kernel
theorem dX4_looks_66 : decode cX4_looks 66 = .ok (.idiv, 1) := by decide +kernel
theorem dX4_looks_67 : decode cX4_looks 67 = .ok (.iload_n 1, 1) := by decide +kernel
theorem dX4_looks_68 : decode cX4_looks 68 = .ok (.bipush 8, 2) := by decide +kernel
theorem dX4_looks_70 : decode cX4_looks 70 = .ok (.irem, 1) := by decide +kernel
theorem dX4_looks_71 : decode cX4_looks 71 = .ok (.if_icmp .ne 12, 3) := by decide +kernel
theorem dX4_looks_74 : decode cX4_looks 74 = .ok (.aload_n 0, 1) := by decide +kernel
theorem dX4_looks_75 : decode cX4_looks 75 = .ok (.getfield 80, 3) := by decide +kernel
theorem dX4_looks_78 : decode cX4_looks 78 = .ok (.iload_n 1, 1) := by decide +kernel
theorem dX4_looks_79 : decode cX4_looks 79 = .ok (.iaload, 1) := by decide +kernel
theorem dX4_looks_80 : decode cX4_looks 80 = .ok (.goto 4, 3) := by decide +kernel
theorem dX4_looks_83 : decode cX4_looks 83 = .ok (.iload_n 3, 1) := by decide +kernel
theorem dX4_looks_84 : decode cX4_looks 84 = .ok (.iastore, 1) := by decide +kernel
theorem dX4_looks_85 : decode cX4_looks 85 = .ok (.iinc 1 1, 3) := by decide +kernel
theorem dX4_looks_88 : decode cX4_looks 88 = .ok (.goto (-86), 3) := by decide +kernel
theorem dX4_looks_91 : decode cX4_looks 91 = .ok (.return_, 1) := by decide +kernel
set_option maxRecDepth 20000 in
theorem ggX4_rules_X4_at : GoodIn wsX4_rules wsX4_at := goodIn_r _ [11] (by decide +kernel) (by decide +kernel)
set_option maxRecDepth 20000 in
theorem gX4_rules_X4_at : GoodIn wsX4_rules (va_wsS RX4 114 yX4_at wsX4_at) := goodIn_app (goodIn_of _ (by decide +kernel)) ggX4_rules_X4_at
set_option maxRecDepth 20000 in
theorem ggX4_rules_X4_hasNews : GoodIn wsX4_rules wsX4_hasNews := goodIn_r _ [15, 16, 8, 9, 10, 11, 23, 24, 25, 26, 27, 28, 29, 30, 31, 32, 33, 34, 35, 36, 37, 38, 39, 40, 41, 42, 43, 44, 45, 46, 47, 48, 49, 50, 51, 52] (by decide +kernel) (by decide +kernel)
set_option maxRecDepth 20000 in
theorem gX4_rules_X4_hasNews : GoodIn wsX4_rules (wsV RX4 125 RX4 yX4_hasNews wsX4_hasNews) := goodIn_app (goodIn_of _ (by decide +kernel)) ggX4_rules_X4_hasNews
set_option maxRecDepth 20000 in
theorem ggX4_rules_X4_ageOf : GoodIn wsX4_rules wsX4_ageOf := goodIn_r _ [20, 21, 22, 12, 13, 14, 10, 15, 16, 8, 9, 11, 23, 24, 25, 26, 27, 28, 29, 30, 31, 32, 33, 34, 35, 36, 37, 38, 39, 40, 41, 42, 43, 44, 45, 46, 47, 48, 49, 50, 51, 52] (by decide +kernel) (by decide +kernel)
set_option maxRecDepth 20000 in
theorem gX4_rules_X4_ageOf : GoodIn wsX4_rules (wsV RX4 128 RX4 yX4_ageOf wsX4_ageOf) := goodIn_app (goodIn_of _ (by decide +kernel)) ggX4_rules_X4_ageOf
theorem dX4_rules_0 : decode cX4_rules 0 = .ok (.aload_n 0, 1) := by decide +kernel
theorem dX4_rules_1 : decode cX4_rules 1 = .ok (.getfield 68, 3) := by decide +kernel
theorem dX4_rules_4 : decode cX4_rules 4 = .ok (.iload_n 1, 1) := by decide +kernel
theorem dX4_rules_5 : decode cX4_rules 5 = .ok (.iload_n 1, 1) := by decide +kernel
theorem dX4_rules_6 : decode cX4_rules 6 = .ok (.invokestatic 114, 3) := by decide +kernel
theorem dX4_rules_9 : decode cX4_rules 9 = .ok (.iaload, 1) := by decide +kernel
theorem dX4_rules_10 : decode cX4_rules 10 = .ok (.istore_n 2, 1) := by decide +kernel
theorem dX4_rules_11 : decode cX4_rules 11 = .ok (.iload_n 1, 1) := by decide +kernel
theorem dX4_rules_12 : decode cX4_rules 12 = .ok (.bipush 7, 2) := by decide +kernel
theorem dX4_rules_14 : decode cX4_rules 14 = .ok (.if_icmp .ne 7, 3) := by decide +kernel
theorem dX4_rules_17 : decode cX4_rules 17 = .ok (.iconst 1, 1) := by decide +kernel
theorem dX4_rules_18 : decode cX4_rules 18 = .ok (.goto 4, 3) := by decide +kernel
theorem dX4_rules_21 : decode cX4_rules 21 = .ok (.iconst 0, 1) := by decide +kernel
theorem dX4_rules_22 : decode cX4_rules 22 = .ok (.istore_n 3, 1) := by decide +kernel
theorem dX4_rules_23 : decode cX4_rules 23 = .ok (.iload_n 3, 1) := by decide +kernel
theorem dX4_rules_24 : decode cX4_rules 24 = .ok (.ifCond .ne 74, 3) := by decide +kernel
theorem dX4_rules_27 : decode cX4_rules 27 = .ok (.aload_n 0, 1) := by decide +kernel
theorem dX4_rules_28 : decode cX4_rules 28 = .ok (.iload_n 1, 1) := by decide +kernel
theorem dX4_rules_29 : decode cX4_rules 29 = .ok (.iload_n 1, 1) := by decide +kernel
theorem dX4_rules_30 : decode cX4_rules 30 = .ok (.iconst 1, 1) := by decide +kernel
theorem dX4_rules_31 : decode cX4_rules 31 = .ok (.iadd, 1) := by decide +kernel
theorem dX4_rules_32 : decode cX4_rules 32 = .ok (.invokevirtual 125, 3) := by decide +kernel
theorem dX4_rules_35 : decode cX4_rules 35 = .ok (.ifCond .eq 20, 3) := by decide +kernel
theorem dX4_rules_38 : decode cX4_rules 38 = .ok (.aload_n 0, 1) := by decide +kernel
theorem dX4_rules_39 : decode cX4_rules 39 = .ok (.iload_n 1, 1) := by decide +kernel
theorem dX4_rules_40 : decode cX4_rules 40 = .ok (.iload_n 1, 1) := by decide +kernel
theorem dX4_rules_41 : decode cX4_rules 41 = .ok (.iconst 1, 1) := by decide +kernel
theorem dX4_rules_42 : decode cX4_rules 42 = .ok (.iadd, 1) := by decide +kernel
theorem dX4_rules_43 : decode cX4_rules 43 = .ok (.invokevirtual 128, 3) := by decide +kernel
theorem dX4_rules_46 : decode cX4_rules 46 = .ok (.aload_n 0, 1) := by decide +kernel
theorem dX4_rules_47 : decode cX4_rules 47 = .ok (.getfield 46, 3) := by decide +kernel
theorem dX4_rules_50 : decode cX4_rules 50 = .ok (.iload_n 1, 1) := by decide +kernel
theorem dX4_rules_51 : decode cX4_rules 51 = .ok (.iaload, 1) := by decide +kernel
theorem dX4_rules_52 : decode cX4_rules 52 = .ok (.if_icmp .le 46, 3) := by decide +kernel
theorem dX4_rules_55 : decode cX4_rules 55 = .ok (.aload_n 0, 1) := by decide +kernel
theorem dX4_rules_56 : decode cX4_rules 56 = .ok (.getfield 19, 3) := by decide +kernel
theorem dX4_rules_59 : decode cX4_rules 59 = .ok (.iload_n 1, 1) := by decide +kernel
theorem dX4_rules_60 : decode cX4_rules 60 = .ok (.aload_n 0, 1) := by decide +kernel
theorem dX4_rules_61 : decode cX4_rules 61 = .ok (.getfield 19, 3) := by decide +kernel
theorem dX4_rules_64 : decode cX4_rules 64 = .ok (.iload_n 1, 1) := by decide +kernel
theorem dX4_rules_65 : decode cX4_rules 65 = .ok (.iaload, 1) := by decide +kernel
theorem dX4_rules_66 : decode cX4_rules 66 = .ok (.iconst 2, 1) := by decide +kernel
theorem dX4_rules_67 : decode cX4_rules 67 = .ok (.iadd, 1) := by decide +kernel
theorem dX4_rules_68 : decode cX4_rules 68 = .ok (.bipush 10, 2) := by decide +kernel
theorem dX4_rules_70 : decode cX4_rules 70 = .ok (.if_icmp .ge 14, 3) := by decide +kernel
theorem dX4_rules_73 : decode cX4_rules 73 = .ok (.aload_n 0, 1) := by decide +kernel
theorem dX4_rules_74 : decode cX4_rules 74 = .ok (.getfield 19, 3) := by decide +kernel
theorem dX4_rules_77 : decode cX4_rules 77 = .ok (.iload_n 1, 1) := by decide +kernel
theorem dX4_rules_78 : decode cX4_rules 78 = .ok (.iaload, 1) := by decide +kernel
theorem dX4_rules_79 : decode cX4_rules 79 = .ok (.iconst 2, 1) := by decide +kernel
theorem dX4_rules_80 : decode cX4_rules 80 = .ok (.iadd, 1) := by decide +kernel
theorem dX4_rules_81 : decode cX4_rules 81 = .ok (.goto 5, 3) := by decide +kernel
theorem dX4_rules_84 : decode cX4_rules 84 = .ok (.bipush 10, 2) := by decide +kernel
theorem dX4_rules_86 : decode cX4_rules 86 = .ok (.iastore, 1) := by decide +kernel
theorem dX4_rules_87 : decode cX4_rules 87 = .ok (.aload_n 0, 1) := by decide +kernel
theorem dX4_rules_88 : decode cX4_rules 88 = .ok (.getfield 53, 3) := by decide +kernel
theorem dX4_rules_91 : decode cX4_rules 91 = .ok (.iload_n 1, 1) := by decide +kernel
theorem dX4_rules_92 : decode cX4_rules 92 = .ok (.dup2, 1) := by decide +kernel
theorem dX4_rules_93 : decode cX4_rules 93 = .ok (.iaload, 1) := by decide +kernel
theorem dX4_rules_94 : decode cX4_rules 94 = .ok (.iconst 1, 1) := by decide +kernel
theorem dX4_rules_95 : decode cX4_rules 95 = .ok (.iadd, 1) := by decide +kernel
theorem dX4_rules_96 : decode cX4_rules 96 = .ok (.iastore, 1) := by decide +kernel
theorem dX4_rules_97 : decode cX4_rules 97 = .ok (.return_, 1) := by decide +kernel
theorem dX4_rules_98 : decode cX4_rules 98 = .ok (.iload_n 2, 1) := by decide +kernel
theorem dX4_rules_99 : decode cX4_rules 99 = .ok (.aload_n 0, 1) := by decide +kernel
theorem dX4_rules_100 : decode cX4_rules 100 = .ok (.getfield 40, 3) := by decide +kernel
theorem dX4_rules_103 : decode cX4_rules 103 = .ok (.iload_n 1, 1) := by decide +kernel
theorem dX4_rules_104 : decode cX4_rules 104 = .ok (.iaload, 1) := by decide +kernel
theorem dX4_rules_105 : decode cX4_rules 105 = .ok (.if_icmp .le 32, 3) := by decide +kernel
theorem dX4_rules_108 : decode cX4_rules 108 = .ok (.iload_n 3, 1) := by decide +kernel
theorem dX4_rules_109 : decode cX4_rules 109 = .ok (.ifCond .ne 24, 3) := by decide +kernel
theorem dX4_rules_112 : decode cX4_rules 112 = .ok (.aload_n 0, 1) := by decide +kernel
theorem dX4_rules_113 : decode cX4_rules 113 = .ok (.getfield 68, 3) := by decide +kernel
theorem dX4_rules_116 : decode cX4_rules 116 = .ok (.iload_n 1, 1) := by decide +kernel
theorem dX4_rules_117 : decode cX4_rules 117 = .ok (.iload_n 1, 1) := by decide +kernel
theorem dX4_rules_118 : decode cX4_rules 118 = .ok (.iconst 1, 1) := by decide +kernel
theorem dX4_rules_119 : decode cX4_rules 119 = .ok (.iadd, 1) := by decide +kernel
theorem dX4_rules_120 : decode cX4_rules 120 = .ok (.invokestatic 114, 3) := by decide +kernel
theorem dX4_rules_123 : decode cX4_rules 123 = .ok (.iaload, 1) := by decide +kernel
theorem dX4_rules_124 : decode cX4_rules 124 = .ok (.aload_n 0, 1) := by decide +kernel
theorem dX4_rules_125 : decode cX4_rules 125 = .ok (.getfield 43, 3) := by decide +kernel
theorem dX4_rules_128 : decode cX4_rules 128 = .ok (.iload_n 1, 1) := by decide +kernel
theorem dX4_rules_129 : decode cX4_rules 129 = .ok (.iaload, 1) := by decide +kernel
theorem dX4_rules_130 : decode cX4_rules 130 = .ok (.if_icmp .ge 7, 3) := by decide +kernel
theorem dX4_rules_133 : decode cX4_rules 133 = .ok (.iconst 1, 1) := by decide +kernel
theorem dX4_rules_134 : decode cX4_rules 134 = .ok (.goto 4, 3) := by decide +kernel
theorem dX4_rules_137 : decode cX4_rules 137 = .ok (.iconst 0, 1) := by decide +kernel
theorem dX4_rules_138 : decode cX4_rules 138 = .ok (.istore 4, 2) := by decide +kernel
theorem dX4_rules_140 : decode cX4_rules 140 = .ok (.aload_n 0, 1) := by decide +kernel
theorem dX4_rules_141 : decode cX4_rules 141 = .ok (.getfield 19, 3) := by decide +kernel
theorem dX4_rules_144 : decode cX4_rules 144 = .ok (.iload_n 1, 1) := by decide +kernel
theorem dX4_rules_145 : decode cX4_rules 145 = .ok (.iaload, 1) := by decide +kernel
theorem dX4_rules_146 : decode cX4_rules 146 = .ok (.iload 4, 2) := by decide +kernel
theorem dX4_rules_148 : decode cX4_rules 148 = .ok (.ifCond .eq 7, 3) := by decide +kernel
theorem dX4_rules_151 : decode cX4_rules 151 = .ok (.iconst 1, 1) := by decide +kernel
theorem dX4_rules_152 : decode cX4_rules 152 = .ok (.goto 18, 3) := by decide +kernel
theorem dX4_rules_155 : decode cX4_rules 155 = .ok (.iload_n 2, 1) := by decide +kernel
theorem dX4_rules_156 : decode cX4_rules 156 = .ok (.aload_n 0, 1) := by decide +kernel
theorem dX4_rules_157 : decode cX4_rules 157 = .ok (.getfield 37, 3) := by decide +kernel
theorem dX4_rules_160 : decode cX4_rules 160 = .ok (.iload_n 1, 1) := by decide +kernel
theorem dX4_rules_161 : decode cX4_rules 161 = .ok (.iaload, 1) := by decide +kernel
theorem dX4_rules_162 : decode cX4_rules 162 = .ok (.if_icmp .ge 7, 3) := by decide +kernel
theorem dX4_rules_165 : decode cX4_rules 165 = .ok (.iconst (-1), 1) := by decide +kernel
theorem dX4_rules_166 : decode cX4_rules 166 = .ok (.goto 4, 3) := by decide +kernel
theorem dX4_rules_169 : decode cX4_rules 169 = .ok (.iconst 0, 1) := by decide +kernel
theorem dX4_rules_170 : decode cX4_rules 170 = .ok (.iadd, 1) := by decide +kernel
theorem dX4_rules_171 : decode cX4_rules 171 = .ok (.istore 5, 2) := by decide +kernel
theorem dX4_rules_173 : decode cX4_rules 173 = .ok (.aload_n 0, 1) := by decide +kernel
theorem dX4_rules_174 : decode cX4_rules 174 = .ok (.getfield 19, 3) := by decide +kernel
theorem dX4_rules_177 : decode cX4_rules 177 = .ok (.iload_n 1, 1) := by decide +kernel
theorem dX4_rules_178 : decode cX4_rules 178 = .ok (.iload 5, 2) := by decide +kernel
theorem dX4_rules_180 : decode cX4_rules 180 = .ok (.ifCond .ge 7, 3) := by decide +kernel
theorem dX4_rules_183 : decode cX4_rules 183 = .ok (.iconst 0, 1) := by decide +kernel
theorem dX4_rules_184 : decode cX4_rules 184 = .ok (.goto 17, 3) := by decide +kernel
theorem dX4_rules_187 : decode cX4_rules 187 = .ok (.iload 5, 2) := by decide +kernel
theorem dX4_rules_189 : decode cX4_rules 189 = .ok (.bipush 10, 2) := by decide +kernel
theorem dX4_rules_191 : decode cX4_rules 191 = .ok (.if_icmp .le 8, 3) := by decide +kernel
theorem dX4_rules_194 : decode cX4_rules 194 = .ok (.bipush 10, 2) := by decide +kernel
theorem dX4_rules_196 : decode cX4_rules 196 = .ok (.goto 5, 3) := by decide +kernel
theorem dX4_rules_199 : decode cX4_rules 199 = .ok (.iload 5, 2) := by decide +kernel
theorem dX4_rules_201 : decode cX4_rules 201 = .ok (.iastore, 1) := by decide +kernel
theorem dX4_rules_202 : decode cX4_rules 202 = .ok (.return_, 1) := by decide +kernel
set_option maxRecDepth 20000 in
theorem ggX4_ticks_X4_falls : GoodIn wsX4_ticks wsX4_falls := goodIn_r _ [8, 9, 10, 11, 86, 87, 88, 89, 90, 91, 92, 93, 94, 95, 96, 97, 98, 99, 100, 101, 102, 103, 104, 105, 106, 107, 108, 109, 110, 111, 112, 113, 114, 115] (by decide +kernel) (by decide +kernel)
set_option maxRecDepth 20000 in
theorem gX4_ticks_X4_falls : GoodIn wsX4_ticks (wsV RX4 144 RX4 yX4_falls wsX4_falls) := goodIn_app (goodIn_of _ (by decide +kernel)) ggX4_ticks_X4_falls
set_option maxRecDepth 20000 in
theorem ggX4_ticks_X4_flowsOn : GoodIn wsX4_ticks wsX4_flowsOn := goodIn_r _ [15, 16, 17, 18, 9, 19, 86, 87, 88, 89, 90, 91, 92, 93, 94, 95, 96, 97, 98, 99, 100, 101, 102, 103, 104, 105, 106, 107, 108, 109, 110, 111, 112, 113, 114, 115] (by decide +kernel) (by decide +kernel)
set_option maxRecDepth 20000 in
theorem gX4_ticks_X4_flowsOn : GoodIn wsX4_ticks (wsV RX4 147 RX4 yX4_flowsOn wsX4_flowsOn) := goodIn_app (goodIn_of _ (by decide +kernel)) ggX4_ticks_X4_flowsOn
set_option maxRecDepth 20000 in
theorem ggX4_ticks_X4_spills : GoodIn wsX4_ticks wsX4_spills := goodIn_r _ [23, 24, 25, 9, 26, 86, 87, 88, 89, 90, 91, 92, 93, 94, 95, 96, 97, 98, 99, 100, 101, 102, 103, 104, 105, 106, 107, 108, 109, 110, 111, 112, 113, 114, 115] (by decide +kernel) (by decide +kernel)
set_option maxRecDepth 20000 in
theorem gX4_ticks_X4_spills : GoodIn wsX4_ticks (wsV RX4 150 RX4 yX4_spills wsX4_spills) := goodIn_app (goodIn_of _ (by decide +kernel)) ggX4_ticks_X4_spills
set_option maxRecDepth 20000 in
theorem ggX4_ticks_X4_measures : GoodIn wsX4_ticks wsX4_measures := goodIn_r _ [30, 2, 31, 32, 33, 34, 1, 35, 36, 37, 38, 7, 39, 40, 41, 42, 43, 9, 24, 86, 87, 88, 89, 90, 91, 92, 93, 94, 95, 96, 97, 98, 99, 100, 101, 102, 103, 104, 105, 106, 107, 108, 109, 110, 111, 112, 113, 114, 115] (by decide +kernel) (by decide +kernel)
set_option maxRecDepth 20000 in
theorem gX4_ticks_X4_measures : GoodIn wsX4_ticks (wsV RX4 154 RX4 yX4_measures wsX4_measures) := goodIn_app (goodIn_of _ (by decide +kernel)) ggX4_ticks_X4_measures
set_option maxRecDepth 20000 in
theorem ggX4_ticks_X4_calls : GoodIn wsX4_ticks wsX4_calls := goodIn_r _ [47, 2, 1, 48, 49, 50, 51, 52, 7, 53, 54, 55, 56, 57, 58, 37, 38, 39, 59, 60, 61, 62, 33, 31, 34, 35, 36, 86, 87, 88, 89, 90, 91, 92, 93, 94, 95, 96, 97, 98, 99, 100, 101, 102, 103, 104, 105, 106, 107, 108, 109, 110, 111, 112, 113, 114, 115] (by decide +kernel) (by decide +kernel)
set_option maxRecDepth 20000 in
theorem gX4_ticks_X4_calls : GoodIn wsX4_ticks (wsV RX4 157 RX4 yX4_calls wsX4_calls) := goodIn_app (goodIn_of _ (by decide +kernel)) ggX4_ticks_X4_calls
set_option maxRecDepth 20000 in
theorem ggX4_ticks_X4_looks : GoodIn wsX4_ticks wsX4_looks := goodIn_r _ [66, 1, 36, 67, 68, 58, 2, 86, 87, 88, 89, 90, 91, 92, 93, 94, 95, 96, 97, 98, 99, 100, 101, 102, 103, 104, 105, 106, 107, 108, 109, 110, 111, 112, 113, 114, 115] (by decide +kernel) (by decide +kernel)
set_option maxRecDepth 20000 in
theorem gX4_ticks_X4_looks : GoodIn wsX4_ticks (wsV RX4 160 RX4 yX4_looks wsX4_looks) := goodIn_app (goodIn_of _ (by decide +kernel)) ggX4_ticks_X4_looks
set_option maxRecDepth 20000 in
theorem ggX4_ticks_X4_rules : GoodIn wsX4_ticks wsX4_rules := goodIn_r _ [72, 31, 73, 16, 74, 75, 76, 77, 37, 38, 7, 39, 78, 79, 80, 81, 33, 82, 83, 84, 85, 1, 34, 86, 87, 88, 89, 90, 91, 92, 93, 94, 95, 96, 97, 98, 99, 100, 101, 102, 103, 104, 105, 106, 107, 108, 109, 110, 111, 112, 113, 114, 115] (by decide +kernel) (by decide +kernel)
set_option maxRecDepth 20000 in
theorem gX4_ticks_X4_rules : GoodIn wsX4_ticks (wsV RX4 163 RX4 yX4_rules wsX4_rules) := goodIn_app (goodIn_of _ (by decide +kernel)) ggX4_ticks_X4_rules
theorem dX4_ticks_0 : decode cX4_ticks 0 = .ok (.aload_n 0, 1) := by decide +kernel
theorem dX4_ticks_1 : decode cX4_ticks 1 = .ok (.dup, 1) := by decide +kernel
theorem dX4_ticks_2 : decode cX4_ticks 2 = .ok (.getfield 118, 3) := by decide +kernel
theorem dX4_ticks_5 : decode cX4_ticks 5 = .ok (.iconst 1, 1) := by decide +kernel
theorem dX4_ticks_6 : decode cX4_ticks 6 = .ok (.iadd, 1) := by decide +kernel
theorem dX4_ticks_7 : decode cX4_ticks 7 = .ok (.putfield 118, 3) := by decide +kernel
theorem dX4_ticks_10 : decode cX4_ticks 10 = .ok (.aload_n 0, 1) := by decide +kernel
theorem dX4_ticks_11 : decode cX4_ticks 11 = .ok (.invokevirtual 144, 3) := by decide +kernel
theorem dX4_ticks_14 : decode cX4_ticks 14 = .ok (.aload_n 0, 1) := by decide +kernel
theorem dX4_ticks_15 : decode cX4_ticks 15 = .ok (.invokevirtual 147, 3) := by decide +kernel
theorem dX4_ticks_18 : decode cX4_ticks 18 = .ok (.aload_n 0, 1) := by decide +kernel
theorem dX4_ticks_19 : decode cX4_ticks 19 = .ok (.invokevirtual 150, 3) := by decide +kernel
theorem dX4_ticks_22 : decode cX4_ticks 22 = .ok (.istore_n 1, 1) := by decide +kernel
theorem dX4_ticks_23 : decode cX4_ticks 23 = .ok (.aload_n 0, 1) := by decide +kernel
theorem dX4_ticks_24 : decode cX4_ticks 24 = .ok (.invokevirtual 154, 3) := by decide +kernel
theorem dX4_ticks_27 : decode cX4_ticks 27 = .ok (.aload_n 0, 1) := by decide +kernel
theorem dX4_ticks_28 : decode cX4_ticks 28 = .ok (.invokevirtual 157, 3) := by decide +kernel
theorem dX4_ticks_31 : decode cX4_ticks 31 = .ok (.aload_n 0, 1) := by decide +kernel
theorem dX4_ticks_32 : decode cX4_ticks 32 = .ok (.invokevirtual 160, 3) := by decide +kernel
theorem dX4_ticks_35 : decode cX4_ticks 35 = .ok (.iconst 0, 1) := by decide +kernel
theorem dX4_ticks_36 : decode cX4_ticks 36 = .ok (.istore_n 2, 1) := by decide +kernel
theorem dX4_ticks_37 : decode cX4_ticks 37 = .ok (.iload_n 2, 1) := by decide +kernel
theorem dX4_ticks_38 : decode cX4_ticks 38 = .ok (.bipush 8, 2) := by decide +kernel
theorem dX4_ticks_40 : decode cX4_ticks 40 = .ok (.if_icmp .ge 32, 3) := by decide +kernel
theorem dX4_ticks_43 : decode cX4_ticks 43 = .ok (.aload_n 0, 1) := by decide +kernel
theorem dX4_ticks_44 : decode cX4_ticks 44 = .ok (.getfield 56, 3) := by decide +kernel
theorem dX4_ticks_47 : decode cX4_ticks 47 = .ok (.iload_n 2, 1) := by decide +kernel
theorem dX4_ticks_48 : decode cX4_ticks 48 = .ok (.baload, 1) := by decide +kernel
theorem dX4_ticks_49 : decode cX4_ticks 49 = .ok (.ifCond .ne 17, 3) := by decide +kernel
theorem dX4_ticks_52 : decode cX4_ticks 52 = .ok (.aload_n 0, 1) := by decide +kernel
theorem dX4_ticks_53 : decode cX4_ticks 53 = .ok (.getfield 49, 3) := by decide +kernel
theorem dX4_ticks_56 : decode cX4_ticks 56 = .ok (.iload_n 2, 1) := by decide +kernel
theorem dX4_ticks_57 : decode cX4_ticks 57 = .ok (.baload, 1) := by decide +kernel
theorem dX4_ticks_58 : decode cX4_ticks 58 = .ok (.ifCond .ne 8, 3) := by decide +kernel
theorem dX4_ticks_61 : decode cX4_ticks 61 = .ok (.aload_n 0, 1) := by decide +kernel
theorem dX4_ticks_62 : decode cX4_ticks 62 = .ok (.iload_n 2, 1) := by decide +kernel
theorem dX4_ticks_63 : decode cX4_ticks 63 = .ok (.invokevirtual 163, 3) := by decide +kernel
theorem dX4_ticks_66 : decode cX4_ticks 66 = .ok (.iinc 2 1, 3) := by decide +kernel
theorem dX4_ticks_69 : decode cX4_ticks 69 = .ok (.goto (-32), 3) := by decide +kernel
theorem dX4_ticks_72 : decode cX4_ticks 72 = .ok (.iload_n 1, 1) := by decide +kernel
theorem dX4_ticks_73 : decode cX4_ticks 73 = .ok (.ireturn, 1) := by decide +kernel
set_option maxRecDepth 20000 in
theorem ggX4_tick_X4_isIn : GoodIn wsX4_tick wsX4_isIn := goodIn_r _ [5] (by decide +kernel) (by decide +kernel)
set_option maxRecDepth 20000 in
theorem gX4_tick_X4_isIn : GoodIn wsX4_tick (va_wsS RX4 93 yX4_isIn wsX4_isIn) := goodIn_app (goodIn_of _ (by decide +kernel)) ggX4_tick_X4_isIn
set_option maxRecDepth 20000 in
theorem ggX4_tick_X4_goes : GoodIn wsX4_tick wsX4_goes := goodIn_r _ [9, 10, 98, 99, 100, 101, 102, 103, 104, 105, 106, 107, 108, 109, 110, 111, 112, 113, 114, 115, 116, 117, 118, 119, 120, 121, 122, 123, 124, 125, 126, 127] (by decide +kernel) (by decide +kernel)
set_option maxRecDepth 20000 in
theorem gX4_tick_X4_goes : GoodIn wsX4_tick (wsV RX4 101 RX4 yX4_goes wsX4_goes) := goodIn_app (goodIn_of _ (by decide +kernel)) ggX4_tick_X4_goes
set_option maxRecDepth 20000 in
theorem ggX4_tick_X4_ticks : GoodIn wsX4_tick wsX4_ticks := goodIn_r _ [14, 1, 15, 16, 17, 18, 19, 4, 20, 21, 22, 23, 24, 25, 26, 27, 28, 29, 30, 31, 32, 33, 34, 35, 36, 37, 38, 39, 40, 41, 42, 43, 44, 45, 46, 47, 48, 49, 50, 51, 52, 53, 54, 55, 56, 57, 58, 59, 60, 61, 62, 63, 64, 65, 66, 67, 68, 69, 70, 71, 72, 73, 74, 75, 76, 77, 78, 79, 80, 81, 82, 83, 84, 85, 86, 87, 88, 89, 90, 91, 92, 93, 94, 95, 96, 97, 98, 99, 100, 101, 102, 103, 104, 105, 106, 107, 108, 109, 110, 111, 112, 113, 114, 115, 116, 117, 118, 119, 120, 121, 122, 123, 124, 125, 126, 127] (by decide +kernel) (by decide +kernel)
set_option maxRecDepth 20000 in
theorem gX4_tick_X4_ticks : GoodIn wsX4_tick (wsV RX4 167 RX4 yX4_ticks wsX4_ticks) := goodIn_app (goodIn_of _ (by decide +kernel)) ggX4_tick_X4_ticks
theorem dX4_tick_0 : decode cX4_tick 0 = .ok (.aload_n 0, 1) := by decide +kernel
theorem dX4_tick_1 : decode cX4_tick 1 = .ok (.iload_n 1, 1) := by decide +kernel
theorem dX4_tick_2 : decode cX4_tick 2 = .ok (.iconst 1, 1) := by decide +kernel
theorem dX4_tick_3 : decode cX4_tick 3 = .ok (.bipush 100, 2) := by decide +kernel
theorem dX4_tick_5 : decode cX4_tick 5 = .ok (.invokestatic 93, 3) := by decide +kernel
theorem dX4_tick_8 : decode cX4_tick 8 = .ok (.ifCond .ne 7, 3) := by decide +kernel
theorem dX4_tick_11 : decode cX4_tick 11 = .ok (.iconst 1, 1) := by decide +kernel
theorem dX4_tick_12 : decode cX4_tick 12 = .ok (.goto 20, 3) := by decide +kernel
theorem dX4_tick_15 : decode cX4_tick 15 = .ok (.aload_n 0, 1) := by decide +kernel
theorem dX4_tick_16 : decode cX4_tick 16 = .ok (.getfield 118, 3) := by decide +kernel
theorem dX4_tick_19 : decode cX4_tick 19 = .ok (.iload_n 1, 1) := by decide +kernel
theorem dX4_tick_20 : decode cX4_tick 20 = .ok (.iadd, 1) := by decide +kernel
theorem dX4_tick_21 : decode cX4_tick 21 = .ok (.sipush 5000, 3) := by decide +kernel
theorem dX4_tick_24 : decode cX4_tick 24 = .ok (.if_icmp .le 7, 3) := by decide +kernel
theorem dX4_tick_27 : decode cX4_tick 27 = .ok (.iconst 2, 1) := by decide +kernel
theorem dX4_tick_28 : decode cX4_tick 28 = .ok (.goto 4, 3) := by decide +kernel
theorem dX4_tick_31 : decode cX4_tick 31 = .ok (.iconst 0, 1) := by decide +kernel
theorem dX4_tick_32 : decode cX4_tick 32 = .ok (.invokevirtual 101, 3) := by decide +kernel
theorem dX4_tick_35 : decode cX4_tick 35 = .ok (.ifCond .ne 5, 3) := by decide +kernel
theorem dX4_tick_38 : decode cX4_tick 38 = .ok (.iconst 0, 1) := by decide +kernel
theorem dX4_tick_39 : decode cX4_tick 39 = .ok (.ireturn, 1) := by decide +kernel
theorem dX4_tick_40 : decode cX4_tick 40 = .ok (.iconst 0, 1) := by decide +kernel
theorem dX4_tick_41 : decode cX4_tick 41 = .ok (.istore_n 2, 1) := by decide +kernel
theorem dX4_tick_42 : decode cX4_tick 42 = .ok (.iconst 0, 1) := by decide +kernel
theorem dX4_tick_43 : decode cX4_tick 43 = .ok (.istore_n 3, 1) := by decide +kernel
theorem dX4_tick_44 : decode cX4_tick 44 = .ok (.iload_n 3, 1) := by decide +kernel
theorem dX4_tick_45 : decode cX4_tick 45 = .ok (.iload_n 1, 1) := by decide +kernel
theorem dX4_tick_46 : decode cX4_tick 46 = .ok (.if_icmp .ge 16, 3) := by decide +kernel
theorem dX4_tick_49 : decode cX4_tick 49 = .ok (.iload_n 2, 1) := by decide +kernel
theorem dX4_tick_50 : decode cX4_tick 50 = .ok (.aload_n 0, 1) := by decide +kernel
theorem dX4_tick_51 : decode cX4_tick 51 = .ok (.invokevirtual 167, 3) := by decide +kernel
theorem dX4_tick_54 : decode cX4_tick 54 = .ok (.iadd, 1) := by decide +kernel
theorem dX4_tick_55 : decode cX4_tick 55 = .ok (.istore_n 2, 1) := by decide +kernel
theorem dX4_tick_56 : decode cX4_tick 56 = .ok (.iinc 3 1, 3) := by decide +kernel
theorem dX4_tick_59 : decode cX4_tick 59 = .ok (.goto (-15), 3) := by decide +kernel
theorem dX4_tick_62 : decode cX4_tick 62 = .ok (.iload_n 2, 1) := by decide +kernel
theorem dX4_tick_63 : decode cX4_tick 63 = .ok (.ireturn, 1) := by decide +kernel
theorem dX4_time_0 : decode cX4_time 0 = .ok (.aload_n 0, 1) := by decide +kernel
theorem dX4_time_1 : decode cX4_time 1 = .ok (.iconst 0, 1) := by decide +kernel
theorem dX4_time_2 : decode cX4_time 2 = .ok (.putfield 90, 3) := by decide +kernel
theorem dX4_time_5 : decode cX4_time 5 = .ok (.aload_n 0, 1) := by decide +kernel
theorem dX4_time_6 : decode cX4_time 6 = .ok (.getfield 118, 3) := by decide +kernel
theorem dX4_time_9 : decode cX4_time 9 = .ok (.ireturn, 1) := by decide +kernel
theorem dJ9_max_7cf53_0 : decode cJ9_max_7cf53 0 = .ok (.iload_n 0, 1) := by decide +kernel
theorem dJ9_max_7cf53_1 : decode cJ9_max_7cf53 1 = .ok (.iload_n 1, 1) := by decide +kernel
theorem dJ9_max_7cf53_2 : decode cJ9_max_7cf53 2 = .ok (.if_icmp .lt 7, 3) := by decide +kernel
theorem dJ9_max_7cf53_5 : decode cJ9_max_7cf53 5 = .ok (.iload_n 0, 1) := by decide +kernel
theorem dJ9_max_7cf53_6 : decode cJ9_max_7cf53 6 = .ok (.goto 4, 3) := by decide +kernel
theorem dJ9_max_7cf53_9 : decode cJ9_max_7cf53 9 = .ok (.iload_n 1, 1) := by decide +kernel
theorem dJ9_max_7cf53_10 : decode cJ9_max_7cf53 10 = .ok (.ireturn, 1) := by decide +kernel
theorem dJ9_min_7cf53_0 : decode cJ9_min_7cf53 0 = .ok (.iload_n 0, 1) := by decide +kernel
theorem dJ9_min_7cf53_1 : decode cJ9_min_7cf53 1 = .ok (.iload_n 1, 1) := by decide +kernel
theorem dJ9_min_7cf53_2 : decode cJ9_min_7cf53 2 = .ok (.if_icmp .gt 7, 3) := by decide +kernel
theorem dJ9_min_7cf53_5 : decode cJ9_min_7cf53 5 = .ok (.iload_n 0, 1) := by decide +kernel
theorem dJ9_min_7cf53_6 : decode cJ9_min_7cf53 6 = .ok (.goto 4, 3) := by decide +kernel
theorem dJ9_min_7cf53_9 : decode cJ9_min_7cf53 9 = .ok (.iload_n 1, 1) := by decide +kernel
theorem dJ9_min_7cf53_10 : decode cJ9_min_7cf53 10 = .ok (.ireturn, 1) := by decide +kernel
