set_option maxRecDepth 20000 in
theorem ggX0_init_J7_fill_53178 : GoodIn wsX0_init wsJ7_fill_53178 := goodIn_r _ [17] (by decide +kernel) (by decide +kernel)
set_option maxRecDepth 20000 in
theorem gX0_init_J7_fill_53178 : GoodIn wsX0_init (va_wsS RX0 37 yJ7_fill_53178 wsJ7_fill_53178) := goodIn_app (goodIn_of _ (by decide +kernel)) ggX0_init_J7_fill_53178
theorem dX0_init_0 : decode cX0_init 0 = .ok (.aload_n 0, 1) := by decide +kernel
theorem dX0_init_1 : decode cX0_init 1 = .ok (.invokespecial 3, 3) := by decide +kernel
theorem dX0_init_4 : decode cX0_init 4 = .ok (.aload_n 0, 1) := by decide +kernel
theorem dX0_init_5 : decode cX0_init 5 = .ok (.bipush 8, 2) := by decide +kernel
theorem dX0_init_7 : decode cX0_init 7 = .ok (.newarray .int, 2) := by decide +kernel
theorem dX0_init_9 : decode cX0_init 9 = .ok (.putfield 9, 3) := by decide +kernel
theorem dX0_init_12 : decode cX0_init 12 = .ok (.aload_n 0, 1) := by decide +kernel
theorem dX0_init_13 : decode cX0_init 13 = .ok (.bipush 8, 2) := by decide +kernel
theorem dX0_init_15 : decode cX0_init 15 = .ok (.newarray .int, 2) := by decide +kernel
theorem dX0_init_17 : decode cX0_init 17 = .ok (.putfield 15, 3) := by decide +kernel
theorem dX0_init_20 : decode cX0_init 20 = .ok (.aload_n 0, 1) := by decide +kernel
theorem dX0_init_21 : decode cX0_init 21 = .ok (.bipush 8, 2) := by decide +kernel
theorem dX0_init_23 : decode cX0_init 23 = .ok (.newarray .int, 2) := by decide +kernel
theorem dX0_init_25 : decode cX0_init 25 = .ok (.putfield 18, 3) := by decide +kernel
theorem dX0_init_28 : decode cX0_init 28 = .ok (.aload_n 0, 1) := by decide +kernel
theorem dX0_init_29 : decode cX0_init 29 = .ok (.bipush 8, 2) := by decide +kernel
theorem dX0_init_31 : decode cX0_init 31 = .ok (.newarray .int, 2) := by decide +kernel
theorem dX0_init_33 : decode cX0_init 33 = .ok (.putfield 21, 3) := by decide +kernel
theorem dX0_init_36 : decode cX0_init 36 = .ok (.aload_n 0, 1) := by decide +kernel
theorem dX0_init_37 : decode cX0_init 37 = .ok (.bipush 8, 2) := by decide +kernel
theorem dX0_init_39 : decode cX0_init 39 = .ok (.newarray .int, 2) := by decide +kernel
theorem dX0_init_41 : decode cX0_init 41 = .ok (.putfield 24, 3) := by decide +kernel
theorem dX0_init_44 : decode cX0_init 44 = .ok (.aload_n 0, 1) := by decide +kernel
theorem dX0_init_45 : decode cX0_init 45 = .ok (.bipush 8, 2) := by decide +kernel
theorem dX0_init_47 : decode cX0_init 47 = .ok (.newarray .int, 2) := by decide +kernel
theorem dX0_init_49 : decode cX0_init 49 = .ok (.putfield 27, 3) := by decide +kernel
theorem dX0_init_52 : decode cX0_init 52 = .ok (.aload_n 0, 1) := by decide +kernel
theorem dX0_init_53 : decode cX0_init 53 = .ok (.bipush 8, 2) := by decide +kernel
theorem dX0_init_55 : decode cX0_init 55 = .ok (.newarray .int, 2) := by decide +kernel
theorem dX0_init_57 : decode cX0_init 57 = .ok (.putfield 30, 3) := by decide +kernel
theorem dX0_init_60 : decode cX0_init 60 = .ok (.aload_n 0, 1) := by decide +kernel
theorem dX0_init_61 : decode cX0_init 61 = .ok (.bipush 8, 2) := by decide +kernel
theorem dX0_init_63 : decode cX0_init 63 = .ok (.newarray .boolean, 2) := by decide +kernel
theorem dX0_init_65 : decode cX0_init 65 = .ok (.putfield 33, 3) := by decide +kernel
theorem dX0_init_68 : decode cX0_init 68 = .ok (.aload_n 0, 1) := by decide +kernel
theorem dX0_init_69 : decode cX0_init 69 = .ok (.getfield 9, 3) := by decide +kernel
theorem dX0_init_72 : decode cX0_init 72 = .ok (.iconst 5, 1) := by decide +kernel
theorem dX0_init_73 : decode cX0_init 73 = .ok (.invokestatic 37, 3) := by decide +kernel
theorem dX0_init_76 : decode cX0_init 76 = .ok (.aload_n 0, 1) := by decide +kernel
theorem dX0_init_77 : decode cX0_init 77 = .ok (.getfield 18, 3) := by decide +kernel
theorem dX0_init_80 : decode cX0_init 80 = .ok (.bipush 20, 2) := by decide +kernel
theorem dX0_init_82 : decode cX0_init 82 = .ok (.invokestatic 37, 3) := by decide +kernel
theorem dX0_init_85 : decode cX0_init 85 = .ok (.aload_n 0, 1) := by decide +kernel
theorem dX0_init_86 : decode cX0_init 86 = .ok (.getfield 21, 3) := by decide +kernel
theorem dX0_init_89 : decode cX0_init 89 = .ok (.bipush 40, 2) := by decide +kernel
theorem dX0_init_91 : decode cX0_init 91 = .ok (.invokestatic 37, 3) := by decide +kernel
theorem dX0_init_94 : decode cX0_init 94 = .ok (.aload_n 0, 1) := by decide +kernel
theorem dX0_init_95 : decode cX0_init 95 = .ok (.getfield 24, 3) := by decide +kernel
theorem dX0_init_98 : decode cX0_init 98 = .ok (.bipush 80, 2) := by decide +kernel
theorem dX0_init_100 : decode cX0_init 100 = .ok (.invokestatic 37, 3) := by decide +kernel
theorem dX0_init_103 : decode cX0_init 103 = .ok (.aload_n 0, 1) := by decide +kernel
theorem dX0_init_104 : decode cX0_init 104 = .ok (.getfield 27, 3) := by decide +kernel
theorem dX0_init_107 : decode cX0_init 107 = .ok (.iconst 5, 1) := by decide +kernel
theorem dX0_init_108 : decode cX0_init 108 = .ok (.invokestatic 37, 3) := by decide +kernel
theorem dX0_init_111 : decode cX0_init 111 = .ok (.return_, 1) := by decide +kernel
theorem dX0_mostThrough_0 : decode cX0_mostThrough 0 = .ok (.aload_n 0, 1) := by decide +kernel
theorem dX0_mostThrough_1 : decode cX0_mostThrough 1 = .ok (.getfield 15, 3) := by decide +kernel
theorem dX0_mostThrough_4 : decode cX0_mostThrough 4 = .ok (.iload_n 1, 1) := by decide +kernel
theorem dX0_mostThrough_5 : decode cX0_mostThrough 5 = .ok (.iaload, 1) := by decide +kernel
theorem dX0_mostThrough_6 : decode cX0_mostThrough 6 = .ok (.aload_n 0, 1) := by decide +kernel
theorem dX0_mostThrough_7 : decode cX0_mostThrough 7 = .ok (.getfield 9, 3) := by decide +kernel
theorem dX0_mostThrough_10 : decode cX0_mostThrough 10 = .ok (.iload_n 1, 1) := by decide +kernel
theorem dX0_mostThrough_11 : decode cX0_mostThrough 11 = .ok (.iaload, 1) := by decide +kernel
theorem dX0_mostThrough_12 : decode cX0_mostThrough 12 = .ok (.imul, 1) := by decide +kernel
theorem dX0_mostThrough_13 : decode cX0_mostThrough 13 = .ok (.ireturn, 1) := by decide +kernel
theorem dX0_openForSafety_0 : decode cX0_openForSafety 0 = .ok (.aload_n 0, 1) := by decide +kernel
theorem dX0_openForSafety_1 : decode cX0_openForSafety 1 = .ok (.getfield 15, 3) := by decide +kernel
theorem dX0_openForSafety_4 : decode cX0_openForSafety 4 = .ok (.iload_n 1, 1) := by decide +kernel
theorem dX0_openForSafety_5 : decode cX0_openForSafety 5 = .ok (.aload_n 0, 1) := by decide +kernel
theorem dX0_openForSafety_6 : decode cX0_openForSafety 6 = .ok (.getfield 15, 3) := by decide +kernel
theorem dX0_openForSafety_9 : decode cX0_openForSafety 9 = .ok (.iload_n 1, 1) := by decide +kernel
theorem dX0_openForSafety_10 : decode cX0_openForSafety 10 = .ok (.iaload, 1) := by decide +kernel
theorem dX0_openForSafety_11 : decode cX0_openForSafety 11 = .ok (.iconst 2, 1) := by decide +kernel
theorem dX0_openForSafety_12 : decode cX0_openForSafety 12 = .ok (.iadd, 1) := by decide +kernel
theorem dX0_openForSafety_13 : decode cX0_openForSafety 13 = .ok (.bipush 10, 2) := by decide +kernel
theorem dX0_openForSafety_15 : decode cX0_openForSafety 15 = .ok (.invokestatic 43, 3) := by decide +kernel
theorem dX0_openForSafety_18 : decode cX0_openForSafety 18 = .ok (.iastore, 1) := by decide +kernel
theorem dX0_openForSafety_19 : decode cX0_openForSafety 19 = .ok (.aload_n 0, 1) := by decide +kernel
theorem dX0_openForSafety_20 : decode cX0_openForSafety 20 = .ok (.getfield 30, 3) := by decide +kernel
theorem dX0_openForSafety_23 : decode cX0_openForSafety 23 = .ok (.iload_n 1, 1) := by decide +kernel
theorem dX0_openForSafety_24 : decode cX0_openForSafety 24 = .ok (.dup2, 1) := by decide +kernel
theorem dX0_openForSafety_25 : decode cX0_openForSafety 25 = .ok (.iaload, 1) := by decide +kernel
theorem dX0_openForSafety_26 : decode cX0_openForSafety 26 = .ok (.iconst 1, 1) := by decide +kernel
theorem dX0_openForSafety_27 : decode cX0_openForSafety 27 = .ok (.iadd, 1) := by decide +kernel
theorem dX0_openForSafety_28 : decode cX0_openForSafety 28 = .ok (.iastore, 1) := by decide +kernel
theorem dX0_openForSafety_29 : decode cX0_openForSafety 29 = .ok (.return_, 1) := by decide +kernel
theorem dX0_follow_0 : decode cX0_follow 0 = .ok (.iload_n 2, 1) := by decide +kernel
theorem dX0_follow_1 : decode cX0_follow 1 = .ok (.aload_n 0, 1) := by decide +kernel
theorem dX0_follow_2 : decode cX0_follow 2 = .ok (.getfield 21, 3) := by decide +kernel
theorem dX0_follow_5 : decode cX0_follow 5 = .ok (.iload_n 1, 1) := by decide +kernel
theorem dX0_follow_6 : decode cX0_follow 6 = .ok (.iaload, 1) := by decide +kernel
theorem dX0_follow_7 : decode cX0_follow 7 = .ok (.if_icmp .le 29, 3) := by decide +kernel
theorem dX0_follow_10 : decode cX0_follow 10 = .ok (.iload_n 3, 1) := by decide +kernel
theorem dX0_follow_11 : decode cX0_follow 11 = .ok (.ifCond .eq 25, 3) := by decide +kernel
theorem dX0_follow_14 : decode cX0_follow 14 = .ok (.aload_n 0, 1) := by decide +kernel
theorem dX0_follow_15 : decode cX0_follow 15 = .ok (.getfield 15, 3) := by decide +kernel
theorem dX0_follow_18 : decode cX0_follow 18 = .ok (.iload_n 1, 1) := by decide +kernel
theorem dX0_follow_19 : decode cX0_follow 19 = .ok (.aload_n 0, 1) := by decide +kernel
theorem dX0_follow_20 : decode cX0_follow 20 = .ok (.getfield 15, 3) := by decide +kernel
theorem dX0_follow_23 : decode cX0_follow 23 = .ok (.iload_n 1, 1) := by decide +kernel
theorem dX0_follow_24 : decode cX0_follow 24 = .ok (.iaload, 1) := by decide +kernel
theorem dX0_follow_25 : decode cX0_follow 25 = .ok (.iconst 1, 1) := by decide +kernel
theorem dX0_follow_26 : decode cX0_follow 26 = .ok (.iadd, 1) := by decide +kernel
theorem dX0_follow_27 : decode cX0_follow 27 = .ok (.bipush 10, 2) := by decide +kernel
theorem dX0_follow_29 : decode cX0_follow 29 = .ok (.invokestatic 43, 3) := by decide +kernel
theorem dX0_follow_32 : decode cX0_follow 32 = .ok (.iastore, 1) := by decide +kernel
theorem dX0_follow_33 : decode cX0_follow 33 = .ok (.goto 31, 3) := by decide +kernel
theorem dX0_follow_36 : decode cX0_follow 36 = .ok (.iload_n 2, 1) := by decide +kernel
theorem dX0_follow_37 : decode cX0_follow 37 = .ok (.aload_n 0, 1) := by decide +kernel
theorem dX0_follow_38 : decode cX0_follow 38 = .ok (.getfield 18, 3) := by decide +kernel
theorem dX0_follow_41 : decode cX0_follow 41 = .ok (.iload_n 1, 1) := by decide +kernel
theorem dX0_follow_42 : decode cX0_follow 42 = .ok (.iaload, 1) := by decide +kernel
theorem dX0_follow_43 : decode cX0_follow 43 = .ok (.if_icmp .ge 21, 3) := by decide +kernel
theorem dX0_follow_46 : decode cX0_follow 46 = .ok (.aload_n 0, 1) := by decide +kernel
theorem dX0_follow_47 : decode cX0_follow 47 = .ok (.getfield 15, 3) := by decide +kernel
theorem dX0_follow_50 : decode cX0_follow 50 = .ok (.iload_n 1, 1) := by decide +kernel
theorem dX0_follow_51 : decode cX0_follow 51 = .ok (.aload_n 0, 1) := by decide +kernel
theorem dX0_follow_52 : decode cX0_follow 52 = .ok (.getfield 15, 3) := by decide +kernel
theorem dX0_follow_55 : decode cX0_follow 55 = .ok (.iload_n 1, 1) := by decide +kernel
theorem dX0_follow_56 : decode cX0_follow 56 = .ok (.iaload, 1) := by decide +kernel
theorem dX0_follow_57 : decode cX0_follow 57 = .ok (.iconst 1, 1) := by decide +kernel
theorem dX0_follow_58 : decode cX0_follow 58 = .ok (.isub, 1) := by decide +kernel
theorem dX0_follow_59 : decode cX0_follow 59 = .ok (.iconst 0, 1) := by decide +kernel
theorem dX0_follow_60 : decode cX0_follow 60 = .ok (.invokestatic 49, 3) := by decide +kernel
theorem dX0_follow_63 : decode cX0_follow 63 = .ok (.iastore, 1) := by decide +kernel
theorem dX0_follow_64 : decode cX0_follow 64 = .ok (.return_, 1) := by decide +kernel
theorem dX1_init_0 : decode cX1_init 0 = .ok (.aload_n 0, 1) := by decide +kernel
theorem dX1_init_1 : decode cX1_init 1 = .ok (.invokespecial 3, 3) := by decide +kernel
theorem dX1_init_4 : decode cX1_init 4 = .ok (.aload_n 0, 1) := by decide +kernel
theorem dX1_init_5 : decode cX1_init 5 = .ok (.bipush 8, 2) := by decide +kernel
theorem dX1_init_7 : decode cX1_init 7 = .ok (.newarray .boolean, 2) := by decide +kernel
theorem dX1_init_9 : decode cX1_init 9 = .ok (.putfield 9, 3) := by decide +kernel
theorem dX1_init_12 : decode cX1_init 12 = .ok (.aload_n 0, 1) := by decide +kernel
theorem dX1_init_13 : decode cX1_init 13 = .ok (.bipush 8, 2) := by decide +kernel
theorem dX1_init_15 : decode cX1_init 15 = .ok (.newarray .boolean, 2) := by decide +kernel
theorem dX1_init_17 : decode cX1_init 17 = .ok (.putfield 15, 3) := by decide +kernel
theorem dX1_init_20 : decode cX1_init 20 = .ok (.aload_n 0, 1) := by decide +kernel
theorem dX1_init_21 : decode cX1_init 21 = .ok (.bipush 8, 2) := by decide +kernel
theorem dX1_init_23 : decode cX1_init 23 = .ok (.newarray .int, 2) := by decide +kernel
theorem dX1_init_25 : decode cX1_init 25 = .ok (.putfield 18, 3) := by decide +kernel
theorem dX1_init_28 : decode cX1_init 28 = .ok (.aload_n 0, 1) := by decide +kernel
theorem dX1_init_29 : decode cX1_init 29 = .ok (.bipush 8, 2) := by decide +kernel
theorem dX1_init_31 : decode cX1_init 31 = .ok (.bipush 8, 2) := by decide +kernel
theorem dX1_init_33 : decode cX1_init 33 = .ok (.multianewarray 22 2, 4) := by decide +kernel
theorem dX1_init_37 : decode cX1_init 37 = .ok (.putfield 24, 3) := by decide +kernel
theorem dX1_init_40 : decode cX1_init 40 = .ok (.aload_n 0, 1) := by decide +kernel
theorem dX1_init_41 : decode cX1_init 41 = .ok (.bipush 8, 2) := by decide +kernel
theorem dX1_init_43 : decode cX1_init 43 = .ok (.bipush 8, 2) := by decide +kernel
theorem dX1_init_45 : decode cX1_init 45 = .ok (.multianewarray 22 2, 4) := by decide +kernel
theorem dX1_init_49 : decode cX1_init 49 = .ok (.putfield 27, 3) := by decide +kernel
theorem dX1_init_52 : decode cX1_init 52 = .ok (.aload_n 0, 1) := by decide +kernel
theorem dX1_init_53 : decode cX1_init 53 = .ok (.bipush 8, 2) := by decide +kernel
theorem dX1_init_55 : decode cX1_init 55 = .ok (.bipush 8, 2) := by decide +kernel
theorem dX1_init_57 : decode cX1_init 57 = .ok (.multianewarray 22 2, 4) := by decide +kernel
theorem dX1_init_61 : decode cX1_init 61 = .ok (.putfield 30, 3) := by decide +kernel
theorem dX1_init_64 : decode cX1_init 64 = .ok (.aload_n 0, 1) := by decide +kernel
theorem dX1_init_65 : decode cX1_init 65 = .ok (.bipush 8, 2) := by decide +kernel
theorem dX1_init_67 : decode cX1_init 67 = .ok (.bipush 8, 2) := by decide +kernel
theorem dX1_init_69 : decode cX1_init 69 = .ok (.multianewarray 22 2, 4) := by decide +kernel
theorem dX1_init_73 : decode cX1_init 73 = .ok (.putfield 33, 3) := by decide +kernel
theorem dX1_init_76 : decode cX1_init 76 = .ok (.aload_n 0, 1) := by decide +kernel
theorem dX1_init_77 : decode cX1_init 77 = .ok (.bipush 8, 2) := by decide +kernel
theorem dX1_init_79 : decode cX1_init 79 = .ok (.bipush 8, 2) := by decide +kernel
theorem dX1_init_81 : decode cX1_init 81 = .ok (.multianewarray 22 2, 4) := by decide +kernel
theorem dX1_init_85 : decode cX1_init 85 = .ok (.putfield 36, 3) := by decide +kernel
theorem dX1_init_88 : decode cX1_init 88 = .ok (.aload_n 0, 1) := by decide +kernel
theorem dX1_init_89 : decode cX1_init 89 = .ok (.bipush 8, 2) := by decide +kernel
theorem dX1_init_91 : decode cX1_init 91 = .ok (.bipush 8, 2) := by decide +kernel
theorem dX1_init_93 : decode cX1_init 93 = .ok (.multianewarray 22 2, 4) := by decide +kernel
theorem dX1_init_97 : decode cX1_init 97 = .ok (.putfield 39, 3) := by decide +kernel
theorem dX1_init_100 : decode cX1_init 100 = .ok (.aload_n 0, 1) := by decide +kernel
theorem dX1_init_101 : decode cX1_init 101 = .ok (.iconst 3, 1) := by decide +kernel
theorem dX1_init_102 : decode cX1_init 102 = .ok (.putfield 42, 3) := by decide +kernel
theorem dX1_init_105 : decode cX1_init 105 = .ok (.aload_n 0, 1) := by decide +kernel
theorem dX1_init_106 : decode cX1_init 106 = .ok (.bipush 6, 2) := by decide +kernel
theorem dX1_init_108 : decode cX1_init 108 = .ok (.putfield 46, 3) := by decide +kernel
theorem dX1_init_111 : decode cX1_init 111 = .ok (.aload_n 0, 1) := by decide +kernel
theorem dX1_init_112 : decode cX1_init 112 = .ok (.iconst 0, 1) := by decide +kernel
theorem dX1_init_113 : decode cX1_init 113 = .ok (.putfield 49, 3) := by decide +kernel
theorem dX1_init_116 : decode cX1_init 116 = .ok (.return_, 1) := by decide +kernel
theorem dX1_hasNews_0 : decode cX1_hasNews 0 = .ok (.aload_n 0, 1) := by decide +kernel
theorem dX1_hasNews_1 : decode cX1_hasNews 1 = .ok (.getfield 24, 3) := by decide +kernel
theorem dX1_hasNews_4 : decode cX1_hasNews 4 = .ok (.iload_n 1, 1) := by decide +kernel
theorem dX1_hasNews_5 : decode cX1_hasNews 5 = .ok (.aaload, 1) := by decide +kernel
theorem dX1_hasNews_6 : decode cX1_hasNews 6 = .ok (.iload_n 2, 1) := by decide +kernel
theorem dX1_hasNews_7 : decode cX1_hasNews 7 = .ok (.iaload, 1) := by decide +kernel
theorem dX1_hasNews_8 : decode cX1_hasNews 8 = .ok (.ifCond .le 7, 3) := by decide +kernel
theorem dX1_hasNews_11 : decode cX1_hasNews 11 = .ok (.iconst 1, 1) := by decide +kernel
theorem dX1_hasNews_12 : decode cX1_hasNews 12 = .ok (.goto 4, 3) := by decide +kernel
theorem dX1_hasNews_15 : decode cX1_hasNews 15 = .ok (.iconst 0, 1) := by decide +kernel
theorem dX1_hasNews_16 : decode cX1_hasNews 16 = .ok (.ireturn, 1) := by decide +kernel
set_option maxRecDepth 20000 in
theorem ggX1_isOld_X1_hasNews : GoodIn wsX1_isOld wsX1_hasNews := goodIn_r _ [6, 7, 8, 9, 10, 11, 12, 13, 14, 15, 16, 17, 18, 19] (by decide +kernel) (by decide +kernel)
set_option maxRecDepth 20000 in
theorem gX1_isOld_X1_hasNews : GoodIn wsX1_isOld (wsV RX1 52 RX1 yX1_hasNews wsX1_hasNews) := goodIn_app (goodIn_of _ (by decide +kernel)) ggX1_isOld_X1_hasNews
theorem dX1_isOld_0 : decode cX1_isOld 0 = .ok (.aload_n 0, 1) := by decide +kernel
theorem dX1_isOld_1 : decode cX1_isOld 1 = .ok (.iload_n 1, 1) := by decide +kernel
theorem dX1_isOld_2 : decode cX1_isOld 2 = .ok (.iload_n 2, 1) := by decide +kernel
theorem dX1_isOld_3 : decode cX1_isOld 3 = .ok (.invokevirtual 52, 3) := by decide +kernel
theorem dX1_isOld_6 : decode cX1_isOld 6 = .ok (.ifCond .eq 18, 3) := by decide +kernel
theorem dX1_isOld_9 : decode cX1_isOld 9 = .ok (.iload_n 3, 1) := by decide +kernel
theorem dX1_isOld_10 : decode cX1_isOld 10 = .ok (.aload_n 0, 1) := by decide +kernel
theorem dX1_isOld_11 : decode cX1_isOld 11 = .ok (.getfield 30, 3) := by decide +kernel
theorem dX1_isOld_14 : decode cX1_isOld 14 = .ok (.iload_n 1, 1) := by decide +kernel
theorem dX1_isOld_15 : decode cX1_isOld 15 = .ok (.aaload, 1) := by decide +kernel
theorem dX1_isOld_16 : decode cX1_isOld 16 = .ok (.iload_n 2, 1) := by decide +kernel
theorem dX1_isOld_17 : decode cX1_isOld 17 = .ok (.iaload, 1) := by decide +kernel
theorem dX1_isOld_18 : decode cX1_isOld 18 = .ok (.isub, 1) := by decide +kernel
theorem dX1_isOld_19 : decode cX1_isOld 19 = .ok (.iload 4, 2) := by decide +kernel
theorem dX1_isOld_21 : decode cX1_isOld 21 = .ok (.if_icmp .le 7, 3) := by decide +kernel
theorem dX1_isOld_24 : decode cX1_isOld 24 = .ok (.iconst 1, 1) := by decide +kernel
theorem dX1_isOld_25 : decode cX1_isOld 25 = .ok (.goto 4, 3) := by decide +kernel
theorem dX1_isOld_28 : decode cX1_isOld 28 = .ok (.iconst 0, 1) := by decide +kernel
theorem dX1_isOld_29 : decode cX1_isOld 29 = .ok (.ireturn, 1) := by decide +kernel
set_option maxRecDepth 20000 in
theorem ggX1_measureAll_X2_levelOf : GoodIn wsX1_measureAll wsX2_levelOf := goodIn_r _ [6, 7, 8, 32, 33, 34, 35, 36, 37, 38, 39] (by decide +kernel) (by decide +kernel)
set_option maxRecDepth 20000 in
theorem gX1_measureAll_X2_levelOf : GoodIn wsX1_measureAll (wsV RX1 56 RX2 yX2_levelOf wsX2_levelOf) := goodIn_app (goodIn_of _ (by decide +kernel)) ggX1_measureAll_X2_levelOf
set_option maxRecDepth 20000 in
theorem ggX1_measureAll_X1_measure : GoodIn wsX1_measureAll wsX1_measure := goodIn_r _ [13, 14, 15, 16, 17, 18, 19, 20, 21, 22, 23, 24, 25, 26, 27, 28, 29, 30, 31] (by decide +kernel) (by decide +kernel)
set_option maxRecDepth 20000 in
theorem gX1_measureAll_X1_measure : GoodIn wsX1_measureAll (wsV RX1 62 RX1 yX1_measure wsX1_measure) := goodIn_app (goodIn_of _ (by decide +kernel)) ggX1_measureAll_X1_measure
theorem dX1_measureAll_0 : decode cX1_measureAll 0 = .ok (.iconst 0, 1) := by decide +kernel
theorem dX1_measureAll_1 : decode cX1_measureAll 1 = .ok (.istore_n 3, 1) := by decide +kernel
theorem dX1_measureAll_2 : decode cX1_measureAll 2 = .ok (.iload_n 3, 1) := by decide +kernel
theorem dX1_measureAll_3 : decode cX1_measureAll 3 = .ok (.bipush 8, 2) := by decide +kernel
theorem dX1_measureAll_5 : decode cX1_measureAll 5 = .ok (.if_icmp .ge 29, 3) := by decide +kernel
theorem dX1_measureAll_8 : decode cX1_measureAll 8 = .ok (.aload_n 0, 1) := by decide +kernel
theorem dX1_measureAll_9 : decode cX1_measureAll 9 = .ok (.getfield 9, 3) := by decide +kernel
theorem dX1_measureAll_12 : decode cX1_measureAll 12 = .ok (.iload_n 3, 1) := by decide +kernel
theorem dX1_measureAll_13 : decode cX1_measureAll 13 = .ok (.baload, 1) := by decide +kernel
theorem dX1_measureAll_14 : decode cX1_measureAll 14 = .ok (.ifCond .ne 14, 3) := by decide +kernel
theorem dX1_measureAll_17 : decode cX1_measureAll 17 = .ok (.aload_n 0, 1) := by decide +kernel
theorem dX1_measureAll_18 : decode cX1_measureAll 18 = .ok (.iload_n 3, 1) := by decide +kernel
theorem dX1_measureAll_19 : decode cX1_measureAll 19 = .ok (.aload_n 1, 1) := by decide +kernel
theorem dX1_measureAll_20 : decode cX1_measureAll 20 = .ok (.iload_n 3, 1) := by decide +kernel
theorem dX1_measureAll_21 : decode cX1_measureAll 21 = .ok (.invokevirtual 56, 3) := by decide +kernel
theorem dX1_measureAll_24 : decode cX1_measureAll 24 = .ok (.iload_n 2, 1) := by decide +kernel
theorem dX1_measureAll_25 : decode cX1_measureAll 25 = .ok (.invokevirtual 62, 3) := by decide +kernel
theorem dX1_measureAll_28 : decode cX1_measureAll 28 = .ok (.iinc 3 1, 3) := by decide +kernel
theorem dX1_measureAll_31 : decode cX1_measureAll 31 = .ok (.goto (-29), 3) := by decide +kernel
theorem dX1_measureAll_34 : decode cX1_measureAll 34 = .ok (.return_, 1) := by decide +kernel
theorem dX1_measure_0 : decode cX1_measure 0 = .ok (.aload_n 0, 1) := by decide +kernel
theorem dX1_measure_1 : decode cX1_measure 1 = .ok (.getfield 15, 3) := by decide +kernel
theorem dX1_measure_4 : decode cX1_measure 4 = .ok (.iload_n 1, 1) := by decide +kernel
theorem dX1_measure_5 : decode cX1_measure 5 = .ok (.baload, 1) := by decide +kernel
theorem dX1_measure_6 : decode cX1_measure 6 = .ok (.ifCond .ne 12, 3) := by decide +kernel
theorem dX1_measure_9 : decode cX1_measure 9 = .ok (.aload_n 0, 1) := by decide +kernel
theorem dX1_measure_10 : decode cX1_measure 10 = .ok (.getfield 27, 3) := by decide +kernel
theorem dX1_measure_13 : decode cX1_measure 13 = .ok (.iload_n 1, 1) := by decide +kernel
theorem dX1_measure_14 : decode cX1_measure 14 = .ok (.aaload, 1) := by decide +kernel
theorem dX1_measure_15 : decode cX1_measure 15 = .ok (.iload_n 1, 1) := by decide +kernel
theorem dX1_measure_16 : decode cX1_measure 16 = .ok (.iload_n 2, 1) := by decide +kernel
theorem dX1_measure_17 : decode cX1_measure 17 = .ok (.iastore, 1) := by decide +kernel
theorem dX1_measure_18 : decode cX1_measure 18 = .ok (.aload_n 0, 1) := by decide +kernel
theorem dX1_measure_19 : decode cX1_measure 19 = .ok (.getfield 30, 3) := by decide +kernel
theorem dX1_measure_22 : decode cX1_measure 22 = .ok (.iload_n 1, 1) := by decide +kernel
theorem dX1_measure_23 : decode cX1_measure 23 = .ok (.aaload, 1) := by decide +kernel
theorem dX1_measure_24 : decode cX1_measure 24 = .ok (.iload_n 1, 1) := by decide +kernel
theorem dX1_measure_25 : decode cX1_measure 25 = .ok (.iload_n 3, 1) := by decide +kernel
theorem dX1_measure_26 : decode cX1_measure 26 = .ok (.iastore, 1) := by decide +kernel
theorem dX1_measure_27 : decode cX1_measure 27 = .ok (.aload_n 0, 1) := by decide +kernel
theorem dX1_measure_28 : decode cX1_measure 28 = .ok (.getfield 24, 3) := by decide +kernel
theorem dX1_measure_31 : decode cX1_measure 31 = .ok (.iload_n 1, 1) := by decide +kernel
theorem dX1_measure_32 : decode cX1_measure 32 = .ok (.aaload, 1) := by decide +kernel
theorem dX1_measure_33 : decode cX1_measure 33 = .ok (.iload_n 1, 1) := by decide +kernel
theorem dX1_measure_34 : decode cX1_measure 34 = .ok (.dup2, 1) := by decide +kernel
theorem dX1_measure_35 : decode cX1_measure 35 = .ok (.iaload, 1) := by decide +kernel
theorem dX1_measure_36 : decode cX1_measure 36 = .ok (.iconst 1, 1) := by decide +kernel
theorem dX1_measure_37 : decode cX1_measure 37 = .ok (.iadd, 1) := by decide +kernel
theorem dX1_measure_38 : decode cX1_measure 38 = .ok (.iastore, 1) := by decide +kernel
theorem dX1_measure_39 : decode cX1_measure 39 = .ok (.aload_n 0, 1) := by decide +kernel
theorem dX1_measure_40 : decode cX1_measure 40 = .ok (.getfield 33, 3) := by decide +kernel
theorem dX1_measure_43 : decode cX1_measure 43 = .ok (.iload_n 1, 1) := by decide +kernel
theorem dX1_measure_44 : decode cX1_measure 44 = .ok (.aaload, 1) := by decide +kernel
theorem dX1_measure_45 : decode cX1_measure 45 = .ok (.iload_n 1, 1) := by decide +kernel
theorem dX1_measure_46 : decode cX1_measure 46 = .ok (.dup2, 1) := by decide +kernel
theorem dX1_measure_47 : decode cX1_measure 47 = .ok (.iaload, 1) := by decide +kernel
theorem dX1_measure_48 : decode cX1_measure 48 = .ok (.iconst 1, 1) := by decide +kernel
theorem dX1_measure_49 : decode cX1_measure 49 = .ok (.iadd, 1) := by decide +kernel
theorem dX1_measure_50 : decode cX1_measure 50 = .ok (.iastore, 1) := by decide +kernel
theorem dX1_measure_51 : decode cX1_measure 51 = .ok (.aload_n 0, 1) := by decide +kernel
theorem dX1_measure_52 : decode cX1_measure 52 = .ok (.getfield 36, 3) := by decide +kernel
theorem dX1_measure_55 : decode cX1_measure 55 = .ok (.iload_n 1, 1) := by decide +kernel
theorem dX1_measure_56 : decode cX1_measure 56 = .ok (.aaload, 1) := by decide +kernel
theorem dX1_measure_57 : decode cX1_measure 57 = .ok (.iload_n 1, 1) := by decide +kernel
theorem dX1_measure_58 : decode cX1_measure 58 = .ok (.iload_n 3, 1) := by decide +kernel
theorem dX1_measure_59 : decode cX1_measure 59 = .ok (.iastore, 1) := by decide +kernel
theorem dX1_measure_60 : decode cX1_measure 60 = .ok (.return_, 1) := by decide +kernel
set_option maxRecDepth 20000 in
theorem ggX1_callAll_X1_call : GoodIn wsX1_callAll wsX1_call := goodIn_r _ [6, 1, 7, 8, 9, 10, 11, 5, 12, 13, 14, 15, 16, 17, 18, 19, 20, 21, 22, 23, 24, 25, 26, 27, 28, 29, 30, 31, 32, 33, 34, 35, 36, 37, 38, 39, 40, 41, 42, 43, 44, 45, 46] (by decide +kernel) (by decide +kernel)
set_option maxRecDepth 20000 in
theorem gX1_callAll_X1_call : GoodIn wsX1_callAll (wsV RX1 66 RX1 yX1_call wsX1_call) := goodIn_app (goodIn_of _ (by decide +kernel)) ggX1_callAll_X1_call
theorem dX1_callAll_0 : decode cX1_callAll 0 = .ok (.iconst 0, 1) := by decide +kernel
theorem dX1_callAll_1 : decode cX1_callAll 1 = .ok (.istore_n 2, 1) := by decide +kernel
theorem dX1_callAll_2 : decode cX1_callAll 2 = .ok (.iload_n 2, 1) := by decide +kernel
theorem dX1_callAll_3 : decode cX1_callAll 3 = .ok (.bipush 8, 2) := by decide +kernel
theorem dX1_callAll_5 : decode cX1_callAll 5 = .ok (.if_icmp .ge 24, 3) := by decide +kernel
theorem dX1_callAll_8 : decode cX1_callAll 8 = .ok (.aload_n 0, 1) := by decide +kernel
theorem dX1_callAll_9 : decode cX1_callAll 9 = .ok (.getfield 9, 3) := by decide +kernel
theorem dX1_callAll_12 : decode cX1_callAll 12 = .ok (.iload_n 2, 1) := by decide +kernel
theorem dX1_callAll_13 : decode cX1_callAll 13 = .ok (.baload, 1) := by decide +kernel
theorem dX1_callAll_14 : decode cX1_callAll 14 = .ok (.ifCond .ne 9, 3) := by decide +kernel
theorem dX1_callAll_17 : decode cX1_callAll 17 = .ok (.aload_n 0, 1) := by decide +kernel
theorem dX1_callAll_18 : decode cX1_callAll 18 = .ok (.iload_n 2, 1) := by decide +kernel
theorem dX1_callAll_19 : decode cX1_callAll 19 = .ok (.iload_n 1, 1) := by decide +kernel
theorem dX1_callAll_20 : decode cX1_callAll 20 = .ok (.invokevirtual 66, 3) := by decide +kernel
theorem dX1_callAll_23 : decode cX1_callAll 23 = .ok (.iinc 2 1, 3) := by decide +kernel
theorem dX1_callAll_26 : decode cX1_callAll 26 = .ok (.goto (-24), 3) := by decide +kernel
theorem dX1_callAll_29 : decode cX1_callAll 29 = .ok (.return_, 1) := by decide +kernel
set_option maxRecDepth 20000 in
theorem ggX1_call_X1_calledBy : GoodIn wsX1_call wsX1_calledBy := goodIn_r _ [8, 9, 10, 11, 7, 12, 13, 31, 32, 33, 34, 35, 36, 37, 38, 39, 40, 41, 42] (by decide +kernel) (by decide +kernel)
set_option maxRecDepth 20000 in
theorem gX1_call_X1_calledBy : GoodIn wsX1_call (wsV RX1 70 RX1 yX1_calledBy wsX1_calledBy) := goodIn_app (goodIn_of _ (by decide +kernel)) ggX1_call_X1_calledBy
set_option maxRecDepth 20000 in
theorem ggX1_call_X1_tellOneAnother : GoodIn wsX1_call wsX1_tellOneAnother := goodIn_r _ [17, 18, 19, 20, 7, 21, 22, 23, 24, 25, 26, 27, 28, 29, 30, 13, 31, 32, 33, 34, 35, 36, 37, 38, 39, 40, 41, 42] (by decide +kernel) (by decide +kernel)
set_option maxRecDepth 20000 in
theorem gX1_call_X1_tellOneAnother : GoodIn wsX1_call (wsV RX1 74 RX1 yX1_tellOneAnother wsX1_tellOneAnother) := goodIn_app (goodIn_of _ (by decide +kernel)) ggX1_call_X1_tellOneAnother
theorem dX1_call_0 : decode cX1_call 0 = .ok (.aload_n 0, 1) := by decide +kernel
theorem dX1_call_1 : decode cX1_call 1 = .ok (.iload_n 1, 1) := by decide +kernel
theorem dX1_call_2 : decode cX1_call 2 = .ok (.iload_n 2, 1) := by decide +kernel
theorem dX1_call_3 : decode cX1_call 3 = .ok (.invokevirtual 70, 3) := by decide +kernel
theorem dX1_call_6 : decode cX1_call 6 = .ok (.istore_n 3, 1) := by decide +kernel
theorem dX1_call_7 : decode cX1_call 7 = .ok (.iload_n 3, 1) := by decide +kernel
theorem dX1_call_8 : decode cX1_call 8 = .ok (.ifCond .ge 4, 3) := by decide +kernel
theorem dX1_call_11 : decode cX1_call 11 = .ok (.return_, 1) := by decide +kernel
theorem dX1_call_12 : decode cX1_call 12 = .ok (.aload_n 0, 1) := by decide +kernel
theorem dX1_call_13 : decode cX1_call 13 = .ok (.getfield 9, 3) := by decide +kernel
theorem dX1_call_16 : decode cX1_call 16 = .ok (.iload_n 3, 1) := by decide +kernel
theorem dX1_call_17 : decode cX1_call 17 = .ok (.baload, 1) := by decide +kernel
theorem dX1_call_18 : decode cX1_call 18 = .ok (.ifCond .ne 18, 3) := by decide +kernel
theorem dX1_call_21 : decode cX1_call 21 = .ok (.aload_n 0, 1) := by decide +kernel
theorem dX1_call_22 : decode cX1_call 22 = .ok (.getfield 18, 3) := by decide +kernel
theorem dX1_call_25 : decode cX1_call 25 = .ok (.iload_n 3, 1) := by decide +kernel
theorem dX1_call_26 : decode cX1_call 26 = .ok (.iaload, 1) := by decide +kernel
theorem dX1_call_27 : decode cX1_call 27 = .ok (.aload_n 0, 1) := by decide +kernel
theorem dX1_call_28 : decode cX1_call 28 = .ok (.getfield 18, 3) := by decide +kernel
theorem dX1_call_31 : decode cX1_call 31 = .ok (.iload_n 1, 1) := by decide +kernel
theorem dX1_call_32 : decode cX1_call 32 = .ok (.iaload, 1) := by decide +kernel
theorem dX1_call_33 : decode cX1_call 33 = .ok (.if_icmp .eq 16, 3) := by decide +kernel
theorem dX1_call_36 : decode cX1_call 36 = .ok (.aload_n 0, 1) := by decide +kernel
theorem dX1_call_37 : decode cX1_call 37 = .ok (.dup, 1) := by decide +kernel
theorem dX1_call_38 : decode cX1_call 38 = .ok (.getfield 49, 3) := by decide +kernel
theorem dX1_call_41 : decode cX1_call 41 = .ok (.iconst 1, 1) := by decide +kernel
theorem dX1_call_42 : decode cX1_call 42 = .ok (.iadd, 1) := by decide +kernel
theorem dX1_call_43 : decode cX1_call 43 = .ok (.putfield 49, 3) := by decide +kernel
theorem dX1_call_46 : decode cX1_call 46 = .ok (.goto 10, 3) := by decide +kernel
theorem dX1_call_49 : decode cX1_call 49 = .ok (.aload_n 0, 1) := by decide +kernel
theorem dX1_call_50 : decode cX1_call 50 = .ok (.iload_n 1, 1) := by decide +kernel
theorem dX1_call_51 : decode cX1_call 51 = .ok (.iload_n 3, 1) := by decide +kernel
theorem dX1_call_52 : decode cX1_call 52 = .ok (.iload_n 2, 1) := by decide +kernel
theorem dX1_call_53 : decode cX1_call 53 = .ok (.invokevirtual 74, 3) := by decide +kernel
theorem dX1_call_56 : decode cX1_call 56 = .ok (.return_, 1) := by decide +kernel
set_option maxRecDepth 20000 in
theorem ggX1_calledBy_X1_isCallable : GoodIn wsX1_calledBy wsX1_isCallable := goodIn_r _ [5, 6, 7, 8, 9, 10, 11, 12, 13, 14, 15, 16, 17, 18] (by decide +kernel) (by decide +kernel)
set_option maxRecDepth 20000 in
theorem gX1_calledBy_X1_isCallable : GoodIn wsX1_calledBy (wsV RX1 77 RX1 yX1_isCallable wsX1_isCallable) := goodIn_app (goodIn_of _ (by decide +kernel)) ggX1_calledBy_X1_isCallable
theorem dX1_calledBy_0 : decode cX1_calledBy 0 = .ok (.iload_n 2, 1) := by decide +kernel
theorem dX1_calledBy_1 : decode cX1_calledBy 1 = .ok (.iconst 4, 1) := by decide +kernel
theorem dX1_calledBy_2 : decode cX1_calledBy 2 = .ok (.irem, 1) := by decide +kernel
theorem dX1_calledBy_3 : decode cX1_calledBy 3 = .ok (.ifCond .ne 7, 3) := by decide +kernel
theorem dX1_calledBy_6 : decode cX1_calledBy 6 = .ok (.iconst 1, 1) := by decide +kernel
theorem dX1_calledBy_7 : decode cX1_calledBy 7 = .ok (.goto 4, 3) := by decide +kernel
theorem dX1_calledBy_10 : decode cX1_calledBy 10 = .ok (.iconst 0, 1) := by decide +kernel
theorem dX1_calledBy_11 : decode cX1_calledBy 11 = .ok (.istore_n 3, 1) := by decide +kernel
theorem dX1_calledBy_12 : decode cX1_calledBy 12 = .ok (.iconst 0, 1) := by decide +kernel
theorem dX1_calledBy_13 : decode cX1_calledBy 13 = .ok (.istore 4, 2) := by decide +kernel
theorem dX1_calledBy_15 : decode cX1_calledBy 15 = .ok (.iconst 0, 1) := by decide +kernel
theorem dX1_calledBy_16 : decode cX1_calledBy 16 = .ok (.istore 5, 2) := by decide +kernel
theorem dX1_calledBy_18 : decode cX1_calledBy 18 = .ok (.iload 5, 2) := by decide +kernel
theorem dX1_calledBy_20 : decode cX1_calledBy 20 = .ok (.bipush 8, 2) := by decide +kernel
theorem dX1_calledBy_22 : decode cX1_calledBy 22 = .ok (.if_icmp .ge 23, 3) := by decide +kernel
theorem dX1_calledBy_25 : decode cX1_calledBy 25 = .ok (.aload_n 0, 1) := by decide +kernel
theorem dX1_calledBy_26 : decode cX1_calledBy 26 = .ok (.iload_n 1, 1) := by decide +kernel
theorem dX1_calledBy_27 : decode cX1_calledBy 27 = .ok (.iload 5, 2) := by decide +kernel
theorem dX1_calledBy_29 : decode cX1_calledBy 29 = .ok (.iload_n 3, 1) := by decide +kernel
theorem dX1_calledBy_30 : decode cX1_calledBy 30 = .ok (.invokevirtual 77, 3) := by decide +kernel
theorem dX1_calledBy_33 : decode cX1_calledBy 33 = .ok (.ifCond .eq 6, 3) := by decide +kernel
theorem dX1_calledBy_36 : decode cX1_calledBy 36 = .ok (.iinc 4 1, 3) := by decide +kernel
theorem dX1_calledBy_39 : decode cX1_calledBy 39 = .ok (.iinc 5 1, 3) := by decide +kernel
theorem dX1_calledBy_42 : decode cX1_calledBy 42 = .ok (.goto (-24), 3) := by decide +kernel
theorem dX1_calledBy_45 : decode cX1_calledBy 45 = .ok (.iload 4, 2) := by decide +kernel
theorem dX1_calledBy_47 : decode cX1_calledBy 47 = .ok (.iconst 1, 1) := by decide +kernel
theorem dX1_calledBy_48 : decode cX1_calledBy 48 = .ok (.if_icmp .ge 5, 3) := by decide +kernel
theorem dX1_calledBy_51 : decode cX1_calledBy 51 = .ok (.iconst (-1), 1) := by decide +kernel
theorem dX1_calledBy_52 : decode cX1_calledBy 52 = .ok (.ireturn, 1) := by decide +kernel
theorem dX1_calledBy_53 : decode cX1_calledBy 53 = .ok (.iconst 5, 1) := by decide +kernel
theorem dX1_calledBy_54 : decode cX1_calledBy 54 = .ok (.iload_n 2, 1) := by decide +kernel
theorem dX1_calledBy_55 : decode cX1_calledBy 55 = .ok (.imul, 1) := by decide +kernel
theorem dX1_calledBy_56 : decode cX1_calledBy 56 = .ok (.iconst 3, 1) := by decide +kernel
theorem dX1_calledBy_57 : decode cX1_calledBy 57 = .ok (.iload_n 1, 1) := by decide +kernel
theorem dX1_calledBy_58 : decode cX1_calledBy 58 = .ok (.imul, 1) := by decide +kernel
theorem dX1_calledBy_59 : decode cX1_calledBy 59 = .ok (.iadd, 1) := by decide +kernel
theorem dX1_calledBy_60 : decode cX1_calledBy 60 = .ok (.iload 4, 2) := by decide +kernel
theorem dX1_calledBy_62 : decode cX1_calledBy 62 = .ok (.irem, 1) := by decide +kernel
theorem dX1_calledBy_63 : decode cX1_calledBy 63 = .ok (.istore 5, 2) := by decide +kernel
theorem dX1_calledBy_65 : decode cX1_calledBy 65 = .ok (.iconst 0, 1) := by decide +kernel
theorem dX1_calledBy_66 : decode cX1_calledBy 66 = .ok (.istore 6, 2) := by decide +kernel
theorem dX1_calledBy_68 : decode cX1_calledBy 68 = .ok (.iload 6, 2) := by decide +kernel
theorem dX1_calledBy_70 : decode cX1_calledBy 70 = .ok (.bipush 8, 2) := by decide +kernel
theorem dX1_calledBy_72 : decode cX1_calledBy 72 = .ok (.if_icmp .ge 31, 3) := by decide +kernel
theorem dX1_calledBy_75 : decode cX1_calledBy 75 = .ok (.aload_n 0, 1) := by decide +kernel
theorem dX1_calledBy_76 : decode cX1_calledBy 76 = .ok (.iload_n 1, 1) := by decide +kernel
theorem dX1_calledBy_77 : decode cX1_calledBy 77 = .ok (.iload 6, 2) := by decide +kernel
theorem dX1_calledBy_79 : decode cX1_calledBy 79 = .ok (.iload_n 3, 1) := by decide +kernel
theorem dX1_calledBy_80 : decode cX1_calledBy 80 = .ok (.invokevirtual 77, 3) := by decide +kernel
theorem dX1_calledBy_83 : decode cX1_calledBy 83 = .ok (.ifCond .eq 14, 3) := by decide +kernel
theorem dX1_calledBy_86 : decode cX1_calledBy 86 = .ok (.iload 5, 2) := by decide +kernel
theorem dX1_calledBy_88 : decode cX1_calledBy 88 = .ok (.ifCond .ne 6, 3) := by decide +kernel
theorem dX1_calledBy_91 : decode cX1_calledBy 91 = .ok (.iload 6, 2) := by decide +kernel
theorem dX1_calledBy_93 : decode cX1_calledBy 93 = .ok (.ireturn, 1) := by decide +kernel
theorem dX1_calledBy_94 : decode cX1_calledBy 94 = .ok (.iinc 5 (-1), 3) := by decide +kernel
theorem dX1_calledBy_97 : decode cX1_calledBy 97 = .ok (.iinc 6 1, 3) := by decide +kernel
theorem dX1_calledBy_100 : decode cX1_calledBy 100 = .ok (.goto (-32), 3) := by decide +kernel
theorem dX1_calledBy_103 : decode cX1_calledBy 103 = .ok (.iconst (-1), 1) := by decide +kernel
theorem dX1_calledBy_104 : decode cX1_calledBy 104 = .ok (.ireturn, 1) := by decide +kernel
theorem dX1_isCallable_0 : decode cX1_isCallable 0 = .ok (.iload_n 2, 1) := by decide +kernel
theorem dX1_isCallable_1 : decode cX1_isCallable 1 = .ok (.iload_n 1, 1) := by decide +kernel
theorem dX1_isCallable_2 : decode cX1_isCallable 2 = .ok (.if_icmp .eq 23, 3) := by decide +kernel
theorem dX1_isCallable_5 : decode cX1_isCallable 5 = .ok (.iload_n 3, 1) := by decide +kernel
theorem dX1_isCallable_6 : decode cX1_isCallable 6 = .ok (.ifCond .ne 15, 3) := by decide +kernel
theorem dX1_isCallable_9 : decode cX1_isCallable 9 = .ok (.aload_n 0, 1) := by decide +kernel
theorem dX1_isCallable_10 : decode cX1_isCallable 10 = .ok (.getfield 39, 3) := by decide +kernel
theorem dX1_isCallable_13 : decode cX1_isCallable 13 = .ok (.iload_n 1, 1) := by decide +kernel
theorem dX1_isCallable_14 : decode cX1_isCallable 14 = .ok (.aaload, 1) := by decide +kernel
theorem dX1_isCallable_15 : decode cX1_isCallable 15 = .ok (.iload_n 2, 1) := by decide +kernel
theorem dX1_isCallable_16 : decode cX1_isCallable 16 = .ok (.iaload, 1) := by decide +kernel
theorem dX1_isCallable_17 : decode cX1_isCallable 17 = .ok (.iconst 2, 1) := by decide +kernel
theorem dX1_isCallable_18 : decode cX1_isCallable 18 = .ok (.if_icmp .eq 7, 3) := by decide +kernel
theorem dX1_isCallable_21 : decode cX1_isCallable 21 = .ok (.iconst 1, 1) := by decide +kernel
theorem dX1_isCallable_22 : decode cX1_isCallable 22 = .ok (.goto 4, 3) := by decide +kernel
theorem dX1_isCallable_25 : decode cX1_isCallable 25 = .ok (.iconst 0, 1) := by decide +kernel
theorem dX1_isCallable_26 : decode cX1_isCallable 26 = .ok (.ireturn, 1) := by decide +kernel
set_option maxRecDepth 20000 in
theorem ggX1_tellOneAnother_X1_takeNews : GoodIn wsX1_tellOneAnother wsX1_takeNews := goodIn_r _ [5, 6, 7, 8, 16, 17, 18, 19, 20, 21, 22, 23, 24, 25, 26, 27] (by decide +kernel) (by decide +kernel)
set_option maxRecDepth 20000 in
theorem gX1_tellOneAnother_X1_takeNews : GoodIn wsX1_tellOneAnother (wsV RX1 81 RX1 yX1_takeNews wsX1_takeNews) := goodIn_app (goodIn_of _ (by decide +kernel)) ggX1_tellOneAnother_X1_takeNews
set_option maxRecDepth 20000 in
theorem ggX1_tellOneAnother_X1_takeBeat : GoodIn wsX1_tellOneAnother wsX1_takeBeat := goodIn_r _ [12, 13, 14, 15, 16, 17, 18, 19, 20, 21, 22, 23, 24, 25, 26, 27] (by decide +kernel) (by decide +kernel)
set_option maxRecDepth 20000 in
theorem gX1_tellOneAnother_X1_takeBeat : GoodIn wsX1_tellOneAnother (wsV RX1 84 RX1 yX1_takeBeat wsX1_takeBeat) := goodIn_app (goodIn_of _ (by decide +kernel)) ggX1_tellOneAnother_X1_takeBeat
theorem dX1_tellOneAnother_0 : decode cX1_tellOneAnother 0 = .ok (.iconst 0, 1) := by decide +kernel
theorem dX1_tellOneAnother_1 : decode cX1_tellOneAnother 1 = .ok (.istore 4, 2) := by decide +kernel
theorem dX1_tellOneAnother_3 : decode cX1_tellOneAnother 3 = .ok (.iload 4, 2) := by decide +kernel
theorem dX1_tellOneAnother_5 : decode cX1_tellOneAnother 5 = .ok (.bipush 8, 2) := by decide +kernel
theorem dX1_tellOneAnother_7 : decode cX1_tellOneAnother 7 = .ok (.if_icmp .ge 43, 3) := by decide +kernel
theorem dX1_tellOneAnother_10 : decode cX1_tellOneAnother 10 = .ok (.aload_n 0, 1) := by decide +kernel
theorem dX1_tellOneAnother_11 : decode cX1_tellOneAnother 11 = .ok (.iload_n 1, 1) := by decide +kernel
theorem dX1_tellOneAnother_12 : decode cX1_tellOneAnother 12 = .ok (.iload_n 2, 1) := by decide +kernel
theorem dX1_tellOneAnother_13 : decode cX1_tellOneAnother 13 = .ok (.iload 4, 2) := by decide +kernel
theorem dX1_tellOneAnother_15 : decode cX1_tellOneAnother 15 = .ok (.invokevirtual 81, 3) := by decide +kernel
theorem dX1_tellOneAnother_18 : decode cX1_tellOneAnother 18 = .ok (.aload_n 0, 1) := by decide +kernel
theorem dX1_tellOneAnother_19 : decode cX1_tellOneAnother 19 = .ok (.iload_n 2, 1) := by decide +kernel
theorem dX1_tellOneAnother_20 : decode cX1_tellOneAnother 20 = .ok (.iload_n 1, 1) := by decide +kernel
theorem dX1_tellOneAnother_21 : decode cX1_tellOneAnother 21 = .ok (.iload 4, 2) := by decide +kernel
theorem dX1_tellOneAnother_23 : decode cX1_tellOneAnother 23 = .ok (.invokevirtual 81, 3) := by decide +kernel
theorem dX1_tellOneAnother_26 : decode cX1_tellOneAnother 26 = .ok (.aload_n 0, 1) := by decide +kernel
theorem dX1_tellOneAnother_27 : decode cX1_tellOneAnother 27 = .ok (.iload_n 1, 1) := by decide +kernel
theorem dX1_tellOneAnother_28 : decode cX1_tellOneAnother 28 = .ok (.iload_n 2, 1) := by decide +kernel
theorem dX1_tellOneAnother_29 : decode cX1_tellOneAnother 29 = .ok (.iload 4, 2) := by decide +kernel
theorem dX1_tellOneAnother_31 : decode cX1_tellOneAnother 31 = .ok (.iload_n 3, 1) := by decide +kernel
theorem dX1_tellOneAnother_32 : decode cX1_tellOneAnother 32 = .ok (.invokevirtual 84, 3) := by decide +kernel
theorem dX1_tellOneAnother_35 : decode cX1_tellOneAnother 35 = .ok (.aload_n 0, 1) := by decide +kernel
theorem dX1_tellOneAnother_36 : decode cX1_tellOneAnother 36 = .ok (.iload_n 2, 1) := by decide +kernel
theorem dX1_tellOneAnother_37 : decode cX1_tellOneAnother 37 = .ok (.iload_n 1, 1) := by decide +kernel
theorem dX1_tellOneAnother_38 : decode cX1_tellOneAnother 38 = .ok (.iload 4, 2) := by decide +kernel
theorem dX1_tellOneAnother_40 : decode cX1_tellOneAnother 40 = .ok (.iload_n 3, 1) := by decide +kernel
theorem dX1_tellOneAnother_41 : decode cX1_tellOneAnother 41 = .ok (.invokevirtual 84, 3) := by decide +kernel
theorem dX1_tellOneAnother_44 : decode cX1_tellOneAnother 44 = .ok (.iinc 4 1, 3) := by decide +kernel
theorem dX1_tellOneAnother_47 : decode cX1_tellOneAnother 47 = .ok (.goto (-44), 3) := by decide +kernel
theorem dX1_tellOneAnother_50 : decode cX1_tellOneAnother 50 = .ok (.return_, 1) := by decide +kernel
theorem dX1_takeNews_0 : decode cX1_takeNews 0 = .ok (.aload_n 0, 1) := by decide +kernel
theorem dX1_takeNews_1 : decode cX1_takeNews 1 = .ok (.getfield 24, 3) := by decide +kernel
theorem dX1_takeNews_4 : decode cX1_takeNews 4 = .ok (.iload_n 1, 1) := by decide +kernel
theorem dX1_takeNews_5 : decode cX1_takeNews 5 = .ok (.aaload, 1) := by decide +kernel
theorem dX1_takeNews_6 : decode cX1_takeNews 6 = .ok (.iload_n 3, 1) := by decide +kernel
theorem dX1_takeNews_7 : decode cX1_takeNews 7 = .ok (.iaload, 1) := by decide +kernel
theorem dX1_takeNews_8 : decode cX1_takeNews 8 = .ok (.aload_n 0, 1) := by decide +kernel
theorem dX1_takeNews_9 : decode cX1_takeNews 9 = .ok (.getfield 24, 3) := by decide +kernel
theorem dX1_takeNews_12 : decode cX1_takeNews 12 = .ok (.iload_n 2, 1) := by decide +kernel
theorem dX1_takeNews_13 : decode cX1_takeNews 13 = .ok (.aaload, 1) := by decide +kernel
theorem dX1_takeNews_14 : decode cX1_takeNews 14 = .ok (.iload_n 3, 1) := by decide +kernel
theorem dX1_takeNews_15 : decode cX1_takeNews 15 = .ok (.iaload, 1) := by decide +kernel
theorem dX1_takeNews_16 : decode cX1_takeNews 16 = .ok (.if_icmp .ge 51, 3) := by decide +kernel
theorem dX1_takeNews_19 : decode cX1_takeNews 19 = .ok (.aload_n 0, 1) := by decide +kernel
theorem dX1_takeNews_20 : decode cX1_takeNews 20 = .ok (.getfield 24, 3) := by decide +kernel
theorem dX1_takeNews_23 : decode cX1_takeNews 23 = .ok (.iload_n 1, 1) := by decide +kernel
theorem dX1_takeNews_24 : decode cX1_takeNews 24 = .ok (.aaload, 1) := by decide +kernel
theorem dX1_takeNews_25 : decode cX1_takeNews 25 = .ok (.iload_n 3, 1) := by decide +kernel
theorem dX1_takeNews_26 : decode cX1_takeNews 26 = .ok (.aload_n 0, 1) := by decide +kernel
theorem dX1_takeNews_27 : decode cX1_takeNews 27 = .ok (.getfield 24, 3) := by decide +kernel
theorem dX1_takeNews_30 : decode cX1_takeNews 30 = .ok (.iload_n 2, 1) := by decide +kernel
theorem dX1_takeNews_31 : decode cX1_takeNews 31 = .ok (.aaload, 1) := by decide +kernel
theorem dX1_takeNews_32 : decode cX1_takeNews 32 = .ok (.iload_n 3, 1) := by decide +kernel
theorem dX1_takeNews_33 : decode cX1_takeNews 33 = .ok (.iaload, 1) := by decide +kernel
theorem dX1_takeNews_34 : decode cX1_takeNews 34 = .ok (.iastore, 1) := by decide +kernel
theorem dX1_takeNews_35 : decode cX1_takeNews 35 = .ok (.aload_n 0, 1) := by decide +kernel
theorem dX1_takeNews_36 : decode cX1_takeNews 36 = .ok (.getfield 27, 3) := by decide +kernel
theorem dX1_takeNews_39 : decode cX1_takeNews 39 = .ok (.iload_n 1, 1) := by decide +kernel
theorem dX1_takeNews_40 : decode cX1_takeNews 40 = .ok (.aaload, 1) := by decide +kernel
theorem dX1_takeNews_41 : decode cX1_takeNews 41 = .ok (.iload_n 3, 1) := by decide +kernel
theorem dX1_takeNews_42 : decode cX1_takeNews 42 = .ok (.aload_n 0, 1) := by decide +kernel
theorem dX1_takeNews_43 : decode cX1_takeNews 43 = .ok (.getfield 27, 3) := by decide +kernel
theorem dX1_takeNews_46 : decode cX1_takeNews 46 = .ok (.iload_n 2, 1) := by decide +kernel
theorem dX1_takeNews_47 : decode cX1_takeNews 47 = .ok (.aaload, 1) := by decide +kernel
theorem dX1_takeNews_48 : decode cX1_takeNews 48 = .ok (.iload_n 3, 1) := by decide +kernel
theorem dX1_takeNews_49 : decode cX1_takeNews 49 = .ok (.iaload, 1) := by decide +kernel
theorem dX1_takeNews_50 : decode cX1_takeNews 50 = .ok (.iastore, 1) := by decide +kernel
theorem dX1_takeNews_51 : decode cX1_takeNews 51 = .ok (.aload_n 0, 1) := by decide +kernel
theorem dX1_takeNews_52 : decode cX1_takeNews 52 = .ok (.getfield 30, 3) := by decide +kernel
theorem dX1_takeNews_55 : decode cX1_takeNews 55 = .ok (.iload_n 1, 1) := by decide +kernel
theorem dX1_takeNews_56 : decode cX1_takeNews 56 = .ok (.aaload, 1) := by decide +kernel
theorem dX1_takeNews_57 : decode cX1_takeNews 57 = .ok (.iload_n 3, 1) := by decide +kernel
theorem dX1_takeNews_58 : decode cX1_takeNews 58 = .ok (.aload_n 0, 1) := by decide +kernel
theorem dX1_takeNews_59 : decode cX1_takeNews 59 = .ok (.getfield 30, 3) := by decide +kernel
theorem dX1_takeNews_62 : decode cX1_takeNews 62 = .ok (.iload_n 2, 1) := by decide +kernel
theorem dX1_takeNews_63 : decode cX1_takeNews 63 = .ok (.aaload, 1) := by decide +kernel
theorem dX1_takeNews_64 : decode cX1_takeNews 64 = .ok (.iload_n 3, 1) := by decide +kernel
theorem dX1_takeNews_65 : decode cX1_takeNews 65 = .ok (.iaload, 1) := by decide +kernel
theorem dX1_takeNews_66 : decode cX1_takeNews 66 = .ok (.iastore, 1) := by decide +kernel
theorem dX1_takeNews_67 : decode cX1_takeNews 67 = .ok (.return_, 1) := by decide +kernel
theorem dX1_takeBeat_0 : decode cX1_takeBeat 0 = .ok (.aload_n 0, 1) := by decide +kernel
theorem dX1_takeBeat_1 : decode cX1_takeBeat 1 = .ok (.getfield 33, 3) := by decide +kernel
theorem dX1_takeBeat_4 : decode cX1_takeBeat 4 = .ok (.iload_n 1, 1) := by decide +kernel
theorem dX1_takeBeat_5 : decode cX1_takeBeat 5 = .ok (.aaload, 1) := by decide +kernel
theorem dX1_takeBeat_6 : decode cX1_takeBeat 6 = .ok (.iload_n 3, 1) := by decide +kernel
theorem dX1_takeBeat_7 : decode cX1_takeBeat 7 = .ok (.iaload, 1) := by decide +kernel
theorem dX1_takeBeat_8 : decode cX1_takeBeat 8 = .ok (.aload_n 0, 1) := by decide +kernel
theorem dX1_takeBeat_9 : decode cX1_takeBeat 9 = .ok (.getfield 33, 3) := by decide +kernel
theorem dX1_takeBeat_12 : decode cX1_takeBeat 12 = .ok (.iload_n 2, 1) := by decide +kernel
theorem dX1_takeBeat_13 : decode cX1_takeBeat 13 = .ok (.aaload, 1) := by decide +kernel
theorem dX1_takeBeat_14 : decode cX1_takeBeat 14 = .ok (.iload_n 3, 1) := by decide +kernel
theorem dX1_takeBeat_15 : decode cX1_takeBeat 15 = .ok (.iaload, 1) := by decide +kernel
theorem dX1_takeBeat_16 : decode cX1_takeBeat 16 = .ok (.if_icmp .ge 38, 3) := by decide +kernel
theorem dX1_takeBeat_19 : decode cX1_takeBeat 19 = .ok (.aload_n 0, 1) := by decide +kernel
theorem dX1_takeBeat_20 : decode cX1_takeBeat 20 = .ok (.getfield 33, 3) := by decide +kernel
theorem dX1_takeBeat_23 : decode cX1_takeBeat 23 = .ok (.iload_n 1, 1) := by decide +kernel
theorem dX1_takeBeat_24 : decode cX1_takeBeat 24 = .ok (.aaload, 1) := by decide +kernel
theorem dX1_takeBeat_25 : decode cX1_takeBeat 25 = .ok (.iload_n 3, 1) := by decide +kernel
theorem dX1_takeBeat_26 : decode cX1_takeBeat 26 = .ok (.aload_n 0, 1) := by decide +kernel
theorem dX1_takeBeat_27 : decode cX1_takeBeat 27 = .ok (.getfield 33, 3) := by decide +kernel
theorem dX1_takeBeat_30 : decode cX1_takeBeat 30 = .ok (.iload_n 2, 1) := by decide +kernel
theorem dX1_takeBeat_31 : decode cX1_takeBeat 31 = .ok (.aaload, 1) := by decide +kernel
theorem dX1_takeBeat_32 : decode cX1_takeBeat 32 = .ok (.iload_n 3, 1) := by decide +kernel
theorem dX1_takeBeat_33 : decode cX1_takeBeat 33 = .ok (.iaload, 1) := by decide +kernel
theorem dX1_takeBeat_34 : decode cX1_takeBeat 34 = .ok (.iastore, 1) := by decide +kernel
theorem dX1_takeBeat_35 : decode cX1_takeBeat 35 = .ok (.aload_n 0, 1) := by decide +kernel
theorem dX1_takeBeat_36 : decode cX1_takeBeat 36 = .ok (.getfield 36, 3) := by decide +kernel
theorem dX1_takeBeat_39 : decode cX1_takeBeat 39 = .ok (.iload_n 1, 1) := by decide +kernel
theorem dX1_takeBeat_40 : decode cX1_takeBeat 40 = .ok (.aaload, 1) := by decide +kernel
theorem dX1_takeBeat_41 : decode cX1_takeBeat 41 = .ok (.iload_n 3, 1) := by decide +kernel
theorem dX1_takeBeat_42 : decode cX1_takeBeat 42 = .ok (.iload 4, 2) := by decide +kernel
theorem dX1_takeBeat_44 : decode cX1_takeBeat 44 = .ok (.iastore, 1) := by decide +kernel
theorem dX1_takeBeat_45 : decode cX1_takeBeat 45 = .ok (.aload_n 0, 1) := by decide +kernel
theorem dX1_takeBeat_46 : decode cX1_takeBeat 46 = .ok (.getfield 39, 3) := by decide +kernel
theorem dX1_takeBeat_49 : decode cX1_takeBeat 49 = .ok (.iload_n 1, 1) := by decide +kernel
theorem dX1_takeBeat_50 : decode cX1_takeBeat 50 = .ok (.aaload, 1) := by decide +kernel
theorem dX1_takeBeat_51 : decode cX1_takeBeat 51 = .ok (.iload_n 3, 1) := by decide +kernel
theorem dX1_takeBeat_52 : decode cX1_takeBeat 52 = .ok (.iconst 0, 1) := by decide +kernel
theorem dX1_takeBeat_53 : decode cX1_takeBeat 53 = .ok (.iastore, 1) := by decide +kernel
theorem dX1_takeBeat_54 : decode cX1_takeBeat 54 = .ok (.return_, 1) := by decide +kernel
set_option maxRecDepth 20000 in
theorem ggX1_lookAll_X1_lookAtOthers : GoodIn wsX1_lookAll wsX1_lookAtOthers := goodIn_r _ [6, 7, 8, 9, 10, 11, 5, 12, 13, 14, 15, 16, 17, 18, 19, 20, 21, 22, 23, 24, 25, 26] (by decide +kernel) (by decide +kernel)
set_option maxRecDepth 20000 in
theorem gX1_lookAll_X1_lookAtOthers : GoodIn wsX1_lookAll (wsV RX1 88 RX1 yX1_lookAtOthers wsX1_lookAtOthers) := goodIn_app (goodIn_of _ (by decide +kernel)) ggX1_lookAll_X1_lookAtOthers
theorem dX1_lookAll_0 : decode cX1_lookAll 0 = .ok (.iconst 0, 1) := by decide +kernel
theorem dX1_lookAll_1 : decode cX1_lookAll 1 = .ok (.istore_n 2, 1) := by decide +kernel
theorem dX1_lookAll_2 : decode cX1_lookAll 2 = .ok (.iload_n 2, 1) := by decide +kernel
theorem dX1_lookAll_3 : decode cX1_lookAll 3 = .ok (.bipush 8, 2) := by decide +kernel
theorem dX1_lookAll_5 : decode cX1_lookAll 5 = .ok (.if_icmp .ge 24, 3) := by decide +kernel
theorem dX1_lookAll_8 : decode cX1_lookAll 8 = .ok (.aload_n 0, 1) := by decide +kernel
theorem dX1_lookAll_9 : decode cX1_lookAll 9 = .ok (.getfield 9, 3) := by decide +kernel
theorem dX1_lookAll_12 : decode cX1_lookAll 12 = .ok (.iload_n 2, 1) := by decide +kernel
theorem dX1_lookAll_13 : decode cX1_lookAll 13 = .ok (.baload, 1) := by decide +kernel
theorem dX1_lookAll_14 : decode cX1_lookAll 14 = .ok (.ifCond .ne 9, 3) := by decide +kernel
theorem dX1_lookAll_17 : decode cX1_lookAll 17 = .ok (.aload_n 0, 1) := by decide +kernel
theorem dX1_lookAll_18 : decode cX1_lookAll 18 = .ok (.iload_n 2, 1) := by decide +kernel
theorem dX1_lookAll_19 : decode cX1_lookAll 19 = .ok (.iload_n 1, 1) := by decide +kernel
theorem dX1_lookAll_20 : decode cX1_lookAll 20 = .ok (.invokevirtual 88, 3) := by decide +kernel
theorem dX1_lookAll_23 : decode cX1_lookAll 23 = .ok (.iinc 2 1, 3) := by decide +kernel
theorem dX1_lookAll_26 : decode cX1_lookAll 26 = .ok (.goto (-24), 3) := by decide +kernel
theorem dX1_lookAll_29 : decode cX1_lookAll 29 = .ok (.return_, 1) := by decide +kernel
set_option maxRecDepth 20000 in
theorem ggX1_lookAtOthers_X1_statusAfter : GoodIn wsX1_lookAtOthers wsX1_statusAfter := goodIn_r _ [7, 8, 9, 10, 11, 12, 13, 14, 15, 16, 17, 18, 19, 20, 21] (by decide +kernel) (by decide +kernel)
set_option maxRecDepth 20000 in
theorem gX1_lookAtOthers_X1_statusAfter : GoodIn wsX1_lookAtOthers (wsV RX1 91 RX1 yX1_statusAfter wsX1_statusAfter) := goodIn_app (goodIn_of _ (by decide +kernel)) ggX1_lookAtOthers_X1_statusAfter
theorem dX1_lookAtOthers_0 : decode cX1_lookAtOthers 0 = .ok (.iconst 0, 1) := by decide +kernel
theorem dX1_lookAtOthers_1 : decode cX1_lookAtOthers 1 = .ok (.istore_n 3, 1) := by decide +kernel
theorem dX1_lookAtOthers_2 : decode cX1_lookAtOthers 2 = .ok (.iload_n 3, 1) := by decide +kernel
theorem dX1_lookAtOthers_3 : decode cX1_lookAtOthers 3 = .ok (.bipush 8, 2) := by decide +kernel
theorem dX1_lookAtOthers_5 : decode cX1_lookAtOthers 5 = .ok (.if_icmp .ge 36, 3) := by decide +kernel
theorem dX1_lookAtOthers_8 : decode cX1_lookAtOthers 8 = .ok (.iload_n 3, 1) := by decide +kernel
theorem dX1_lookAtOthers_9 : decode cX1_lookAtOthers 9 = .ok (.iload_n 1, 1) := by decide +kernel
theorem dX1_lookAtOthers_10 : decode cX1_lookAtOthers 10 = .ok (.if_icmp .eq 25, 3) := by decide +kernel
theorem dX1_lookAtOthers_13 : decode cX1_lookAtOthers 13 = .ok (.aload_n 0, 1) := by decide +kernel
theorem dX1_lookAtOthers_14 : decode cX1_lookAtOthers 14 = .ok (.getfield 39, 3) := by decide +kernel
theorem dX1_lookAtOthers_17 : decode cX1_lookAtOthers 17 = .ok (.iload_n 1, 1) := by decide +kernel
theorem dX1_lookAtOthers_18 : decode cX1_lookAtOthers 18 = .ok (.aaload, 1) := by decide +kernel
theorem dX1_lookAtOthers_19 : decode cX1_lookAtOthers 19 = .ok (.iload_n 3, 1) := by decide +kernel
theorem dX1_lookAtOthers_20 : decode cX1_lookAtOthers 20 = .ok (.aload_n 0, 1) := by decide +kernel
theorem dX1_lookAtOthers_21 : decode cX1_lookAtOthers 21 = .ok (.iload_n 2, 1) := by decide +kernel
theorem dX1_lookAtOthers_22 : decode cX1_lookAtOthers 22 = .ok (.aload_n 0, 1) := by decide +kernel
theorem dX1_lookAtOthers_23 : decode cX1_lookAtOthers 23 = .ok (.getfield 36, 3) := by decide +kernel
theorem dX1_lookAtOthers_26 : decode cX1_lookAtOthers 26 = .ok (.iload_n 1, 1) := by decide +kernel
theorem dX1_lookAtOthers_27 : decode cX1_lookAtOthers 27 = .ok (.aaload, 1) := by decide +kernel
theorem dX1_lookAtOthers_28 : decode cX1_lookAtOthers 28 = .ok (.iload_n 3, 1) := by decide +kernel
theorem dX1_lookAtOthers_29 : decode cX1_lookAtOthers 29 = .ok (.iaload, 1) := by decide +kernel
theorem dX1_lookAtOthers_30 : decode cX1_lookAtOthers 30 = .ok (.isub, 1) := by decide +kernel
theorem dX1_lookAtOthers_31 : decode cX1_lookAtOthers 31 = .ok (.invokevirtual 91, 3) := by decide +kernel
theorem dX1_lookAtOthers_34 : decode cX1_lookAtOthers 34 = .ok (.iastore, 1) := by decide +kernel
theorem dX1_lookAtOthers_35 : decode cX1_lookAtOthers 35 = .ok (.iinc 3 1, 3) := by decide +kernel
theorem dX1_lookAtOthers_38 : decode cX1_lookAtOthers 38 = .ok (.goto (-36), 3) := by decide +kernel
theorem dX1_lookAtOthers_41 : decode cX1_lookAtOthers 41 = .ok (.return_, 1) := by decide +kernel
theorem dX1_statusAfter_0 : decode cX1_statusAfter 0 = .ok (.iload_n 1, 1) := by decide +kernel
theorem dX1_statusAfter_1 : decode cX1_statusAfter 1 = .ok (.aload_n 0, 1) := by decide +kernel
theorem dX1_statusAfter_2 : decode cX1_statusAfter 2 = .ok (.getfield 46, 3) := by decide +kernel
theorem dX1_statusAfter_5 : decode cX1_statusAfter 5 = .ok (.if_icmp .le 5, 3) := by decide +kernel
theorem dX1_statusAfter_8 : decode cX1_statusAfter 8 = .ok (.iconst 2, 1) := by decide +kernel
theorem dX1_statusAfter_9 : decode cX1_statusAfter 9 = .ok (.ireturn, 1) := by decide +kernel
theorem dX1_statusAfter_10 : decode cX1_statusAfter 10 = .ok (.iload_n 1, 1) := by decide +kernel
theorem dX1_statusAfter_11 : decode cX1_statusAfter 11 = .ok (.aload_n 0, 1) := by decide +kernel
theorem dX1_statusAfter_12 : decode cX1_statusAfter 12 = .ok (.getfield 42, 3) := by decide +kernel
theorem dX1_statusAfter_15 : decode cX1_statusAfter 15 = .ok (.if_icmp .le 7, 3) := by decide +kernel
theorem dX1_statusAfter_18 : decode cX1_statusAfter 18 = .ok (.iconst 1, 1) := by decide +kernel
theorem dX1_statusAfter_19 : decode cX1_statusAfter 19 = .ok (.goto 4, 3) := by decide +kernel
theorem dX1_statusAfter_22 : decode cX1_statusAfter 22 = .ok (.iconst 0, 1) := by decide +kernel
theorem dX1_statusAfter_23 : decode cX1_statusAfter 23 = .ok (.ireturn, 1) := by decide +kernel
theorem dX1_freshestOf_0 : decode cX1_freshestOf 0 = .ok (.iconst (-1), 1) := by decide +kernel
theorem dX1_freshestOf_1 : decode cX1_freshestOf 1 = .ok (.istore_n 2, 1) := by decide +kernel
theorem dX1_freshestOf_2 : decode cX1_freshestOf 2 = .ok (.iconst 0, 1) := by decide +kernel
theorem dX1_freshestOf_3 : decode cX1_freshestOf 3 = .ok (.istore_n 3, 1) := by decide +kernel
theorem dX1_freshestOf_4 : decode cX1_freshestOf 4 = .ok (.iconst 0, 1) := by decide +kernel
theorem dX1_freshestOf_5 : decode cX1_freshestOf 5 = .ok (.istore 4, 2) := by decide +kernel
theorem dX1_freshestOf_7 : decode cX1_freshestOf 7 = .ok (.iload 4, 2) := by decide +kernel
theorem dX1_freshestOf_9 : decode cX1_freshestOf 9 = .ok (.bipush 8, 2) := by decide +kernel
theorem dX1_freshestOf_11 : decode cX1_freshestOf 11 = .ok (.if_icmp .ge 35, 3) := by decide +kernel
theorem dX1_freshestOf_14 : decode cX1_freshestOf 14 = .ok (.aload_n 0, 1) := by decide +kernel
theorem dX1_freshestOf_15 : decode cX1_freshestOf 15 = .ok (.getfield 24, 3) := by decide +kernel
theorem dX1_freshestOf_18 : decode cX1_freshestOf 18 = .ok (.iload 4, 2) := by decide +kernel
theorem dX1_freshestOf_20 : decode cX1_freshestOf 20 = .ok (.aaload, 1) := by decide +kernel
theorem dX1_freshestOf_21 : decode cX1_freshestOf 21 = .ok (.iload_n 1, 1) := by decide +kernel
theorem dX1_freshestOf_22 : decode cX1_freshestOf 22 = .ok (.iaload, 1) := by decide +kernel
theorem dX1_freshestOf_23 : decode cX1_freshestOf 23 = .ok (.iload_n 3, 1) := by decide +kernel
theorem dX1_freshestOf_24 : decode cX1_freshestOf 24 = .ok (.if_icmp .le 16, 3) := by decide +kernel
theorem dX1_freshestOf_27 : decode cX1_freshestOf 27 = .ok (.aload_n 0, 1) := by decide +kernel
theorem dX1_freshestOf_28 : decode cX1_freshestOf 28 = .ok (.getfield 24, 3) := by decide +kernel
theorem dX1_freshestOf_31 : decode cX1_freshestOf 31 = .ok (.iload 4, 2) := by decide +kernel
theorem dX1_freshestOf_33 : decode cX1_freshestOf 33 = .ok (.aaload, 1) := by decide +kernel
theorem dX1_freshestOf_34 : decode cX1_freshestOf 34 = .ok (.iload_n 1, 1) := by decide +kernel
theorem dX1_freshestOf_35 : decode cX1_freshestOf 35 = .ok (.iaload, 1) := by decide +kernel
theorem dX1_freshestOf_36 : decode cX1_freshestOf 36 = .ok (.istore_n 3, 1) := by decide +kernel
theorem dX1_freshestOf_37 : decode cX1_freshestOf 37 = .ok (.iload 4, 2) := by decide +kernel
theorem dX1_freshestOf_39 : decode cX1_freshestOf 39 = .ok (.istore_n 2, 1) := by decide +kernel
theorem dX1_freshestOf_40 : decode cX1_freshestOf 40 = .ok (.iinc 4 1, 3) := by decide +kernel
theorem dX1_freshestOf_43 : decode cX1_freshestOf 43 = .ok (.goto (-36), 3) := by decide +kernel
theorem dX1_freshestOf_46 : decode cX1_freshestOf 46 = .ok (.iload_n 2, 1) := by decide +kernel
theorem dX1_freshestOf_47 : decode cX1_freshestOf 47 = .ok (.ireturn, 1) := by decide +kernel
set_option maxRecDepth 20000 in
theorem ggX1_believersOf_X1_hasNews : GoodIn wsX1_believersOf wsX1_hasNews := goodIn_r _ [7, 8, 9, 10, 11, 12, 13, 14, 15, 16, 17, 18, 19, 20] (by decide +kernel) (by decide +kernel)
set_option maxRecDepth 20000 in
theorem gX1_believersOf_X1_hasNews : GoodIn wsX1_believersOf (wsV RX1 52 RX1 yX1_hasNews wsX1_hasNews) := goodIn_app (goodIn_of _ (by decide +kernel)) ggX1_believersOf_X1_hasNews
theorem dX1_believersOf_0 : decode cX1_believersOf 0 = .ok (.iconst 0, 1) := by decide +kernel
theorem dX1_believersOf_1 : decode cX1_believersOf 1 = .ok (.istore_n 3, 1) := by decide +kernel
theorem dX1_believersOf_2 : decode cX1_believersOf 2 = .ok (.iconst 0, 1) := by decide +kernel
theorem dX1_believersOf_3 : decode cX1_believersOf 3 = .ok (.istore 4, 2) := by decide +kernel
theorem dX1_believersOf_5 : decode cX1_believersOf 5 = .ok (.iload 4, 2) := by decide +kernel
theorem dX1_believersOf_7 : decode cX1_believersOf 7 = .ok (.bipush 8, 2) := by decide +kernel
theorem dX1_believersOf_9 : decode cX1_believersOf 9 = .ok (.if_icmp .ge 57, 3) := by decide +kernel
theorem dX1_believersOf_12 : decode cX1_believersOf 12 = .ok (.aload_n 0, 1) := by decide +kernel
theorem dX1_believersOf_13 : decode cX1_believersOf 13 = .ok (.getfield 9, 3) := by decide +kernel
theorem dX1_believersOf_16 : decode cX1_believersOf 16 = .ok (.iload 4, 2) := by decide +kernel
theorem dX1_believersOf_18 : decode cX1_believersOf 18 = .ok (.baload, 1) := by decide +kernel
theorem dX1_believersOf_19 : decode cX1_believersOf 19 = .ok (.ifCond .ne 17, 3) := by decide +kernel
theorem dX1_believersOf_22 : decode cX1_believersOf 22 = .ok (.aload_n 0, 1) := by decide +kernel
theorem dX1_believersOf_23 : decode cX1_believersOf 23 = .ok (.iload 4, 2) := by decide +kernel
theorem dX1_believersOf_25 : decode cX1_believersOf 25 = .ok (.iload_n 1, 1) := by decide +kernel
theorem dX1_believersOf_26 : decode cX1_believersOf 26 = .ok (.invokevirtual 52, 3) := by decide +kernel
theorem dX1_believersOf_29 : decode cX1_believersOf 29 = .ok (.ifCond .eq 7, 3) := by decide +kernel
theorem dX1_believersOf_32 : decode cX1_believersOf 32 = .ok (.iconst 1, 1) := by decide +kernel
theorem dX1_believersOf_33 : decode cX1_believersOf 33 = .ok (.goto 4, 3) := by decide +kernel
theorem dX1_believersOf_36 : decode cX1_believersOf 36 = .ok (.iconst 0, 1) := by decide +kernel
theorem dX1_believersOf_37 : decode cX1_believersOf 37 = .ok (.istore 5, 2) := by decide +kernel
theorem dX1_believersOf_39 : decode cX1_believersOf 39 = .ok (.iload 5, 2) := by decide +kernel
theorem dX1_believersOf_41 : decode cX1_believersOf 41 = .ok (.ifCond .eq 19, 3) := by decide +kernel
theorem dX1_believersOf_44 : decode cX1_believersOf 44 = .ok (.aload_n 0, 1) := by decide +kernel
theorem dX1_believersOf_45 : decode cX1_believersOf 45 = .ok (.getfield 27, 3) := by decide +kernel
theorem dX1_believersOf_48 : decode cX1_believersOf 48 = .ok (.iload 4, 2) := by decide +kernel
theorem dX1_believersOf_50 : decode cX1_believersOf 50 = .ok (.aaload, 1) := by decide +kernel
theorem dX1_believersOf_51 : decode cX1_believersOf 51 = .ok (.iload_n 1, 1) := by decide +kernel
theorem dX1_believersOf_52 : decode cX1_believersOf 52 = .ok (.iaload, 1) := by decide +kernel
theorem dX1_believersOf_53 : decode cX1_believersOf 53 = .ok (.iload_n 2, 1) := by decide +kernel
theorem dX1_believersOf_54 : decode cX1_believersOf 54 = .ok (.if_icmp .ne 6, 3) := by decide +kernel
theorem dX1_believersOf_57 : decode cX1_believersOf 57 = .ok (.iinc 3 1, 3) := by decide +kernel
theorem dX1_believersOf_60 : decode cX1_believersOf 60 = .ok (.iinc 4 1, 3) := by decide +kernel
theorem dX1_believersOf_63 : decode cX1_believersOf 63 = .ok (.goto (-58), 3) := by decide +kernel
theorem dX1_believersOf_66 : decode cX1_believersOf 66 = .ok (.iload_n 3, 1) := by decide +kernel
theorem dX1_believersOf_67 : decode cX1_believersOf 67 = .ok (.ireturn, 1) := by decide +kernel
set_option maxRecDepth 20000 in
theorem ggX1_countUnnoticed_X1_countHolders : GoodIn wsX1_countUnnoticed wsX1_countHolders := goodIn_r _ [6, 1, 7, 8, 9, 10, 11, 12, 13, 14, 15, 16, 17, 18, 19] (by decide +kernel) (by decide +kernel)
set_option maxRecDepth 20000 in
theorem gX1_countUnnoticed_X1_countHolders : GoodIn wsX1_countUnnoticed (wsV RX1 94 RX1 yX1_countHolders wsX1_countHolders) := goodIn_app (goodIn_of _ (by decide +kernel)) ggX1_countUnnoticed_X1_countHolders
theorem dX1_countUnnoticed_0 : decode cX1_countUnnoticed 0 = .ok (.iconst 0, 1) := by decide +kernel
theorem dX1_countUnnoticed_1 : decode cX1_countUnnoticed 1 = .ok (.istore_n 1, 1) := by decide +kernel
theorem dX1_countUnnoticed_2 : decode cX1_countUnnoticed 2 = .ok (.iconst 0, 1) := by decide +kernel
theorem dX1_countUnnoticed_3 : decode cX1_countUnnoticed 3 = .ok (.istore_n 2, 1) := by decide +kernel
theorem dX1_countUnnoticed_4 : decode cX1_countUnnoticed 4 = .ok (.iload_n 2, 1) := by decide +kernel
theorem dX1_countUnnoticed_5 : decode cX1_countUnnoticed 5 = .ok (.bipush 8, 2) := by decide +kernel
theorem dX1_countUnnoticed_7 : decode cX1_countUnnoticed 7 = .ok (.if_icmp .ge 30, 3) := by decide +kernel
theorem dX1_countUnnoticed_10 : decode cX1_countUnnoticed 10 = .ok (.aload_n 0, 1) := by decide +kernel
theorem dX1_countUnnoticed_11 : decode cX1_countUnnoticed 11 = .ok (.getfield 9, 3) := by decide +kernel
theorem dX1_countUnnoticed_14 : decode cX1_countUnnoticed 14 = .ok (.iload_n 2, 1) := by decide +kernel
theorem dX1_countUnnoticed_15 : decode cX1_countUnnoticed 15 = .ok (.baload, 1) := by decide +kernel
theorem dX1_countUnnoticed_16 : decode cX1_countUnnoticed 16 = .ok (.ifCond .eq 15, 3) := by decide +kernel
theorem dX1_countUnnoticed_19 : decode cX1_countUnnoticed 19 = .ok (.aload_n 0, 1) := by decide +kernel
theorem dX1_countUnnoticed_20 : decode cX1_countUnnoticed 20 = .ok (.iload_n 2, 1) := by decide +kernel
theorem dX1_countUnnoticed_21 : decode cX1_countUnnoticed 21 = .ok (.iconst 0, 1) := by decide +kernel
theorem dX1_countUnnoticed_22 : decode cX1_countUnnoticed 22 = .ok (.invokevirtual 94, 3) := by decide +kernel
theorem dX1_countUnnoticed_25 : decode cX1_countUnnoticed 25 = .ok (.ifCond .le 6, 3) := by decide +kernel
theorem dX1_countUnnoticed_28 : decode cX1_countUnnoticed 28 = .ok (.iinc 1 1, 3) := by decide +kernel
theorem dX1_countUnnoticed_31 : decode cX1_countUnnoticed 31 = .ok (.iinc 2 1, 3) := by decide +kernel
theorem dX1_countUnnoticed_34 : decode cX1_countUnnoticed 34 = .ok (.goto (-30), 3) := by decide +kernel
theorem dX1_countUnnoticed_37 : decode cX1_countUnnoticed 37 = .ok (.iload_n 1, 1) := by decide +kernel
theorem dX1_countUnnoticed_38 : decode cX1_countUnnoticed 38 = .ok (.ireturn, 1) := by decide +kernel
set_option maxRecDepth 20000 in
theorem ggX1_countMistaken_X1_countHolders : GoodIn wsX1_countMistaken wsX1_countHolders := goodIn_r _ [6, 1, 7, 8, 9, 10, 11, 12, 13, 14, 15, 16, 17, 18, 19] (by decide +kernel) (by decide +kernel)
set_option maxRecDepth 20000 in
theorem gX1_countMistaken_X1_countHolders : GoodIn wsX1_countMistaken (wsV RX1 94 RX1 yX1_countHolders wsX1_countHolders) := goodIn_app (goodIn_of _ (by decide +kernel)) ggX1_countMistaken_X1_countHolders
theorem dX1_countMistaken_0 : decode cX1_countMistaken 0 = .ok (.iconst 0, 1) := by decide +kernel
theorem dX1_countMistaken_1 : decode cX1_countMistaken 1 = .ok (.istore_n 1, 1) := by decide +kernel
theorem dX1_countMistaken_2 : decode cX1_countMistaken 2 = .ok (.iconst 0, 1) := by decide +kernel
theorem dX1_countMistaken_3 : decode cX1_countMistaken 3 = .ok (.istore_n 2, 1) := by decide +kernel
theorem dX1_countMistaken_4 : decode cX1_countMistaken 4 = .ok (.iload_n 2, 1) := by decide +kernel
theorem dX1_countMistaken_5 : decode cX1_countMistaken 5 = .ok (.bipush 8, 2) := by decide +kernel
theorem dX1_countMistaken_7 : decode cX1_countMistaken 7 = .ok (.if_icmp .ge 27, 3) := by decide +kernel
theorem dX1_countMistaken_10 : decode cX1_countMistaken 10 = .ok (.aload_n 0, 1) := by decide +kernel
theorem dX1_countMistaken_11 : decode cX1_countMistaken 11 = .ok (.getfield 9, 3) := by decide +kernel
theorem dX1_countMistaken_14 : decode cX1_countMistaken 14 = .ok (.iload_n 2, 1) := by decide +kernel
theorem dX1_countMistaken_15 : decode cX1_countMistaken 15 = .ok (.baload, 1) := by decide +kernel
theorem dX1_countMistaken_16 : decode cX1_countMistaken 16 = .ok (.ifCond .ne 12, 3) := by decide +kernel
theorem dX1_countMistaken_19 : decode cX1_countMistaken 19 = .ok (.iload_n 1, 1) := by decide +kernel
theorem dX1_countMistaken_20 : decode cX1_countMistaken 20 = .ok (.aload_n 0, 1) := by decide +kernel
theorem dX1_countMistaken_21 : decode cX1_countMistaken 21 = .ok (.iload_n 2, 1) := by decide +kernel
theorem dX1_countMistaken_22 : decode cX1_countMistaken 22 = .ok (.iconst 2, 1) := by decide +kernel
theorem dX1_countMistaken_23 : decode cX1_countMistaken 23 = .ok (.invokevirtual 94, 3) := by decide +kernel
theorem dX1_countMistaken_26 : decode cX1_countMistaken 26 = .ok (.iadd, 1) := by decide +kernel
theorem dX1_countMistaken_27 : decode cX1_countMistaken 27 = .ok (.istore_n 1, 1) := by decide +kernel
theorem dX1_countMistaken_28 : decode cX1_countMistaken 28 = .ok (.iinc 2 1, 3) := by decide +kernel
theorem dX1_countMistaken_31 : decode cX1_countMistaken 31 = .ok (.goto (-27), 3) := by decide +kernel
theorem dX1_countMistaken_34 : decode cX1_countMistaken 34 = .ok (.iload_n 1, 1) := by decide +kernel
theorem dX1_countMistaken_35 : decode cX1_countMistaken 35 = .ok (.ireturn, 1) := by decide +kernel
theorem dX1_countHolders_0 : decode cX1_countHolders 0 = .ok (.iconst 0, 1) := by decide +kernel
theorem dX1_countHolders_1 : decode cX1_countHolders 1 = .ok (.istore_n 3, 1) := by decide +kernel
theorem dX1_countHolders_2 : decode cX1_countHolders 2 = .ok (.iconst 0, 1) := by decide +kernel
theorem dX1_countHolders_3 : decode cX1_countHolders 3 = .ok (.istore 4, 2) := by decide +kernel
theorem dX1_countHolders_5 : decode cX1_countHolders 5 = .ok (.iload 4, 2) := by decide +kernel
theorem dX1_countHolders_7 : decode cX1_countHolders 7 = .ok (.bipush 8, 2) := by decide +kernel
theorem dX1_countHolders_9 : decode cX1_countHolders 9 = .ok (.if_icmp .ge 35, 3) := by decide +kernel
theorem dX1_countHolders_12 : decode cX1_countHolders 12 = .ok (.aload_n 0, 1) := by decide +kernel
theorem dX1_countHolders_13 : decode cX1_countHolders 13 = .ok (.getfield 9, 3) := by decide +kernel
theorem dX1_countHolders_16 : decode cX1_countHolders 16 = .ok (.iload 4, 2) := by decide +kernel
theorem dX1_countHolders_18 : decode cX1_countHolders 18 = .ok (.baload, 1) := by decide +kernel
theorem dX1_countHolders_19 : decode cX1_countHolders 19 = .ok (.ifCond .ne 19, 3) := by decide +kernel
theorem dX1_countHolders_22 : decode cX1_countHolders 22 = .ok (.aload_n 0, 1) := by decide +kernel
theorem dX1_countHolders_23 : decode cX1_countHolders 23 = .ok (.getfield 39, 3) := by decide +kernel
theorem dX1_countHolders_26 : decode cX1_countHolders 26 = .ok (.iload 4, 2) := by decide +kernel
theorem dX1_countHolders_28 : decode cX1_countHolders 28 = .ok (.aaload, 1) := by decide +kernel
theorem dX1_countHolders_29 : decode cX1_countHolders 29 = .ok (.iload_n 1, 1) := by decide +kernel
theorem dX1_countHolders_30 : decode cX1_countHolders 30 = .ok (.iaload, 1) := by decide +kernel
theorem dX1_countHolders_31 : decode cX1_countHolders 31 = .ok (.iload_n 2, 1) := by decide +kernel
theorem dX1_countHolders_32 : decode cX1_countHolders 32 = .ok (.if_icmp .ne 6, 3) := by decide +kernel
theorem dX1_countHolders_35 : decode cX1_countHolders 35 = .ok (.iinc 3 1, 3) := by decide +kernel
theorem dX1_countHolders_38 : decode cX1_countHolders 38 = .ok (.iinc 4 1, 3) := by decide +kernel
theorem dX1_countHolders_41 : decode cX1_countHolders 41 = .ok (.goto (-36), 3) := by decide +kernel
theorem dX1_countHolders_44 : decode cX1_countHolders 44 = .ok (.iload_n 3, 1) := by decide +kernel
theorem dX1_countHolders_45 : decode cX1_countHolders 45 = .ok (.ireturn, 1) := by decide +kernel
set_option maxRecDepth 20000 in
theorem ggX2_init_J7_fill_53178 : GoodIn wsX2_init wsJ7_fill_53178 := goodIn_r _ [16] (by decide +kernel) (by decide +kernel)
set_option maxRecDepth 20000 in
theorem gX2_init_J7_fill_53178 : GoodIn wsX2_init (va_wsS RX2 37 yJ7_fill_53178 wsJ7_fill_53178) := goodIn_app (goodIn_of _ (by decide +kernel)) ggX2_init_J7_fill_53178
theorem dX2_init_0 : decode cX2_init 0 = .ok (.aload_n 0, 1) := by decide +kernel
theorem dX2_init_1 : decode cX2_init 1 = .ok (.invokespecial 3, 3) := by decide +kernel
theorem dX2_init_4 : decode cX2_init 4 = .ok (.aload_n 0, 1) := by decide +kernel
theorem dX2_init_5 : decode cX2_init 5 = .ok (.bipush 8, 2) := by decide +kernel
theorem dX2_init_7 : decode cX2_init 7 = .ok (.newarray .int, 2) := by decide +kernel
theorem dX2_init_9 : decode cX2_init 9 = .ok (.putfield 9, 3) := by decide +kernel
theorem dX2_init_12 : decode cX2_init 12 = .ok (.aload_n 0, 1) := by decide +kernel
theorem dX2_init_13 : decode cX2_init 13 = .ok (.bipush 8, 2) := by decide +kernel
theorem dX2_init_15 : decode cX2_init 15 = .ok (.newarray .int, 2) := by decide +kernel
theorem dX2_init_17 : decode cX2_init 17 = .ok (.putfield 15, 3) := by decide +kernel
theorem dX2_init_20 : decode cX2_init 20 = .ok (.aload_n 0, 1) := by decide +kernel
theorem dX2_init_21 : decode cX2_init 21 = .ok (.bipush 8, 2) := by decide +kernel
theorem dX2_init_23 : decode cX2_init 23 = .ok (.newarray .int, 2) := by decide +kernel
theorem dX2_init_25 : decode cX2_init 25 = .ok (.putfield 18, 3) := by decide +kernel
theorem dX2_init_28 : decode cX2_init 28 = .ok (.aload_n 0, 1) := by decide +kernel
theorem dX2_init_29 : decode cX2_init 29 = .ok (.bipush 8, 2) := by decide +kernel
theorem dX2_init_31 : decode cX2_init 31 = .ok (.newarray .int, 2) := by decide +kernel
theorem dX2_init_33 : decode cX2_init 33 = .ok (.putfield 21, 3) := by decide +kernel
theorem dX2_init_36 : decode cX2_init 36 = .ok (.aload_n 0, 1) := by decide +kernel
theorem dX2_init_37 : decode cX2_init 37 = .ok (.bipush 8, 2) := by decide +kernel
theorem dX2_init_39 : decode cX2_init 39 = .ok (.newarray .int, 2) := by decide +kernel
theorem dX2_init_41 : decode cX2_init 41 = .ok (.putfield 24, 3) := by decide +kernel
theorem dX2_init_44 : decode cX2_init 44 = .ok (.aload_n 0, 1) := by decide +kernel
theorem dX2_init_45 : decode cX2_init 45 = .ok (.bipush 8, 2) := by decide +kernel
theorem dX2_init_47 : decode cX2_init 47 = .ok (.newarray .int, 2) := by decide +kernel
theorem dX2_init_49 : decode cX2_init 49 = .ok (.putfield 27, 3) := by decide +kernel
theorem dX2_init_52 : decode cX2_init 52 = .ok (.aload_n 0, 1) := by decide +kernel
theorem dX2_init_53 : decode cX2_init 53 = .ok (.bipush 8, 2) := by decide +kernel
theorem dX2_init_55 : decode cX2_init 55 = .ok (.newarray .int, 2) := by decide +kernel
theorem dX2_init_57 : decode cX2_init 57 = .ok (.putfield 30, 3) := by decide +kernel
theorem dX2_init_60 : decode cX2_init 60 = .ok (.aload_n 0, 1) := by decide +kernel
theorem dX2_init_61 : decode cX2_init 61 = .ok (.iconst 0, 1) := by decide +kernel
theorem dX2_init_62 : decode cX2_init 62 = .ok (.putfield 33, 3) := by decide +kernel
theorem dX2_init_65 : decode cX2_init 65 = .ok (.aload_n 0, 1) := by decide +kernel
theorem dX2_init_66 : decode cX2_init 66 = .ok (.getfield 9, 3) := by decide +kernel
theorem dX2_init_69 : decode cX2_init 69 = .ok (.bipush 10, 2) := by decide +kernel
theorem dX2_init_71 : decode cX2_init 71 = .ok (.invokestatic 37, 3) := by decide +kernel
theorem dX2_init_74 : decode cX2_init 74 = .ok (.aload_n 0, 1) := by decide +kernel
theorem dX2_init_75 : decode cX2_init 75 = .ok (.getfield 15, 3) := by decide +kernel
theorem dX2_init_78 : decode cX2_init 78 = .ok (.bipush 100, 2) := by decide +kernel
theorem dX2_init_80 : decode cX2_init 80 = .ok (.invokestatic 37, 3) := by decide +kernel
theorem dX2_init_83 : decode cX2_init 83 = .ok (.return_, 1) := by decide +kernel
theorem dX2_levelOf_0 : decode cX2_levelOf 0 = .ok (.aload_n 0, 1) := by decide +kernel
theorem dX2_levelOf_1 : decode cX2_levelOf 1 = .ok (.getfield 9, 3) := by decide +kernel
theorem dX2_levelOf_4 : decode cX2_levelOf 4 = .ok (.iload_n 1, 1) := by decide +kernel
theorem dX2_levelOf_5 : decode cX2_levelOf 5 = .ok (.iaload, 1) := by decide +kernel
theorem dX2_levelOf_6 : decode cX2_levelOf 6 = .ok (.istore_n 2, 1) := by decide +kernel
theorem dX2_levelOf_7 : decode cX2_levelOf 7 = .ok (.iload_n 2, 1) := by decide +kernel
theorem dX2_levelOf_8 : decode cX2_levelOf 8 = .ok (.iconst 1, 1) := by decide +kernel
theorem dX2_levelOf_9 : decode cX2_levelOf 9 = .ok (.if_icmp .ge 7, 3) := by decide +kernel
theorem dX2_levelOf_12 : decode cX2_levelOf 12 = .ok (.iconst 0, 1) := by decide +kernel
theorem dX2_levelOf_13 : decode cX2_levelOf 13 = .ok (.goto 11, 3) := by decide +kernel
theorem dX2_levelOf_16 : decode cX2_levelOf 16 = .ok (.aload_n 0, 1) := by decide +kernel
theorem dX2_levelOf_17 : decode cX2_levelOf 17 = .ok (.getfield 18, 3) := by decide +kernel
theorem dX2_levelOf_20 : decode cX2_levelOf 20 = .ok (.iload_n 1, 1) := by decide +kernel
theorem dX2_levelOf_21 : decode cX2_levelOf 21 = .ok (.iaload, 1) := by decide +kernel
theorem dX2_levelOf_22 : decode cX2_levelOf 22 = .ok (.iload_n 2, 1) := by decide +kernel
theorem dX2_levelOf_23 : decode cX2_levelOf 23 = .ok (.idiv, 1) := by decide +kernel
theorem dX2_levelOf_24 : decode cX2_levelOf 24 = .ok (.ireturn, 1) := by decide +kernel
theorem dX2_balanceOf_0 : decode cX2_balanceOf 0 = .ok (.aload_n 0, 1) := by decide +kernel
theorem dX2_balanceOf_1 : decode cX2_balanceOf 1 = .ok (.getfield 24, 3) := by decide +kernel
theorem dX2_balanceOf_4 : decode cX2_balanceOf 4 = .ok (.iload_n 1, 1) := by decide +kernel
theorem dX2_balanceOf_5 : decode cX2_balanceOf 5 = .ok (.iaload, 1) := by decide +kernel
theorem dX2_balanceOf_6 : decode cX2_balanceOf 6 = .ok (.istore_n 2, 1) := by decide +kernel
theorem dX2_balanceOf_7 : decode cX2_balanceOf 7 = .ok (.iload_n 1, 1) := by decide +kernel
theorem dX2_balanceOf_8 : decode cX2_balanceOf 8 = .ok (.ifCond .le 23, 3) := by decide +kernel
theorem dX2_balanceOf_11 : decode cX2_balanceOf 11 = .ok (.iload_n 2, 1) := by decide +kernel
theorem dX2_balanceOf_12 : decode cX2_balanceOf 12 = .ok (.aload_n 0, 1) := by decide +kernel
theorem dX2_balanceOf_13 : decode cX2_balanceOf 13 = .ok (.getfield 27, 3) := by decide +kernel
theorem dX2_balanceOf_16 : decode cX2_balanceOf 16 = .ok (.iload_n 1, 1) := by decide +kernel
theorem dX2_balanceOf_17 : decode cX2_balanceOf 17 = .ok (.iconst 1, 1) := by decide +kernel
theorem dX2_balanceOf_18 : decode cX2_balanceOf 18 = .ok (.isub, 1) := by decide +kernel
theorem dX2_balanceOf_19 : decode cX2_balanceOf 19 = .ok (.iaload, 1) := by decide +kernel
theorem dX2_balanceOf_20 : decode cX2_balanceOf 20 = .ok (.aload_n 0, 1) := by decide +kernel
theorem dX2_balanceOf_21 : decode cX2_balanceOf 21 = .ok (.getfield 30, 3) := by decide +kernel
theorem dX2_balanceOf_24 : decode cX2_balanceOf 24 = .ok (.iload_n 1, 1) := by decide +kernel
theorem dX2_balanceOf_25 : decode cX2_balanceOf 25 = .ok (.iconst 1, 1) := by decide +kernel
theorem dX2_balanceOf_26 : decode cX2_balanceOf 26 = .ok (.isub, 1) := by decide +kernel
theorem dX2_balanceOf_27 : decode cX2_balanceOf 27 = .ok (.iaload, 1) := by decide +kernel
theorem dX2_balanceOf_28 : decode cX2_balanceOf 28 = .ok (.iadd, 1) := by decide +kernel
theorem dX2_balanceOf_29 : decode cX2_balanceOf 29 = .ok (.iadd, 1) := by decide +kernel
theorem dX2_balanceOf_30 : decode cX2_balanceOf 30 = .ok (.istore_n 2, 1) := by decide +kernel
theorem dX2_balanceOf_31 : decode cX2_balanceOf 31 = .ok (.iload_n 2, 1) := by decide +kernel
theorem dX2_balanceOf_32 : decode cX2_balanceOf 32 = .ok (.aload_n 0, 1) := by decide +kernel
theorem dX2_balanceOf_33 : decode cX2_balanceOf 33 = .ok (.getfield 27, 3) := by decide +kernel
theorem dX2_balanceOf_36 : decode cX2_balanceOf 36 = .ok (.iload_n 1, 1) := by decide +kernel
theorem dX2_balanceOf_37 : decode cX2_balanceOf 37 = .ok (.iaload, 1) := by decide +kernel
theorem dX2_balanceOf_38 : decode cX2_balanceOf 38 = .ok (.isub, 1) := by decide +kernel
theorem dX2_balanceOf_39 : decode cX2_balanceOf 39 = .ok (.aload_n 0, 1) := by decide +kernel
theorem dX2_balanceOf_40 : decode cX2_balanceOf 40 = .ok (.getfield 30, 3) := by decide +kernel
theorem dX2_balanceOf_43 : decode cX2_balanceOf 43 = .ok (.iload_n 1, 1) := by decide +kernel
theorem dX2_balanceOf_44 : decode cX2_balanceOf 44 = .ok (.iaload, 1) := by decide +kernel
theorem dX2_balanceOf_45 : decode cX2_balanceOf 45 = .ok (.isub, 1) := by decide +kernel
theorem dX2_balanceOf_46 : decode cX2_balanceOf 46 = .ok (.ireturn, 1) := by decide +kernel
set_option maxRecDepth 20000 in
theorem ggX2_takeIn_X2_receive : GoodIn wsX2_takeIn wsX2_receive := goodIn_r _ [7, 8, 9, 10, 11, 12, 13, 14, 15, 16, 17] (by decide +kernel) (by decide +kernel)
set_option maxRecDepth 20000 in
theorem gX2_takeIn_X2_receive : GoodIn wsX2_takeIn (wsV RX2 43 RX2 yX2_receive wsX2_receive) := goodIn_app (goodIn_of _ (by decide +kernel)) ggX2_takeIn_X2_receive
theorem dX2_takeIn_0 : decode cX2_takeIn 0 = .ok (.aload_n 0, 1) := by decide +kernel
theorem dX2_takeIn_1 : decode cX2_takeIn 1 = .ok (.iconst 0, 1) := by decide +kernel
theorem dX2_takeIn_2 : decode cX2_takeIn 2 = .ok (.aload_n 0, 1) := by decide +kernel
theorem dX2_takeIn_3 : decode cX2_takeIn 3 = .ok (.getfield 33, 3) := by decide +kernel
theorem dX2_takeIn_6 : decode cX2_takeIn 6 = .ok (.invokevirtual 43, 3) := by decide +kernel
theorem dX2_takeIn_9 : decode cX2_takeIn 9 = .ok (.iconst 0, 1) := by decide +kernel
theorem dX2_takeIn_10 : decode cX2_takeIn 10 = .ok (.istore_n 1, 1) := by decide +kernel
theorem dX2_takeIn_11 : decode cX2_takeIn 11 = .ok (.iload_n 1, 1) := by decide +kernel
theorem dX2_takeIn_12 : decode cX2_takeIn 12 = .ok (.bipush 8, 2) := by decide +kernel
theorem dX2_takeIn_14 : decode cX2_takeIn 14 = .ok (.if_icmp .ge 27, 3) := by decide +kernel
theorem dX2_takeIn_17 : decode cX2_takeIn 17 = .ok (.aload_n 0, 1) := by decide +kernel
theorem dX2_takeIn_18 : decode cX2_takeIn 18 = .ok (.iload_n 1, 1) := by decide +kernel
theorem dX2_takeIn_19 : decode cX2_takeIn 19 = .ok (.aload_n 0, 1) := by decide +kernel
theorem dX2_takeIn_20 : decode cX2_takeIn 20 = .ok (.getfield 21, 3) := by decide +kernel
theorem dX2_takeIn_23 : decode cX2_takeIn 23 = .ok (.iload_n 1, 1) := by decide +kernel
theorem dX2_takeIn_24 : decode cX2_takeIn 24 = .ok (.iaload, 1) := by decide +kernel
theorem dX2_takeIn_25 : decode cX2_takeIn 25 = .ok (.invokevirtual 43, 3) := by decide +kernel
theorem dX2_takeIn_28 : decode cX2_takeIn 28 = .ok (.aload_n 0, 1) := by decide +kernel
theorem dX2_takeIn_29 : decode cX2_takeIn 29 = .ok (.getfield 21, 3) := by decide +kernel
theorem dX2_takeIn_32 : decode cX2_takeIn 32 = .ok (.iload_n 1, 1) := by decide +kernel
theorem dX2_takeIn_33 : decode cX2_takeIn 33 = .ok (.iconst 0, 1) := by decide +kernel
theorem dX2_takeIn_34 : decode cX2_takeIn 34 = .ok (.iastore, 1) := by decide +kernel
theorem dX2_takeIn_35 : decode cX2_takeIn 35 = .ok (.iinc 1 1, 3) := by decide +kernel
theorem dX2_takeIn_38 : decode cX2_takeIn 38 = .ok (.goto (-27), 3) := by decide +kernel
theorem dX2_takeIn_41 : decode cX2_takeIn 41 = .ok (.return_, 1) := by decide +kernel
theorem dX2_receive_0 : decode cX2_receive 0 = .ok (.aload_n 0, 1) := by decide +kernel
theorem dX2_receive_1 : decode cX2_receive 1 = .ok (.getfield 18, 3) := by decide +kernel
theorem dX2_receive_4 : decode cX2_receive 4 = .ok (.iload_n 1, 1) := by decide +kernel
theorem dX2_receive_5 : decode cX2_receive 5 = .ok (.dup2, 1) := by decide +kernel
theorem dX2_receive_6 : decode cX2_receive 6 = .ok (.iaload, 1) := by decide +kernel
theorem dX2_receive_7 : decode cX2_receive 7 = .ok (.iload_n 2, 1) := by decide +kernel
theorem dX2_receive_8 : decode cX2_receive 8 = .ok (.iadd, 1) := by decide +kernel
theorem dX2_receive_9 : decode cX2_receive 9 = .ok (.iastore, 1) := by decide +kernel
theorem dX2_receive_10 : decode cX2_receive 10 = .ok (.aload_n 0, 1) := by decide +kernel
theorem dX2_receive_11 : decode cX2_receive 11 = .ok (.getfield 24, 3) := by decide +kernel
theorem dX2_receive_14 : decode cX2_receive 14 = .ok (.iload_n 1, 1) := by decide +kernel
theorem dX2_receive_15 : decode cX2_receive 15 = .ok (.dup2, 1) := by decide +kernel
theorem dX2_receive_16 : decode cX2_receive 16 = .ok (.iaload, 1) := by decide +kernel
theorem dX2_receive_17 : decode cX2_receive 17 = .ok (.iload_n 2, 1) := by decide +kernel
theorem dX2_receive_18 : decode cX2_receive 18 = .ok (.iadd, 1) := by decide +kernel
theorem dX2_receive_19 : decode cX2_receive 19 = .ok (.iastore, 1) := by decide +kernel
theorem dX2_receive_20 : decode cX2_receive 20 = .ok (.return_, 1) := by decide +kernel
set_option maxRecDepth 20000 in
theorem ggX2_letThrough_X0_mostThrough : GoodIn wsX2_letThrough wsX0_mostThrough := goodIn_r _ [11, 12, 13, 27, 28, 29, 30, 31, 32, 33, 34] (by decide +kernel) (by decide +kernel)
set_option maxRecDepth 20000 in
theorem gX2_letThrough_X0_mostThrough : GoodIn wsX2_letThrough (wsV RX2 47 RX0 yX0_mostThrough wsX0_mostThrough) := goodIn_app (goodIn_of _ (by decide +kernel)) ggX2_letThrough_X0_mostThrough
set_option maxRecDepth 20000 in
theorem ggX2_letThrough_X2_moveOn : GoodIn wsX2_letThrough wsX2_moveOn := goodIn_r _ [18, 1, 19, 20, 21, 22, 23, 24, 25, 26] (by decide +kernel) (by decide +kernel)
set_option maxRecDepth 20000 in
theorem gX2_letThrough_X2_moveOn : GoodIn wsX2_letThrough (wsV RX2 59 RX2 yX2_moveOn wsX2_moveOn) := goodIn_app (goodIn_of _ (by decide +kernel)) ggX2_letThrough_X2_moveOn
theorem dX2_letThrough_0 : decode cX2_letThrough 0 = .ok (.bipush 7, 2) := by decide +kernel
theorem dX2_letThrough_2 : decode cX2_letThrough 2 = .ok (.istore_n 2, 1) := by decide +kernel
theorem dX2_letThrough_3 : decode cX2_letThrough 3 = .ok (.iload_n 2, 1) := by decide +kernel
theorem dX2_letThrough_4 : decode cX2_letThrough 4 = .ok (.ifCond .lt 40, 3) := by decide +kernel
theorem dX2_letThrough_7 : decode cX2_letThrough 7 = .ok (.aload_n 1, 1) := by decide +kernel
theorem dX2_letThrough_8 : decode cX2_letThrough 8 = .ok (.iload_n 2, 1) := by decide +kernel
theorem dX2_letThrough_9 : decode cX2_letThrough 9 = .ok (.invokevirtual 47, 3) := by decide +kernel
theorem dX2_letThrough_12 : decode cX2_letThrough 12 = .ok (.aload_n 0, 1) := by decide +kernel
theorem dX2_letThrough_13 : decode cX2_letThrough 13 = .ok (.getfield 18, 3) := by decide +kernel
theorem dX2_letThrough_16 : decode cX2_letThrough 16 = .ok (.iload_n 2, 1) := by decide +kernel
theorem dX2_letThrough_17 : decode cX2_letThrough 17 = .ok (.iaload, 1) := by decide +kernel
theorem dX2_letThrough_18 : decode cX2_letThrough 18 = .ok (.invokestatic 53, 3) := by decide +kernel
theorem dX2_letThrough_21 : decode cX2_letThrough 21 = .ok (.istore_n 3, 1) := by decide +kernel
theorem dX2_letThrough_22 : decode cX2_letThrough 22 = .ok (.aload_n 0, 1) := by decide +kernel
theorem dX2_letThrough_23 : decode cX2_letThrough 23 = .ok (.getfield 27, 3) := by decide +kernel
theorem dX2_letThrough_26 : decode cX2_letThrough 26 = .ok (.iload_n 2, 1) := by decide +kernel
theorem dX2_letThrough_27 : decode cX2_letThrough 27 = .ok (.dup2, 1) := by decide +kernel
theorem dX2_letThrough_28 : decode cX2_letThrough 28 = .ok (.iaload, 1) := by decide +kernel
theorem dX2_letThrough_29 : decode cX2_letThrough 29 = .ok (.iload_n 3, 1) := by decide +kernel
theorem dX2_letThrough_30 : decode cX2_letThrough 30 = .ok (.iadd, 1) := by decide +kernel
theorem dX2_letThrough_31 : decode cX2_letThrough 31 = .ok (.iastore, 1) := by decide +kernel
theorem dX2_letThrough_32 : decode cX2_letThrough 32 = .ok (.aload_n 0, 1) := by decide +kernel
theorem dX2_letThrough_33 : decode cX2_letThrough 33 = .ok (.iload_n 2, 1) := by decide +kernel
theorem dX2_letThrough_34 : decode cX2_letThrough 34 = .ok (.iload_n 3, 1) := by decide +kernel
theorem dX2_letThrough_35 : decode cX2_letThrough 35 = .ok (.invokevirtual 59, 3) := by decide +kernel
theorem dX2_letThrough_38 : decode cX2_letThrough 38 = .ok (.iinc 2 (-1), 3) := by decide +kernel
theorem dX2_letThrough_41 : decode cX2_letThrough 41 = .ok (.goto (-38), 3) := by decide +kernel
theorem dX2_letThrough_44 : decode cX2_letThrough 44 = .ok (.return_, 1) := by decide +kernel
set_option maxRecDepth 20000 in
theorem ggX2_spillOver_X2_moveOn : GoodIn wsX2_spillOver wsX2_moveOn := goodIn_r _ [13, 1, 14, 15, 16, 17, 18, 19, 20, 21] (by decide +kernel) (by decide +kernel)
set_option maxRecDepth 20000 in
theorem gX2_spillOver_X2_moveOn : GoodIn wsX2_spillOver (wsV RX2 59 RX2 yX2_moveOn wsX2_moveOn) := goodIn_app (goodIn_of _ (by decide +kernel)) ggX2_spillOver_X2_moveOn
theorem dX2_spillOver_0 : decode cX2_spillOver 0 = .ok (.iconst 0, 1) := by decide +kernel
theorem dX2_spillOver_1 : decode cX2_spillOver 1 = .ok (.istore_n 1, 1) := by decide +kernel
theorem dX2_spillOver_2 : decode cX2_spillOver 2 = .ok (.iconst 0, 1) := by decide +kernel
theorem dX2_spillOver_3 : decode cX2_spillOver 3 = .ok (.istore_n 2, 1) := by decide +kernel
theorem dX2_spillOver_4 : decode cX2_spillOver 4 = .ok (.iload_n 2, 1) := by decide +kernel
theorem dX2_spillOver_5 : decode cX2_spillOver 5 = .ok (.bipush 8, 2) := by decide +kernel
theorem dX2_spillOver_7 : decode cX2_spillOver 7 = .ok (.if_icmp .ge 54, 3) := by decide +kernel
theorem dX2_spillOver_10 : decode cX2_spillOver 10 = .ok (.aload_n 0, 1) := by decide +kernel
theorem dX2_spillOver_11 : decode cX2_spillOver 11 = .ok (.getfield 18, 3) := by decide +kernel
theorem dX2_spillOver_14 : decode cX2_spillOver 14 = .ok (.iload_n 2, 1) := by decide +kernel
theorem dX2_spillOver_15 : decode cX2_spillOver 15 = .ok (.iaload, 1) := by decide +kernel
theorem dX2_spillOver_16 : decode cX2_spillOver 16 = .ok (.aload_n 0, 1) := by decide +kernel
theorem dX2_spillOver_17 : decode cX2_spillOver 17 = .ok (.getfield 9, 3) := by decide +kernel
theorem dX2_spillOver_20 : decode cX2_spillOver 20 = .ok (.iload_n 2, 1) := by decide +kernel
theorem dX2_spillOver_21 : decode cX2_spillOver 21 = .ok (.iaload, 1) := by decide +kernel
theorem dX2_spillOver_22 : decode cX2_spillOver 22 = .ok (.aload_n 0, 1) := by decide +kernel
theorem dX2_spillOver_23 : decode cX2_spillOver 23 = .ok (.getfield 15, 3) := by decide +kernel
theorem dX2_spillOver_26 : decode cX2_spillOver 26 = .ok (.iload_n 2, 1) := by decide +kernel
theorem dX2_spillOver_27 : decode cX2_spillOver 27 = .ok (.iaload, 1) := by decide +kernel
theorem dX2_spillOver_28 : decode cX2_spillOver 28 = .ok (.imul, 1) := by decide +kernel
theorem dX2_spillOver_29 : decode cX2_spillOver 29 = .ok (.isub, 1) := by decide +kernel
theorem dX2_spillOver_30 : decode cX2_spillOver 30 = .ok (.iconst 0, 1) := by decide +kernel
theorem dX2_spillOver_31 : decode cX2_spillOver 31 = .ok (.invokestatic 62, 3) := by decide +kernel
theorem dX2_spillOver_34 : decode cX2_spillOver 34 = .ok (.istore_n 3, 1) := by decide +kernel
theorem dX2_spillOver_35 : decode cX2_spillOver 35 = .ok (.aload_n 0, 1) := by decide +kernel
theorem dX2_spillOver_36 : decode cX2_spillOver 36 = .ok (.getfield 30, 3) := by decide +kernel
theorem dX2_spillOver_39 : decode cX2_spillOver 39 = .ok (.iload_n 2, 1) := by decide +kernel
theorem dX2_spillOver_40 : decode cX2_spillOver 40 = .ok (.dup2, 1) := by decide +kernel
theorem dX2_spillOver_41 : decode cX2_spillOver 41 = .ok (.iaload, 1) := by decide +kernel
theorem dX2_spillOver_42 : decode cX2_spillOver 42 = .ok (.iload_n 3, 1) := by decide +kernel
theorem dX2_spillOver_43 : decode cX2_spillOver 43 = .ok (.iadd, 1) := by decide +kernel
theorem dX2_spillOver_44 : decode cX2_spillOver 44 = .ok (.iastore, 1) := by decide +kernel
theorem dX2_spillOver_45 : decode cX2_spillOver 45 = .ok (.aload_n 0, 1) := by decide +kernel
theorem dX2_spillOver_46 : decode cX2_spillOver 46 = .ok (.iload_n 2, 1) := by decide +kernel
theorem dX2_spillOver_47 : decode cX2_spillOver 47 = .ok (.iload_n 3, 1) := by decide +kernel
theorem dX2_spillOver_48 : decode cX2_spillOver 48 = .ok (.invokevirtual 59, 3) := by decide +kernel
theorem dX2_spillOver_51 : decode cX2_spillOver 51 = .ok (.iload_n 1, 1) := by decide +kernel
theorem dX2_spillOver_52 : decode cX2_spillOver 52 = .ok (.iload_n 3, 1) := by decide +kernel
theorem dX2_spillOver_53 : decode cX2_spillOver 53 = .ok (.iadd, 1) := by decide +kernel
theorem dX2_spillOver_54 : decode cX2_spillOver 54 = .ok (.istore_n 1, 1) := by decide +kernel
theorem dX2_spillOver_55 : decode cX2_spillOver 55 = .ok (.iinc 2 1, 3) := by decide +kernel
theorem dX2_spillOver_58 : decode cX2_spillOver 58 = .ok (.goto (-54), 3) := by decide +kernel
theorem dX2_spillOver_61 : decode cX2_spillOver 61 = .ok (.iload_n 1, 1) := by decide +kernel
theorem dX2_spillOver_62 : decode cX2_spillOver 62 = .ok (.ireturn, 1) := by decide +kernel
theorem dX2_moveOn_0 : decode cX2_moveOn 0 = .ok (.aload_n 0, 1) := by decide +kernel
theorem dX2_moveOn_1 : decode cX2_moveOn 1 = .ok (.getfield 18, 3) := by decide +kernel
theorem dX2_moveOn_4 : decode cX2_moveOn 4 = .ok (.iload_n 1, 1) := by decide +kernel
theorem dX2_moveOn_5 : decode cX2_moveOn 5 = .ok (.dup2, 1) := by decide +kernel
theorem dX2_moveOn_6 : decode cX2_moveOn 6 = .ok (.iaload, 1) := by decide +kernel
theorem dX2_moveOn_7 : decode cX2_moveOn 7 = .ok (.iload_n 2, 1) := by decide +kernel
theorem dX2_moveOn_8 : decode cX2_moveOn 8 = .ok (.isub, 1) := by decide +kernel
theorem dX2_moveOn_9 : decode cX2_moveOn 9 = .ok (.iastore, 1) := by decide +kernel
theorem dX2_moveOn_10 : decode cX2_moveOn 10 = .ok (.iload_n 1, 1) := by decide +kernel
theorem dX2_moveOn_11 : decode cX2_moveOn 11 = .ok (.iconst 1, 1) := by decide +kernel
theorem dX2_moveOn_12 : decode cX2_moveOn 12 = .ok (.iadd, 1) := by decide +kernel
theorem dX2_moveOn_13 : decode cX2_moveOn 13 = .ok (.istore_n 3, 1) := by decide +kernel
theorem dX2_moveOn_14 : decode cX2_moveOn 14 = .ok (.iload_n 3, 1) := by decide +kernel
theorem dX2_moveOn_15 : decode cX2_moveOn 15 = .ok (.bipush 8, 2) := by decide +kernel
theorem dX2_moveOn_17 : decode cX2_moveOn 17 = .ok (.if_icmp .ge 13, 3) := by decide +kernel
theorem dX2_moveOn_20 : decode cX2_moveOn 20 = .ok (.aload_n 0, 1) := by decide +kernel
theorem dX2_moveOn_21 : decode cX2_moveOn 21 = .ok (.getfield 18, 3) := by decide +kernel
theorem dX2_moveOn_24 : decode cX2_moveOn 24 = .ok (.iload_n 3, 1) := by decide +kernel
theorem dX2_moveOn_25 : decode cX2_moveOn 25 = .ok (.dup2, 1) := by decide +kernel
theorem dX2_moveOn_26 : decode cX2_moveOn 26 = .ok (.iaload, 1) := by decide +kernel
theorem dX2_moveOn_27 : decode cX2_moveOn 27 = .ok (.iload_n 2, 1) := by decide +kernel
theorem dX2_moveOn_28 : decode cX2_moveOn 28 = .ok (.iadd, 1) := by decide +kernel
theorem dX2_moveOn_29 : decode cX2_moveOn 29 = .ok (.iastore, 1) := by decide +kernel
theorem dX2_moveOn_30 : decode cX2_moveOn 30 = .ok (.return_, 1) := by decide +kernel
theorem dJ7_fill_53178_0 : decode cJ7_fill_53178 0 = .ok (.iconst 0, 1) := by decide +kernel
theorem dJ7_fill_53178_1 : decode cJ7_fill_53178 1 = .ok (.istore_n 2, 1) := by decide +kernel
theorem dJ7_fill_53178_2 : decode cJ7_fill_53178 2 = .ok (.aload_n 0, 1) := by decide +kernel
theorem dJ7_fill_53178_3 : decode cJ7_fill_53178 3 = .ok (.arraylength, 1) := by decide +kernel
theorem dJ7_fill_53178_4 : decode cJ7_fill_53178 4 = .ok (.istore_n 3, 1) := by decide +kernel
theorem dJ7_fill_53178_5 : decode cJ7_fill_53178 5 = .ok (.iload_n 2, 1) := by decide +kernel
theorem dJ7_fill_53178_6 : decode cJ7_fill_53178 6 = .ok (.iload_n 3, 1) := by decide +kernel
theorem dJ7_fill_53178_7 : decode cJ7_fill_53178 7 = .ok (.if_icmp .ge 13, 3) := by decide +kernel
theorem dJ7_fill_53178_10 : decode cJ7_fill_53178 10 = .ok (.aload_n 0, 1) := by decide +kernel
theorem dJ7_fill_53178_11 : decode cJ7_fill_53178 11 = .ok (.iload_n 2, 1) := by decide +kernel
theorem dJ7_fill_53178_12 : decode cJ7_fill_53178 12 = .ok (.iload_n 1, 1) := by decide +kernel
theorem dJ7_fill_53178_13 : decode cJ7_fill_53178 13 = .ok (.iastore, 1) := by decide +kernel
theorem dJ7_fill_53178_14 : decode cJ7_fill_53178 14 = .ok (.iinc 2 1, 3) := by decide +kernel
theorem dJ7_fill_53178_17 : decode cJ7_fill_53178 17 = .ok (.goto (-12), 3) := by decide +kernel
theorem dJ7_fill_53178_20 : decode cJ7_fill_53178 20 = .ok (.return_, 1) := by decide +kernel
