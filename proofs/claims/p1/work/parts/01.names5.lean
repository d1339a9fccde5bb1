theorem dX12_laysChains_87 : decode cX12_laysChains 87 = .ok (.iastore, 1) := by decide +kernel
theorem dX12_laysChains_88 : decode cX12_laysChains 88 = .ok (.iinc 1 (-1), 3) := by decide +kernel
theorem dX12_laysChains_91 : decode cX12_laysChains 91 = .ok (.goto (-81), 3) := by decide +kernel
theorem dX12_laysChains_94 : decode cX12_laysChains 94 = .ok (.return_, 1) := by decide +kernel
set_option maxRecDepth 20000 in
theorem ggX12_longest_X12_laysChains : GoodIn wsX12_longest wsX12_laysChains := goodIn_r _ [7, 1, 2, 8, 9, 6, 10, 11, 12, 13, 14, 15, 16, 17, 18, 19, 20, 21, 22, 23, 24, 25, 26, 27, 28, 29, 30, 31, 32, 33, 34, 35, 36, 37, 38, 39, 40, 41, 42, 43, 44, 45, 46, 47, 48, 49, 50, 51, 52, 53, 54, 55, 56, 57, 58, 59, 60, 61, 62, 63, 64, 65] (by decide +kernel) (by decide +kernel)
set_option maxRecDepth 20000 in
theorem gX12_longest_X12_laysChains : GoodIn wsX12_longest (wsV RX12 128 RX12 yX12_laysChains wsX12_laysChains) := goodIn_app (goodIn_of _ (by decide +kernel)) ggX12_longest_X12_laysChains
set_option maxRecDepth 20000 in
theorem ggX12_longest_X12_greater : GoodIn wsX12_longest wsX12_greater := goodIn_r _ [17] (by decide +kernel) (by decide +kernel)
set_option maxRecDepth 20000 in
theorem gX12_longest_X12_greater : GoodIn wsX12_longest (va_wsS RX12 327 yX12_greater wsX12_greater) := goodIn_app (goodIn_of _ (by decide +kernel)) ggX12_longest_X12_greater
theorem dX12_longest_0 : decode cX12_longest 0 = .ok (.aload_n 0, 1) := by decide +kernel
theorem dX12_longest_1 : decode cX12_longest 1 = .ok (.invokevirtual 128, 3) := by decide +kernel
theorem dX12_longest_4 : decode cX12_longest 4 = .ok (.iconst 0, 1) := by decide +kernel
theorem dX12_longest_5 : decode cX12_longest 5 = .ok (.istore_n 1, 1) := by decide +kernel
theorem dX12_longest_6 : decode cX12_longest 6 = .ok (.iconst 0, 1) := by decide +kernel
theorem dX12_longest_7 : decode cX12_longest 7 = .ok (.istore_n 2, 1) := by decide +kernel
theorem dX12_longest_8 : decode cX12_longest 8 = .ok (.iload_n 2, 1) := by decide +kernel
theorem dX12_longest_9 : decode cX12_longest 9 = .ok (.aload_n 0, 1) := by decide +kernel
theorem dX12_longest_10 : decode cX12_longest 10 = .ok (.getfield 24, 3) := by decide +kernel
theorem dX12_longest_13 : decode cX12_longest 13 = .ok (.bipush 102, 2) := by decide +kernel
theorem dX12_longest_15 : decode cX12_longest 15 = .ok (.iaload, 1) := by decide +kernel
theorem dX12_longest_16 : decode cX12_longest 16 = .ok (.if_icmp .ge 20, 3) := by decide +kernel
theorem dX12_longest_19 : decode cX12_longest 19 = .ok (.iload_n 1, 1) := by decide +kernel
theorem dX12_longest_20 : decode cX12_longest 20 = .ok (.aload_n 0, 1) := by decide +kernel
theorem dX12_longest_21 : decode cX12_longest 21 = .ok (.getfield 74, 3) := by decide +kernel
theorem dX12_longest_24 : decode cX12_longest 24 = .ok (.iload_n 2, 1) := by decide +kernel
theorem dX12_longest_25 : decode cX12_longest 25 = .ok (.iaload, 1) := by decide +kernel
theorem dX12_longest_26 : decode cX12_longest 26 = .ok (.invokestatic 327, 3) := by decide +kernel
theorem dX12_longest_29 : decode cX12_longest 29 = .ok (.istore_n 1, 1) := by decide +kernel
theorem dX12_longest_30 : decode cX12_longest 30 = .ok (.iinc 2 1, 3) := by decide +kernel
theorem dX12_longest_33 : decode cX12_longest 33 = .ok (.goto (-25), 3) := by decide +kernel
theorem dX12_longest_36 : decode cX12_longest 36 = .ok (.iload_n 1, 1) := by decide +kernel
theorem dX12_longest_37 : decode cX12_longest 37 = .ok (.ireturn, 1) := by decide +kernel
set_option maxRecDepth 20000 in
theorem ggX12_canFollow_X12_isIn : GoodIn wsX12_canFollow wsX12_isIn := goodIn_r _ [5] (by decide +kernel) (by decide +kernel)
set_option maxRecDepth 20000 in
theorem gX12_canFollow_X12_isIn : GoodIn wsX12_canFollow (va_wsS RX12 302 yX12_isIn wsX12_isIn) := goodIn_app (goodIn_of _ (by decide +kernel)) ggX12_canFollow_X12_isIn
theorem dX12_canFollow_0 : decode cX12_canFollow 0 = .ok (.iload_n 1, 1) := by decide +kernel
theorem dX12_canFollow_1 : decode cX12_canFollow 1 = .ok (.iload_n 2, 1) := by decide +kernel
theorem dX12_canFollow_2 : decode cX12_canFollow 2 = .ok (.invokestatic 302, 3) := by decide +kernel
theorem dX12_canFollow_5 : decode cX12_canFollow 5 = .ok (.ifCond .ne 23, 3) := by decide +kernel
theorem dX12_canFollow_8 : decode cX12_canFollow 8 = .ok (.aload_n 0, 1) := by decide +kernel
theorem dX12_canFollow_9 : decode cX12_canFollow 9 = .ok (.getfield 24, 3) := by decide +kernel
theorem dX12_canFollow_12 : decode cX12_canFollow 12 = .ok (.bipush 33, 2) := by decide +kernel
theorem dX12_canFollow_14 : decode cX12_canFollow 14 = .ok (.iload_n 2, 1) := by decide +kernel
theorem dX12_canFollow_15 : decode cX12_canFollow 15 = .ok (.iadd, 1) := by decide +kernel
theorem dX12_canFollow_16 : decode cX12_canFollow 16 = .ok (.iaload, 1) := by decide +kernel
theorem dX12_canFollow_17 : decode cX12_canFollow 17 = .ok (.iload_n 1, 1) := by decide +kernel
theorem dX12_canFollow_18 : decode cX12_canFollow 18 = .ok (.iconst (-1), 1) := by decide +kernel
theorem dX12_canFollow_19 : decode cX12_canFollow 19 = .ok (.ixor, 1) := by decide +kernel
theorem dX12_canFollow_20 : decode cX12_canFollow 20 = .ok (.iand, 1) := by decide +kernel
theorem dX12_canFollow_21 : decode cX12_canFollow 21 = .ok (.ifCond .ne 7, 3) := by decide +kernel
theorem dX12_canFollow_24 : decode cX12_canFollow 24 = .ok (.iconst 1, 1) := by decide +kernel
theorem dX12_canFollow_25 : decode cX12_canFollow 25 = .ok (.goto 4, 3) := by decide +kernel
theorem dX12_canFollow_28 : decode cX12_canFollow 28 = .ok (.iconst 0, 1) := by decide +kernel
theorem dX12_canFollow_29 : decode cX12_canFollow 29 = .ok (.ireturn, 1) := by decide +kernel
set_option maxRecDepth 20000 in
theorem ggX12_laysOrders_X12_allParts : GoodIn wsX12_laysOrders wsX12_allParts := goodIn_r _ [7, 2, 15, 16, 17, 18, 19, 20, 21, 22, 23, 24, 25, 26, 27, 28, 29, 30, 31, 32, 33, 34, 35, 36, 37, 38, 39, 40, 41, 42, 43, 44, 45, 46, 47, 48, 49, 50, 51, 52, 53, 54, 55, 56, 57, 58, 59, 60, 61, 62] (by decide +kernel) (by decide +kernel)
set_option maxRecDepth 20000 in
theorem gX12_laysOrders_X12_allParts : GoodIn wsX12_laysOrders (wsV RX12 363 RX12 yX12_allParts wsX12_allParts) := goodIn_app (goodIn_of _ (by decide +kernel)) ggX12_laysOrders_X12_allParts
set_option maxRecDepth 20000 in
theorem ggX12_laysOrders_X12_canFollow : GoodIn wsX12_laysOrders wsX12_canFollow := goodIn_r _ [11, 2, 12, 13, 6, 14, 15, 16, 17, 18, 19, 20, 21, 22, 23, 24, 25, 26, 27, 28, 29, 30, 31, 32, 33, 34, 35, 36, 37, 38, 39, 40, 41, 42, 43, 44, 45, 46, 47, 48, 49, 50, 51, 52, 53, 54, 55, 56, 57, 58, 59, 60, 61, 62] (by decide +kernel) (by decide +kernel)
set_option maxRecDepth 20000 in
theorem gX12_laysOrders_X12_canFollow : GoodIn wsX12_laysOrders (wsV RX12 366 RX12 yX12_canFollow wsX12_canFollow) := goodIn_app (goodIn_of _ (by decide +kernel)) ggX12_laysOrders_X12_canFollow
theorem dX12_laysOrders_0 : decode cX12_laysOrders 0 = .ok (.aload_n 0, 1) := by decide +kernel
theorem dX12_laysOrders_1 : decode cX12_laysOrders 1 = .ok (.invokevirtual 363, 3) := by decide +kernel
theorem dX12_laysOrders_4 : decode cX12_laysOrders 4 = .ok (.istore_n 1, 1) := by decide +kernel
theorem dX12_laysOrders_5 : decode cX12_laysOrders 5 = .ok (.aload_n 0, 1) := by decide +kernel
theorem dX12_laysOrders_6 : decode cX12_laysOrders 6 = .ok (.getfield 77, 3) := by decide +kernel
theorem dX12_laysOrders_9 : decode cX12_laysOrders 9 = .ok (.iload_n 1, 1) := by decide +kernel
theorem dX12_laysOrders_10 : decode cX12_laysOrders 10 = .ok (.iconst 1, 1) := by decide +kernel
theorem dX12_laysOrders_11 : decode cX12_laysOrders 11 = .ok (.iastore, 1) := by decide +kernel
theorem dX12_laysOrders_12 : decode cX12_laysOrders 12 = .ok (.iload_n 1, 1) := by decide +kernel
theorem dX12_laysOrders_13 : decode cX12_laysOrders 13 = .ok (.iconst 1, 1) := by decide +kernel
theorem dX12_laysOrders_14 : decode cX12_laysOrders 14 = .ok (.isub, 1) := by decide +kernel
theorem dX12_laysOrders_15 : decode cX12_laysOrders 15 = .ok (.istore_n 2, 1) := by decide +kernel
theorem dX12_laysOrders_16 : decode cX12_laysOrders 16 = .ok (.iload_n 2, 1) := by decide +kernel
theorem dX12_laysOrders_17 : decode cX12_laysOrders 17 = .ok (.ifCond .lt 67, 3) := by decide +kernel
theorem dX12_laysOrders_20 : decode cX12_laysOrders 20 = .ok (.iconst 0, 1) := by decide +kernel
theorem dX12_laysOrders_21 : decode cX12_laysOrders 21 = .ok (.istore_n 3, 1) := by decide +kernel
theorem dX12_laysOrders_22 : decode cX12_laysOrders 22 = .ok (.iconst 0, 1) := by decide +kernel
theorem dX12_laysOrders_23 : decode cX12_laysOrders 23 = .ok (.istore 4, 2) := by decide +kernel
theorem dX12_laysOrders_25 : decode cX12_laysOrders 25 = .ok (.iload 4, 2) := by decide +kernel
theorem dX12_laysOrders_27 : decode cX12_laysOrders 27 = .ok (.aload_n 0, 1) := by decide +kernel
theorem dX12_laysOrders_28 : decode cX12_laysOrders 28 = .ok (.getfield 24, 3) := by decide +kernel
theorem dX12_laysOrders_31 : decode cX12_laysOrders 31 = .ok (.bipush 102, 2) := by decide +kernel
theorem dX12_laysOrders_33 : decode cX12_laysOrders 33 = .ok (.iaload, 1) := by decide +kernel
theorem dX12_laysOrders_34 : decode cX12_laysOrders 34 = .ok (.if_icmp .ge 37, 3) := by decide +kernel
theorem dX12_laysOrders_37 : decode cX12_laysOrders 37 = .ok (.iload_n 3, 1) := by decide +kernel
theorem dX12_laysOrders_38 : decode cX12_laysOrders 38 = .ok (.aload_n 0, 1) := by decide +kernel
theorem dX12_laysOrders_39 : decode cX12_laysOrders 39 = .ok (.iload_n 2, 1) := by decide +kernel
theorem dX12_laysOrders_40 : decode cX12_laysOrders 40 = .ok (.iload 4, 2) := by decide +kernel
theorem dX12_laysOrders_42 : decode cX12_laysOrders 42 = .ok (.invokevirtual 366, 3) := by decide +kernel
theorem dX12_laysOrders_45 : decode cX12_laysOrders 45 = .ok (.ifCond .eq 17, 3) := by decide +kernel
theorem dX12_laysOrders_48 : decode cX12_laysOrders 48 = .ok (.aload_n 0, 1) := by decide +kernel
theorem dX12_laysOrders_49 : decode cX12_laysOrders 49 = .ok (.getfield 77, 3) := by decide +kernel
theorem dX12_laysOrders_52 : decode cX12_laysOrders 52 = .ok (.iload_n 2, 1) := by decide +kernel
theorem dX12_laysOrders_53 : decode cX12_laysOrders 53 = .ok (.iconst 1, 1) := by decide +kernel
theorem dX12_laysOrders_54 : decode cX12_laysOrders 54 = .ok (.iload 4, 2) := by decide +kernel
theorem dX12_laysOrders_56 : decode cX12_laysOrders 56 = .ok (.ishl, 1) := by decide +kernel
theorem dX12_laysOrders_57 : decode cX12_laysOrders 57 = .ok (.ior, 1) := by decide +kernel
theorem dX12_laysOrders_58 : decode cX12_laysOrders 58 = .ok (.iaload, 1) := by decide +kernel
theorem dX12_laysOrders_59 : decode cX12_laysOrders 59 = .ok (.goto 4, 3) := by decide +kernel
theorem dX12_laysOrders_62 : decode cX12_laysOrders 62 = .ok (.iconst 0, 1) := by decide +kernel
theorem dX12_laysOrders_63 : decode cX12_laysOrders 63 = .ok (.iadd, 1) := by decide +kernel
theorem dX12_laysOrders_64 : decode cX12_laysOrders 64 = .ok (.istore_n 3, 1) := by decide +kernel
theorem dX12_laysOrders_65 : decode cX12_laysOrders 65 = .ok (.iinc 4 1, 3) := by decide +kernel
theorem dX12_laysOrders_68 : decode cX12_laysOrders 68 = .ok (.goto (-43), 3) := by decide +kernel
theorem dX12_laysOrders_71 : decode cX12_laysOrders 71 = .ok (.aload_n 0, 1) := by decide +kernel
theorem dX12_laysOrders_72 : decode cX12_laysOrders 72 = .ok (.getfield 77, 3) := by decide +kernel
theorem dX12_laysOrders_75 : decode cX12_laysOrders 75 = .ok (.iload_n 2, 1) := by decide +kernel
theorem dX12_laysOrders_76 : decode cX12_laysOrders 76 = .ok (.iload_n 3, 1) := by decide +kernel
theorem dX12_laysOrders_77 : decode cX12_laysOrders 77 = .ok (.iastore, 1) := by decide +kernel
theorem dX12_laysOrders_78 : decode cX12_laysOrders 78 = .ok (.iinc 2 (-1), 3) := by decide +kernel
theorem dX12_laysOrders_81 : decode cX12_laysOrders 81 = .ok (.goto (-65), 3) := by decide +kernel
theorem dX12_laysOrders_84 : decode cX12_laysOrders 84 = .ok (.return_, 1) := by decide +kernel
set_option maxRecDepth 20000 in
theorem ggX12_rows_X12_laysOrders : GoodIn wsX12_rows wsX12_laysOrders := goodIn_r _ [7, 1, 2, 8, 9, 10, 6, 11, 12, 13, 14, 15, 16, 17, 18, 33, 34, 35, 36, 37, 38, 39, 40, 41, 42, 43, 44, 45, 46, 47, 48, 49, 50, 51, 52, 53, 54, 55, 56, 57, 58, 59, 60, 61, 62, 63, 64, 65, 66, 67, 68, 69, 70, 71, 72, 73, 74, 75, 76, 77, 78, 79, 80] (by decide +kernel) (by decide +kernel)
set_option maxRecDepth 20000 in
theorem gX12_rows_X12_laysOrders : GoodIn wsX12_rows (wsV RX12 369 RX12 yX12_laysOrders wsX12_laysOrders) := goodIn_app (goodIn_of _ (by decide +kernel)) ggX12_rows_X12_laysOrders
set_option maxRecDepth 20000 in
theorem ggX12_rows_X12_standing : GoodIn wsX12_rows wsX12_standing := goodIn_r _ [22, 2, 23, 24, 25, 6, 26, 33, 34, 35, 36, 37, 38, 39, 40, 41, 42, 43, 44, 45, 46, 47, 48, 49, 50, 51, 52, 53, 54, 55, 56, 57, 58, 59, 60, 61, 62, 63, 64, 65, 66, 67, 68, 69, 70, 71, 72, 73, 74, 75, 76, 77, 78, 79, 80] (by decide +kernel) (by decide +kernel)
set_option maxRecDepth 20000 in
theorem gX12_rows_X12_standing : GoodIn wsX12_rows (wsV RX12 118 RX12 yX12_standing wsX12_standing) := goodIn_app (goodIn_of _ (by decide +kernel)) ggX12_rows_X12_standing
set_option maxRecDepth 20000 in
theorem ggX12_rows_X12_ones : GoodIn wsX12_rows wsX12_ones := goodIn_r _ [29] (by decide +kernel) (by decide +kernel)
set_option maxRecDepth 20000 in
theorem gX12_rows_X12_ones : GoodIn wsX12_rows (va_wsS RX12 287 yX12_ones wsX12_ones) := goodIn_app (goodIn_of _ (by decide +kernel)) ggX12_rows_X12_ones
set_option maxRecDepth 20000 in
theorem ggX12_rows_X12_lies : GoodIn wsX12_rows wsX12_lies := goodIn_r _ [32] (by decide +kernel) (by decide +kernel)
set_option maxRecDepth 20000 in
theorem gX12_rows_X12_lies : GoodIn wsX12_rows (va_wsS RX12 96 yX12_lies wsX12_lies) := goodIn_app (goodIn_of _ (by decide +kernel)) ggX12_rows_X12_lies
set_option maxRecDepth 20000 in
theorem ggX12_rows_X12_canFollow : GoodIn wsX12_rows wsX12_canFollow := goodIn_r _ [15, 2, 16, 17, 6, 18, 33, 34, 35, 36, 37, 38, 39, 40, 41, 42, 43, 44, 45, 46, 47, 48, 49, 50, 51, 52, 53, 54, 55, 56, 57, 58, 59, 60, 61, 62, 63, 64, 65, 66, 67, 68, 69, 70, 71, 72, 73, 74, 75, 76, 77, 78, 79, 80] (by decide +kernel) (by decide +kernel)
set_option maxRecDepth 20000 in
theorem gX12_rows_X12_canFollow : GoodIn wsX12_rows (wsV RX12 366 RX12 yX12_canFollow wsX12_canFollow) := goodIn_app (goodIn_of _ (by decide +kernel)) ggX12_rows_X12_canFollow
theorem dX12_rows_0 : decode cX12_rows 0 = .ok (.iload_n 1, 1) := by decide +kernel
theorem dX12_rows_1 : decode cX12_rows 1 = .ok (.iconst (-1), 1) := by decide +kernel
theorem dX12_rows_2 : decode cX12_rows 2 = .ok (.if_icmp .ge 5, 3) := by decide +kernel
theorem dX12_rows_5 : decode cX12_rows 5 = .ok (.iconst (-1), 1) := by decide +kernel
theorem dX12_rows_6 : decode cX12_rows 6 = .ok (.ireturn, 1) := by decide +kernel
theorem dX12_rows_7 : decode cX12_rows 7 = .ok (.aload_n 0, 1) := by decide +kernel
theorem dX12_rows_8 : decode cX12_rows 8 = .ok (.invokevirtual 369, 3) := by decide +kernel
theorem dX12_rows_11 : decode cX12_rows 11 = .ok (.aload_n 0, 1) := by decide +kernel
theorem dX12_rows_12 : decode cX12_rows 12 = .ok (.invokevirtual 118, 3) := by decide +kernel
theorem dX12_rows_15 : decode cX12_rows 15 = .ok (.istore_n 3, 1) := by decide +kernel
theorem dX12_rows_16 : decode cX12_rows 16 = .ok (.iload_n 1, 1) := by decide +kernel
theorem dX12_rows_17 : decode cX12_rows 17 = .ok (.iconst (-1), 1) := by decide +kernel
theorem dX12_rows_18 : decode cX12_rows 18 = .ok (.if_icmp .ne 10, 3) := by decide +kernel
theorem dX12_rows_21 : decode cX12_rows 21 = .ok (.aload_n 0, 1) := by decide +kernel
theorem dX12_rows_22 : decode cX12_rows 22 = .ok (.getfield 77, 3) := by decide +kernel
theorem dX12_rows_25 : decode cX12_rows 25 = .ok (.iload_n 3, 1) := by decide +kernel
theorem dX12_rows_26 : decode cX12_rows 26 = .ok (.iaload, 1) := by decide +kernel
theorem dX12_rows_27 : decode cX12_rows 27 = .ok (.ireturn, 1) := by decide +kernel
theorem dX12_rows_28 : decode cX12_rows 28 = .ok (.iload_n 1, 1) := by decide +kernel
theorem dX12_rows_29 : decode cX12_rows 29 = .ok (.istore 4, 2) := by decide +kernel
theorem dX12_rows_31 : decode cX12_rows 31 = .ok (.iload_n 1, 1) := by decide +kernel
theorem dX12_rows_32 : decode cX12_rows 32 = .ok (.aload_n 0, 1) := by decide +kernel
theorem dX12_rows_33 : decode cX12_rows 33 = .ok (.getfield 77, 3) := by decide +kernel
theorem dX12_rows_36 : decode cX12_rows 36 = .ok (.iload_n 3, 1) := by decide +kernel
theorem dX12_rows_37 : decode cX12_rows 37 = .ok (.iaload, 1) := by decide +kernel
theorem dX12_rows_38 : decode cX12_rows 38 = .ok (.if_icmp .ge 25, 3) := by decide +kernel
theorem dX12_rows_41 : decode cX12_rows 41 = .ok (.iload_n 2, 1) := by decide +kernel
theorem dX12_rows_42 : decode cX12_rows 42 = .ok (.iconst 0, 1) := by decide +kernel
theorem dX12_rows_43 : decode cX12_rows 43 = .ok (.aload_n 0, 1) := by decide +kernel
theorem dX12_rows_44 : decode cX12_rows 44 = .ok (.getfield 24, 3) := by decide +kernel
theorem dX12_rows_47 : decode cX12_rows 47 = .ok (.bipush 102, 2) := by decide +kernel
theorem dX12_rows_49 : decode cX12_rows 49 = .ok (.iaload, 1) := by decide +kernel
theorem dX12_rows_50 : decode cX12_rows 50 = .ok (.iload_n 3, 1) := by decide +kernel
theorem dX12_rows_51 : decode cX12_rows 51 = .ok (.invokestatic 287, 3) := by decide +kernel
theorem dX12_rows_54 : decode cX12_rows 54 = .ok (.isub, 1) := by decide +kernel
theorem dX12_rows_55 : decode cX12_rows 55 = .ok (.iconst 1, 1) := by decide +kernel
theorem dX12_rows_56 : decode cX12_rows 56 = .ok (.isub, 1) := by decide +kernel
theorem dX12_rows_57 : decode cX12_rows 57 = .ok (.invokestatic 96, 3) := by decide +kernel
theorem dX12_rows_60 : decode cX12_rows 60 = .ok (.ifCond .ne 5, 3) := by decide +kernel
theorem dX12_rows_63 : decode cX12_rows 63 = .ok (.iconst (-1), 1) := by decide +kernel
theorem dX12_rows_64 : decode cX12_rows 64 = .ok (.ireturn, 1) := by decide +kernel
theorem dX12_rows_65 : decode cX12_rows 65 = .ok (.iconst (-1), 1) := by decide +kernel
theorem dX12_rows_66 : decode cX12_rows 66 = .ok (.istore 5, 2) := by decide +kernel
theorem dX12_rows_68 : decode cX12_rows 68 = .ok (.iconst 0, 1) := by decide +kernel
theorem dX12_rows_69 : decode cX12_rows 69 = .ok (.istore 6, 2) := by decide +kernel
theorem dX12_rows_71 : decode cX12_rows 71 = .ok (.iload 6, 2) := by decide +kernel
theorem dX12_rows_73 : decode cX12_rows 73 = .ok (.iload_n 2, 1) := by decide +kernel
theorem dX12_rows_74 : decode cX12_rows 74 = .ok (.if_icmp .gt 81, 3) := by decide +kernel
theorem dX12_rows_77 : decode cX12_rows 77 = .ok (.iconst 0, 1) := by decide +kernel
theorem dX12_rows_78 : decode cX12_rows 78 = .ok (.istore 5, 2) := by decide +kernel
theorem dX12_rows_80 : decode cX12_rows 80 = .ok (.aload_n 0, 1) := by decide +kernel
theorem dX12_rows_81 : decode cX12_rows 81 = .ok (.iload_n 3, 1) := by decide +kernel
theorem dX12_rows_82 : decode cX12_rows 82 = .ok (.iload 5, 2) := by decide +kernel
theorem dX12_rows_84 : decode cX12_rows 84 = .ok (.invokevirtual 366, 3) := by decide +kernel
theorem dX12_rows_87 : decode cX12_rows 87 = .ok (.ifCond .eq 19, 3) := by decide +kernel
theorem dX12_rows_90 : decode cX12_rows 90 = .ok (.iload 4, 2) := by decide +kernel
theorem dX12_rows_92 : decode cX12_rows 92 = .ok (.aload_n 0, 1) := by decide +kernel
theorem dX12_rows_93 : decode cX12_rows 93 = .ok (.getfield 77, 3) := by decide +kernel
theorem dX12_rows_96 : decode cX12_rows 96 = .ok (.iload_n 3, 1) := by decide +kernel
theorem dX12_rows_97 : decode cX12_rows 97 = .ok (.iconst 1, 1) := by decide +kernel
theorem dX12_rows_98 : decode cX12_rows 98 = .ok (.iload 5, 2) := by decide +kernel
theorem dX12_rows_100 : decode cX12_rows 100 = .ok (.ishl, 1) := by decide +kernel
theorem dX12_rows_101 : decode cX12_rows 101 = .ok (.ior, 1) := by decide +kernel
theorem dX12_rows_102 : decode cX12_rows 102 = .ok (.iaload, 1) := by decide +kernel
theorem dX12_rows_103 : decode cX12_rows 103 = .ok (.if_icmp .lt 39, 3) := by decide +kernel
theorem dX12_rows_106 : decode cX12_rows 106 = .ok (.iload 4, 2) := by decide +kernel
theorem dX12_rows_108 : decode cX12_rows 108 = .ok (.aload_n 0, 1) := by decide +kernel
theorem dX12_rows_109 : decode cX12_rows 109 = .ok (.iload_n 3, 1) := by decide +kernel
theorem dX12_rows_110 : decode cX12_rows 110 = .ok (.iload 5, 2) := by decide +kernel
theorem dX12_rows_112 : decode cX12_rows 112 = .ok (.invokevirtual 366, 3) := by decide +kernel
theorem dX12_rows_115 : decode cX12_rows 115 = .ok (.ifCond .eq 17, 3) := by decide +kernel
theorem dX12_rows_118 : decode cX12_rows 118 = .ok (.aload_n 0, 1) := by decide +kernel
theorem dX12_rows_119 : decode cX12_rows 119 = .ok (.getfield 77, 3) := by decide +kernel
theorem dX12_rows_122 : decode cX12_rows 122 = .ok (.iload_n 3, 1) := by decide +kernel
theorem dX12_rows_123 : decode cX12_rows 123 = .ok (.iconst 1, 1) := by decide +kernel
theorem dX12_rows_124 : decode cX12_rows 124 = .ok (.iload 5, 2) := by decide +kernel
theorem dX12_rows_126 : decode cX12_rows 126 = .ok (.ishl, 1) := by decide +kernel
theorem dX12_rows_127 : decode cX12_rows 127 = .ok (.ior, 1) := by decide +kernel
theorem dX12_rows_128 : decode cX12_rows 128 = .ok (.iaload, 1) := by decide +kernel
theorem dX12_rows_129 : decode cX12_rows 129 = .ok (.goto 4, 3) := by decide +kernel
theorem dX12_rows_132 : decode cX12_rows 132 = .ok (.iconst 0, 1) := by decide +kernel
theorem dX12_rows_133 : decode cX12_rows 133 = .ok (.isub, 1) := by decide +kernel
theorem dX12_rows_134 : decode cX12_rows 134 = .ok (.istore 4, 2) := by decide +kernel
theorem dX12_rows_136 : decode cX12_rows 136 = .ok (.iinc 5 1, 3) := by decide +kernel
theorem dX12_rows_139 : decode cX12_rows 139 = .ok (.goto (-59), 3) := by decide +kernel
theorem dX12_rows_142 : decode cX12_rows 142 = .ok (.iload_n 3, 1) := by decide +kernel
theorem dX12_rows_143 : decode cX12_rows 143 = .ok (.iconst 1, 1) := by decide +kernel
theorem dX12_rows_144 : decode cX12_rows 144 = .ok (.iload 5, 2) := by decide +kernel
theorem dX12_rows_146 : decode cX12_rows 146 = .ok (.ishl, 1) := by decide +kernel
theorem dX12_rows_147 : decode cX12_rows 147 = .ok (.ior, 1) := by decide +kernel
theorem dX12_rows_148 : decode cX12_rows 148 = .ok (.istore_n 3, 1) := by decide +kernel
theorem dX12_rows_149 : decode cX12_rows 149 = .ok (.iinc 6 1, 3) := by decide +kernel
theorem dX12_rows_152 : decode cX12_rows 152 = .ok (.goto (-81), 3) := by decide +kernel
theorem dX12_rows_155 : decode cX12_rows 155 = .ok (.iload 5, 2) := by decide +kernel
theorem dX12_rows_157 : decode cX12_rows 157 = .ok (.ireturn, 1) := by decide +kernel
set_option maxRecDepth 20000 in
theorem ggX12_begins_X12_laysAside : GoodIn wsX12_begins wsX12_laysAside := goodIn_r _ [6, 7, 1, 8, 9, 10, 11, 12, 13, 14, 15, 16, 17, 18, 19, 20, 21, 22, 23, 24, 25, 26, 27, 28, 29, 30, 31, 32, 33, 34, 35, 36, 37, 38, 39, 40, 41, 42, 43, 44, 45, 46, 47, 48, 49, 50, 51, 52, 53, 54, 55] (by decide +kernel) (by decide +kernel)
set_option maxRecDepth 20000 in
theorem gX12_begins_X12_laysAside : GoodIn wsX12_begins (wsV RX12 372 RX12 yX12_laysAside wsX12_laysAside) := goodIn_app (goodIn_of _ (by decide +kernel)) ggX12_begins_X12_laysAside
theorem dX12_begins_0 : decode cX12_begins 0 = .ok (.aload_n 0, 1) := by decide +kernel
theorem dX12_begins_1 : decode cX12_begins 1 = .ok (.iconst 0, 1) := by decide +kernel
theorem dX12_begins_2 : decode cX12_begins 2 = .ok (.invokevirtual 372, 3) := by decide +kernel
theorem dX12_begins_5 : decode cX12_begins 5 = .ok (.iconst 0, 1) := by decide +kernel
theorem dX12_begins_6 : decode cX12_begins 6 = .ok (.istore_n 1, 1) := by decide +kernel
theorem dX12_begins_7 : decode cX12_begins 7 = .ok (.iload_n 1, 1) := by decide +kernel
theorem dX12_begins_8 : decode cX12_begins 8 = .ok (.bipush 6, 2) := by decide +kernel
theorem dX12_begins_10 : decode cX12_begins 10 = .ok (.if_icmp .ge 19, 3) := by decide +kernel
theorem dX12_begins_13 : decode cX12_begins 13 = .ok (.aload_n 0, 1) := by decide +kernel
theorem dX12_begins_14 : decode cX12_begins 14 = .ok (.getfield 24, 3) := by decide +kernel
theorem dX12_begins_17 : decode cX12_begins 17 = .ok (.bipush 16, 2) := by decide +kernel
theorem dX12_begins_19 : decode cX12_begins 19 = .ok (.iload_n 1, 1) := by decide +kernel
theorem dX12_begins_20 : decode cX12_begins 20 = .ok (.iadd, 1) := by decide +kernel
theorem dX12_begins_21 : decode cX12_begins 21 = .ok (.iconst (-1), 1) := by decide +kernel
theorem dX12_begins_22 : decode cX12_begins 22 = .ok (.iastore, 1) := by decide +kernel
theorem dX12_begins_23 : decode cX12_begins 23 = .ok (.iinc 1 1, 3) := by decide +kernel
theorem dX12_begins_26 : decode cX12_begins 26 = .ok (.goto (-19), 3) := by decide +kernel
theorem dX12_begins_29 : decode cX12_begins 29 = .ok (.return_, 1) := by decide +kernel
set_option maxRecDepth 20000 in
theorem ggX12_bestPart_X12_isReady : GoodIn wsX12_bestPart wsX12_isReady := goodIn_r _ [7, 1, 8, 9, 10, 6, 11, 12, 13, 14, 15, 109, 110, 111, 112, 113, 114, 115, 116, 117, 118, 119, 120, 121, 122, 123, 124, 125, 126, 127, 128, 129, 130, 131, 132, 133, 134, 135, 136, 137, 138, 139, 140, 141, 142, 143, 144, 145, 146, 147, 148, 149, 150, 151, 152, 153, 154, 155, 156] (by decide +kernel) (by decide +kernel)
set_option maxRecDepth 20000 in
theorem gX12_bestPart_X12_isReady : GoodIn wsX12_bestPart (wsV RX12 125 RX12 yX12_isReady wsX12_isReady) := goodIn_app (goodIn_of _ (by decide +kernel)) ggX12_bestPart_X12_isReady
set_option maxRecDepth 20000 in
theorem ggX12_bestPart_X12_isBarred : GoodIn wsX12_bestPart wsX12_isBarred := goodIn_r _ [19, 20, 21, 22, 6, 23, 1, 24, 25, 26, 27, 28, 29, 30, 31, 32, 33, 34, 35, 36, 37, 38, 39, 40, 41, 42, 43, 44, 45, 46, 47, 48, 49, 50, 51, 52, 53, 54, 55, 56, 57, 58, 59, 60, 61, 62, 63, 64, 65, 66, 67, 68, 69, 70, 71, 72, 73, 74, 75, 76, 77, 78, 79, 80, 81, 12, 13, 14, 15, 8, 9, 10, 11, 82, 83, 84, 85, 86, 87, 88, 89, 90, 91, 92, 93, 94, 95, 96, 97, 98, 99, 100, 101, 102, 103, 104, 109, 110, 111, 112, 113, 114, 115, 116, 117, 118, 119, 120, 121, 122, 123, 124, 125, 126, 127, 128, 129, 130, 131, 132, 133, 134, 135, 136, 137, 138, 139, 140, 141, 142, 143, 144, 145, 146, 147, 148, 149, 150, 151, 152, 153, 154, 155, 156] (by decide +kernel) (by decide +kernel)
set_option maxRecDepth 20000 in
theorem gX12_bestPart_X12_isBarred : GoodIn wsX12_bestPart (wsV RX12 324 RX12 yX12_isBarred wsX12_isBarred) := goodIn_app (goodIn_of _ (by decide +kernel)) ggX12_bestPart_X12_isBarred
set_option maxRecDepth 20000 in
theorem ggX12_bestPart_X12_worksBy : GoodIn wsX12_bestPart wsX12_worksBy := goodIn_r _ [108, 1, 29, 30, 31, 6, 32, 33, 34, 35, 20, 21, 22, 23, 24, 25, 26, 27, 28, 36, 37, 38, 39, 40, 41, 42, 43, 44, 45, 46, 47, 48, 49, 50, 51, 52, 53, 54, 55, 56, 57, 58, 59, 60, 61, 62, 63, 64, 65, 66, 67, 68, 69, 70, 71, 72, 73, 74, 75, 76, 77, 78, 79, 80, 81, 12, 13, 14, 15, 8, 9, 10, 11, 82, 83, 84, 85, 86, 87, 88, 89, 90, 91, 92, 93, 94, 95, 96, 97, 98, 99, 100, 101, 102, 103, 104, 109, 110, 111, 112, 113, 114, 115, 116, 117, 118, 119, 120, 121, 122, 123, 124, 125, 126, 127, 128, 129, 130, 131, 132, 133, 134, 135, 136, 137, 138, 139, 140, 141, 142, 143, 144, 145, 146, 147, 148, 149, 150, 151, 152, 153, 154, 155, 156] (by decide +kernel) (by decide +kernel)
set_option maxRecDepth 20000 in
theorem gX12_bestPart_X12_worksBy : GoodIn wsX12_bestPart (wsV RX12 315 RX12 yX12_worksBy wsX12_worksBy) := goodIn_app (goodIn_of _ (by decide +kernel)) ggX12_bestPart_X12_worksBy
theorem dX12_bestPart_0 : decode cX12_bestPart 0 = .ok (.iconst (-1), 1) := by decide +kernel
theorem dX12_bestPart_1 : decode cX12_bestPart 1 = .ok (.istore_n 2, 1) := by decide +kernel
theorem dX12_bestPart_2 : decode cX12_bestPart 2 = .ok (.iconst 0, 1) := by decide +kernel
theorem dX12_bestPart_3 : decode cX12_bestPart 3 = .ok (.istore_n 3, 1) := by decide +kernel
theorem dX12_bestPart_4 : decode cX12_bestPart 4 = .ok (.iload_n 3, 1) := by decide +kernel
theorem dX12_bestPart_5 : decode cX12_bestPart 5 = .ok (.aload_n 0, 1) := by decide +kernel
theorem dX12_bestPart_6 : decode cX12_bestPart 6 = .ok (.getfield 24, 3) := by decide +kernel
theorem dX12_bestPart_9 : decode cX12_bestPart 9 = .ok (.bipush 102, 2) := by decide +kernel
theorem dX12_bestPart_11 : decode cX12_bestPart 11 = .ok (.iaload, 1) := by decide +kernel
theorem dX12_bestPart_12 : decode cX12_bestPart 12 = .ok (.if_icmp .ge 60, 3) := by decide +kernel
theorem dX12_bestPart_15 : decode cX12_bestPart 15 = .ok (.aload_n 0, 1) := by decide +kernel
theorem dX12_bestPart_16 : decode cX12_bestPart 16 = .ok (.iload_n 3, 1) := by decide +kernel
theorem dX12_bestPart_17 : decode cX12_bestPart 17 = .ok (.invokevirtual 125, 3) := by decide +kernel
theorem dX12_bestPart_20 : decode cX12_bestPart 20 = .ok (.ifCond .eq 46, 3) := by decide +kernel
theorem dX12_bestPart_23 : decode cX12_bestPart 23 = .ok (.iload_n 2, 1) := by decide +kernel
theorem dX12_bestPart_24 : decode cX12_bestPart 24 = .ok (.iconst (-1), 1) := by decide +kernel
theorem dX12_bestPart_25 : decode cX12_bestPart 25 = .ok (.if_icmp .eq 21, 3) := by decide +kernel
theorem dX12_bestPart_28 : decode cX12_bestPart 28 = .ok (.aload_n 0, 1) := by decide +kernel
theorem dX12_bestPart_29 : decode cX12_bestPart 29 = .ok (.getfield 74, 3) := by decide +kernel
theorem dX12_bestPart_32 : decode cX12_bestPart 32 = .ok (.iload_n 3, 1) := by decide +kernel
theorem dX12_bestPart_33 : decode cX12_bestPart 33 = .ok (.iaload, 1) := by decide +kernel
theorem dX12_bestPart_34 : decode cX12_bestPart 34 = .ok (.aload_n 0, 1) := by decide +kernel
theorem dX12_bestPart_35 : decode cX12_bestPart 35 = .ok (.getfield 74, 3) := by decide +kernel
theorem dX12_bestPart_38 : decode cX12_bestPart 38 = .ok (.iload_n 2, 1) := by decide +kernel
theorem dX12_bestPart_39 : decode cX12_bestPart 39 = .ok (.iaload, 1) := by decide +kernel
theorem dX12_bestPart_40 : decode cX12_bestPart 40 = .ok (.if_icmp .gt 6, 3) := by decide +kernel
theorem dX12_bestPart_43 : decode cX12_bestPart 43 = .ok (.goto 23, 3) := by decide +kernel
theorem dX12_bestPart_46 : decode cX12_bestPart 46 = .ok (.aload_n 0, 1) := by decide +kernel
theorem dX12_bestPart_47 : decode cX12_bestPart 47 = .ok (.iload_n 1, 1) := by decide +kernel
theorem dX12_bestPart_48 : decode cX12_bestPart 48 = .ok (.iload_n 3, 1) := by decide +kernel
theorem dX12_bestPart_49 : decode cX12_bestPart 49 = .ok (.invokevirtual 324, 3) := by decide +kernel
theorem dX12_bestPart_52 : decode cX12_bestPart 52 = .ok (.ifCond .ne 14, 3) := by decide +kernel
theorem dX12_bestPart_55 : decode cX12_bestPart 55 = .ok (.aload_n 0, 1) := by decide +kernel
theorem dX12_bestPart_56 : decode cX12_bestPart 56 = .ok (.iload_n 1, 1) := by decide +kernel
theorem dX12_bestPart_57 : decode cX12_bestPart 57 = .ok (.iload_n 3, 1) := by decide +kernel
theorem dX12_bestPart_58 : decode cX12_bestPart 58 = .ok (.invokevirtual 315, 3) := by decide +kernel
theorem dX12_bestPart_61 : decode cX12_bestPart 61 = .ok (.ifCond .le 5, 3) := by decide +kernel
theorem dX12_bestPart_64 : decode cX12_bestPart 64 = .ok (.iload_n 3, 1) := by decide +kernel
theorem dX12_bestPart_65 : decode cX12_bestPart 65 = .ok (.istore_n 2, 1) := by decide +kernel
theorem dX12_bestPart_66 : decode cX12_bestPart 66 = .ok (.iinc 3 1, 3) := by decide +kernel
theorem dX12_bestPart_69 : decode cX12_bestPart 69 = .ok (.goto (-65), 3) := by decide +kernel
theorem dX12_bestPart_72 : decode cX12_bestPart 72 = .ok (.iload_n 2, 1) := by decide +kernel
theorem dX12_bestPart_73 : decode cX12_bestPart 73 = .ok (.ireturn, 1) := by decide +kernel
set_option maxRecDepth 20000 in
theorem ggX12_sendsAll_X12_laysChains : GoodIn wsX12_sendsAll wsX12_laysChains := goodIn_r _ [6, 1, 7, 8, 9, 5, 10, 11, 12, 13, 14, 15, 16, 17, 120, 121, 122, 123, 124, 125, 126, 127, 128, 129, 130, 131, 132, 133, 134, 135, 136, 137, 138, 139, 140, 141, 142, 143, 144, 145, 146, 147, 148, 149, 150, 151, 152, 153, 154, 155, 156, 157, 158, 159, 160, 161, 162, 163, 164, 165, 166, 167] (by decide +kernel) (by decide +kernel)
set_option maxRecDepth 20000 in
theorem gX12_sendsAll_X12_laysChains : GoodIn wsX12_sendsAll (wsV RX12 128 RX12 yX12_laysChains wsX12_laysChains) := goodIn_app (goodIn_of _ (by decide +kernel)) ggX12_sendsAll_X12_laysChains
set_option maxRecDepth 20000 in
theorem ggX12_sendsAll_X12_isIn : GoodIn wsX12_sendsAll wsX12_isIn := goodIn_r _ [10] (by decide +kernel) (by decide +kernel)
set_option maxRecDepth 20000 in
theorem gX12_sendsAll_X12_isIn : GoodIn wsX12_sendsAll (va_wsS RX12 302 yX12_isIn wsX12_isIn) := goodIn_app (goodIn_of _ (by decide +kernel)) ggX12_sendsAll_X12_isIn
set_option maxRecDepth 20000 in
theorem ggX12_sendsAll_X12_bestPart : GoodIn wsX12_sendsAll wsX12_bestPart := goodIn_r _ [21, 1, 7, 22, 23, 24, 5, 25, 11, 12, 13, 14, 26, 27, 28, 29, 30, 31, 32, 33, 34, 35, 36, 37, 38, 39, 40, 41, 42, 43, 44, 45, 46, 8, 9, 10, 47, 48, 49, 50, 51, 52, 53, 54, 55, 56, 57, 58, 59, 60, 61, 62, 63, 64, 65, 66, 67, 68, 69, 70, 71, 72, 73, 74, 75, 76, 77, 78, 79, 80, 81, 82, 83, 84, 85, 86, 87, 88, 89, 90, 91, 92, 93, 94, 95, 96, 97, 98, 99, 100, 101, 102, 103, 104, 105, 106, 107, 108, 109, 110, 111, 112, 113, 114, 115, 116, 117, 118, 119, 120, 121, 122, 123, 124, 125, 126, 127, 128, 129, 130, 131, 132, 133, 134, 135, 136, 137, 138, 139, 140, 141, 142, 143, 144, 145, 146, 147, 148, 149, 150, 151, 152, 153, 154, 155, 156, 157, 158, 159, 160, 161, 162, 163, 164, 165, 166, 167] (by decide +kernel) (by decide +kernel)
set_option maxRecDepth 20000 in
theorem gX12_sendsAll_X12_bestPart : GoodIn wsX12_sendsAll (wsV RX12 375 RX12 yX12_bestPart wsX12_bestPart) := goodIn_app (goodIn_of _ (by decide +kernel)) ggX12_sendsAll_X12_bestPart
theorem dX12_sendsAll_0 : decode cX12_sendsAll 0 = .ok (.aload_n 0, 1) := by decide +kernel
theorem dX12_sendsAll_1 : decode cX12_sendsAll 1 = .ok (.invokevirtual 128, 3) := by decide +kernel
theorem dX12_sendsAll_4 : decode cX12_sendsAll 4 = .ok (.iconst 0, 1) := by decide +kernel
theorem dX12_sendsAll_5 : decode cX12_sendsAll 5 = .ok (.istore_n 2, 1) := by decide +kernel
theorem dX12_sendsAll_6 : decode cX12_sendsAll 6 = .ok (.iload_n 2, 1) := by decide +kernel
theorem dX12_sendsAll_7 : decode cX12_sendsAll 7 = .ok (.aload_n 0, 1) := by decide +kernel
theorem dX12_sendsAll_8 : decode cX12_sendsAll 8 = .ok (.getfield 24, 3) := by decide +kernel
theorem dX12_sendsAll_11 : decode cX12_sendsAll 11 = .ok (.bipush 103, 2) := by decide +kernel
theorem dX12_sendsAll_13 : decode cX12_sendsAll 13 = .ok (.iaload, 1) := by decide +kernel
theorem dX12_sendsAll_14 : decode cX12_sendsAll 14 = .ok (.if_icmp .ge 44, 3) := by decide +kernel
theorem dX12_sendsAll_17 : decode cX12_sendsAll 17 = .ok (.iload_n 1, 1) := by decide +kernel
theorem dX12_sendsAll_18 : decode cX12_sendsAll 18 = .ok (.iload_n 2, 1) := by decide +kernel
theorem dX12_sendsAll_19 : decode cX12_sendsAll 19 = .ok (.invokestatic 302, 3) := by decide +kernel
theorem dX12_sendsAll_22 : decode cX12_sendsAll 22 = .ok (.ifCond .eq 30, 3) := by decide +kernel
theorem dX12_sendsAll_25 : decode cX12_sendsAll 25 = .ok (.aload_n 0, 1) := by decide +kernel
theorem dX12_sendsAll_26 : decode cX12_sendsAll 26 = .ok (.getfield 24, 3) := by decide +kernel
theorem dX12_sendsAll_29 : decode cX12_sendsAll 29 = .ok (.bipush 16, 2) := by decide +kernel
theorem dX12_sendsAll_31 : decode cX12_sendsAll 31 = .ok (.iload_n 2, 1) := by decide +kernel
theorem dX12_sendsAll_32 : decode cX12_sendsAll 32 = .ok (.iadd, 1) := by decide +kernel
theorem dX12_sendsAll_33 : decode cX12_sendsAll 33 = .ok (.iaload, 1) := by decide +kernel
theorem dX12_sendsAll_34 : decode cX12_sendsAll 34 = .ok (.iconst (-1), 1) := by decide +kernel
theorem dX12_sendsAll_35 : decode cX12_sendsAll 35 = .ok (.if_icmp .ne 17, 3) := by decide +kernel
theorem dX12_sendsAll_38 : decode cX12_sendsAll 38 = .ok (.aload_n 0, 1) := by decide +kernel
theorem dX12_sendsAll_39 : decode cX12_sendsAll 39 = .ok (.getfield 24, 3) := by decide +kernel
theorem dX12_sendsAll_42 : decode cX12_sendsAll 42 = .ok (.bipush 16, 2) := by decide +kernel
theorem dX12_sendsAll_44 : decode cX12_sendsAll 44 = .ok (.iload_n 2, 1) := by decide +kernel
theorem dX12_sendsAll_45 : decode cX12_sendsAll 45 = .ok (.iadd, 1) := by decide +kernel
theorem dX12_sendsAll_46 : decode cX12_sendsAll 46 = .ok (.aload_n 0, 1) := by decide +kernel
theorem dX12_sendsAll_47 : decode cX12_sendsAll 47 = .ok (.iload_n 2, 1) := by decide +kernel
theorem dX12_sendsAll_48 : decode cX12_sendsAll 48 = .ok (.invokevirtual 375, 3) := by decide +kernel
theorem dX12_sendsAll_51 : decode cX12_sendsAll 51 = .ok (.iastore, 1) := by decide +kernel
theorem dX12_sendsAll_52 : decode cX12_sendsAll 52 = .ok (.iinc 2 1, 3) := by decide +kernel
theorem dX12_sendsAll_55 : decode cX12_sendsAll 55 = .ok (.goto (-49), 3) := by decide +kernel
theorem dX12_sendsAll_58 : decode cX12_sendsAll 58 = .ok (.return_, 1) := by decide +kernel
set_option maxRecDepth 20000 in
theorem ggX12_areStanding_X12_standing : GoodIn wsX12_areStanding wsX12_standing := goodIn_r _ [5, 6, 7, 8, 9, 4, 10, 11, 12, 13, 14, 15, 16, 17, 18, 19, 20, 21, 22, 23, 24, 25, 26, 27, 28, 29, 30, 31, 32, 33, 34, 35, 36, 37, 38, 39, 40, 41, 42, 43, 44, 45, 46, 47, 48, 49, 50, 51, 52, 53, 54, 55, 56, 57, 58] (by decide +kernel) (by decide +kernel)
set_option maxRecDepth 20000 in
theorem gX12_areStanding_X12_standing : GoodIn wsX12_areStanding (wsV RX12 118 RX12 yX12_standing wsX12_standing) := goodIn_app (goodIn_of _ (by decide +kernel)) ggX12_areStanding_X12_standing
theorem dX12_areStanding_0 : decode cX12_areStanding 0 = .ok (.iload_n 1, 1) := by decide +kernel
theorem dX12_areStanding_1 : decode cX12_areStanding 1 = .ok (.aload_n 0, 1) := by decide +kernel
theorem dX12_areStanding_2 : decode cX12_areStanding 2 = .ok (.invokevirtual 118, 3) := by decide +kernel
theorem dX12_areStanding_5 : decode cX12_areStanding 5 = .ok (.iconst (-1), 1) := by decide +kernel
theorem dX12_areStanding_6 : decode cX12_areStanding 6 = .ok (.ixor, 1) := by decide +kernel
theorem dX12_areStanding_7 : decode cX12_areStanding 7 = .ok (.iand, 1) := by decide +kernel
theorem dX12_areStanding_8 : decode cX12_areStanding 8 = .ok (.ifCond .ne 7, 3) := by decide +kernel
theorem dX12_areStanding_11 : decode cX12_areStanding 11 = .ok (.iconst 1, 1) := by decide +kernel
theorem dX12_areStanding_12 : decode cX12_areStanding 12 = .ok (.goto 4, 3) := by decide +kernel
theorem dX12_areStanding_15 : decode cX12_areStanding 15 = .ok (.iconst 0, 1) := by decide +kernel
theorem dX12_areStanding_16 : decode cX12_areStanding 16 = .ok (.ireturn, 1) := by decide +kernel
set_option maxRecDepth 20000 in
theorem ggX12_planned_X12_begins : GoodIn wsX12_planned wsX12_begins := goodIn_r _ [5, 6, 7, 8, 9, 4, 10, 11, 154, 155, 156, 157, 158, 159, 160, 161, 162, 163, 164, 165, 166, 167, 168, 169, 170, 171, 172, 173, 174, 175, 176, 177, 178, 179, 180, 181, 182, 183, 184, 185, 186, 187, 188, 189, 190, 191, 192, 193, 194, 195, 196, 197, 198, 199, 200, 201] (by decide +kernel) (by decide +kernel)
set_option maxRecDepth 20000 in
theorem gX12_planned_X12_begins : GoodIn wsX12_planned (wsV RX12 378 RX12 yX12_begins wsX12_begins) := goodIn_app (goodIn_of _ (by decide +kernel)) ggX12_planned_X12_begins
set_option maxRecDepth 20000 in
theorem ggX12_planned_X12_areStanding : GoodIn wsX12_planned wsX12_areStanding := goodIn_r _ [15, 16, 17, 18, 4, 19, 6, 20, 21, 22, 23, 154, 155, 156, 157, 158, 159, 160, 161, 162, 163, 164, 165, 166, 167, 168, 169, 170, 171, 172, 173, 174, 175, 176, 177, 178, 179, 180, 181, 182, 183, 184, 185, 186, 187, 188, 189, 190, 191, 192, 193, 194, 195, 196, 197, 198, 199, 200, 201] (by decide +kernel) (by decide +kernel)
set_option maxRecDepth 20000 in
theorem gX12_planned_X12_areStanding : GoodIn wsX12_planned (wsV RX12 381 RX12 yX12_areStanding wsX12_areStanding) := goodIn_app (goodIn_of _ (by decide +kernel)) ggX12_planned_X12_areStanding
set_option maxRecDepth 20000 in
theorem ggX12_planned_X12_sendsAll : GoodIn wsX12_planned wsX12_sendsAll := goodIn_r _ [27, 6, 28, 29, 30, 4, 31, 32, 33, 34, 35, 20, 21, 22, 23, 36, 37, 38, 39, 40, 41, 42, 43, 44, 45, 46, 16, 17, 18, 19, 47, 48, 49, 50, 51, 52, 53, 54, 55, 56, 57, 58, 59, 60, 61, 62, 63, 64, 65, 66, 67, 68, 69, 70, 71, 72, 73, 74, 75, 76, 77, 78, 79, 80, 81, 82, 83, 84, 85, 86, 87, 88, 89, 90, 91, 92, 93, 94, 95, 96, 97, 98, 99, 100, 101, 102, 103, 104, 105, 106, 107, 108, 109, 110, 111, 112, 113, 114, 115, 116, 117, 118, 119, 120, 121, 122, 123, 124, 125, 126, 127, 128, 129, 130, 131, 132, 133, 134, 135, 136, 154, 155, 156, 157, 158, 159, 160, 161, 162, 163, 164, 165, 166, 167, 168, 169, 170, 171, 172, 173, 174, 175, 176, 177, 178, 179, 180, 181, 182, 183, 184, 185, 186, 187, 188, 189, 190, 191, 192, 193, 194, 195, 196, 197, 198, 199, 200, 201] (by decide +kernel) (by decide +kernel)
set_option maxRecDepth 20000 in
theorem gX12_planned_X12_sendsAll : GoodIn wsX12_planned (wsV RX12 384 RX12 yX12_sendsAll wsX12_sendsAll) := goodIn_app (goodIn_of _ (by decide +kernel)) ggX12_planned_X12_sendsAll
set_option maxRecDepth 20000 in
theorem ggX12_planned_X12_ticks : GoodIn wsX12_planned wsX12_ticks := goodIn_r _ [140, 6, 141, 142, 16, 17, 18, 4, 19, 20, 21, 22, 23, 33, 34, 35, 133, 134, 135, 136, 60, 61, 62, 63, 51, 52, 53, 54, 55, 56, 57, 58, 59, 64, 65, 66, 67, 68, 69, 70, 71, 72, 73, 74, 75, 76, 77, 78, 79, 80, 81, 82, 83, 84, 85, 86, 87, 88, 89, 90, 91, 92, 93, 94, 95, 96, 97, 98, 99, 100, 101, 102, 103, 104, 105, 106, 107, 108, 109, 110, 111, 112, 113, 114, 115, 116, 117, 118, 119, 120, 121, 122, 123, 124, 125, 126, 127, 128, 129, 130, 131, 132, 143, 144, 145, 146, 36, 37, 38, 147, 148, 149, 154, 155, 156, 157, 158, 159, 160, 161, 162, 163, 164, 165, 166, 167, 168, 169, 170, 171, 172, 173, 174, 175, 176, 177, 178, 179, 180, 181, 182, 183, 184, 185, 186, 187, 188, 189, 190, 191, 192, 193, 194, 195, 196, 197, 198, 199, 200, 201] (by decide +kernel) (by decide +kernel)
set_option maxRecDepth 20000 in
theorem gX12_planned_X12_ticks : GoodIn wsX12_planned (wsV RX12 345 RX12 yX12_ticks wsX12_ticks) := goodIn_app (goodIn_of _ (by decide +kernel)) ggX12_planned_X12_ticks
set_option maxRecDepth 20000 in
theorem ggX12_planned_X12_takesBack : GoodIn wsX12_planned wsX12_takesBack := goodIn_r _ [153, 6, 11, 154, 155, 156, 157, 158, 159, 160, 161, 162, 163, 164, 165, 166, 167, 168, 169, 170, 171, 172, 173, 174, 175, 176, 177, 178, 179, 180, 181, 182, 183, 184, 185, 186, 187, 188, 189, 190, 191, 192, 193, 194, 195, 196, 197, 198, 199, 200, 201] (by decide +kernel) (by decide +kernel)
set_option maxRecDepth 20000 in
theorem gX12_planned_X12_takesBack : GoodIn wsX12_planned (wsV RX12 387 RX12 yX12_takesBack wsX12_takesBack) := goodIn_app (goodIn_of _ (by decide +kernel)) ggX12_planned_X12_takesBack
theorem dX12_planned_0 : decode cX12_planned 0 = .ok (.aload_n 0, 1) := by decide +kernel
theorem dX12_planned_1 : decode cX12_planned 1 = .ok (.invokevirtual 378, 3) := by decide +kernel
theorem dX12_planned_4 : decode cX12_planned 4 = .ok (.iconst 0, 1) := by decide +kernel
theorem dX12_planned_5 : decode cX12_planned 5 = .ok (.istore 4, 2) := by decide +kernel
theorem dX12_planned_7 : decode cX12_planned 7 = .ok (.iload 4, 2) := by decide +kernel
theorem dX12_planned_9 : decode cX12_planned 9 = .ok (.iload_n 3, 1) := by decide +kernel
theorem dX12_planned_10 : decode cX12_planned 10 = .ok (.if_icmp .ge 28, 3) := by decide +kernel
theorem dX12_planned_13 : decode cX12_planned 13 = .ok (.aload_n 0, 1) := by decide +kernel
theorem dX12_planned_14 : decode cX12_planned 14 = .ok (.iload_n 2, 1) := by decide +kernel
theorem dX12_planned_15 : decode cX12_planned 15 = .ok (.invokevirtual 381, 3) := by decide +kernel
theorem dX12_planned_18 : decode cX12_planned 18 = .ok (.ifCond .ne 20, 3) := by decide +kernel
theorem dX12_planned_21 : decode cX12_planned 21 = .ok (.aload_n 0, 1) := by decide +kernel
theorem dX12_planned_22 : decode cX12_planned 22 = .ok (.iload_n 1, 1) := by decide +kernel
theorem dX12_planned_23 : decode cX12_planned 23 = .ok (.invokevirtual 384, 3) := by decide +kernel
theorem dX12_planned_26 : decode cX12_planned 26 = .ok (.aload_n 0, 1) := by decide +kernel
theorem dX12_planned_27 : decode cX12_planned 27 = .ok (.iload_n 1, 1) := by decide +kernel
theorem dX12_planned_28 : decode cX12_planned 28 = .ok (.invokevirtual 345, 3) := by decide +kernel
theorem dX12_planned_31 : decode cX12_planned 31 = .ok (.pop, 1) := by decide +kernel
theorem dX12_planned_32 : decode cX12_planned 32 = .ok (.iinc 4 1, 3) := by decide +kernel
theorem dX12_planned_35 : decode cX12_planned 35 = .ok (.goto (-28), 3) := by decide +kernel
theorem dX12_planned_38 : decode cX12_planned 38 = .ok (.aload_n 0, 1) := by decide +kernel
theorem dX12_planned_39 : decode cX12_planned 39 = .ok (.iload_n 2, 1) := by decide +kernel
theorem dX12_planned_40 : decode cX12_planned 40 = .ok (.invokevirtual 381, 3) := by decide +kernel
theorem dX12_planned_43 : decode cX12_planned 43 = .ok (.ifCond .eq 8, 3) := by decide +kernel
theorem dX12_planned_46 : decode cX12_planned 46 = .ok (.iload 4, 2) := by decide +kernel
theorem dX12_planned_48 : decode cX12_planned 48 = .ok (.goto 4, 3) := by decide +kernel
theorem dX12_planned_51 : decode cX12_planned 51 = .ok (.iconst (-1), 1) := by decide +kernel
theorem dX12_planned_52 : decode cX12_planned 52 = .ok (.istore 5, 2) := by decide +kernel
theorem dX12_planned_54 : decode cX12_planned 54 = .ok (.aload_n 0, 1) := by decide +kernel
theorem dX12_planned_55 : decode cX12_planned 55 = .ok (.iconst 0, 1) := by decide +kernel
theorem dX12_planned_56 : decode cX12_planned 56 = .ok (.invokevirtual 387, 3) := by decide +kernel
theorem dX12_planned_59 : decode cX12_planned 59 = .ok (.iload 5, 2) := by decide +kernel
theorem dX12_planned_61 : decode cX12_planned 61 = .ok (.ireturn, 1) := by decide +kernel
set_option maxRecDepth 20000 in
theorem ggX12_plan_X12_isPart : GoodIn wsX12_plan wsX12_isPart := goodIn_r _ [5, 6, 7, 8, 4, 9, 166, 167, 168, 169, 170, 171, 172, 173, 174, 175, 176, 177, 178, 179, 180, 181, 182, 183, 184, 185, 186, 187, 188, 189, 190, 191, 192, 193, 194, 195, 196, 197, 198, 199, 200, 201, 202, 203, 204, 205, 206, 207, 208, 209, 210, 211, 212, 213] (by decide +kernel) (by decide +kernel)
set_option maxRecDepth 20000 in
theorem gX12_plan_X12_isPart : GoodIn wsX12_plan (wsV RX12 122 RX12 yX12_isPart wsX12_isPart) := goodIn_app (goodIn_of _ (by decide +kernel)) ggX12_plan_X12_isPart
set_option maxRecDepth 20000 in
theorem ggX12_plan_X12_allBuilders : GoodIn wsX12_plan wsX12_allBuilders := goodIn_r _ [13, 6, 166, 167, 168, 169, 170, 171, 172, 173, 174, 175, 176, 177, 178, 179, 180, 181, 182, 183, 184, 185, 186, 187, 188, 189, 190, 191, 192, 193, 194, 195, 196, 197, 198, 199, 200, 201, 202, 203, 204, 205, 206, 207, 208, 209, 210, 211, 212, 213] (by decide +kernel) (by decide +kernel)
set_option maxRecDepth 20000 in
theorem gX12_plan_X12_allBuilders : GoodIn wsX12_plan (wsV RX12 342 RX12 yX12_allBuilders wsX12_allBuilders) := goodIn_app (goodIn_of _ (by decide +kernel)) ggX12_plan_X12_allBuilders
set_option maxRecDepth 20000 in
theorem ggX12_plan_X12_allParts : GoodIn wsX12_plan wsX12_allParts := goodIn_r _ [17, 6, 166, 167, 168, 169, 170, 171, 172, 173, 174, 175, 176, 177, 178, 179, 180, 181, 182, 183, 184, 185, 186, 187, 188, 189, 190, 191, 192, 193, 194, 195, 196, 197, 198, 199, 200, 201, 202, 203, 204, 205, 206, 207, 208, 209, 210, 211, 212, 213] (by decide +kernel) (by decide +kernel)
set_option maxRecDepth 20000 in
theorem gX12_plan_X12_allParts : GoodIn wsX12_plan (wsV RX12 363 RX12 yX12_allParts wsX12_allParts) := goodIn_app (goodIn_of _ (by decide +kernel)) ggX12_plan_X12_allParts
set_option maxRecDepth 20000 in
theorem ggX12_plan_X12_planned : GoodIn wsX12_plan wsX12_planned := goodIn_r _ [21, 22, 23, 24, 4, 25, 6, 26, 27, 28, 29, 30, 31, 32, 33, 34, 35, 36, 37, 38, 39, 40, 41, 42, 43, 44, 45, 46, 47, 48, 49, 50, 51, 52, 53, 54, 55, 56, 57, 58, 59, 60, 61, 62, 63, 64, 65, 66, 67, 68, 69, 70, 71, 72, 73, 74, 75, 76, 77, 78, 79, 80, 81, 82, 83, 84, 85, 86, 87, 88, 89, 90, 91, 92, 93, 94, 95, 96, 97, 98, 99, 100, 101, 102, 103, 104, 105, 106, 107, 108, 109, 110, 111, 112, 113, 114, 115, 116, 117, 1, 2, 3, 5, 7, 8, 9, 118, 119, 120, 121, 122, 123, 124, 125, 126, 127, 128, 129, 130, 131, 132, 133, 134, 135, 136, 137, 138, 139, 140, 141, 142, 143, 144, 145, 146, 147, 148, 149, 150, 151, 152, 153, 154, 155, 156, 157, 158, 159, 160, 161, 162, 163, 164, 165, 166, 167, 168, 169, 170, 171, 172, 173, 174, 175, 176, 177, 178, 179, 180, 181, 182, 183, 184, 185, 186, 187, 188, 189, 190, 191, 192, 193, 194, 195, 196, 197, 198, 199, 200, 201, 202, 203, 204, 205, 206, 207, 208, 209, 210, 211, 212, 213] (by decide +kernel) (by decide +kernel)
set_option maxRecDepth 20000 in
theorem gX12_plan_X12_planned : GoodIn wsX12_plan (wsV RX12 390 RX12 yX12_planned wsX12_planned) := goodIn_app (goodIn_of _ (by decide +kernel)) ggX12_plan_X12_planned
theorem dX12_plan_0 : decode cX12_plan 0 = .ok (.iload_n 1, 1) := by decide +kernel
theorem dX12_plan_1 : decode cX12_plan 1 = .ok (.iconst (-1), 1) := by decide +kernel
theorem dX12_plan_2 : decode cX12_plan 2 = .ok (.if_icmp .eq 13, 3) := by decide +kernel
theorem dX12_plan_5 : decode cX12_plan 5 = .ok (.aload_n 0, 1) := by decide +kernel
theorem dX12_plan_6 : decode cX12_plan 6 = .ok (.iload_n 1, 1) := by decide +kernel
theorem dX12_plan_7 : decode cX12_plan 7 = .ok (.invokevirtual 122, 3) := by decide +kernel
theorem dX12_plan_10 : decode cX12_plan 10 = .ok (.ifCond .ne 5, 3) := by decide +kernel
theorem dX12_plan_13 : decode cX12_plan 13 = .ok (.iconst (-1), 1) := by decide +kernel
theorem dX12_plan_14 : decode cX12_plan 14 = .ok (.ireturn, 1) := by decide +kernel
theorem dX12_plan_15 : decode cX12_plan 15 = .ok (.aload_n 0, 1) := by decide +kernel
theorem dX12_plan_16 : decode cX12_plan 16 = .ok (.aload_n 0, 1) := by decide +kernel
theorem dX12_plan_17 : decode cX12_plan 17 = .ok (.invokevirtual 342, 3) := by decide +kernel
theorem dX12_plan_20 : decode cX12_plan 20 = .ok (.iload_n 1, 1) := by decide +kernel
theorem dX12_plan_21 : decode cX12_plan 21 = .ok (.iconst (-1), 1) := by decide +kernel
theorem dX12_plan_22 : decode cX12_plan 22 = .ok (.if_icmp .ne 10, 3) := by decide +kernel
theorem dX12_plan_25 : decode cX12_plan 25 = .ok (.aload_n 0, 1) := by decide +kernel
theorem dX12_plan_26 : decode cX12_plan 26 = .ok (.invokevirtual 363, 3) := by decide +kernel
theorem dX12_plan_29 : decode cX12_plan 29 = .ok (.goto 6, 3) := by decide +kernel
theorem dX12_plan_32 : decode cX12_plan 32 = .ok (.iconst 1, 1) := by decide +kernel
theorem dX12_plan_33 : decode cX12_plan 33 = .ok (.iload_n 1, 1) := by decide +kernel
theorem dX12_plan_34 : decode cX12_plan 34 = .ok (.ishl, 1) := by decide +kernel
theorem dX12_plan_35 : decode cX12_plan 35 = .ok (.sipush 200, 3) := by decide +kernel
theorem dX12_plan_38 : decode cX12_plan 38 = .ok (.invokevirtual 390, 3) := by decide +kernel
theorem dX12_plan_41 : decode cX12_plan 41 = .ok (.ireturn, 1) := by decide +kernel
set_option maxRecDepth 20000 in
theorem ggX12_hands_X12_lies : GoodIn wsX12_hands wsX12_lies := goodIn_r _ [5] (by decide +kernel) (by decide +kernel)
set_option maxRecDepth 20000 in
theorem gX12_hands_X12_lies : GoodIn wsX12_hands (va_wsS RX12 96 yX12_lies wsX12_lies) := goodIn_app (goodIn_of _ (by decide +kernel)) ggX12_hands_X12_lies
set_option maxRecDepth 20000 in
theorem ggX12_hands_X12_allBuilders : GoodIn wsX12_hands wsX12_allBuilders := goodIn_r _ [9, 1, 166, 167, 168, 169, 170, 171, 172, 173, 174, 175, 176, 177, 178, 179, 180, 181, 182, 183, 184, 185, 186, 187, 188, 189, 190, 191, 192, 193, 194, 195, 196, 197, 198, 199, 200, 201, 202, 203, 204, 205, 206, 207, 208, 209, 210, 211, 212, 213] (by decide +kernel) (by decide +kernel)
set_option maxRecDepth 20000 in
theorem gX12_hands_X12_allBuilders : GoodIn wsX12_hands (wsV RX12 342 RX12 yX12_allBuilders wsX12_allBuilders) := goodIn_app (goodIn_of _ (by decide +kernel)) ggX12_hands_X12_allBuilders
set_option maxRecDepth 20000 in
theorem ggX12_hands_X12_ones : GoodIn wsX12_hands wsX12_ones := goodIn_r _ [12] (by decide +kernel) (by decide +kernel)
set_option maxRecDepth 20000 in
theorem gX12_hands_X12_ones : GoodIn wsX12_hands (va_wsS RX12 287 yX12_ones wsX12_ones) := goodIn_app (goodIn_of _ (by decide +kernel)) ggX12_hands_X12_ones
set_option maxRecDepth 20000 in
theorem ggX12_hands_X12_allParts : GoodIn wsX12_hands wsX12_allParts := goodIn_r _ [16, 1, 166, 167, 168, 169, 170, 171, 172, 173, 174, 175, 176, 177, 178, 179, 180, 181, 182, 183, 184, 185, 186, 187, 188, 189, 190, 191, 192, 193, 194, 195, 196, 197, 198, 199, 200, 201, 202, 203, 204, 205, 206, 207, 208, 209, 210, 211, 212, 213] (by decide +kernel) (by decide +kernel)
set_option maxRecDepth 20000 in
theorem gX12_hands_X12_allParts : GoodIn wsX12_hands (wsV RX12 363 RX12 yX12_allParts wsX12_allParts) := goodIn_app (goodIn_of _ (by decide +kernel)) ggX12_hands_X12_allParts
set_option maxRecDepth 20000 in
theorem ggX12_hands_X12_planned : GoodIn wsX12_hands wsX12_planned := goodIn_r _ [20, 21, 22, 23, 4, 24, 1, 25, 26, 27, 28, 29, 30, 31, 32, 33, 34, 35, 36, 37, 38, 39, 40, 41, 42, 43, 44, 45, 46, 47, 48, 49, 50, 51, 52, 53, 54, 55, 56, 57, 58, 59, 60, 61, 62, 63, 64, 65, 66, 67, 68, 69, 70, 71, 72, 73, 74, 75, 76, 77, 78, 79, 80, 81, 82, 83, 84, 85, 86, 87, 88, 89, 90, 91, 92, 93, 94, 95, 96, 97, 98, 99, 100, 101, 102, 103, 104, 105, 106, 107, 108, 109, 110, 111, 112, 113, 114, 115, 116, 117, 118, 119, 120, 2, 3, 5, 121, 122, 123, 124, 10, 11, 12, 125, 126, 127, 128, 129, 130, 131, 132, 133, 134, 135, 136, 137, 138, 139, 140, 141, 142, 143, 144, 145, 146, 147, 148, 149, 150, 151, 152, 153, 154, 155, 156, 157, 158, 159, 160, 161, 162, 163, 164, 165, 166, 167, 168, 169, 170, 171, 172, 173, 174, 175, 176, 177, 178, 179, 180, 181, 182, 183, 184, 185, 186, 187, 188, 189, 190, 191, 192, 193, 194, 195, 196, 197, 198, 199, 200, 201, 202, 203, 204, 205, 206, 207, 208, 209, 210, 211, 212, 213] (by decide +kernel) (by decide +kernel)
set_option maxRecDepth 20000 in
theorem gX12_hands_X12_planned : GoodIn wsX12_hands (wsV RX12 390 RX12 yX12_planned wsX12_planned) := goodIn_app (goodIn_of _ (by decide +kernel)) ggX12_hands_X12_planned
theorem dX12_hands_0 : decode cX12_hands 0 = .ok (.iload_n 1, 1) := by decide +kernel
theorem dX12_hands_1 : decode cX12_hands 1 = .ok (.iconst 0, 1) := by decide +kernel
theorem dX12_hands_2 : decode cX12_hands 2 = .ok (.iconst 1, 1) := by decide +kernel
theorem dX12_hands_3 : decode cX12_hands 3 = .ok (.invokestatic 96, 3) := by decide +kernel
theorem dX12_hands_6 : decode cX12_hands 6 = .ok (.ifCond .ne 5, 3) := by decide +kernel
theorem dX12_hands_9 : decode cX12_hands 9 = .ok (.iconst (-1), 1) := by decide +kernel
theorem dX12_hands_10 : decode cX12_hands 10 = .ok (.ireturn, 1) := by decide +kernel
theorem dX12_hands_11 : decode cX12_hands 11 = .ok (.iconst (-1), 1) := by decide +kernel
theorem dX12_hands_12 : decode cX12_hands 12 = .ok (.istore_n 2, 1) := by decide +kernel
theorem dX12_hands_13 : decode cX12_hands 13 = .ok (.iconst 0, 1) := by decide +kernel
theorem dX12_hands_14 : decode cX12_hands 14 = .ok (.istore_n 3, 1) := by decide +kernel
theorem dX12_hands_15 : decode cX12_hands 15 = .ok (.iload_n 3, 1) := by decide +kernel
theorem dX12_hands_16 : decode cX12_hands 16 = .ok (.aload_n 0, 1) := by decide +kernel
theorem dX12_hands_17 : decode cX12_hands 17 = .ok (.invokevirtual 342, 3) := by decide +kernel
theorem dX12_hands_20 : decode cX12_hands 20 = .ok (.if_icmp .gt 50, 3) := by decide +kernel
theorem dX12_hands_23 : decode cX12_hands 23 = .ok (.iload_n 2, 1) := by decide +kernel
theorem dX12_hands_24 : decode cX12_hands 24 = .ok (.iconst (-1), 1) := by decide +kernel
theorem dX12_hands_25 : decode cX12_hands 25 = .ok (.if_icmp .eq 17, 3) := by decide +kernel
theorem dX12_hands_28 : decode cX12_hands 28 = .ok (.iload_n 3, 1) := by decide +kernel
theorem dX12_hands_29 : decode cX12_hands 29 = .ok (.invokestatic 287, 3) := by decide +kernel
theorem dX12_hands_32 : decode cX12_hands 32 = .ok (.iload_n 2, 1) := by decide +kernel
theorem dX12_hands_33 : decode cX12_hands 33 = .ok (.invokestatic 287, 3) := by decide +kernel
theorem dX12_hands_36 : decode cX12_hands 36 = .ok (.if_icmp .lt 6, 3) := by decide +kernel
theorem dX12_hands_39 : decode cX12_hands 39 = .ok (.goto 25, 3) := by decide +kernel
theorem dX12_hands_42 : decode cX12_hands 42 = .ok (.aload_n 0, 1) := by decide +kernel
theorem dX12_hands_43 : decode cX12_hands 43 = .ok (.iload_n 3, 1) := by decide +kernel
theorem dX12_hands_44 : decode cX12_hands 44 = .ok (.aload_n 0, 1) := by decide +kernel
theorem dX12_hands_45 : decode cX12_hands 45 = .ok (.invokevirtual 363, 3) := by decide +kernel
theorem dX12_hands_48 : decode cX12_hands 48 = .ok (.aload_n 0, 1) := by decide +kernel
theorem dX12_hands_49 : decode cX12_hands 49 = .ok (.getfield 24, 3) := by decide +kernel
theorem dX12_hands_52 : decode cX12_hands 52 = .ok (.bipush 99, 2) := by decide +kernel
theorem dX12_hands_54 : decode cX12_hands 54 = .ok (.iaload, 1) := by decide +kernel
theorem dX12_hands_55 : decode cX12_hands 55 = .ok (.invokevirtual 390, 3) := by decide +kernel
theorem dX12_hands_58 : decode cX12_hands 58 = .ok (.iconst (-1), 1) := by decide +kernel
theorem dX12_hands_59 : decode cX12_hands 59 = .ok (.if_icmp .eq 5, 3) := by decide +kernel
theorem dX12_hands_62 : decode cX12_hands 62 = .ok (.iload_n 3, 1) := by decide +kernel
theorem dX12_hands_63 : decode cX12_hands 63 = .ok (.istore_n 2, 1) := by decide +kernel
theorem dX12_hands_64 : decode cX12_hands 64 = .ok (.iinc 3 1, 3) := by decide +kernel
theorem dX12_hands_67 : decode cX12_hands 67 = .ok (.goto (-52), 3) := by decide +kernel
theorem dX12_hands_70 : decode cX12_hands 70 = .ok (.iload_n 2, 1) := by decide +kernel
theorem dX12_hands_71 : decode cX12_hands 71 = .ok (.iconst (-1), 1) := by decide +kernel
theorem dX12_hands_72 : decode cX12_hands 72 = .ok (.if_icmp .eq 8, 3) := by decide +kernel
theorem dX12_hands_75 : decode cX12_hands 75 = .ok (.iload_n 1, 1) := by decide +kernel
theorem dX12_hands_76 : decode cX12_hands 76 = .ok (.iconst 1, 1) := by decide +kernel
theorem dX12_hands_77 : decode cX12_hands 77 = .ok (.if_icmp .ne 7, 3) := by decide +kernel
theorem dX12_hands_80 : decode cX12_hands 80 = .ok (.iload_n 2, 1) := by decide +kernel
theorem dX12_hands_81 : decode cX12_hands 81 = .ok (.goto 7, 3) := by decide +kernel
theorem dX12_hands_84 : decode cX12_hands 84 = .ok (.iload_n 2, 1) := by decide +kernel
theorem dX12_hands_85 : decode cX12_hands 85 = .ok (.invokestatic 287, 3) := by decide +kernel
theorem dX12_hands_88 : decode cX12_hands 88 = .ok (.ireturn, 1) := by decide +kernel
set_option maxRecDepth 20000 in
theorem ggX12_taughtIn_X12_allBuilders : GoodIn wsX12_taughtIn wsX12_allBuilders := goodIn_r _ [7, 1, 167, 168, 169, 170, 171, 172, 173, 174, 175, 176, 177, 178, 179, 180, 181, 182, 183, 184, 185, 186, 187, 188, 189, 190, 191, 192, 193, 194, 195, 196, 197, 198, 199, 200, 201, 202, 203, 204, 205, 206, 207, 208, 209, 210, 211, 212, 213, 214] (by decide +kernel) (by decide +kernel)
set_option maxRecDepth 20000 in
theorem gX12_taughtIn_X12_allBuilders : GoodIn wsX12_taughtIn (wsV RX12 342 RX12 yX12_allBuilders wsX12_allBuilders) := goodIn_app (goodIn_of _ (by decide +kernel)) ggX12_taughtIn_X12_allBuilders
set_option maxRecDepth 20000 in
theorem ggX12_taughtIn_X12_allParts : GoodIn wsX12_taughtIn wsX12_allParts := goodIn_r _ [11, 1, 167, 168, 169, 170, 171, 172, 173, 174, 175, 176, 177, 178, 179, 180, 181, 182, 183, 184, 185, 186, 187, 188, 189, 190, 191, 192, 193, 194, 195, 196, 197, 198, 199, 200, 201, 202, 203, 204, 205, 206, 207, 208, 209, 210, 211, 212, 213, 214] (by decide +kernel) (by decide +kernel)
set_option maxRecDepth 20000 in
theorem gX12_taughtIn_X12_allParts : GoodIn wsX12_taughtIn (wsV RX12 363 RX12 yX12_allParts wsX12_allParts) := goodIn_app (goodIn_of _ (by decide +kernel)) ggX12_taughtIn_X12_allParts
set_option maxRecDepth 20000 in
theorem ggX12_taughtIn_X12_planned : GoodIn wsX12_taughtIn wsX12_planned := goodIn_r _ [15, 16, 17, 18, 6, 19, 1, 20, 21, 22, 23, 24, 25, 26, 27, 28, 29, 30, 31, 32, 33, 34, 35, 36, 37, 38, 39, 40, 41, 42, 43, 44, 45, 46, 47, 48, 49, 50, 51, 52, 53, 54, 55, 56, 57, 58, 59, 60, 61, 62, 63, 64, 65, 66, 67, 68, 69, 70, 71, 72, 73, 74, 75, 76, 77, 78, 79, 80, 81, 82, 83, 84, 85, 86, 87, 88, 89, 90, 91, 92, 93, 94, 95, 96, 97, 98, 99, 100, 101, 102, 103, 104, 105, 106, 107, 108, 109, 110, 111, 112, 113, 114, 115, 116, 117, 118, 119, 120, 121, 122, 123, 124, 125, 126, 127, 128, 129, 130, 131, 132, 133, 134, 135, 136, 137, 138, 139, 140, 141, 142, 143, 144, 145, 146, 147, 148, 149, 150, 151, 152, 153, 154, 155, 156, 157, 158, 159, 160, 161, 162, 163, 164, 165, 166, 167, 168, 169, 170, 171, 172, 173, 174, 175, 176, 177, 178, 179, 180, 181, 182, 183, 184, 185, 186, 187, 188, 189, 190, 191, 192, 193, 194, 195, 196, 197, 198, 199, 200, 201, 202, 203, 204, 205, 206, 207, 208, 209, 210, 211, 212, 213, 214] (by decide +kernel) (by decide +kernel)
set_option maxRecDepth 20000 in
theorem gX12_taughtIn_X12_planned : GoodIn wsX12_taughtIn (wsV RX12 390 RX12 yX12_planned wsX12_planned) := goodIn_app (goodIn_of _ (by decide +kernel)) ggX12_taughtIn_X12_planned
theorem dX12_taughtIn_0 : decode cX12_taughtIn 0 = .ok (.aload_n 0, 1) := by decide +kernel
theorem dX12_taughtIn_1 : decode cX12_taughtIn 1 = .ok (.getfield 24, 3) := by decide +kernel
theorem dX12_taughtIn_4 : decode cX12_taughtIn 4 = .ok (.bipush 63, 2) := by decide +kernel
theorem dX12_taughtIn_6 : decode cX12_taughtIn 6 = .ok (.iload_n 1, 1) := by decide +kernel
theorem dX12_taughtIn_7 : decode cX12_taughtIn 7 = .ok (.iadd, 1) := by decide +kernel
theorem dX12_taughtIn_8 : decode cX12_taughtIn 8 = .ok (.iaload, 1) := by decide +kernel
theorem dX12_taughtIn_9 : decode cX12_taughtIn 9 = .ok (.istore_n 3, 1) := by decide +kernel
theorem dX12_taughtIn_10 : decode cX12_taughtIn 10 = .ok (.aload_n 0, 1) := by decide +kernel
theorem dX12_taughtIn_11 : decode cX12_taughtIn 11 = .ok (.getfield 24, 3) := by decide +kernel
theorem dX12_taughtIn_14 : decode cX12_taughtIn 14 = .ok (.bipush 63, 2) := by decide +kernel
theorem dX12_taughtIn_16 : decode cX12_taughtIn 16 = .ok (.iload_n 1, 1) := by decide +kernel
theorem dX12_taughtIn_17 : decode cX12_taughtIn 17 = .ok (.iadd, 1) := by decide +kernel
theorem dX12_taughtIn_18 : decode cX12_taughtIn 18 = .ok (.iload_n 3, 1) := by decide +kernel
theorem dX12_taughtIn_19 : decode cX12_taughtIn 19 = .ok (.iconst 1, 1) := by decide +kernel
theorem dX12_taughtIn_20 : decode cX12_taughtIn 20 = .ok (.iload_n 2, 1) := by decide +kernel
theorem dX12_taughtIn_21 : decode cX12_taughtIn 21 = .ok (.ishl, 1) := by decide +kernel
theorem dX12_taughtIn_22 : decode cX12_taughtIn 22 = .ok (.ior, 1) := by decide +kernel
theorem dX12_taughtIn_23 : decode cX12_taughtIn 23 = .ok (.iastore, 1) := by decide +kernel
theorem dX12_taughtIn_24 : decode cX12_taughtIn 24 = .ok (.aload_n 0, 1) := by decide +kernel
theorem dX12_taughtIn_25 : decode cX12_taughtIn 25 = .ok (.aload_n 0, 1) := by decide +kernel
theorem dX12_taughtIn_26 : decode cX12_taughtIn 26 = .ok (.invokevirtual 342, 3) := by decide +kernel
theorem dX12_taughtIn_29 : decode cX12_taughtIn 29 = .ok (.aload_n 0, 1) := by decide +kernel
theorem dX12_taughtIn_30 : decode cX12_taughtIn 30 = .ok (.invokevirtual 363, 3) := by decide +kernel
theorem dX12_taughtIn_33 : decode cX12_taughtIn 33 = .ok (.sipush 200, 3) := by decide +kernel
theorem dX12_taughtIn_36 : decode cX12_taughtIn 36 = .ok (.invokevirtual 390, 3) := by decide +kernel
theorem dX12_taughtIn_39 : decode cX12_taughtIn 39 = .ok (.istore 4, 2) := by decide +kernel
theorem dX12_taughtIn_41 : decode cX12_taughtIn 41 = .ok (.aload_n 0, 1) := by decide +kernel
theorem dX12_taughtIn_42 : decode cX12_taughtIn 42 = .ok (.getfield 24, 3) := by decide +kernel
theorem dX12_taughtIn_45 : decode cX12_taughtIn 45 = .ok (.bipush 63, 2) := by decide +kernel
theorem dX12_taughtIn_47 : decode cX12_taughtIn 47 = .ok (.iload_n 1, 1) := by decide +kernel
theorem dX12_taughtIn_48 : decode cX12_taughtIn 48 = .ok (.iadd, 1) := by decide +kernel
theorem dX12_taughtIn_49 : decode cX12_taughtIn 49 = .ok (.iload_n 3, 1) := by decide +kernel
theorem dX12_taughtIn_50 : decode cX12_taughtIn 50 = .ok (.iastore, 1) := by decide +kernel
theorem dX12_taughtIn_51 : decode cX12_taughtIn 51 = .ok (.iload 4, 2) := by decide +kernel
theorem dX12_taughtIn_53 : decode cX12_taughtIn 53 = .ok (.iconst (-1), 1) := by decide +kernel
theorem dX12_taughtIn_54 : decode cX12_taughtIn 54 = .ok (.if_icmp .ne 8, 3) := by decide +kernel
theorem dX12_taughtIn_57 : decode cX12_taughtIn 57 = .ok (.ldc 157, 2) := by decide +kernel
theorem dX12_taughtIn_59 : decode cX12_taughtIn 59 = .ok (.goto 5, 3) := by decide +kernel
theorem dX12_taughtIn_62 : decode cX12_taughtIn 62 = .ok (.iload 4, 2) := by decide +kernel
theorem dX12_taughtIn_64 : decode cX12_taughtIn 64 = .ok (.ireturn, 1) := by decide +kernel
set_option maxRecDepth 20000 in
theorem ggX12_taught_X12_lies : GoodIn wsX12_taught wsX12_lies := goodIn_r _ [6] (by decide +kernel) (by decide +kernel)
set_option maxRecDepth 20000 in
theorem gX12_taught_X12_lies : GoodIn wsX12_taught (va_wsS RX12 96 yX12_lies wsX12_lies) := goodIn_app (goodIn_of _ (by decide +kernel)) ggX12_taught_X12_lies
set_option maxRecDepth 20000 in
theorem ggX12_taught_X12_plan : GoodIn wsX12_taught wsX12_plan := goodIn_r _ [10, 11, 12, 13, 5, 14, 2, 3, 4, 6, 15, 16, 17, 18, 19, 20, 21, 22, 23, 24, 25, 26, 27, 28, 29, 30, 31, 32, 33, 34, 35, 36, 37, 38, 39, 40, 41, 42, 43, 44, 45, 46, 47, 48, 49, 50, 51, 52, 53, 54, 55, 56, 57, 58, 59, 60, 61, 62, 63, 64, 65, 66, 67, 68, 69, 70, 71, 72, 73, 74, 75, 76, 77, 78, 79, 80, 81, 82, 83, 84, 85, 86, 87, 88, 89, 90, 91, 92, 93, 94, 95, 96, 97, 98, 99, 100, 101, 102, 103, 104, 105, 106, 107, 108, 109, 110, 111, 112, 113, 114, 115, 116, 117, 118, 119, 120, 121, 122, 123, 124, 125, 126, 127, 128, 129, 130, 131, 132, 133, 134, 135, 136, 137, 138, 139, 140, 141, 142, 143, 144, 145, 146, 147, 148, 149, 150, 151, 152, 153, 154, 155, 156, 157, 158, 159, 160, 161, 162, 163, 164, 165, 166, 167, 168, 169, 170, 175, 176, 177, 178, 179, 180, 181, 182, 183, 184, 185, 186, 187, 188, 189, 190, 191, 192, 193, 194, 195, 196, 197, 198, 199, 200, 201, 202, 203, 204, 205, 206, 207, 208, 209, 210, 211, 212, 213, 214, 215, 216, 217, 218, 219, 220, 221, 222] (by decide +kernel) (by decide +kernel)
set_option maxRecDepth 20000 in
theorem gX12_taught_X12_plan : GoodIn wsX12_taught (wsV RX12 394 RX12 yX12_plan wsX12_plan) := goodIn_app (goodIn_of _ (by decide +kernel)) ggX12_taught_X12_plan
set_option maxRecDepth 20000 in
theorem ggX12_taught_X12_isIn : GoodIn wsX12_taught wsX12_isIn := goodIn_r _ [59] (by decide +kernel) (by decide +kernel)
set_option maxRecDepth 20000 in
theorem gX12_taught_X12_isIn : GoodIn wsX12_taught (va_wsS RX12 302 yX12_isIn wsX12_isIn) := goodIn_app (goodIn_of _ (by decide +kernel)) ggX12_taught_X12_isIn
set_option maxRecDepth 20000 in
theorem ggX12_taught_X12_taughtIn : GoodIn wsX12_taught wsX12_taughtIn := goodIn_r _ [174, 2, 1, 15, 16, 17, 5, 18, 19, 20, 21, 22, 23, 24, 25, 26, 27, 28, 29, 30, 31, 32, 33, 34, 35, 36, 37, 38, 39, 40, 41, 42, 43, 44, 45, 46, 47, 48, 49, 50, 51, 52, 53, 54, 55, 56, 57, 58, 59, 60, 61, 62, 63, 64, 65, 66, 67, 68, 69, 70, 71, 72, 73, 74, 75, 76, 77, 78, 79, 80, 81, 82, 83, 84, 85, 86, 87, 88, 89, 90, 91, 92, 93, 94, 95, 96, 97, 98, 99, 100, 101, 102, 103, 104, 105, 106, 107, 108, 109, 110, 111, 112, 113, 114, 115, 116, 117, 118, 119, 120, 121, 122, 11, 12, 13, 14, 3, 4, 6, 123, 124, 125, 126, 127, 128, 129, 130, 131, 132, 133, 134, 135, 136, 137, 138, 139, 140, 141, 142, 143, 144, 145, 146, 147, 148, 149, 150, 151, 152, 153, 154, 155, 156, 157, 158, 159, 160, 161, 162, 163, 164, 165, 166, 167, 168, 169, 170, 175, 176, 177, 178, 179, 180, 181, 182, 183, 184, 185, 186, 187, 188, 189, 190, 191, 192, 193, 194, 195, 196, 197, 198, 199, 200, 201, 202, 203, 204, 205, 206, 207, 208, 209, 210, 211, 212, 213, 214, 215, 216, 217, 218, 219, 220, 221, 222] (by decide +kernel) (by decide +kernel)
set_option maxRecDepth 20000 in
theorem gX12_taught_X12_taughtIn : GoodIn wsX12_taught (wsV RX12 397 RX12 yX12_taughtIn wsX12_taughtIn) := goodIn_app (goodIn_of _ (by decide +kernel)) ggX12_taught_X12_taughtIn
theorem dX12_taught_0 : decode cX12_taught 0 = .ok (.iload_n 1, 1) := by decide +kernel
theorem dX12_taught_1 : decode cX12_taught 1 = .ok (.iconst 0, 1) := by decide +kernel
theorem dX12_taught_2 : decode cX12_taught 2 = .ok (.iconst 2, 1) := by decide +kernel
theorem dX12_taught_3 : decode cX12_taught 3 = .ok (.invokestatic 96, 3) := by decide +kernel
theorem dX12_taught_6 : decode cX12_taught 6 = .ok (.ifCond .ne 5, 3) := by decide +kernel
theorem dX12_taught_9 : decode cX12_taught 9 = .ok (.iconst (-1), 1) := by decide +kernel
theorem dX12_taught_10 : decode cX12_taught 10 = .ok (.ireturn, 1) := by decide +kernel
theorem dX12_taught_11 : decode cX12_taught 11 = .ok (.aload_n 0, 1) := by decide +kernel
theorem dX12_taught_12 : decode cX12_taught 12 = .ok (.iconst (-1), 1) := by decide +kernel
theorem dX12_taught_13 : decode cX12_taught 13 = .ok (.invokevirtual 394, 3) := by decide +kernel
theorem dX12_taught_16 : decode cX12_taught 16 = .ok (.istore_n 2, 1) := by decide +kernel
theorem dX12_taught_17 : decode cX12_taught 17 = .ok (.iload_n 2, 1) := by decide +kernel
theorem dX12_taught_18 : decode cX12_taught 18 = .ok (.iconst (-1), 1) := by decide +kernel
theorem dX12_taught_19 : decode cX12_taught 19 = .ok (.if_icmp .ne 8, 3) := by decide +kernel
theorem dX12_taught_22 : decode cX12_taught 22 = .ok (.ldc 157, 2) := by decide +kernel
theorem dX12_taught_24 : decode cX12_taught 24 = .ok (.goto 4, 3) := by decide +kernel
theorem dX12_taught_27 : decode cX12_taught 27 = .ok (.iload_n 2, 1) := by decide +kernel
theorem dX12_taught_28 : decode cX12_taught 28 = .ok (.istore_n 3, 1) := by decide +kernel
theorem dX12_taught_29 : decode cX12_taught 29 = .ok (.iconst (-1), 1) := by decide +kernel
theorem dX12_taught_30 : decode cX12_taught 30 = .ok (.istore 4, 2) := by decide +kernel
theorem dX12_taught_32 : decode cX12_taught 32 = .ok (.iconst 0, 1) := by decide +kernel
theorem dX12_taught_33 : decode cX12_taught 33 = .ok (.istore 5, 2) := by decide +kernel
theorem dX12_taught_35 : decode cX12_taught 35 = .ok (.iload 5, 2) := by decide +kernel
theorem dX12_taught_37 : decode cX12_taught 37 = .ok (.aload_n 0, 1) := by decide +kernel
theorem dX12_taught_38 : decode cX12_taught 38 = .ok (.getfield 24, 3) := by decide +kernel
theorem dX12_taught_41 : decode cX12_taught 41 = .ok (.bipush 103, 2) := by decide +kernel
theorem dX12_taught_43 : decode cX12_taught 43 = .ok (.iaload, 1) := by decide +kernel
theorem dX12_taught_44 : decode cX12_taught 44 = .ok (.if_icmp .ge 76, 3) := by decide +kernel
theorem dX12_taught_47 : decode cX12_taught 47 = .ok (.iconst 0, 1) := by decide +kernel
theorem dX12_taught_48 : decode cX12_taught 48 = .ok (.istore 6, 2) := by decide +kernel
theorem dX12_taught_50 : decode cX12_taught 50 = .ok (.iload 6, 2) := by decide +kernel
theorem dX12_taught_52 : decode cX12_taught 52 = .ok (.iconst 4, 1) := by decide +kernel
theorem dX12_taught_53 : decode cX12_taught 53 = .ok (.if_icmp .ge 61, 3) := by decide +kernel
theorem dX12_taught_56 : decode cX12_taught 56 = .ok (.aload_n 0, 1) := by decide +kernel
theorem dX12_taught_57 : decode cX12_taught 57 = .ok (.getfield 24, 3) := by decide +kernel
theorem dX12_taught_60 : decode cX12_taught 60 = .ok (.bipush 63, 2) := by decide +kernel
theorem dX12_taught_62 : decode cX12_taught 62 = .ok (.iload 5, 2) := by decide +kernel
theorem dX12_taught_64 : decode cX12_taught 64 = .ok (.iadd, 1) := by decide +kernel
theorem dX12_taught_65 : decode cX12_taught 65 = .ok (.iaload, 1) := by decide +kernel
theorem dX12_taught_66 : decode cX12_taught 66 = .ok (.iload 6, 2) := by decide +kernel
theorem dX12_taught_68 : decode cX12_taught 68 = .ok (.invokestatic 302, 3) := by decide +kernel
theorem dX12_taught_71 : decode cX12_taught 71 = .ok (.ifCond .eq 6, 3) := by decide +kernel
theorem dX12_taught_74 : decode cX12_taught 74 = .ok (.goto 34, 3) := by decide +kernel
theorem dX12_taught_77 : decode cX12_taught 77 = .ok (.aload_n 0, 1) := by decide +kernel
theorem dX12_taught_78 : decode cX12_taught 78 = .ok (.iload 5, 2) := by decide +kernel
theorem dX12_taught_80 : decode cX12_taught 80 = .ok (.iload 6, 2) := by decide +kernel
theorem dX12_taught_82 : decode cX12_taught 82 = .ok (.invokevirtual 397, 3) := by decide +kernel
theorem dX12_taught_85 : decode cX12_taught 85 = .ok (.istore 7, 2) := by decide +kernel
theorem dX12_taught_87 : decode cX12_taught 87 = .ok (.iload 7, 2) := by decide +kernel
theorem dX12_taught_89 : decode cX12_taught 89 = .ok (.iload_n 3, 1) := by decide +kernel
theorem dX12_taught_90 : decode cX12_taught 90 = .ok (.if_icmp .lt 6, 3) := by decide +kernel
theorem dX12_taught_93 : decode cX12_taught 93 = .ok (.goto 15, 3) := by decide +kernel
theorem dX12_taught_96 : decode cX12_taught 96 = .ok (.iload 7, 2) := by decide +kernel
theorem dX12_taught_98 : decode cX12_taught 98 = .ok (.istore_n 3, 1) := by decide +kernel
theorem dX12_taught_99 : decode cX12_taught 99 = .ok (.iconst 4, 1) := by decide +kernel
theorem dX12_taught_100 : decode cX12_taught 100 = .ok (.iload 5, 2) := by decide +kernel
theorem dX12_taught_102 : decode cX12_taught 102 = .ok (.imul, 1) := by decide +kernel
theorem dX12_taught_103 : decode cX12_taught 103 = .ok (.iload 6, 2) := by decide +kernel
theorem dX12_taught_105 : decode cX12_taught 105 = .ok (.iadd, 1) := by decide +kernel
theorem dX12_taught_106 : decode cX12_taught 106 = .ok (.istore 4, 2) := by decide +kernel
theorem dX12_taught_108 : decode cX12_taught 108 = .ok (.iinc 6 1, 3) := by decide +kernel
theorem dX12_taught_111 : decode cX12_taught 111 = .ok (.goto (-61), 3) := by decide +kernel
theorem dX12_taught_114 : decode cX12_taught 114 = .ok (.iinc 5 1, 3) := by decide +kernel
theorem dX12_taught_117 : decode cX12_taught 117 = .ok (.goto (-82), 3) := by decide +kernel
theorem dX12_taught_120 : decode cX12_taught 120 = .ok (.iload 4, 2) := by decide +kernel
theorem dX12_taught_122 : decode cX12_taught 122 = .ok (.iconst (-1), 1) := by decide +kernel
theorem dX12_taught_123 : decode cX12_taught 123 = .ok (.if_icmp .ne 5, 3) := by decide +kernel
theorem dX12_taught_126 : decode cX12_taught 126 = .ok (.iconst (-1), 1) := by decide +kernel
theorem dX12_taught_127 : decode cX12_taught 127 = .ok (.ireturn, 1) := by decide +kernel
theorem dX12_taught_128 : decode cX12_taught 128 = .ok (.iload_n 1, 1) := by decide +kernel
theorem dX12_taught_129 : decode cX12_taught 129 = .ok (.ifCond .ne 10, 3) := by decide +kernel
theorem dX12_taught_132 : decode cX12_taught 132 = .ok (.iload 4, 2) := by decide +kernel
theorem dX12_taught_134 : decode cX12_taught 134 = .ok (.iconst 4, 1) := by decide +kernel
theorem dX12_taught_135 : decode cX12_taught 135 = .ok (.idiv, 1) := by decide +kernel
theorem dX12_taught_136 : decode cX12_taught 136 = .ok (.goto 16, 3) := by decide +kernel
theorem dX12_taught_139 : decode cX12_taught 139 = .ok (.iload_n 1, 1) := by decide +kernel
theorem dX12_taught_140 : decode cX12_taught 140 = .ok (.iconst 1, 1) := by decide +kernel
theorem dX12_taught_141 : decode cX12_taught 141 = .ok (.if_icmp .ne 10, 3) := by decide +kernel
theorem dX12_taught_144 : decode cX12_taught 144 = .ok (.iload 4, 2) := by decide +kernel
theorem dX12_taught_146 : decode cX12_taught 146 = .ok (.iconst 4, 1) := by decide +kernel
theorem dX12_taught_147 : decode cX12_taught 147 = .ok (.irem, 1) := by decide +kernel
theorem dX12_taught_148 : decode cX12_taught 148 = .ok (.goto 4, 3) := by decide +kernel
theorem dX12_taught_151 : decode cX12_taught 151 = .ok (.iload_n 3, 1) := by decide +kernel
theorem dX12_taught_152 : decode cX12_taught 152 = .ok (.ireturn, 1) := by decide +kernel
set_option maxRecDepth 20000 in
theorem ggX12_unseen_X12_lies : GoodIn wsX12_unseen wsX12_lies := goodIn_r _ [8] (by decide +kernel) (by decide +kernel)
set_option maxRecDepth 20000 in
theorem gX12_unseen_X12_lies : GoodIn wsX12_unseen (va_wsS RX12 96 yX12_lies wsX12_lies) := goodIn_app (goodIn_of _ (by decide +kernel)) ggX12_unseen_X12_lies
set_option maxRecDepth 20000 in
theorem ggX12_unseen_X12_begins : GoodIn wsX12_unseen wsX12_begins := goodIn_r _ [12, 3, 13, 14, 15, 7, 16, 17, 169, 170, 171, 172, 173, 174, 175, 176, 177, 178, 179, 180, 181, 182, 183, 184, 185, 186, 187, 188, 189, 190, 191, 192, 193, 194, 195, 196, 197, 198, 199, 200, 201, 202, 203, 204, 205, 206, 207, 208, 209, 210, 211, 212, 213, 214, 215, 216] (by decide +kernel) (by decide +kernel)
set_option maxRecDepth 20000 in
theorem gX12_unseen_X12_begins : GoodIn wsX12_unseen (wsV RX12 378 RX12 yX12_begins wsX12_begins) := goodIn_app (goodIn_of _ (by decide +kernel)) ggX12_unseen_X12_begins
set_option maxRecDepth 20000 in
theorem ggX12_unseen_X12_allParts : GoodIn wsX12_unseen wsX12_allParts := goodIn_r _ [21, 3, 169, 170, 171, 172, 173, 174, 175, 176, 177, 178, 179, 180, 181, 182, 183, 184, 185, 186, 187, 188, 189, 190, 191, 192, 193, 194, 195, 196, 197, 198, 199, 200, 201, 202, 203, 204, 205, 206, 207, 208, 209, 210, 211, 212, 213, 214, 215, 216] (by decide +kernel) (by decide +kernel)
set_option maxRecDepth 20000 in
theorem gX12_unseen_X12_allParts : GoodIn wsX12_unseen (wsV RX12 363 RX12 yX12_allParts wsX12_allParts) := goodIn_app (goodIn_of _ (by decide +kernel)) ggX12_unseen_X12_allParts
set_option maxRecDepth 20000 in
theorem ggX12_unseen_X12_areStanding : GoodIn wsX12_unseen wsX12_areStanding := goodIn_r _ [25, 26, 27, 28, 7, 29, 3, 30, 31, 32, 33, 169, 170, 171, 172, 173, 174, 175, 176, 177, 178, 179, 180, 181, 182, 183, 184, 185, 186, 187, 188, 189, 190, 191, 192, 193, 194, 195, 196, 197, 198, 199, 200, 201, 202, 203, 204, 205, 206, 207, 208, 209, 210, 211, 212, 213, 214, 215, 216] (by decide +kernel) (by decide +kernel)
set_option maxRecDepth 20000 in
theorem gX12_unseen_X12_areStanding : GoodIn wsX12_unseen (wsV RX12 381 RX12 yX12_areStanding wsX12_areStanding) := goodIn_app (goodIn_of _ (by decide +kernel)) ggX12_unseen_X12_areStanding
set_option maxRecDepth 20000 in
theorem ggX12_unseen_X12_allBuilders : GoodIn wsX12_unseen wsX12_allBuilders := goodIn_r _ [37, 3, 169, 170, 171, 172, 173, 174, 175, 176, 177, 178, 179, 180, 181, 182, 183, 184, 185, 186, 187, 188, 189, 190, 191, 192, 193, 194, 195, 196, 197, 198, 199, 200, 201, 202, 203, 204, 205, 206, 207, 208, 209, 210, 211, 212, 213, 214, 215, 216] (by decide +kernel) (by decide +kernel)
set_option maxRecDepth 20000 in
theorem gX12_unseen_X12_allBuilders : GoodIn wsX12_unseen (wsV RX12 342 RX12 yX12_allBuilders wsX12_allBuilders) := goodIn_app (goodIn_of _ (by decide +kernel)) ggX12_unseen_X12_allBuilders
set_option maxRecDepth 20000 in
theorem ggX12_unseen_X12_sendsAll : GoodIn wsX12_unseen wsX12_sendsAll := goodIn_r _ [41, 3, 42, 43, 44, 7, 45, 46, 47, 48, 49, 30, 31, 32, 33, 50, 51, 52, 53, 54, 55, 56, 57, 58, 59, 60, 26, 27, 28, 29, 61, 62, 63, 64, 65, 66, 67, 68, 69, 70, 71, 72, 73, 74, 75, 76, 77, 78, 79, 80, 81, 82, 83, 84, 85, 86, 87, 88, 89, 90, 91, 92, 93, 94, 95, 96, 97, 98, 99, 100, 101, 102, 103, 104, 105, 106, 107, 108, 109, 110, 111, 112, 113, 114, 115, 116, 5, 6, 8, 117, 118, 119, 120, 121, 122, 123, 124, 125, 126, 127, 128, 129, 130, 131, 132, 133, 134, 135, 136, 137, 138, 139, 140, 141, 142, 143, 144, 145, 146, 147, 169, 170, 171, 172, 173, 174, 175, 176, 177, 178, 179, 180, 181, 182, 183, 184, 185, 186, 187, 188, 189, 190, 191, 192, 193, 194, 195, 196, 197, 198, 199, 200, 201, 202, 203, 204, 205, 206, 207, 208, 209, 210, 211, 212, 213, 214, 215, 216] (by decide +kernel) (by decide +kernel)
set_option maxRecDepth 20000 in
theorem gX12_unseen_X12_sendsAll : GoodIn wsX12_unseen (wsV RX12 384 RX12 yX12_sendsAll wsX12_sendsAll) := goodIn_app (goodIn_of _ (by decide +kernel)) ggX12_unseen_X12_sendsAll
set_option maxRecDepth 20000 in
theorem ggX12_unseen_X12_showsIn : GoodIn wsX12_unseen wsX12_showsIn := goodIn_r _ [151, 65, 66, 67, 7, 68, 3, 69, 70, 71, 72, 73, 74, 75, 76, 77, 47, 48, 49, 78, 79, 80, 81, 82, 83, 84, 85, 86, 87, 88, 89, 90, 91, 92, 93, 94, 95, 96, 97, 98, 99, 100, 101, 102, 103, 104, 105, 106, 107, 108, 109, 110, 111, 112, 113, 114, 115, 116, 5, 6, 8, 117, 118, 119, 120, 26, 27, 28, 29, 30, 31, 32, 33, 121, 122, 123, 124, 125, 126, 127, 128, 129, 130, 131, 132, 133, 134, 135, 136, 137, 138, 139, 140, 141, 142, 143, 169, 170, 171, 172, 173, 174, 175, 176, 177, 178, 179, 180, 181, 182, 183, 184, 185, 186, 187, 188, 189, 190, 191, 192, 193, 194, 195, 196, 197, 198, 199, 200, 201, 202, 203, 204, 205, 206, 207, 208, 209, 210, 211, 212, 213, 214, 215, 216] (by decide +kernel) (by decide +kernel)
set_option maxRecDepth 20000 in
theorem gX12_unseen_X12_showsIn : GoodIn wsX12_unseen (wsV RX12 321 RX12 yX12_showsIn wsX12_showsIn) := goodIn_app (goodIn_of _ (by decide +kernel)) ggX12_unseen_X12_showsIn
set_option maxRecDepth 20000 in
theorem ggX12_unseen_X12_ticks : GoodIn wsX12_unseen wsX12_ticks := goodIn_r _ [155, 3, 156, 157, 26, 27, 28, 7, 29, 30, 31, 32, 33, 47, 48, 49, 144, 145, 146, 147, 74, 75, 76, 77, 65, 66, 67, 68, 69, 70, 71, 72, 73, 78, 79, 80, 81, 82, 83, 84, 85, 86, 87, 88, 89, 90, 91, 92, 93, 94, 95, 96, 97, 98, 99, 100, 101, 102, 103, 104, 105, 106, 107, 108, 109, 110, 111, 112, 113, 114, 115, 116, 5, 6, 8, 117, 118, 119, 120, 121, 122, 123, 124, 125, 126, 127, 128, 129, 130, 131, 132, 133, 134, 135, 136, 137, 138, 139, 140, 141, 142, 143, 158, 159, 160, 161, 50, 51, 52, 162, 163, 164, 169, 170, 171, 172, 173, 174, 175, 176, 177, 178, 179, 180, 181, 182, 183, 184, 185, 186, 187, 188, 189, 190, 191, 192, 193, 194, 195, 196, 197, 198, 199, 200, 201, 202, 203, 204, 205, 206, 207, 208, 209, 210, 211, 212, 213, 214, 215, 216] (by decide +kernel) (by decide +kernel)
set_option maxRecDepth 20000 in
theorem gX12_unseen_X12_ticks : GoodIn wsX12_unseen (wsV RX12 345 RX12 yX12_ticks wsX12_ticks) := goodIn_app (goodIn_of _ (by decide +kernel)) ggX12_unseen_X12_ticks
set_option maxRecDepth 20000 in
theorem ggX12_unseen_X12_takesBack : GoodIn wsX12_unseen wsX12_takesBack := goodIn_r _ [168, 3, 17, 169, 170, 171, 172, 173, 174, 175, 176, 177, 178, 179, 180, 181, 182, 183, 184, 185, 186, 187, 188, 189, 190, 191, 192, 193, 194, 195, 196, 197, 198, 199, 200, 201, 202, 203, 204, 205, 206, 207, 208, 209, 210, 211, 212, 213, 214, 215, 216] (by decide +kernel) (by decide +kernel)
set_option maxRecDepth 20000 in
theorem gX12_unseen_X12_takesBack : GoodIn wsX12_unseen (wsV RX12 387 RX12 yX12_takesBack wsX12_takesBack) := goodIn_app (goodIn_of _ (by decide +kernel)) ggX12_unseen_X12_takesBack
theorem dX12_unseen_0 : decode cX12_unseen 0 = .ok (.iload_n 1, 1) := by decide +kernel
theorem dX12_unseen_1 : decode cX12_unseen 1 = .ok (.iconst 0, 1) := by decide +kernel
theorem dX12_unseen_2 : decode cX12_unseen 2 = .ok (.bipush 99, 2) := by decide +kernel
theorem dX12_unseen_4 : decode cX12_unseen 4 = .ok (.invokestatic 96, 3) := by decide +kernel
theorem dX12_unseen_7 : decode cX12_unseen 7 = .ok (.ifCond .ne 7, 3) := by decide +kernel
theorem dX12_unseen_10 : decode cX12_unseen 10 = .ok (.ldc2_w 400, 3) := by decide +kernel
theorem dX12_unseen_13 : decode cX12_unseen 13 = .ok (.lreturn, 1) := by decide +kernel
theorem dX12_unseen_14 : decode cX12_unseen 14 = .ok (.aload_n 0, 1) := by decide +kernel
theorem dX12_unseen_15 : decode cX12_unseen 15 = .ok (.invokevirtual 378, 3) := by decide +kernel
theorem dX12_unseen_18 : decode cX12_unseen 18 = .ok (.ldc2_w 402, 3) := by decide +kernel
theorem dX12_unseen_21 : decode cX12_unseen 21 = .ok (.lstore_n 2, 1) := by decide +kernel
theorem dX12_unseen_22 : decode cX12_unseen 22 = .ok (.iconst 0, 1) := by decide +kernel
theorem dX12_unseen_23 : decode cX12_unseen 23 = .ok (.istore 4, 2) := by decide +kernel
theorem dX12_unseen_25 : decode cX12_unseen 25 = .ok (.iload 4, 2) := by decide +kernel
theorem dX12_unseen_27 : decode cX12_unseen 27 = .ok (.iload_n 1, 1) := by decide +kernel
theorem dX12_unseen_28 : decode cX12_unseen 28 = .ok (.if_icmp .ge 99, 3) := by decide +kernel
theorem dX12_unseen_31 : decode cX12_unseen 31 = .ok (.aload_n 0, 1) := by decide +kernel
theorem dX12_unseen_32 : decode cX12_unseen 32 = .ok (.aload_n 0, 1) := by decide +kernel
theorem dX12_unseen_33 : decode cX12_unseen 33 = .ok (.invokevirtual 363, 3) := by decide +kernel
theorem dX12_unseen_36 : decode cX12_unseen 36 = .ok (.invokevirtual 381, 3) := by decide +kernel
theorem dX12_unseen_39 : decode cX12_unseen 39 = .ok (.ifCond .ne 88, 3) := by decide +kernel
theorem dX12_unseen_42 : decode cX12_unseen 42 = .ok (.aload_n 0, 1) := by decide +kernel
theorem dX12_unseen_43 : decode cX12_unseen 43 = .ok (.aload_n 0, 1) := by decide +kernel
theorem dX12_unseen_44 : decode cX12_unseen 44 = .ok (.invokevirtual 342, 3) := by decide +kernel
theorem dX12_unseen_47 : decode cX12_unseen 47 = .ok (.invokevirtual 384, 3) := by decide +kernel
theorem dX12_unseen_50 : decode cX12_unseen 50 = .ok (.iconst 0, 1) := by decide +kernel
theorem dX12_unseen_51 : decode cX12_unseen 51 = .ok (.istore 5, 2) := by decide +kernel
theorem dX12_unseen_53 : decode cX12_unseen 53 = .ok (.iload 5, 2) := by decide +kernel
theorem dX12_unseen_55 : decode cX12_unseen 55 = .ok (.aload_n 0, 1) := by decide +kernel
theorem dX12_unseen_56 : decode cX12_unseen 56 = .ok (.getfield 24, 3) := by decide +kernel
theorem dX12_unseen_59 : decode cX12_unseen 59 = .ok (.bipush 103, 2) := by decide +kernel
theorem dX12_unseen_61 : decode cX12_unseen 61 = .ok (.iaload, 1) := by decide +kernel
theorem dX12_unseen_62 : decode cX12_unseen 62 = .ok (.if_icmp .ge 50, 3) := by decide +kernel
theorem dX12_unseen_65 : decode cX12_unseen 65 = .ok (.aload_n 0, 1) := by decide +kernel
theorem dX12_unseen_66 : decode cX12_unseen 66 = .ok (.getfield 24, 3) := by decide +kernel
theorem dX12_unseen_69 : decode cX12_unseen 69 = .ok (.bipush 16, 2) := by decide +kernel
theorem dX12_unseen_71 : decode cX12_unseen 71 = .ok (.iload 5, 2) := by decide +kernel
theorem dX12_unseen_73 : decode cX12_unseen 73 = .ok (.iadd, 1) := by decide +kernel
theorem dX12_unseen_74 : decode cX12_unseen 74 = .ok (.iaload, 1) := by decide +kernel
theorem dX12_unseen_75 : decode cX12_unseen 75 = .ok (.iconst (-1), 1) := by decide +kernel
theorem dX12_unseen_76 : decode cX12_unseen 76 = .ok (.if_icmp .eq 30, 3) := by decide +kernel
theorem dX12_unseen_79 : decode cX12_unseen 79 = .ok (.lload_n 2, 1) := by decide +kernel
theorem dX12_unseen_80 : decode cX12_unseen 80 = .ok (.bipush 10, 2) := by decide +kernel
theorem dX12_unseen_82 : decode cX12_unseen 82 = .ok (.aload_n 0, 1) := by decide +kernel
theorem dX12_unseen_83 : decode cX12_unseen 83 = .ok (.iload 5, 2) := by decide +kernel
theorem dX12_unseen_85 : decode cX12_unseen 85 = .ok (.aload_n 0, 1) := by decide +kernel
theorem dX12_unseen_86 : decode cX12_unseen 86 = .ok (.getfield 24, 3) := by decide +kernel
theorem dX12_unseen_89 : decode cX12_unseen 89 = .ok (.bipush 16, 2) := by decide +kernel
theorem dX12_unseen_91 : decode cX12_unseen 91 = .ok (.iload 5, 2) := by decide +kernel
theorem dX12_unseen_93 : decode cX12_unseen 93 = .ok (.iadd, 1) := by decide +kernel
theorem dX12_unseen_94 : decode cX12_unseen 94 = .ok (.iaload, 1) := by decide +kernel
theorem dX12_unseen_95 : decode cX12_unseen 95 = .ok (.invokevirtual 321, 3) := by decide +kernel
theorem dX12_unseen_98 : decode cX12_unseen 98 = .ok (.isub, 1) := by decide +kernel
theorem dX12_unseen_99 : decode cX12_unseen 99 = .ok (.i2l, 1) := by decide +kernel
theorem dX12_unseen_100 : decode cX12_unseen 100 = .ok (.lmul, 1) := by decide +kernel
theorem dX12_unseen_101 : decode cX12_unseen 101 = .ok (.ldc2_w 404, 3) := by decide +kernel
theorem dX12_unseen_104 : decode cX12_unseen 104 = .ok (.ldiv, 1) := by decide +kernel
theorem dX12_unseen_105 : decode cX12_unseen 105 = .ok (.lstore_n 2, 1) := by decide +kernel
theorem dX12_unseen_106 : decode cX12_unseen 106 = .ok (.iinc 5 1, 3) := by decide +kernel
theorem dX12_unseen_109 : decode cX12_unseen 109 = .ok (.goto (-56), 3) := by decide +kernel
theorem dX12_unseen_112 : decode cX12_unseen 112 = .ok (.aload_n 0, 1) := by decide +kernel
theorem dX12_unseen_113 : decode cX12_unseen 113 = .ok (.aload_n 0, 1) := by decide +kernel
theorem dX12_unseen_114 : decode cX12_unseen 114 = .ok (.invokevirtual 342, 3) := by decide +kernel
theorem dX12_unseen_117 : decode cX12_unseen 117 = .ok (.invokevirtual 345, 3) := by decide +kernel
theorem dX12_unseen_120 : decode cX12_unseen 120 = .ok (.pop, 1) := by decide +kernel
theorem dX12_unseen_121 : decode cX12_unseen 121 = .ok (.iinc 4 1, 3) := by decide +kernel
theorem dX12_unseen_124 : decode cX12_unseen 124 = .ok (.goto (-99), 3) := by decide +kernel
theorem dX12_unseen_127 : decode cX12_unseen 127 = .ok (.aload_n 0, 1) := by decide +kernel
theorem dX12_unseen_128 : decode cX12_unseen 128 = .ok (.iconst 0, 1) := by decide +kernel
theorem dX12_unseen_129 : decode cX12_unseen 129 = .ok (.invokevirtual 387, 3) := by decide +kernel
theorem dX12_unseen_132 : decode cX12_unseen 132 = .ok (.lload_n 2, 1) := by decide +kernel
theorem dX12_unseen_133 : decode cX12_unseen 133 = .ok (.lreturn, 1) := by decide +kernel
set_option maxRecDepth 20000 in
theorem ggX12_sight_X12_lies : GoodIn wsX12_sight wsX12_lies := goodIn_r _ [5] (by decide +kernel) (by decide +kernel)
set_option maxRecDepth 20000 in
theorem gX12_sight_X12_lies : GoodIn wsX12_sight (va_wsS RX12 96 yX12_lies wsX12_lies) := goodIn_app (goodIn_of _ (by decide +kernel)) ggX12_sight_X12_lies
set_option maxRecDepth 20000 in
theorem ggX12_sight_X12_refuses : GoodIn wsX12_sight wsX12_refuses := goodIn_r _ [9, 10, 11, 20, 21, 22, 23, 24, 25, 26, 27, 28, 29, 30, 31, 32, 33, 34, 35, 36, 37, 38, 39, 40, 41, 42, 43, 44, 45, 46, 47, 48, 49, 50, 51, 52, 53, 54, 55, 56, 57, 58, 59, 60, 61, 62, 63, 64, 65, 66, 67] (by decide +kernel) (by decide +kernel)
set_option maxRecDepth 20000 in
theorem gX12_sight_X12_refuses : GoodIn wsX12_sight (wsV RX12 100 RX12 yX12_refuses wsX12_refuses) := goodIn_app (goodIn_of _ (by decide +kernel)) ggX12_sight_X12_refuses
set_option maxRecDepth 20000 in
theorem ggX12_sight_X12_isPart : GoodIn wsX12_sight wsX12_isPart := goodIn_r _ [15, 1, 2, 3, 4, 5, 20, 21, 22, 23, 24, 25, 26, 27, 28, 29, 30, 31, 32, 33, 34, 35, 36, 37, 38, 39, 40, 41, 42, 43, 44, 45, 46, 47, 48, 49, 50, 51, 52, 53, 54, 55, 56, 57, 58, 59, 60, 61, 62, 63, 64, 65, 66, 67] (by decide +kernel) (by decide +kernel)
set_option maxRecDepth 20000 in
theorem gX12_sight_X12_isPart : GoodIn wsX12_sight (wsV RX12 122 RX12 yX12_isPart wsX12_isPart) := goodIn_app (goodIn_of _ (by decide +kernel)) ggX12_sight_X12_isPart
set_option maxRecDepth 20000 in
theorem ggX12_sight_X12_good : GoodIn wsX12_sight wsX12_good := goodIn_r _ [19, 10, 20, 21, 22, 23, 24, 25, 26, 27, 28, 29, 30, 31, 32, 33, 34, 35, 36, 37, 38, 39, 40, 41, 42, 43, 44, 45, 46, 47, 48, 49, 50, 51, 52, 53, 54, 55, 56, 57, 58, 59, 60, 61, 62, 63, 64, 65, 66, 67] (by decide +kernel) (by decide +kernel)
set_option maxRecDepth 20000 in
theorem gX12_sight_X12_good : GoodIn wsX12_sight (wsV RX12 14 RX12 yX12_good wsX12_good) := goodIn_app (goodIn_of _ (by decide +kernel)) ggX12_sight_X12_good
theorem dX12_sight_0 : decode cX12_sight 0 = .ok (.iload_n 1, 1) := by decide +kernel
theorem dX12_sight_1 : decode cX12_sight 1 = .ok (.iconst 0, 1) := by decide +kernel
theorem dX12_sight_2 : decode cX12_sight 2 = .ok (.bipush 99, 2) := by decide +kernel
theorem dX12_sight_4 : decode cX12_sight 4 = .ok (.invokestatic 96, 3) := by decide +kernel
theorem dX12_sight_7 : decode cX12_sight 7 = .ok (.ifCond .eq 12, 3) := by decide +kernel
theorem dX12_sight_10 : decode cX12_sight 10 = .ok (.iload_n 3, 1) := by decide +kernel
theorem dX12_sight_11 : decode cX12_sight 11 = .ok (.iconst 0, 1) := by decide +kernel
theorem dX12_sight_12 : decode cX12_sight 12 = .ok (.iconst 1, 1) := by decide +kernel
theorem dX12_sight_13 : decode cX12_sight 13 = .ok (.invokestatic 96, 3) := by decide +kernel
theorem dX12_sight_16 : decode cX12_sight 16 = .ok (.ifCond .ne 9, 3) := by decide +kernel
theorem dX12_sight_19 : decode cX12_sight 19 = .ok (.aload_n 0, 1) := by decide +kernel
theorem dX12_sight_20 : decode cX12_sight 20 = .ok (.iconst (-1), 1) := by decide +kernel
theorem dX12_sight_21 : decode cX12_sight 21 = .ok (.invokevirtual 100, 3) := by decide +kernel
theorem dX12_sight_24 : decode cX12_sight 24 = .ok (.ireturn, 1) := by decide +kernel
theorem dX12_sight_25 : decode cX12_sight 25 = .ok (.aload_n 0, 1) := by decide +kernel
theorem dX12_sight_26 : decode cX12_sight 26 = .ok (.iload_n 2, 1) := by decide +kernel
theorem dX12_sight_27 : decode cX12_sight 27 = .ok (.invokevirtual 122, 3) := by decide +kernel
theorem dX12_sight_30 : decode cX12_sight 30 = .ok (.ifCond .ne 10, 3) := by decide +kernel
theorem dX12_sight_33 : decode cX12_sight 33 = .ok (.aload_n 0, 1) := by decide +kernel
theorem dX12_sight_34 : decode cX12_sight 34 = .ok (.bipush (-2), 2) := by decide +kernel
theorem dX12_sight_36 : decode cX12_sight 36 = .ok (.invokevirtual 100, 3) := by decide +kernel
theorem dX12_sight_39 : decode cX12_sight 39 = .ok (.ireturn, 1) := by decide +kernel
theorem dX12_sight_40 : decode cX12_sight 40 = .ok (.aload_n 0, 1) := by decide +kernel
theorem dX12_sight_41 : decode cX12_sight 41 = .ok (.getfield 24, 3) := by decide +kernel
theorem dX12_sight_44 : decode cX12_sight 44 = .ok (.bipush 104, 2) := by decide +kernel
theorem dX12_sight_46 : decode cX12_sight 46 = .ok (.iaload, 1) := by decide +kernel
theorem dX12_sight_47 : decode cX12_sight 47 = .ok (.istore 4, 2) := by decide +kernel
theorem dX12_sight_49 : decode cX12_sight 49 = .ok (.iload 4, 2) := by decide +kernel
theorem dX12_sight_51 : decode cX12_sight 51 = .ok (.bipush 8, 2) := by decide +kernel
theorem dX12_sight_53 : decode cX12_sight 53 = .ok (.if_icmp .ne 10, 3) := by decide +kernel
theorem dX12_sight_56 : decode cX12_sight 56 = .ok (.aload_n 0, 1) := by decide +kernel
theorem dX12_sight_57 : decode cX12_sight 57 = .ok (.bipush (-5), 2) := by decide +kernel
theorem dX12_sight_59 : decode cX12_sight 59 = .ok (.invokevirtual 100, 3) := by decide +kernel
theorem dX12_sight_62 : decode cX12_sight 62 = .ok (.ireturn, 1) := by decide +kernel
theorem dX12_sight_63 : decode cX12_sight 63 = .ok (.aload_n 0, 1) := by decide +kernel
theorem dX12_sight_64 : decode cX12_sight 64 = .ok (.getfield 24, 3) := by decide +kernel
theorem dX12_sight_67 : decode cX12_sight 67 = .ok (.bipush 75, 2) := by decide +kernel
theorem dX12_sight_69 : decode cX12_sight 69 = .ok (.iconst 3, 1) := by decide +kernel
theorem dX12_sight_70 : decode cX12_sight 70 = .ok (.iload 4, 2) := by decide +kernel
theorem dX12_sight_72 : decode cX12_sight 72 = .ok (.imul, 1) := by decide +kernel
theorem dX12_sight_73 : decode cX12_sight 73 = .ok (.iadd, 1) := by decide +kernel
theorem dX12_sight_74 : decode cX12_sight 74 = .ok (.iload_n 1, 1) := by decide +kernel
theorem dX12_sight_75 : decode cX12_sight 75 = .ok (.iastore, 1) := by decide +kernel
theorem dX12_sight_76 : decode cX12_sight 76 = .ok (.aload_n 0, 1) := by decide +kernel
theorem dX12_sight_77 : decode cX12_sight 77 = .ok (.getfield 24, 3) := by decide +kernel
theorem dX12_sight_80 : decode cX12_sight 80 = .ok (.bipush 75, 2) := by decide +kernel
theorem dX12_sight_82 : decode cX12_sight 82 = .ok (.iconst 3, 1) := by decide +kernel
theorem dX12_sight_83 : decode cX12_sight 83 = .ok (.iload 4, 2) := by decide +kernel
theorem dX12_sight_85 : decode cX12_sight 85 = .ok (.imul, 1) := by decide +kernel
theorem dX12_sight_86 : decode cX12_sight 86 = .ok (.iadd, 1) := by decide +kernel
theorem dX12_sight_87 : decode cX12_sight 87 = .ok (.iconst 1, 1) := by decide +kernel
theorem dX12_sight_88 : decode cX12_sight 88 = .ok (.iadd, 1) := by decide +kernel
theorem dX12_sight_89 : decode cX12_sight 89 = .ok (.iload_n 2, 1) := by decide +kernel
theorem dX12_sight_90 : decode cX12_sight 90 = .ok (.iastore, 1) := by decide +kernel
theorem dX12_sight_91 : decode cX12_sight 91 = .ok (.aload_n 0, 1) := by decide +kernel
theorem dX12_sight_92 : decode cX12_sight 92 = .ok (.getfield 24, 3) := by decide +kernel
theorem dX12_sight_95 : decode cX12_sight 95 = .ok (.bipush 75, 2) := by decide +kernel
theorem dX12_sight_97 : decode cX12_sight 97 = .ok (.iconst 3, 1) := by decide +kernel
theorem dX12_sight_98 : decode cX12_sight 98 = .ok (.iload 4, 2) := by decide +kernel
theorem dX12_sight_100 : decode cX12_sight 100 = .ok (.imul, 1) := by decide +kernel
theorem dX12_sight_101 : decode cX12_sight 101 = .ok (.iadd, 1) := by decide +kernel
theorem dX12_sight_102 : decode cX12_sight 102 = .ok (.iconst 2, 1) := by decide +kernel
theorem dX12_sight_103 : decode cX12_sight 103 = .ok (.iadd, 1) := by decide +kernel
theorem dX12_sight_104 : decode cX12_sight 104 = .ok (.iload_n 3, 1) := by decide +kernel
theorem dX12_sight_105 : decode cX12_sight 105 = .ok (.iastore, 1) := by decide +kernel
theorem dX12_sight_106 : decode cX12_sight 106 = .ok (.aload_n 0, 1) := by decide +kernel
theorem dX12_sight_107 : decode cX12_sight 107 = .ok (.getfield 24, 3) := by decide +kernel
theorem dX12_sight_110 : decode cX12_sight 110 = .ok (.bipush 104, 2) := by decide +kernel
theorem dX12_sight_112 : decode cX12_sight 112 = .ok (.dup2, 1) := by decide +kernel
theorem dX12_sight_113 : decode cX12_sight 113 = .ok (.iaload, 1) := by decide +kernel
theorem dX12_sight_114 : decode cX12_sight 114 = .ok (.iconst 1, 1) := by decide +kernel
theorem dX12_sight_115 : decode cX12_sight 115 = .ok (.iadd, 1) := by decide +kernel
theorem dX12_sight_116 : decode cX12_sight 116 = .ok (.iastore, 1) := by decide +kernel
theorem dX12_sight_117 : decode cX12_sight 117 = .ok (.aload_n 0, 1) := by decide +kernel
theorem dX12_sight_118 : decode cX12_sight 118 = .ok (.iload 4, 2) := by decide +kernel
theorem dX12_sight_120 : decode cX12_sight 120 = .ok (.iconst 1, 1) := by decide +kernel
theorem dX12_sight_121 : decode cX12_sight 121 = .ok (.iadd, 1) := by decide +kernel
theorem dX12_sight_122 : decode cX12_sight 122 = .ok (.invokevirtual 14, 3) := by decide +kernel
theorem dX12_sight_125 : decode cX12_sight 125 = .ok (.ireturn, 1) := by decide +kernel
theorem dX12_forget_0 : decode cX12_forget 0 = .ok (.aload_n 0, 1) := by decide +kernel
theorem dX12_forget_1 : decode cX12_forget 1 = .ok (.getfield 24, 3) := by decide +kernel
theorem dX12_forget_4 : decode cX12_forget 4 = .ok (.bipush 104, 2) := by decide +kernel
theorem dX12_forget_6 : decode cX12_forget 6 = .ok (.iaload, 1) := by decide +kernel
theorem dX12_forget_7 : decode cX12_forget 7 = .ok (.istore_n 1, 1) := by decide +kernel
theorem dX12_forget_8 : decode cX12_forget 8 = .ok (.aload_n 0, 1) := by decide +kernel
theorem dX12_forget_9 : decode cX12_forget 9 = .ok (.getfield 24, 3) := by decide +kernel
theorem dX12_forget_12 : decode cX12_forget 12 = .ok (.bipush 104, 2) := by decide +kernel
theorem dX12_forget_14 : decode cX12_forget 14 = .ok (.iconst 0, 1) := by decide +kernel
theorem dX12_forget_15 : decode cX12_forget 15 = .ok (.iastore, 1) := by decide +kernel
theorem dX12_forget_16 : decode cX12_forget 16 = .ok (.iload_n 1, 1) := by decide +kernel
theorem dX12_forget_17 : decode cX12_forget 17 = .ok (.ireturn, 1) := by decide +kernel
set_option maxRecDepth 20000 in
theorem ggX12_areSo_X12_stands0 : GoodIn wsX12_areSo wsX12_stands0 := goodIn_r _ [6, 1, 7, 8, 9, 10, 11, 12, 13, 14, 15, 16, 17, 18, 19, 20, 21, 22, 23, 24, 25, 26, 27, 28, 29, 30, 31, 32, 33, 34, 35, 36, 37, 38, 39, 40, 41, 42, 43, 44, 45, 46, 47, 48, 49, 50, 51, 52, 53, 54] (by decide +kernel) (by decide +kernel)
set_option maxRecDepth 20000 in
theorem gX12_areSo_X12_stands0 : GoodIn wsX12_areSo (wsV RX12 114 RX12 yX12_stands0 wsX12_stands0) := goodIn_app (goodIn_of _ (by decide +kernel)) ggX12_areSo_X12_stands0
theorem dX12_areSo_0 : decode cX12_areSo 0 = .ok (.iconst 1, 1) := by decide +kernel
theorem dX12_areSo_1 : decode cX12_areSo 1 = .ok (.istore_n 2, 1) := by decide +kernel
theorem dX12_areSo_2 : decode cX12_areSo 2 = .ok (.iconst 0, 1) := by decide +kernel
theorem dX12_areSo_3 : decode cX12_areSo 3 = .ok (.istore_n 3, 1) := by decide +kernel
theorem dX12_areSo_4 : decode cX12_areSo 4 = .ok (.iload_n 3, 1) := by decide +kernel
theorem dX12_areSo_5 : decode cX12_areSo 5 = .ok (.aload_n 0, 1) := by decide +kernel
theorem dX12_areSo_6 : decode cX12_areSo 6 = .ok (.getfield 24, 3) := by decide +kernel
theorem dX12_areSo_9 : decode cX12_areSo 9 = .ok (.bipush 104, 2) := by decide +kernel
theorem dX12_areSo_11 : decode cX12_areSo 11 = .ok (.iaload, 1) := by decide +kernel
theorem dX12_areSo_12 : decode cX12_areSo 12 = .ok (.if_icmp .ge 76, 3) := by decide +kernel
theorem dX12_areSo_15 : decode cX12_areSo 15 = .ok (.iload_n 2, 1) := by decide +kernel
theorem dX12_areSo_16 : decode cX12_areSo 16 = .ok (.ifCond .eq 64, 3) := by decide +kernel
theorem dX12_areSo_19 : decode cX12_areSo 19 = .ok (.aload_n 0, 1) := by decide +kernel
theorem dX12_areSo_20 : decode cX12_areSo 20 = .ok (.getfield 24, 3) := by decide +kernel
theorem dX12_areSo_23 : decode cX12_areSo 23 = .ok (.bipush 75, 2) := by decide +kernel
theorem dX12_areSo_25 : decode cX12_areSo 25 = .ok (.iconst 3, 1) := by decide +kernel
theorem dX12_areSo_26 : decode cX12_areSo 26 = .ok (.iload_n 3, 1) := by decide +kernel
theorem dX12_areSo_27 : decode cX12_areSo 27 = .ok (.imul, 1) := by decide +kernel
theorem dX12_areSo_28 : decode cX12_areSo 28 = .ok (.iadd, 1) := by decide +kernel
theorem dX12_areSo_29 : decode cX12_areSo 29 = .ok (.iaload, 1) := by decide +kernel
theorem dX12_areSo_30 : decode cX12_areSo 30 = .ok (.iload_n 1, 1) := by decide +kernel
theorem dX12_areSo_31 : decode cX12_areSo 31 = .ok (.if_icmp .ne 45, 3) := by decide +kernel
theorem dX12_areSo_34 : decode cX12_areSo 34 = .ok (.aload_n 0, 1) := by decide +kernel
theorem dX12_areSo_35 : decode cX12_areSo 35 = .ok (.aload_n 0, 1) := by decide +kernel
theorem dX12_areSo_36 : decode cX12_areSo 36 = .ok (.getfield 24, 3) := by decide +kernel
theorem dX12_areSo_39 : decode cX12_areSo 39 = .ok (.bipush 75, 2) := by decide +kernel
theorem dX12_areSo_41 : decode cX12_areSo 41 = .ok (.iconst 3, 1) := by decide +kernel
theorem dX12_areSo_42 : decode cX12_areSo 42 = .ok (.iload_n 3, 1) := by decide +kernel
theorem dX12_areSo_43 : decode cX12_areSo 43 = .ok (.imul, 1) := by decide +kernel
theorem dX12_areSo_44 : decode cX12_areSo 44 = .ok (.iadd, 1) := by decide +kernel
theorem dX12_areSo_45 : decode cX12_areSo 45 = .ok (.iconst 1, 1) := by decide +kernel
theorem dX12_areSo_46 : decode cX12_areSo 46 = .ok (.iadd, 1) := by decide +kernel
theorem dX12_areSo_47 : decode cX12_areSo 47 = .ok (.iaload, 1) := by decide +kernel
theorem dX12_areSo_48 : decode cX12_areSo 48 = .ok (.invokevirtual 114, 3) := by decide +kernel
theorem dX12_areSo_51 : decode cX12_areSo 51 = .ok (.aload_n 0, 1) := by decide +kernel
theorem dX12_areSo_52 : decode cX12_areSo 52 = .ok (.getfield 24, 3) := by decide +kernel
theorem dX12_areSo_55 : decode cX12_areSo 55 = .ok (.bipush 75, 2) := by decide +kernel
theorem dX12_areSo_57 : decode cX12_areSo 57 = .ok (.iconst 3, 1) := by decide +kernel
theorem dX12_areSo_58 : decode cX12_areSo 58 = .ok (.iload_n 3, 1) := by decide +kernel
theorem dX12_areSo_59 : decode cX12_areSo 59 = .ok (.imul, 1) := by decide +kernel
theorem dX12_areSo_60 : decode cX12_areSo 60 = .ok (.iadd, 1) := by decide +kernel
theorem dX12_areSo_61 : decode cX12_areSo 61 = .ok (.iconst 2, 1) := by decide +kernel
theorem dX12_areSo_62 : decode cX12_areSo 62 = .ok (.iadd, 1) := by decide +kernel
theorem dX12_areSo_63 : decode cX12_areSo 63 = .ok (.iaload, 1) := by decide +kernel
theorem dX12_areSo_64 : decode cX12_areSo 64 = .ok (.iconst 1, 1) := by decide +kernel
theorem dX12_areSo_65 : decode cX12_areSo 65 = .ok (.if_icmp .ne 7, 3) := by decide +kernel
theorem dX12_areSo_68 : decode cX12_areSo 68 = .ok (.iconst 1, 1) := by decide +kernel
theorem dX12_areSo_69 : decode cX12_areSo 69 = .ok (.goto 4, 3) := by decide +kernel
theorem dX12_areSo_72 : decode cX12_areSo 72 = .ok (.iconst 0, 1) := by decide +kernel
theorem dX12_areSo_73 : decode cX12_areSo 73 = .ok (.if_icmp .ne 7, 3) := by decide +kernel
theorem dX12_areSo_76 : decode cX12_areSo 76 = .ok (.iconst 1, 1) := by decide +kernel
theorem dX12_areSo_77 : decode cX12_areSo 77 = .ok (.goto 4, 3) := by decide +kernel
theorem dX12_areSo_80 : decode cX12_areSo 80 = .ok (.iconst 0, 1) := by decide +kernel
theorem dX12_areSo_81 : decode cX12_areSo 81 = .ok (.istore_n 2, 1) := by decide +kernel
theorem dX12_areSo_82 : decode cX12_areSo 82 = .ok (.iinc 3 1, 3) := by decide +kernel
theorem dX12_areSo_85 : decode cX12_areSo 85 = .ok (.goto (-81), 3) := by decide +kernel
theorem dX12_areSo_88 : decode cX12_areSo 88 = .ok (.iload_n 2, 1) := by decide +kernel
theorem dX12_areSo_89 : decode cX12_areSo 89 = .ok (.ireturn, 1) := by decide +kernel
set_option maxRecDepth 20000 in
theorem ggX12_lastSight_X12_greater : GoodIn wsX12_lastSight wsX12_greater := goodIn_r _ [5] (by decide +kernel) (by decide +kernel)
set_option maxRecDepth 20000 in
theorem gX12_lastSight_X12_greater : GoodIn wsX12_lastSight (va_wsS RX12 327 yX12_greater wsX12_greater) := goodIn_app (goodIn_of _ (by decide +kernel)) ggX12_lastSight_X12_greater
theorem dX12_lastSight_0 : decode cX12_lastSight 0 = .ok (.iconst 0, 1) := by decide +kernel
theorem dX12_lastSight_1 : decode cX12_lastSight 1 = .ok (.istore_n 1, 1) := by decide +kernel
theorem dX12_lastSight_2 : decode cX12_lastSight 2 = .ok (.iconst 0, 1) := by decide +kernel
theorem dX12_lastSight_3 : decode cX12_lastSight 3 = .ok (.istore_n 2, 1) := by decide +kernel
theorem dX12_lastSight_4 : decode cX12_lastSight 4 = .ok (.iload_n 2, 1) := by decide +kernel
theorem dX12_lastSight_5 : decode cX12_lastSight 5 = .ok (.aload_n 0, 1) := by decide +kernel
theorem dX12_lastSight_6 : decode cX12_lastSight 6 = .ok (.getfield 24, 3) := by decide +kernel
theorem dX12_lastSight_9 : decode cX12_lastSight 9 = .ok (.bipush 104, 2) := by decide +kernel
theorem dX12_lastSight_11 : decode cX12_lastSight 11 = .ok (.iaload, 1) := by decide +kernel
theorem dX12_lastSight_12 : decode cX12_lastSight 12 = .ok (.if_icmp .ge 25, 3) := by decide +kernel
theorem dX12_lastSight_15 : decode cX12_lastSight 15 = .ok (.iload_n 1, 1) := by decide +kernel
theorem dX12_lastSight_16 : decode cX12_lastSight 16 = .ok (.aload_n 0, 1) := by decide +kernel
theorem dX12_lastSight_17 : decode cX12_lastSight 17 = .ok (.getfield 24, 3) := by decide +kernel
theorem dX12_lastSight_20 : decode cX12_lastSight 20 = .ok (.bipush 75, 2) := by decide +kernel
theorem dX12_lastSight_22 : decode cX12_lastSight 22 = .ok (.iconst 3, 1) := by decide +kernel
theorem dX12_lastSight_23 : decode cX12_lastSight 23 = .ok (.iload_n 2, 1) := by decide +kernel
theorem dX12_lastSight_24 : decode cX12_lastSight 24 = .ok (.imul, 1) := by decide +kernel
theorem dX12_lastSight_25 : decode cX12_lastSight 25 = .ok (.iadd, 1) := by decide +kernel
theorem dX12_lastSight_26 : decode cX12_lastSight 26 = .ok (.iaload, 1) := by decide +kernel
theorem dX12_lastSight_27 : decode cX12_lastSight 27 = .ok (.invokestatic 327, 3) := by decide +kernel
theorem dX12_lastSight_30 : decode cX12_lastSight 30 = .ok (.istore_n 1, 1) := by decide +kernel
theorem dX12_lastSight_31 : decode cX12_lastSight 31 = .ok (.iinc 2 1, 3) := by decide +kernel
theorem dX12_lastSight_34 : decode cX12_lastSight 34 = .ok (.goto (-30), 3) := by decide +kernel
theorem dX12_lastSight_37 : decode cX12_lastSight 37 = .ok (.iload_n 1, 1) := by decide +kernel
theorem dX12_lastSight_38 : decode cX12_lastSight 38 = .ok (.ireturn, 1) := by decide +kernel
set_option maxRecDepth 20000 in
theorem ggX12_goesOn_X12_allParts : GoodIn wsX12_goesOn wsX12_allParts := goodIn_r _ [5, 6, 145, 146, 147, 148, 149, 150, 151, 152, 153, 154, 155, 156, 157, 158, 159, 160, 161, 162, 163, 164, 165, 166, 167, 168, 169, 170, 171, 172, 173, 174, 175, 176, 177, 178, 179, 180, 181, 182, 183, 184, 185, 186, 187, 188, 189, 190, 191, 192] (by decide +kernel) (by decide +kernel)
set_option maxRecDepth 20000 in
theorem gX12_goesOn_X12_allParts : GoodIn wsX12_goesOn (wsV RX12 363 RX12 yX12_allParts wsX12_allParts) := goodIn_app (goodIn_of _ (by decide +kernel)) ggX12_goesOn_X12_allParts
set_option maxRecDepth 20000 in
theorem ggX12_goesOn_X12_areStanding : GoodIn wsX12_goesOn wsX12_areStanding := goodIn_r _ [10, 11, 12, 13, 4, 14, 6, 15, 16, 17, 18, 145, 146, 147, 148, 149, 150, 151, 152, 153, 154, 155, 156, 157, 158, 159, 160, 161, 162, 163, 164, 165, 166, 167, 168, 169, 170, 171, 172, 173, 174, 175, 176, 177, 178, 179, 180, 181, 182, 183, 184, 185, 186, 187, 188, 189, 190, 191, 192] (by decide +kernel) (by decide +kernel)
set_option maxRecDepth 20000 in
theorem gX12_goesOn_X12_areStanding : GoodIn wsX12_goesOn (wsV RX12 381 RX12 yX12_areStanding wsX12_areStanding) := goodIn_app (goodIn_of _ (by decide +kernel)) ggX12_goesOn_X12_areStanding
set_option maxRecDepth 20000 in
theorem ggX12_goesOn_X12_sendsAll : GoodIn wsX12_goesOn wsX12_sendsAll := goodIn_r _ [22, 6, 23, 24, 25, 4, 26, 27, 28, 29, 30, 15, 16, 17, 18, 31, 32, 33, 34, 35, 36, 37, 38, 39, 40, 41, 11, 12, 13, 14, 42, 43, 44, 45, 46, 47, 48, 49, 50, 51, 52, 53, 54, 55, 56, 57, 58, 59, 60, 61, 62, 63, 64, 65, 66, 67, 68, 69, 70, 71, 72, 73, 74, 75, 76, 77, 78, 79, 80, 81, 82, 83, 84, 85, 86, 87, 88, 89, 90, 91, 92, 93, 94, 95, 96, 97, 98, 99, 100, 101, 102, 103, 104, 105, 106, 107, 108, 109, 110, 111, 112, 113, 114, 115, 116, 117, 118, 119, 120, 121, 122, 123, 124, 125, 126, 127, 128, 129, 130, 131, 145, 146, 147, 148, 149, 150, 151, 152, 153, 154, 155, 156, 157, 158, 159, 160, 161, 162, 163, 164, 165, 166, 167, 168, 169, 170, 171, 172, 173, 174, 175, 176, 177, 178, 179, 180, 181, 182, 183, 184, 185, 186, 187, 188, 189, 190, 191, 192] (by decide +kernel) (by decide +kernel)
set_option maxRecDepth 20000 in
theorem gX12_goesOn_X12_sendsAll : GoodIn wsX12_goesOn (wsV RX12 384 RX12 yX12_sendsAll wsX12_sendsAll) := goodIn_app (goodIn_of _ (by decide +kernel)) ggX12_goesOn_X12_sendsAll
set_option maxRecDepth 20000 in
theorem ggX12_goesOn_X12_ticks : GoodIn wsX12_goesOn wsX12_ticks := goodIn_r _ [135, 6, 136, 137, 11, 12, 13, 4, 14, 15, 16, 17, 18, 28, 29, 30, 128, 129, 130, 131, 55, 56, 57, 58, 46, 47, 48, 49, 50, 51, 52, 53, 54, 59, 60, 61, 62, 63, 64, 65, 66, 67, 68, 69, 70, 71, 72, 73, 74, 75, 76, 77, 78, 79, 80, 81, 82, 83, 84, 85, 86, 87, 88, 89, 90, 91, 92, 93, 94, 95, 96, 97, 98, 99, 100, 101, 102, 103, 104, 105, 106, 107, 108, 109, 110, 111, 112, 113, 114, 115, 116, 117, 118, 119, 120, 121, 122, 123, 124, 125, 126, 127, 138, 139, 140, 141, 31, 32, 33, 142, 143, 144, 145, 146, 147, 148, 149, 150, 151, 152, 153, 154, 155, 156, 157, 158, 159, 160, 161, 162, 163, 164, 165, 166, 167, 168, 169, 170, 171, 172, 173, 174, 175, 176, 177, 178, 179, 180, 181, 182, 183, 184, 185, 186, 187, 188, 189, 190, 191, 192] (by decide +kernel) (by decide +kernel)
set_option maxRecDepth 20000 in
theorem gX12_goesOn_X12_ticks : GoodIn wsX12_goesOn (wsV RX12 345 RX12 yX12_ticks wsX12_ticks) := goodIn_app (goodIn_of _ (by decide +kernel)) ggX12_goesOn_X12_ticks
theorem dX12_goesOn_0 : decode cX12_goesOn 0 = .ok (.aload_n 0, 1) := by decide +kernel
theorem dX12_goesOn_1 : decode cX12_goesOn 1 = .ok (.aload_n 0, 1) := by decide +kernel
theorem dX12_goesOn_2 : decode cX12_goesOn 2 = .ok (.invokevirtual 363, 3) := by decide +kernel
theorem dX12_goesOn_5 : decode cX12_goesOn 5 = .ok (.invokevirtual 381, 3) := by decide +kernel
theorem dX12_goesOn_8 : decode cX12_goesOn 8 = .ok (.ifCond .eq 4, 3) := by decide +kernel
theorem dX12_goesOn_11 : decode cX12_goesOn 11 = .ok (.return_, 1) := by decide +kernel
theorem dX12_goesOn_12 : decode cX12_goesOn 12 = .ok (.aload_n 0, 1) := by decide +kernel
theorem dX12_goesOn_13 : decode cX12_goesOn 13 = .ok (.iload_n 1, 1) := by decide +kernel
theorem dX12_goesOn_14 : decode cX12_goesOn 14 = .ok (.invokevirtual 384, 3) := by decide +kernel
theorem dX12_goesOn_17 : decode cX12_goesOn 17 = .ok (.aload_n 0, 1) := by decide +kernel
theorem dX12_goesOn_18 : decode cX12_goesOn 18 = .ok (.iload_n 1, 1) := by decide +kernel
theorem dX12_goesOn_19 : decode cX12_goesOn 19 = .ok (.invokevirtual 345, 3) := by decide +kernel
theorem dX12_goesOn_22 : decode cX12_goesOn 22 = .ok (.pop, 1) := by decide +kernel
theorem dX12_goesOn_23 : decode cX12_goesOn 23 = .ok (.return_, 1) := by decide +kernel
set_option maxRecDepth 20000 in
theorem ggX12_canBeWhose_X12_begins : GoodIn wsX12_canBeWhose wsX12_begins := goodIn_r _ [5, 6, 7, 8, 9, 4, 10, 11, 170, 171, 172, 173, 174, 175, 176, 177, 178, 179, 180, 181, 182, 183, 184, 185, 186, 187, 188, 189, 190, 191, 192, 193, 194, 195, 196, 197, 198, 199, 200, 201, 202, 203, 204, 205, 206, 207, 208, 209, 210, 211, 212, 213, 214, 215, 216, 217] (by decide +kernel) (by decide +kernel)
set_option maxRecDepth 20000 in
theorem gX12_canBeWhose_X12_begins : GoodIn wsX12_canBeWhose (wsV RX12 378 RX12 yX12_begins wsX12_begins) := goodIn_app (goodIn_of _ (by decide +kernel)) ggX12_canBeWhose_X12_begins
set_option maxRecDepth 20000 in
theorem ggX12_canBeWhose_X12_lastSight : GoodIn wsX12_canBeWhose wsX12_lastSight := goodIn_r _ [15, 6, 16, 17, 4, 18, 170, 171, 172, 173, 174, 175, 176, 177, 178, 179, 180, 181, 182, 183, 184, 185, 186, 187, 188, 189, 190, 191, 192, 193, 194, 195, 196, 197, 198, 199, 200, 201, 202, 203, 204, 205, 206, 207, 208, 209, 210, 211, 212, 213, 214, 215, 216, 217] (by decide +kernel) (by decide +kernel)
set_option maxRecDepth 20000 in
theorem gX12_canBeWhose_X12_lastSight : GoodIn wsX12_canBeWhose (wsV RX12 406 RX12 yX12_lastSight wsX12_lastSight) := goodIn_app (goodIn_of _ (by decide +kernel)) ggX12_canBeWhose_X12_lastSight
set_option maxRecDepth 20000 in
theorem ggX12_canBeWhose_X12_areSo : GoodIn wsX12_canBeWhose wsX12_areSo := goodIn_r _ [22, 6, 23, 24, 25, 4, 26, 170, 171, 172, 173, 174, 175, 176, 177, 178, 179, 180, 181, 182, 183, 184, 185, 186, 187, 188, 189, 190, 191, 192, 193, 194, 195, 196, 197, 198, 199, 200, 201, 202, 203, 204, 205, 206, 207, 208, 209, 210, 211, 212, 213, 214, 215, 216, 217] (by decide +kernel) (by decide +kernel)
set_option maxRecDepth 20000 in
theorem gX12_canBeWhose_X12_areSo : GoodIn wsX12_canBeWhose (wsV RX12 409 RX12 yX12_areSo wsX12_areSo) := goodIn_app (goodIn_of _ (by decide +kernel)) ggX12_canBeWhose_X12_areSo
set_option maxRecDepth 20000 in
theorem ggX12_canBeWhose_X12_goesOn : GoodIn wsX12_canBeWhose wsX12_goesOn := goodIn_r _ [30, 31, 32, 33, 4, 34, 6, 35, 36, 37, 38, 39, 40, 41, 42, 23, 24, 25, 26, 43, 44, 45, 46, 47, 48, 49, 50, 51, 52, 53, 54, 16, 17, 18, 55, 56, 57, 58, 59, 60, 61, 62, 63, 64, 65, 66, 67, 68, 69, 70, 71, 72, 73, 74, 75, 76, 77, 78, 79, 80, 81, 82, 83, 84, 85, 86, 87, 88, 89, 90, 91, 92, 93, 94, 95, 96, 97, 98, 99, 100, 101, 102, 103, 104, 105, 106, 107, 108, 109, 110, 111, 112, 113, 114, 115, 116, 117, 118, 119, 120, 121, 122, 123, 124, 125, 126, 127, 128, 129, 130, 131, 132, 133, 134, 135, 136, 137, 138, 139, 140, 141, 142, 143, 144, 145, 146, 147, 148, 149, 150, 151, 152, 153, 154, 155, 156, 157, 158, 159, 160, 161, 162, 163, 164, 165, 170, 171, 172, 173, 174, 175, 176, 177, 178, 179, 180, 181, 182, 183, 184, 185, 186, 187, 188, 189, 190, 191, 192, 193, 194, 195, 196, 197, 198, 199, 200, 201, 202, 203, 204, 205, 206, 207, 208, 209, 210, 211, 212, 213, 214, 215, 216, 217] (by decide +kernel) (by decide +kernel)
set_option maxRecDepth 20000 in
theorem gX12_canBeWhose_X12_goesOn : GoodIn wsX12_canBeWhose (wsV RX12 412 RX12 yX12_goesOn wsX12_goesOn) := goodIn_app (goodIn_of _ (by decide +kernel)) ggX12_canBeWhose_X12_goesOn
set_option maxRecDepth 20000 in
theorem ggX12_canBeWhose_X12_takesBack : GoodIn wsX12_canBeWhose wsX12_takesBack := goodIn_r _ [169, 6, 11, 170, 171, 172, 173, 174, 175, 176, 177, 178, 179, 180, 181, 182, 183, 184, 185, 186, 187, 188, 189, 190, 191, 192, 193, 194, 195, 196, 197, 198, 199, 200, 201, 202, 203, 204, 205, 206, 207, 208, 209, 210, 211, 212, 213, 214, 215, 216, 217] (by decide +kernel) (by decide +kernel)
set_option maxRecDepth 20000 in
theorem gX12_canBeWhose_X12_takesBack : GoodIn wsX12_canBeWhose (wsV RX12 387 RX12 yX12_takesBack wsX12_takesBack) := goodIn_app (goodIn_of _ (by decide +kernel)) ggX12_canBeWhose_X12_takesBack
theorem dX12_canBeWhose_0 : decode cX12_canBeWhose 0 = .ok (.aload_n 0, 1) := by decide +kernel
theorem dX12_canBeWhose_1 : decode cX12_canBeWhose 1 = .ok (.invokevirtual 378, 3) := by decide +kernel
theorem dX12_canBeWhose_4 : decode cX12_canBeWhose 4 = .ok (.aload_n 0, 1) := by decide +kernel
theorem dX12_canBeWhose_5 : decode cX12_canBeWhose 5 = .ok (.invokevirtual 406, 3) := by decide +kernel
theorem dX12_canBeWhose_8 : decode cX12_canBeWhose 8 = .ok (.istore_n 2, 1) := by decide +kernel
theorem dX12_canBeWhose_9 : decode cX12_canBeWhose 9 = .ok (.aload_n 0, 1) := by decide +kernel
theorem dX12_canBeWhose_10 : decode cX12_canBeWhose 10 = .ok (.iconst 0, 1) := by decide +kernel
theorem dX12_canBeWhose_11 : decode cX12_canBeWhose 11 = .ok (.invokevirtual 409, 3) := by decide +kernel
theorem dX12_canBeWhose_14 : decode cX12_canBeWhose 14 = .ok (.istore_n 3, 1) := by decide +kernel
theorem dX12_canBeWhose_15 : decode cX12_canBeWhose 15 = .ok (.iconst 1, 1) := by decide +kernel
theorem dX12_canBeWhose_16 : decode cX12_canBeWhose 16 = .ok (.istore 4, 2) := by decide +kernel
theorem dX12_canBeWhose_18 : decode cX12_canBeWhose 18 = .ok (.iload 4, 2) := by decide +kernel
theorem dX12_canBeWhose_20 : decode cX12_canBeWhose 20 = .ok (.iload_n 2, 1) := by decide +kernel
theorem dX12_canBeWhose_21 : decode cX12_canBeWhose 21 = .ok (.if_icmp .gt 25, 3) := by decide +kernel
theorem dX12_canBeWhose_24 : decode cX12_canBeWhose 24 = .ok (.iload_n 3, 1) := by decide +kernel
theorem dX12_canBeWhose_25 : decode cX12_canBeWhose 25 = .ok (.ifCond .eq 21, 3) := by decide +kernel
theorem dX12_canBeWhose_28 : decode cX12_canBeWhose 28 = .ok (.aload_n 0, 1) := by decide +kernel
theorem dX12_canBeWhose_29 : decode cX12_canBeWhose 29 = .ok (.iload_n 1, 1) := by decide +kernel
theorem dX12_canBeWhose_30 : decode cX12_canBeWhose 30 = .ok (.invokevirtual 412, 3) := by decide +kernel
theorem dX12_canBeWhose_33 : decode cX12_canBeWhose 33 = .ok (.aload_n 0, 1) := by decide +kernel
theorem dX12_canBeWhose_34 : decode cX12_canBeWhose 34 = .ok (.iload 4, 2) := by decide +kernel
theorem dX12_canBeWhose_36 : decode cX12_canBeWhose 36 = .ok (.invokevirtual 409, 3) := by decide +kernel
theorem dX12_canBeWhose_39 : decode cX12_canBeWhose 39 = .ok (.istore_n 3, 1) := by decide +kernel
theorem dX12_canBeWhose_40 : decode cX12_canBeWhose 40 = .ok (.iinc 4 1, 3) := by decide +kernel
theorem dX12_canBeWhose_43 : decode cX12_canBeWhose 43 = .ok (.goto (-25), 3) := by decide +kernel
theorem dX12_canBeWhose_46 : decode cX12_canBeWhose 46 = .ok (.aload_n 0, 1) := by decide +kernel
theorem dX12_canBeWhose_47 : decode cX12_canBeWhose 47 = .ok (.iconst 0, 1) := by decide +kernel
theorem dX12_canBeWhose_48 : decode cX12_canBeWhose 48 = .ok (.invokevirtual 387, 3) := by decide +kernel
theorem dX12_canBeWhose_51 : decode cX12_canBeWhose 51 = .ok (.iload_n 3, 1) := by decide +kernel
theorem dX12_canBeWhose_52 : decode cX12_canBeWhose 52 = .ok (.ireturn, 1) := by decide +kernel
set_option maxRecDepth 20000 in
theorem ggX12_whose_X12_allBuilders : GoodIn wsX12_whose wsX12_allBuilders := goodIn_r _ [5, 6, 178, 179, 180, 181, 182, 183, 184, 185, 186, 187, 188, 189, 190, 191, 192, 193, 194, 195, 196, 197, 198, 199, 200, 201, 202, 203, 204, 205, 206, 207, 208, 209, 210, 211, 212, 213, 214, 215, 216, 217, 218, 219, 220, 221, 222, 223, 224, 225] (by decide +kernel) (by decide +kernel)
set_option maxRecDepth 20000 in
theorem gX12_whose_X12_allBuilders : GoodIn wsX12_whose (wsV RX12 342 RX12 yX12_allBuilders wsX12_allBuilders) := goodIn_app (goodIn_of _ (by decide +kernel)) ggX12_whose_X12_allBuilders
set_option maxRecDepth 20000 in
theorem ggX12_whose_X12_canBeWhose : GoodIn wsX12_whose wsX12_canBeWhose := goodIn_r _ [10, 11, 12, 13, 4, 14, 6, 15, 16, 17, 18, 19, 20, 21, 22, 23, 24, 25, 26, 27, 28, 29, 30, 31, 32, 33, 34, 35, 36, 37, 38, 39, 40, 41, 42, 43, 44, 45, 46, 47, 48, 49, 50, 51, 52, 53, 54, 55, 56, 57, 58, 59, 60, 61, 62, 63, 64, 65, 66, 67, 68, 69, 70, 71, 72, 73, 74, 75, 76, 77, 78, 79, 80, 81, 82, 83, 84, 85, 86, 87, 88, 89, 90, 91, 92, 93, 94, 95, 96, 97, 98, 99, 100, 101, 102, 103, 104, 105, 106, 107, 108, 109, 110, 111, 112, 113, 114, 115, 116, 117, 118, 119, 120, 121, 122, 123, 124, 125, 126, 127, 128, 129, 130, 131, 132, 133, 134, 135, 136, 137, 138, 139, 140, 141, 142, 143, 144, 145, 146, 147, 148, 149, 150, 151, 152, 153, 154, 155, 156, 157, 158, 159, 160, 161, 162, 163, 164, 165, 166, 167, 168, 169, 170, 171, 172, 173, 174, 175, 176, 177, 178, 179, 180, 181, 182, 183, 184, 185, 186, 187, 188, 189, 190, 191, 192, 193, 194, 195, 196, 197, 198, 199, 200, 201, 202, 203, 204, 205, 206, 207, 208, 209, 210, 211, 212, 213, 214, 215, 216, 217, 218, 219, 220, 221, 222, 223, 224, 225] (by decide +kernel) (by decide +kernel)
set_option maxRecDepth 20000 in
theorem gX12_whose_X12_canBeWhose : GoodIn wsX12_whose (wsV RX12 415 RX12 yX12_canBeWhose wsX12_canBeWhose) := goodIn_app (goodIn_of _ (by decide +kernel)) ggX12_whose_X12_canBeWhose
theorem dX12_whose_0 : decode cX12_whose 0 = .ok (.iload_n 1, 1) := by decide +kernel
theorem dX12_whose_1 : decode cX12_whose 1 = .ok (.iconst (-1), 1) := by decide +kernel
theorem dX12_whose_2 : decode cX12_whose 2 = .ok (.if_icmp .ge 5, 3) := by decide +kernel
theorem dX12_whose_5 : decode cX12_whose 5 = .ok (.iconst (-1), 1) := by decide +kernel
theorem dX12_whose_6 : decode cX12_whose 6 = .ok (.ireturn, 1) := by decide +kernel
theorem dX12_whose_7 : decode cX12_whose 7 = .ok (.iconst 0, 1) := by decide +kernel
theorem dX12_whose_8 : decode cX12_whose 8 = .ok (.istore_n 2, 1) := by decide +kernel
theorem dX12_whose_9 : decode cX12_whose 9 = .ok (.iconst 0, 1) := by decide +kernel
theorem dX12_whose_10 : decode cX12_whose 10 = .ok (.istore_n 3, 1) := by decide +kernel
theorem dX12_whose_11 : decode cX12_whose 11 = .ok (.iload_n 3, 1) := by decide +kernel
theorem dX12_whose_12 : decode cX12_whose 12 = .ok (.aload_n 0, 1) := by decide +kernel
theorem dX12_whose_13 : decode cX12_whose 13 = .ok (.invokevirtual 342, 3) := by decide +kernel
theorem dX12_whose_16 : decode cX12_whose 16 = .ok (.if_icmp .gt 30, 3) := by decide +kernel
theorem dX12_whose_19 : decode cX12_whose 19 = .ok (.aload_n 0, 1) := by decide +kernel
theorem dX12_whose_20 : decode cX12_whose 20 = .ok (.iload_n 3, 1) := by decide +kernel
theorem dX12_whose_21 : decode cX12_whose 21 = .ok (.invokevirtual 415, 3) := by decide +kernel
theorem dX12_whose_24 : decode cX12_whose 24 = .ok (.ifCond .ne 6, 3) := by decide +kernel
theorem dX12_whose_27 : decode cX12_whose 27 = .ok (.goto 13, 3) := by decide +kernel
theorem dX12_whose_30 : decode cX12_whose 30 = .ok (.iload_n 2, 1) := by decide +kernel
theorem dX12_whose_31 : decode cX12_whose 31 = .ok (.iload_n 1, 1) := by decide +kernel
theorem dX12_whose_32 : decode cX12_whose 32 = .ok (.if_icmp .ne 5, 3) := by decide +kernel
theorem dX12_whose_35 : decode cX12_whose 35 = .ok (.iload_n 3, 1) := by decide +kernel
theorem dX12_whose_36 : decode cX12_whose 36 = .ok (.ireturn, 1) := by decide +kernel
theorem dX12_whose_37 : decode cX12_whose 37 = .ok (.iinc 2 1, 3) := by decide +kernel
theorem dX12_whose_40 : decode cX12_whose 40 = .ok (.iinc 3 1, 3) := by decide +kernel
theorem dX12_whose_43 : decode cX12_whose 43 = .ok (.goto (-32), 3) := by decide +kernel
theorem dX12_whose_46 : decode cX12_whose 46 = .ok (.iload_n 1, 1) := by decide +kernel
theorem dX12_whose_47 : decode cX12_whose 47 = .ok (.iconst (-1), 1) := by decide +kernel
theorem dX12_whose_48 : decode cX12_whose 48 = .ok (.if_icmp .ne 7, 3) := by decide +kernel
theorem dX12_whose_51 : decode cX12_whose 51 = .ok (.iload_n 2, 1) := by decide +kernel
theorem dX12_whose_52 : decode cX12_whose 52 = .ok (.goto 4, 3) := by decide +kernel
theorem dX12_whose_55 : decode cX12_whose 55 = .ok (.iconst (-1), 1) := by decide +kernel
theorem dX12_whose_56 : decode cX12_whose 56 = .ok (.ireturn, 1) := by decide +kernel
set_option maxRecDepth 20000 in
theorem ggX12_shows_X12_begins : GoodIn wsX12_shows wsX12_begins := goodIn_r _ [6, 7, 8, 9, 10, 5, 11, 12, 163, 164, 165, 166, 167, 168, 169, 170, 171, 172, 173, 174, 175, 176, 177, 178, 179, 180, 181, 182, 183, 184, 185, 186, 187, 188, 189, 190, 191, 192, 193, 194, 195, 196, 197, 198, 199, 200, 201, 202, 203, 204, 205, 206, 207, 208, 209, 210] (by decide +kernel) (by decide +kernel)
set_option maxRecDepth 20000 in
theorem gX12_shows_X12_begins : GoodIn wsX12_shows (wsV RX12 378 RX12 yX12_begins wsX12_begins) := goodIn_app (goodIn_of _ (by decide +kernel)) ggX12_shows_X12_begins
set_option maxRecDepth 20000 in
theorem ggX12_shows_X12_standing : GoodIn wsX12_shows wsX12_standing := goodIn_r _ [16, 7, 17, 18, 19, 5, 20, 163, 164, 165, 166, 167, 168, 169, 170, 171, 172, 173, 174, 175, 176, 177, 178, 179, 180, 181, 182, 183, 184, 185, 186, 187, 188, 189, 190, 191, 192, 193, 194, 195, 196, 197, 198, 199, 200, 201, 202, 203, 204, 205, 206, 207, 208, 209, 210] (by decide +kernel) (by decide +kernel)
set_option maxRecDepth 20000 in
theorem gX12_shows_X12_standing : GoodIn wsX12_shows (wsV RX12 118 RX12 yX12_standing wsX12_standing) := goodIn_app (goodIn_of _ (by decide +kernel)) ggX12_shows_X12_standing
set_option maxRecDepth 20000 in
theorem ggX12_shows_X12_ones : GoodIn wsX12_shows wsX12_ones := goodIn_r _ [23] (by decide +kernel) (by decide +kernel)
set_option maxRecDepth 20000 in
theorem gX12_shows_X12_ones : GoodIn wsX12_shows (va_wsS RX12 287 yX12_ones wsX12_ones) := goodIn_app (goodIn_of _ (by decide +kernel)) ggX12_shows_X12_ones
set_option maxRecDepth 20000 in
theorem ggX12_shows_X12_goesOn : GoodIn wsX12_shows wsX12_goesOn := goodIn_r _ [27, 28, 29, 30, 5, 31, 7, 32, 33, 34, 35, 13, 14, 15, 16, 17, 18, 19, 20, 36, 37, 38, 39, 40, 41, 42, 43, 44, 45, 46, 47, 48, 49, 50, 51, 52, 53, 54, 55, 56, 57, 58, 59, 60, 61, 62, 63, 64, 65, 66, 67, 68, 69, 70, 71, 72, 73, 74, 75, 76, 77, 78, 79, 80, 81, 82, 83, 84, 85, 86, 87, 88, 89, 90, 91, 92, 93, 94, 95, 96, 97, 98, 99, 100, 101, 102, 103, 104, 105, 106, 107, 108, 109, 110, 111, 112, 113, 114, 115, 116, 117, 118, 119, 120, 121, 21, 22, 23, 122, 123, 124, 125, 126, 127, 128, 129, 130, 131, 132, 133, 134, 135, 136, 137, 138, 139, 140, 141, 142, 143, 144, 145, 146, 147, 148, 149, 150, 151, 152, 153, 154, 155, 156, 157, 158, 163, 164, 165, 166, 167, 168, 169, 170, 171, 172, 173, 174, 175, 176, 177, 178, 179, 180, 181, 182, 183, 184, 185, 186, 187, 188, 189, 190, 191, 192, 193, 194, 195, 196, 197, 198, 199, 200, 201, 202, 203, 204, 205, 206, 207, 208, 209, 210] (by decide +kernel) (by decide +kernel)
set_option maxRecDepth 20000 in
theorem gX12_shows_X12_goesOn : GoodIn wsX12_shows (wsV RX12 412 RX12 yX12_goesOn wsX12_goesOn) := goodIn_app (goodIn_of _ (by decide +kernel)) ggX12_shows_X12_goesOn
set_option maxRecDepth 20000 in
theorem ggX12_shows_X12_takesBack : GoodIn wsX12_shows wsX12_takesBack := goodIn_r _ [162, 7, 12, 163, 164, 165, 166, 167, 168, 169, 170, 171, 172, 173, 174, 175, 176, 177, 178, 179, 180, 181, 182, 183, 184, 185, 186, 187, 188, 189, 190, 191, 192, 193, 194, 195, 196, 197, 198, 199, 200, 201, 202, 203, 204, 205, 206, 207, 208, 209, 210] (by decide +kernel) (by decide +kernel)
set_option maxRecDepth 20000 in
theorem gX12_shows_X12_takesBack : GoodIn wsX12_shows (wsV RX12 387 RX12 yX12_takesBack wsX12_takesBack) := goodIn_app (goodIn_of _ (by decide +kernel)) ggX12_shows_X12_takesBack
theorem dX12_shows_0 : decode cX12_shows 0 = .ok (.aload_n 0, 1) := by decide +kernel
theorem dX12_shows_1 : decode cX12_shows 1 = .ok (.invokevirtual 378, 3) := by decide +kernel
theorem dX12_shows_4 : decode cX12_shows 4 = .ok (.iconst 0, 1) := by decide +kernel
theorem dX12_shows_5 : decode cX12_shows 5 = .ok (.istore_n 2, 1) := by decide +kernel
theorem dX12_shows_6 : decode cX12_shows 6 = .ok (.iload_n 2, 1) := by decide +kernel
theorem dX12_shows_7 : decode cX12_shows 7 = .ok (.bipush 40, 2) := by decide +kernel
theorem dX12_shows_9 : decode cX12_shows 9 = .ok (.if_icmp .gt 35, 3) := by decide +kernel
theorem dX12_shows_12 : decode cX12_shows 12 = .ok (.aload_n 0, 1) := by decide +kernel
theorem dX12_shows_13 : decode cX12_shows 13 = .ok (.getfield 80, 3) := by decide +kernel
theorem dX12_shows_16 : decode cX12_shows 16 = .ok (.bipush 11, 2) := by decide +kernel
theorem dX12_shows_18 : decode cX12_shows 18 = .ok (.iload_n 2, 1) := by decide +kernel
theorem dX12_shows_19 : decode cX12_shows 19 = .ok (.imul, 1) := by decide +kernel
theorem dX12_shows_20 : decode cX12_shows 20 = .ok (.aload_n 0, 1) := by decide +kernel
theorem dX12_shows_21 : decode cX12_shows 21 = .ok (.invokevirtual 118, 3) := by decide +kernel
theorem dX12_shows_24 : decode cX12_shows 24 = .ok (.invokestatic 287, 3) := by decide +kernel
theorem dX12_shows_27 : decode cX12_shows 27 = .ok (.iadd, 1) := by decide +kernel
theorem dX12_shows_28 : decode cX12_shows 28 = .ok (.dup2, 1) := by decide +kernel
theorem dX12_shows_29 : decode cX12_shows 29 = .ok (.iaload, 1) := by decide +kernel
theorem dX12_shows_30 : decode cX12_shows 30 = .ok (.iconst 1, 1) := by decide +kernel
theorem dX12_shows_31 : decode cX12_shows 31 = .ok (.iadd, 1) := by decide +kernel
theorem dX12_shows_32 : decode cX12_shows 32 = .ok (.iastore, 1) := by decide +kernel
theorem dX12_shows_33 : decode cX12_shows 33 = .ok (.aload_n 0, 1) := by decide +kernel
theorem dX12_shows_34 : decode cX12_shows 34 = .ok (.iload_n 1, 1) := by decide +kernel
theorem dX12_shows_35 : decode cX12_shows 35 = .ok (.invokevirtual 412, 3) := by decide +kernel
theorem dX12_shows_38 : decode cX12_shows 38 = .ok (.iinc 2 1, 3) := by decide +kernel
theorem dX12_shows_41 : decode cX12_shows 41 = .ok (.goto (-35), 3) := by decide +kernel
theorem dX12_shows_44 : decode cX12_shows 44 = .ok (.aload_n 0, 1) := by decide +kernel
theorem dX12_shows_45 : decode cX12_shows 45 = .ok (.iconst 0, 1) := by decide +kernel
theorem dX12_shows_46 : decode cX12_shows 46 = .ok (.invokevirtual 387, 3) := by decide +kernel
theorem dX12_shows_49 : decode cX12_shows 49 = .ok (.return_, 1) := by decide +kernel
set_option maxRecDepth 20000 in
theorem ggX12_look_X12_lies : GoodIn wsX12_look wsX12_lies := goodIn_r _ [6] (by decide +kernel) (by decide +kernel)
set_option maxRecDepth 20000 in
theorem gX12_look_X12_lies : GoodIn wsX12_look (va_wsS RX12 96 yX12_lies wsX12_lies) := goodIn_app (goodIn_of _ (by decide +kernel)) ggX12_look_X12_lies
set_option maxRecDepth 20000 in
theorem ggX12_look_X12_allBuilders : GoodIn wsX12_look wsX12_allBuilders := goodIn_r _ [10, 11, 184, 185, 186, 187, 188, 189, 190, 191, 192, 193, 194, 195, 196, 197, 198, 199, 200, 201, 202, 203, 204, 205, 206, 207, 208, 209, 210, 211, 212, 213, 214, 215, 216, 217, 218, 219, 220, 221, 222, 223, 224, 225, 226, 227, 228, 229, 230, 231] (by decide +kernel) (by decide +kernel)
set_option maxRecDepth 20000 in
theorem gX12_look_X12_allBuilders : GoodIn wsX12_look (wsV RX12 342 RX12 yX12_allBuilders wsX12_allBuilders) := goodIn_app (goodIn_of _ (by decide +kernel)) ggX12_look_X12_allBuilders
set_option maxRecDepth 20000 in
theorem ggX12_look_X12_canBeWhose : GoodIn wsX12_look wsX12_canBeWhose := goodIn_r _ [15, 16, 17, 18, 5, 19, 11, 20, 21, 22, 23, 24, 25, 26, 27, 28, 29, 30, 31, 32, 33, 34, 35, 36, 37, 38, 39, 40, 41, 42, 43, 44, 45, 46, 47, 48, 49, 50, 51, 52, 53, 54, 55, 56, 57, 58, 59, 60, 61, 62, 63, 64, 65, 66, 67, 68, 69, 70, 71, 72, 73, 74, 75, 76, 77, 78, 79, 80, 81, 82, 83, 84, 85, 86, 87, 88, 89, 90, 91, 92, 93, 94, 95, 96, 97, 98, 99, 100, 101, 102, 103, 104, 105, 106, 107, 108, 109, 110, 111, 112, 113, 114, 115, 116, 117, 118, 119, 120, 121, 122, 123, 124, 125, 126, 127, 128, 129, 130, 131, 3, 4, 6, 132, 133, 134, 135, 136, 137, 138, 139, 140, 141, 142, 143, 144, 145, 146, 147, 148, 149, 150, 151, 152, 153, 154, 155, 156, 157, 158, 159, 160, 161, 162, 163, 164, 165, 166, 167, 168, 169, 170, 171, 172, 173, 174, 175, 176, 177, 178, 179, 184, 185, 186, 187, 188, 189, 190, 191, 192, 193, 194, 195, 196, 197, 198, 199, 200, 201, 202, 203, 204, 205, 206, 207, 208, 209, 210, 211, 212, 213, 214, 215, 216, 217, 218, 219, 220, 221, 222, 223, 224, 225, 226, 227, 228, 229, 230, 231] (by decide +kernel) (by decide +kernel)
set_option maxRecDepth 20000 in
theorem gX12_look_X12_canBeWhose : GoodIn wsX12_look (wsV RX12 415 RX12 yX12_canBeWhose wsX12_canBeWhose) := goodIn_app (goodIn_of _ (by decide +kernel)) ggX12_look_X12_canBeWhose
set_option maxRecDepth 20000 in
theorem ggX12_look_X12_shows : GoodIn wsX12_look wsX12_shows := goodIn_r _ [183, 1, 16, 17, 18, 5, 19, 11, 20, 21, 22, 23, 24, 52, 53, 54, 55, 36, 37, 38, 39, 136, 137, 138, 40, 41, 42, 43, 44, 45, 46, 47, 48, 49, 50, 51, 56, 57, 58, 59, 60, 61, 62, 63, 64, 65, 66, 67, 29, 30, 31, 68, 69, 70, 71, 72, 73, 74, 75, 76, 77, 78, 79, 80, 81, 82, 83, 84, 85, 86, 87, 88, 89, 90, 91, 92, 93, 94, 95, 96, 97, 98, 99, 100, 101, 102, 103, 104, 105, 106, 107, 108, 109, 110, 111, 112, 113, 114, 115, 116, 117, 118, 119, 120, 121, 122, 123, 124, 125, 126, 127, 128, 129, 130, 131, 3, 4, 6, 132, 133, 134, 135, 139, 140, 141, 142, 143, 144, 145, 146, 147, 148, 149, 150, 151, 152, 153, 154, 155, 156, 157, 158, 159, 160, 161, 162, 163, 164, 165, 166, 167, 168, 169, 170, 171, 172, 173, 174, 175, 176, 177, 178, 179, 184, 185, 186, 187, 188, 189, 190, 191, 192, 193, 194, 195, 196, 197, 198, 199, 200, 201, 202, 203, 204, 205, 206, 207, 208, 209, 210, 211, 212, 213, 214, 215, 216, 217, 218, 219, 220, 221, 222, 223, 224, 225, 226, 227, 228, 229, 230, 231] (by decide +kernel) (by decide +kernel)
set_option maxRecDepth 20000 in
theorem gX12_look_X12_shows : GoodIn wsX12_look (wsV RX12 418 RX12 yX12_shows wsX12_shows) := goodIn_app (goodIn_of _ (by decide +kernel)) ggX12_look_X12_shows
set_option maxRecDepth 20000 in
theorem ggX12_look_X12_greater : GoodIn wsX12_look wsX12_greater := goodIn_r _ [31] (by decide +kernel) (by decide +kernel)
set_option maxRecDepth 20000 in
theorem gX12_look_X12_greater : GoodIn wsX12_look (va_wsS RX12 327 yX12_greater wsX12_greater) := goodIn_app (goodIn_of _ (by decide +kernel)) ggX12_look_X12_greater
theorem dX12_look_0 : decode cX12_look 0 = .ok (.iload_n 1, 1) := by decide +kernel
theorem dX12_look_1 : decode cX12_look 1 = .ok (.iconst 0, 1) := by decide +kernel
theorem dX12_look_2 : decode cX12_look 2 = .ok (.iconst 1, 1) := by decide +kernel
theorem dX12_look_3 : decode cX12_look 3 = .ok (.invokestatic 96, 3) := by decide +kernel
theorem dX12_look_6 : decode cX12_look 6 = .ok (.ifCond .ne 5, 3) := by decide +kernel
theorem dX12_look_9 : decode cX12_look 9 = .ok (.iconst (-1), 1) := by decide +kernel
theorem dX12_look_10 : decode cX12_look 10 = .ok (.ireturn, 1) := by decide +kernel
theorem dX12_look_11 : decode cX12_look 11 = .ok (.iconst 0, 1) := by decide +kernel
theorem dX12_look_12 : decode cX12_look 12 = .ok (.istore_n 2, 1) := by decide +kernel
theorem dX12_look_13 : decode cX12_look 13 = .ok (.iconst 0, 1) := by decide +kernel
theorem dX12_look_14 : decode cX12_look 14 = .ok (.istore_n 3, 1) := by decide +kernel
theorem dX12_look_15 : decode cX12_look 15 = .ok (.iload_n 3, 1) := by decide +kernel
theorem dX12_look_16 : decode cX12_look 16 = .ok (.sipush 451, 3) := by decide +kernel
theorem dX12_look_19 : decode cX12_look 19 = .ok (.if_icmp .ge 16, 3) := by decide +kernel
theorem dX12_look_22 : decode cX12_look 22 = .ok (.aload_n 0, 1) := by decide +kernel
theorem dX12_look_23 : decode cX12_look 23 = .ok (.getfield 80, 3) := by decide +kernel
theorem dX12_look_26 : decode cX12_look 26 = .ok (.iload_n 3, 1) := by decide +kernel
theorem dX12_look_27 : decode cX12_look 27 = .ok (.iconst 0, 1) := by decide +kernel
theorem dX12_look_28 : decode cX12_look 28 = .ok (.iastore, 1) := by decide +kernel
theorem dX12_look_29 : decode cX12_look 29 = .ok (.iinc 3 1, 3) := by decide +kernel
theorem dX12_look_32 : decode cX12_look 32 = .ok (.goto (-17), 3) := by decide +kernel
theorem dX12_look_35 : decode cX12_look 35 = .ok (.iconst 0, 1) := by decide +kernel
theorem dX12_look_36 : decode cX12_look 36 = .ok (.istore_n 3, 1) := by decide +kernel
theorem dX12_look_37 : decode cX12_look 37 = .ok (.iload_n 3, 1) := by decide +kernel
theorem dX12_look_38 : decode cX12_look 38 = .ok (.aload_n 0, 1) := by decide +kernel
theorem dX12_look_39 : decode cX12_look 39 = .ok (.invokevirtual 342, 3) := by decide +kernel
theorem dX12_look_42 : decode cX12_look 42 = .ok (.if_icmp .gt 28, 3) := by decide +kernel
theorem dX12_look_45 : decode cX12_look 45 = .ok (.aload_n 0, 1) := by decide +kernel
theorem dX12_look_46 : decode cX12_look 46 = .ok (.iload_n 3, 1) := by decide +kernel
theorem dX12_look_47 : decode cX12_look 47 = .ok (.invokevirtual 415, 3) := by decide +kernel
theorem dX12_look_50 : decode cX12_look 50 = .ok (.ifCond .ne 6, 3) := by decide +kernel
theorem dX12_look_53 : decode cX12_look 53 = .ok (.goto 11, 3) := by decide +kernel
theorem dX12_look_56 : decode cX12_look 56 = .ok (.iinc 2 1, 3) := by decide +kernel
theorem dX12_look_59 : decode cX12_look 59 = .ok (.aload_n 0, 1) := by decide +kernel
theorem dX12_look_60 : decode cX12_look 60 = .ok (.iload_n 3, 1) := by decide +kernel
theorem dX12_look_61 : decode cX12_look 61 = .ok (.invokevirtual 418, 3) := by decide +kernel
theorem dX12_look_64 : decode cX12_look 64 = .ok (.iinc 3 1, 3) := by decide +kernel
theorem dX12_look_67 : decode cX12_look 67 = .ok (.goto (-30), 3) := by decide +kernel
theorem dX12_look_70 : decode cX12_look 70 = .ok (.iconst (-1), 1) := by decide +kernel
theorem dX12_look_71 : decode cX12_look 71 = .ok (.istore_n 3, 1) := by decide +kernel
theorem dX12_look_72 : decode cX12_look 72 = .ok (.ldc 157, 2) := by decide +kernel
theorem dX12_look_74 : decode cX12_look 74 = .ok (.istore 4, 2) := by decide +kernel
theorem dX12_look_76 : decode cX12_look 76 = .ok (.iconst 0, 1) := by decide +kernel
theorem dX12_look_77 : decode cX12_look 77 = .ok (.istore 5, 2) := by decide +kernel
theorem dX12_look_79 : decode cX12_look 79 = .ok (.iload 5, 2) := by decide +kernel
theorem dX12_look_81 : decode cX12_look 81 = .ok (.bipush 40, 2) := by decide +kernel
theorem dX12_look_83 : decode cX12_look 83 = .ok (.if_icmp .gt 69, 3) := by decide +kernel
theorem dX12_look_86 : decode cX12_look 86 = .ok (.iload_n 2, 1) := by decide +kernel
theorem dX12_look_87 : decode cX12_look 87 = .ok (.ifCond .le 65, 3) := by decide +kernel
theorem dX12_look_90 : decode cX12_look 90 = .ok (.iconst 0, 1) := by decide +kernel
theorem dX12_look_91 : decode cX12_look 91 = .ok (.istore 6, 2) := by decide +kernel
theorem dX12_look_93 : decode cX12_look 93 = .ok (.iconst 0, 1) := by decide +kernel
theorem dX12_look_94 : decode cX12_look 94 = .ok (.istore 7, 2) := by decide +kernel
theorem dX12_look_96 : decode cX12_look 96 = .ok (.iload 7, 2) := by decide +kernel
theorem dX12_look_98 : decode cX12_look 98 = .ok (.bipush 10, 2) := by decide +kernel
theorem dX12_look_100 : decode cX12_look 100 = .ok (.if_icmp .gt 29, 3) := by decide +kernel
theorem dX12_look_103 : decode cX12_look 103 = .ok (.iload 6, 2) := by decide +kernel
theorem dX12_look_105 : decode cX12_look 105 = .ok (.aload_n 0, 1) := by decide +kernel
theorem dX12_look_106 : decode cX12_look 106 = .ok (.getfield 80, 3) := by decide +kernel
theorem dX12_look_109 : decode cX12_look 109 = .ok (.bipush 11, 2) := by decide +kernel
theorem dX12_look_111 : decode cX12_look 111 = .ok (.iload 5, 2) := by decide +kernel
theorem dX12_look_113 : decode cX12_look 113 = .ok (.imul, 1) := by decide +kernel
theorem dX12_look_114 : decode cX12_look 114 = .ok (.iload 7, 2) := by decide +kernel
theorem dX12_look_116 : decode cX12_look 116 = .ok (.iadd, 1) := by decide +kernel
theorem dX12_look_117 : decode cX12_look 117 = .ok (.iaload, 1) := by decide +kernel
theorem dX12_look_118 : decode cX12_look 118 = .ok (.invokestatic 327, 3) := by decide +kernel
theorem dX12_look_121 : decode cX12_look 121 = .ok (.istore 6, 2) := by decide +kernel
theorem dX12_look_123 : decode cX12_look 123 = .ok (.iinc 7 1, 3) := by decide +kernel
theorem dX12_look_126 : decode cX12_look 126 = .ok (.goto (-30), 3) := by decide +kernel
theorem dX12_look_129 : decode cX12_look 129 = .ok (.iload 6, 2) := by decide +kernel
theorem dX12_look_131 : decode cX12_look 131 = .ok (.iload 4, 2) := by decide +kernel
theorem dX12_look_133 : decode cX12_look 133 = .ok (.if_icmp .lt 6, 3) := by decide +kernel
theorem dX12_look_136 : decode cX12_look 136 = .ok (.goto 10, 3) := by decide +kernel
theorem dX12_look_139 : decode cX12_look 139 = .ok (.iload 6, 2) := by decide +kernel
theorem dX12_look_141 : decode cX12_look 141 = .ok (.istore 4, 2) := by decide +kernel
theorem dX12_look_143 : decode cX12_look 143 = .ok (.iload 5, 2) := by decide +kernel
theorem dX12_look_145 : decode cX12_look 145 = .ok (.istore_n 3, 1) := by decide +kernel
theorem dX12_look_146 : decode cX12_look 146 = .ok (.iinc 5 1, 3) := by decide +kernel
theorem dX12_look_149 : decode cX12_look 149 = .ok (.goto (-70), 3) := by decide +kernel
theorem dX12_look_152 : decode cX12_look 152 = .ok (.iload_n 3, 1) := by decide +kernel
theorem dX12_look_153 : decode cX12_look 153 = .ok (.iconst (-1), 1) := by decide +kernel
theorem dX12_look_154 : decode cX12_look 154 = .ok (.if_icmp .eq 7, 3) := by decide +kernel
theorem dX12_look_157 : decode cX12_look 157 = .ok (.iload_n 1, 1) := by decide +kernel
theorem dX12_look_158 : decode cX12_look 158 = .ok (.ifCond .ne 7, 3) := by decide +kernel
theorem dX12_look_161 : decode cX12_look 161 = .ok (.iload_n 3, 1) := by decide +kernel
theorem dX12_look_162 : decode cX12_look 162 = .ok (.goto 5, 3) := by decide +kernel
theorem dX12_look_165 : decode cX12_look 165 = .ok (.iload 4, 2) := by decide +kernel
theorem dX12_look_167 : decode cX12_look 167 = .ok (.ireturn, 1) := by decide +kernel
theorem dX12_stopped_0 : decode cX12_stopped 0 = .ok (.aload_n 0, 1) := by decide +kernel
theorem dX12_stopped_1 : decode cX12_stopped 1 = .ok (.getfield 83, 3) := by decide +kernel
theorem dX12_stopped_4 : decode cX12_stopped 4 = .ok (.ireturn, 1) := by decide +kernel
set_option maxRecDepth 20000 in
theorem ggX12_orders_X12_readsAs : GoodIn wsX12_orders wsX12_readsAs := goodIn_r _ [13, 14, 15, 16, 17, 18, 19, 12, 20, 21, 22, 23, 24, 25, 26, 27, 28, 29, 30, 31, 32, 33, 34, 35, 36, 37, 38, 39, 40, 41, 42, 43, 44, 45, 46, 47, 48, 49, 50, 51, 52, 53, 54, 55, 56, 57, 58, 59, 60, 61, 62, 63, 64, 65, 66, 67, 68, 69, 70, 71, 72, 73, 74, 75, 76, 77, 78, 79, 80, 81, 82, 83, 84, 85, 86, 87, 88, 89, 90, 91, 92, 93, 94, 95, 96, 97, 98, 99, 100, 101, 102, 103, 104, 105, 106, 107, 108, 109, 110, 111, 112, 302, 303, 304, 305, 306, 307, 308, 309, 310, 311, 312, 313, 314, 315, 316, 317, 318, 319, 320, 321, 322, 323, 324, 325, 326, 327, 328, 329, 330, 331, 332, 333, 334, 335, 336, 337, 338, 339, 340, 341, 342, 343, 344, 345, 346, 347, 348, 349] (by decide +kernel) (by decide +kernel)
set_option maxRecDepth 20000 in
theorem gX12_orders_X12_readsAs : GoodIn wsX12_orders (wsV RX12 235 RX12 yX12_readsAs wsX12_readsAs) := goodIn_app (goodIn_of _ (by decide +kernel)) ggX12_orders_X12_readsAs
set_option maxRecDepth 20000 in
theorem ggX12_orders_X12_refuses : GoodIn wsX12_orders wsX12_refuses := goodIn_r _ [116, 117, 118, 302, 303, 304, 305, 306, 307, 308, 309, 310, 311, 312, 313, 314, 315, 316, 317, 318, 319, 320, 321, 322, 323, 324, 325, 326, 327, 328, 329, 330, 331, 332, 333, 334, 335, 336, 337, 338, 339, 340, 341, 342, 343, 344, 345, 346, 347, 348, 349] (by decide +kernel) (by decide +kernel)
set_option maxRecDepth 20000 in
theorem gX12_orders_X12_refuses : GoodIn wsX12_orders (wsV RX12 100 RX12 yX12_refuses wsX12_refuses) := goodIn_app (goodIn_of _ (by decide +kernel)) ggX12_orders_X12_refuses
set_option maxRecDepth 20000 in
theorem ggX12_orders_X12_laysAside : GoodIn wsX12_orders wsX12_laysAside := goodIn_r _ [122, 123, 8, 302, 303, 304, 305, 306, 307, 308, 309, 310, 311, 312, 313, 314, 315, 316, 317, 318, 319, 320, 321, 322, 323, 324, 325, 326, 327, 328, 329, 330, 331, 332, 333, 334, 335, 336, 337, 338, 339, 340, 341, 342, 343, 344, 345, 346, 347, 348, 349] (by decide +kernel) (by decide +kernel)
set_option maxRecDepth 20000 in
theorem gX12_orders_X12_laysAside : GoodIn wsX12_orders (wsV RX12 372 RX12 yX12_laysAside wsX12_laysAside) := goodIn_app (goodIn_of _ (by decide +kernel)) ggX12_orders_X12_laysAside
set_option maxRecDepth 20000 in
theorem ggX12_orders_X12_lays : GoodIn wsX12_orders wsX12_lays := goodIn_r _ [127, 8, 25, 34, 33, 302, 303, 304, 305, 306, 307, 308, 309, 310, 311, 312, 313, 314, 315, 316, 317, 318, 319, 320, 321, 322, 323, 324, 325, 326, 327, 328, 329, 330, 331, 332, 333, 334, 335, 336, 337, 338, 339, 340, 341, 342, 343, 344, 345, 346, 347, 348, 349] (by decide +kernel) (by decide +kernel)
set_option maxRecDepth 20000 in
theorem gX12_orders_X12_lays : GoodIn wsX12_orders (wsV RX12 239 RX12 yX12_lays wsX12_lays) := goodIn_app (goodIn_of _ (by decide +kernel)) ggX12_orders_X12_lays
set_option maxRecDepth 20000 in
theorem ggX12_orders_X12_runs : GoodIn wsX12_orders wsX12_runs := goodIn_r _ [131, 132, 133, 134, 135, 5, 7, 136, 137, 138, 12, 139, 140, 141, 142, 143, 144, 8, 145, 146, 147, 148, 149, 150, 151, 152, 153, 154, 155, 70, 71, 72, 156, 157, 158, 159, 160, 161, 162, 163, 164, 165, 166, 167, 168, 169, 170, 171, 6, 172, 173, 174, 175, 90, 91, 92, 176, 177, 178, 179, 180, 181, 182, 183, 184, 185, 186, 187, 188, 189, 190, 191, 192, 193, 194, 195, 196, 197, 198, 199, 200, 201, 202, 203, 204, 205, 206, 207, 208, 209, 210, 211, 212, 213, 214, 215, 216, 217, 218, 219, 220, 221, 222, 223, 224, 225, 226, 227, 228, 229, 230, 231, 232, 233, 234, 235, 236, 237, 238, 239, 240, 241, 242, 243, 244, 245, 246, 247, 248, 249, 4, 3, 250, 251, 252, 253, 254, 255, 256, 257, 258, 259, 260, 261, 262, 263, 264, 265, 266, 267, 268, 269, 270, 271, 272, 273, 274, 275, 276, 277, 278, 279, 280, 281, 282, 283, 284, 285, 286, 287, 288, 289, 290, 291, 292, 293, 302, 303, 304, 305, 306, 307, 308, 309, 310, 311, 312, 313, 314, 315, 316, 317, 318, 319, 320, 321, 322, 323, 324, 325, 326, 327, 328, 329, 330, 331, 332, 333, 334, 335, 336, 337, 338, 339, 340, 341, 342, 343, 344, 345, 346, 347, 348, 349] (by decide +kernel) (by decide +kernel)
set_option maxRecDepth 20000 in
theorem gX12_orders_X12_runs : GoodIn wsX12_orders (wsV RX12 424 RX12 yX12_runs wsX12_runs) := goodIn_app (goodIn_of _ (by decide +kernel)) ggX12_orders_X12_runs
set_option maxRecDepth 20000 in
theorem ggX12_orders_X12_takesBack : GoodIn wsX12_orders wsX12_takesBack := goodIn_r _ [297, 8, 123, 302, 303, 304, 305, 306, 307, 308, 309, 310, 311, 312, 313, 314, 315, 316, 317, 318, 319, 320, 321, 322, 323, 324, 325, 326, 327, 328, 329, 330, 331, 332, 333, 334, 335, 336, 337, 338, 339, 340, 341, 342, 343, 344, 345, 346, 347, 348, 349] (by decide +kernel) (by decide +kernel)
set_option maxRecDepth 20000 in
theorem gX12_orders_X12_takesBack : GoodIn wsX12_orders (wsV RX12 387 RX12 yX12_takesBack wsX12_takesBack) := goodIn_app (goodIn_of _ (by decide +kernel)) ggX12_orders_X12_takesBack
set_option maxRecDepth 20000 in
theorem ggX12_orders_X12_good : GoodIn wsX12_orders wsX12_good := goodIn_r _ [301, 117, 302, 303, 304, 305, 306, 307, 308, 309, 310, 311, 312, 313, 314, 315, 316, 317, 318, 319, 320, 321, 322, 323, 324, 325, 326, 327, 328, 329, 330, 331, 332, 333, 334, 335, 336, 337, 338, 339, 340, 341, 342, 343, 344, 345, 346, 347, 348, 349] (by decide +kernel) (by decide +kernel)
set_option maxRecDepth 20000 in
theorem gX12_orders_X12_good : GoodIn wsX12_orders (wsV RX12 14 RX12 yX12_good wsX12_good) := goodIn_app (goodIn_of _ (by decide +kernel)) ggX12_orders_X12_good
theorem dX12_orders_0 : decode cX12_orders 0 = .ok (.aload_n 0, 1) := by decide +kernel
theorem dX12_orders_1 : decode cX12_orders 1 = .ok (.iconst (-1), 1) := by decide +kernel
theorem dX12_orders_2 : decode cX12_orders 2 = .ok (.putfield 83, 3) := by decide +kernel
theorem dX12_orders_5 : decode cX12_orders 5 = .ok (.aload_n 0, 1) := by decide +kernel
theorem dX12_orders_6 : decode cX12_orders 6 = .ok (.iconst 1, 1) := by decide +kernel
theorem dX12_orders_7 : decode cX12_orders 7 = .ok (.invokevirtual 235, 3) := by decide +kernel
theorem dX12_orders_10 : decode cX12_orders 10 = .ok (.ifCond .ne 10, 3) := by decide +kernel
theorem dX12_orders_13 : decode cX12_orders 13 = .ok (.aload_n 0, 1) := by decide +kernel
theorem dX12_orders_14 : decode cX12_orders 14 = .ok (.bipush (-6), 2) := by decide +kernel
theorem dX12_orders_16 : decode cX12_orders 16 = .ok (.invokevirtual 100, 3) := by decide +kernel
theorem dX12_orders_19 : decode cX12_orders 19 = .ok (.ireturn, 1) := by decide +kernel
theorem dX12_orders_20 : decode cX12_orders 20 = .ok (.aload_n 0, 1) := by decide +kernel
theorem dX12_orders_21 : decode cX12_orders 21 = .ok (.iconst 1, 1) := by decide +kernel
theorem dX12_orders_22 : decode cX12_orders 22 = .ok (.invokevirtual 372, 3) := by decide +kernel
theorem dX12_orders_25 : decode cX12_orders 25 = .ok (.iconst 0, 1) := by decide +kernel
theorem dX12_orders_26 : decode cX12_orders 26 = .ok (.istore_n 1, 1) := by decide +kernel
theorem dX12_orders_27 : decode cX12_orders 27 = .ok (.iload_n 1, 1) := by decide +kernel
theorem dX12_orders_28 : decode cX12_orders 28 = .ok (.sipush 384, 3) := by decide +kernel
theorem dX12_orders_31 : decode cX12_orders 31 = .ok (.if_icmp .ge 21, 3) := by decide +kernel
theorem dX12_orders_34 : decode cX12_orders 34 = .ok (.aload_n 0, 1) := by decide +kernel
theorem dX12_orders_35 : decode cX12_orders 35 = .ok (.getfield 71, 3) := by decide +kernel
theorem dX12_orders_38 : decode cX12_orders 38 = .ok (.iload_n 1, 1) := by decide +kernel
theorem dX12_orders_39 : decode cX12_orders 39 = .ok (.aload_n 0, 1) := by decide +kernel
theorem dX12_orders_40 : decode cX12_orders 40 = .ok (.getfield 68, 3) := by decide +kernel
theorem dX12_orders_43 : decode cX12_orders 43 = .ok (.iload_n 1, 1) := by decide +kernel
theorem dX12_orders_44 : decode cX12_orders 44 = .ok (.iaload, 1) := by decide +kernel
theorem dX12_orders_45 : decode cX12_orders 45 = .ok (.iastore, 1) := by decide +kernel
theorem dX12_orders_46 : decode cX12_orders 46 = .ok (.iinc 1 1, 3) := by decide +kernel
theorem dX12_orders_49 : decode cX12_orders 49 = .ok (.goto (-22), 3) := by decide +kernel
theorem dX12_orders_52 : decode cX12_orders 52 = .ok (.aload_n 0, 1) := by decide +kernel
theorem dX12_orders_53 : decode cX12_orders 53 = .ok (.getfield 11, 3) := by decide +kernel
theorem dX12_orders_56 : decode cX12_orders 56 = .ok (.istore_n 1, 1) := by decide +kernel
theorem dX12_orders_57 : decode cX12_orders 57 = .ok (.aload_n 0, 1) := by decide +kernel
theorem dX12_orders_58 : decode cX12_orders 58 = .ok (.bipush 6, 2) := by decide +kernel
theorem dX12_orders_60 : decode cX12_orders 60 = .ok (.invokevirtual 239, 3) := by decide +kernel
theorem dX12_orders_63 : decode cX12_orders 63 = .ok (.aload_n 0, 1) := by decide +kernel
theorem dX12_orders_64 : decode cX12_orders 64 = .ok (.iconst 0, 1) := by decide +kernel
theorem dX12_orders_65 : decode cX12_orders 65 = .ok (.putfield 281, 3) := by decide +kernel
theorem dX12_orders_68 : decode cX12_orders 68 = .ok (.aload_n 0, 1) := by decide +kernel
theorem dX12_orders_69 : decode cX12_orders 69 = .ok (.iconst (-1), 1) := by decide +kernel
theorem dX12_orders_70 : decode cX12_orders 70 = .ok (.putfield 284, 3) := by decide +kernel
theorem dX12_orders_73 : decode cX12_orders 73 = .ok (.aload_n 0, 1) := by decide +kernel
theorem dX12_orders_74 : decode cX12_orders 74 = .ok (.sipush 2400, 3) := by decide +kernel
theorem dX12_orders_77 : decode cX12_orders 77 = .ok (.putfield 421, 3) := by decide +kernel
theorem dX12_orders_80 : decode cX12_orders 80 = .ok (.aload_n 0, 1) := by decide +kernel
theorem dX12_orders_81 : decode cX12_orders 81 = .ok (.getfield 421, 3) := by decide +kernel
theorem dX12_orders_84 : decode cX12_orders 84 = .ok (.aload_n 0, 1) := by decide +kernel
theorem dX12_orders_85 : decode cX12_orders 85 = .ok (.getfield 24, 3) := by decide +kernel
theorem dX12_orders_88 : decode cX12_orders 88 = .ok (.bipush 113, 2) := by decide +kernel
theorem dX12_orders_90 : decode cX12_orders 90 = .ok (.iaload, 1) := by decide +kernel
theorem dX12_orders_91 : decode cX12_orders 91 = .ok (.iadd, 1) := by decide +kernel
theorem dX12_orders_92 : decode cX12_orders 92 = .ok (.istore_n 2, 1) := by decide +kernel
theorem dX12_orders_93 : decode cX12_orders 93 = .ok (.iconst 0, 1) := by decide +kernel
theorem dX12_orders_94 : decode cX12_orders 94 = .ok (.istore_n 3, 1) := by decide +kernel
theorem dX12_orders_95 : decode cX12_orders 95 = .ok (.aload_n 0, 1) := by decide +kernel
theorem dX12_orders_96 : decode cX12_orders 96 = .ok (.getfield 421, 3) := by decide +kernel
theorem dX12_orders_99 : decode cX12_orders 99 = .ok (.iload_n 2, 1) := by decide +kernel
theorem dX12_orders_100 : decode cX12_orders 100 = .ok (.if_icmp .ge 73, 3) := by decide +kernel
theorem dX12_orders_103 : decode cX12_orders 103 = .ok (.aload_n 0, 1) := by decide +kernel
theorem dX12_orders_104 : decode cX12_orders 104 = .ok (.iload_n 2, 1) := by decide +kernel
theorem dX12_orders_105 : decode cX12_orders 105 = .ok (.invokevirtual 424, 3) := by decide +kernel
theorem dX12_orders_108 : decode cX12_orders 108 = .ok (.ifCond .eq 6, 3) := by decide +kernel
theorem dX12_orders_111 : decode cX12_orders 111 = .ok (.goto 56, 3) := by decide +kernel
theorem dX12_orders_114 : decode cX12_orders 114 = .ok (.aload_n 0, 1) := by decide +kernel
theorem dX12_orders_115 : decode cX12_orders 115 = .ok (.iconst 1, 1) := by decide +kernel
theorem dX12_orders_116 : decode cX12_orders 116 = .ok (.invokevirtual 387, 3) := by decide +kernel
theorem dX12_orders_119 : decode cX12_orders 119 = .ok (.iconst 0, 1) := by decide +kernel
theorem dX12_orders_120 : decode cX12_orders 120 = .ok (.istore 4, 2) := by decide +kernel
theorem dX12_orders_122 : decode cX12_orders 122 = .ok (.iload 4, 2) := by decide +kernel
theorem dX12_orders_124 : decode cX12_orders 124 = .ok (.sipush 384, 3) := by decide +kernel
theorem dX12_orders_127 : decode cX12_orders 127 = .ok (.if_icmp .ge 23, 3) := by decide +kernel
theorem dX12_orders_130 : decode cX12_orders 130 = .ok (.aload_n 0, 1) := by decide +kernel
theorem dX12_orders_131 : decode cX12_orders 131 = .ok (.getfield 68, 3) := by decide +kernel
theorem dX12_orders_134 : decode cX12_orders 134 = .ok (.iload 4, 2) := by decide +kernel
theorem dX12_orders_136 : decode cX12_orders 136 = .ok (.aload_n 0, 1) := by decide +kernel
theorem dX12_orders_137 : decode cX12_orders 137 = .ok (.getfield 71, 3) := by decide +kernel
theorem dX12_orders_140 : decode cX12_orders 140 = .ok (.iload 4, 2) := by decide +kernel
theorem dX12_orders_142 : decode cX12_orders 142 = .ok (.iaload, 1) := by decide +kernel
theorem dX12_orders_143 : decode cX12_orders 143 = .ok (.iastore, 1) := by decide +kernel
theorem dX12_orders_144 : decode cX12_orders 144 = .ok (.iinc 4 1, 3) := by decide +kernel
theorem dX12_orders_147 : decode cX12_orders 147 = .ok (.goto (-25), 3) := by decide +kernel
theorem dX12_orders_150 : decode cX12_orders 150 = .ok (.aload_n 0, 1) := by decide +kernel
theorem dX12_orders_151 : decode cX12_orders 151 = .ok (.iload_n 1, 1) := by decide +kernel
theorem dX12_orders_152 : decode cX12_orders 152 = .ok (.putfield 11, 3) := by decide +kernel
theorem dX12_orders_155 : decode cX12_orders 155 = .ok (.aload_n 0, 1) := by decide +kernel
theorem dX12_orders_156 : decode cX12_orders 156 = .ok (.iload_n 3, 1) := by decide +kernel
theorem dX12_orders_157 : decode cX12_orders 157 = .ok (.putfield 83, 3) := by decide +kernel
theorem dX12_orders_160 : decode cX12_orders 160 = .ok (.aload_n 0, 1) := by decide +kernel
theorem dX12_orders_161 : decode cX12_orders 161 = .ok (.bipush (-3), 2) := by decide +kernel
theorem dX12_orders_163 : decode cX12_orders 163 = .ok (.invokevirtual 100, 3) := by decide +kernel
theorem dX12_orders_166 : decode cX12_orders 166 = .ok (.ireturn, 1) := by decide +kernel
theorem dX12_orders_167 : decode cX12_orders 167 = .ok (.iinc 3 1, 3) := by decide +kernel
theorem dX12_orders_170 : decode cX12_orders 170 = .ok (.goto (-75), 3) := by decide +kernel
theorem dX12_orders_173 : decode cX12_orders 173 = .ok (.aload_n 0, 1) := by decide +kernel
theorem dX12_orders_174 : decode cX12_orders 174 = .ok (.aload_n 0, 1) := by decide +kernel
theorem dX12_orders_175 : decode cX12_orders 175 = .ok (.getfield 281, 3) := by decide +kernel
theorem dX12_orders_178 : decode cX12_orders 178 = .ok (.invokevirtual 14, 3) := by decide +kernel
theorem dX12_orders_181 : decode cX12_orders 181 = .ok (.ireturn, 1) := by decide +kernel
set_option maxRecDepth 20000 in
theorem ggX12_goesAlong_X12_codeAt : GoodIn wsX12_goesAlong wsX12_codeAt := goodIn_r _ [16, 2, 10, 87, 88, 89, 90, 91, 92, 93, 94, 95, 96, 97, 98, 99, 100, 101, 102, 103, 104, 105, 106, 107, 108, 109, 110, 111, 112, 113, 114, 115, 116, 117, 118, 119, 120, 121, 122, 123, 124, 125, 126, 127, 128, 129, 130, 131, 132, 133, 134] (by decide +kernel) (by decide +kernel)
set_option maxRecDepth 20000 in
theorem gX12_goesAlong_X12_codeAt : GoodIn wsX12_goesAlong (wsV RX12 248 RX12 yX12_codeAt wsX12_codeAt) := goodIn_app (goodIn_of _ (by decide +kernel)) ggX12_goesAlong_X12_codeAt
set_option maxRecDepth 20000 in
theorem ggX12_goesAlong_X12_sumOf : GoodIn wsX12_goesAlong wsX12_sumOf := goodIn_r _ [20, 4, 21, 22, 23, 15, 12, 13, 14, 16, 2, 10, 24, 25, 26, 27, 28, 29, 30, 31, 32, 7, 33, 1, 34, 35, 36, 37, 38, 17, 18, 19, 39, 40, 41, 42, 43, 44, 45, 46, 47, 48, 49, 50, 51, 52, 53, 54, 55, 56, 57, 58, 59, 60, 61, 62, 63, 64, 65, 66, 67, 68, 69, 70, 87, 88, 89, 90, 91, 92, 93, 94, 95, 96, 97, 98, 99, 100, 101, 102, 103, 104, 105, 106, 107, 108, 109, 110, 111, 112, 113, 114, 115, 116, 117, 118, 119, 120, 121, 122, 123, 124, 125, 126, 127, 128, 129, 130, 131, 132, 133, 134] (by decide +kernel) (by decide +kernel)
set_option maxRecDepth 20000 in
theorem gX12_goesAlong_X12_sumOf : GoodIn wsX12_goesAlong (wsV RX12 272 RX12 yX12_sumOf wsX12_sumOf) := goodIn_app (goodIn_of _ (by decide +kernel)) ggX12_goesAlong_X12_sumOf
set_option maxRecDepth 20000 in
theorem ggX12_goesAlong_X12_passes0 : GoodIn wsX12_goesAlong wsX12_passes0 := goodIn_r _ [38, 4, 12, 13, 14, 15, 16, 2, 10, 87, 88, 89, 90, 91, 92, 93, 94, 95, 96, 97, 98, 99, 100, 101, 102, 103, 104, 105, 106, 107, 108, 109, 110, 111, 112, 113, 114, 115, 116, 117, 118, 119, 120, 121, 122, 123, 124, 125, 126, 127, 128, 129, 130, 131, 132, 133, 134] (by decide +kernel) (by decide +kernel)
set_option maxRecDepth 20000 in
theorem gX12_goesAlong_X12_passes0 : GoodIn wsX12_goesAlong (wsV RX12 269 RX12 yX12_passes0 wsX12_passes0) := goodIn_app (goodIn_of _ (by decide +kernel)) ggX12_goesAlong_X12_passes0
set_option maxRecDepth 20000 in
theorem ggX12_goesAlong_X12_testOf : GoodIn wsX12_goesAlong wsX12_testOf := goodIn_r _ [74, 75, 76, 77, 15, 35, 36, 37, 38, 4, 12, 13, 14, 16, 2, 10, 78, 79, 80, 81, 82, 83, 84, 85, 86, 7, 24, 25, 26, 71, 72, 73, 17, 18, 19, 20, 21, 22, 23, 27, 28, 29, 30, 31, 32, 33, 1, 34, 39, 40, 41, 42, 43, 44, 45, 46, 47, 48, 49, 50, 51, 52, 53, 54, 55, 56, 57, 58, 59, 60, 61, 62, 63, 64, 65, 66, 67, 68, 69, 70, 87, 88, 89, 90, 91, 92, 93, 94, 95, 96, 97, 98, 99, 100, 101, 102, 103, 104, 105, 106, 107, 108, 109, 110, 111, 112, 113, 114, 115, 116, 117, 118, 119, 120, 121, 122, 123, 124, 125, 126, 127, 128, 129, 130, 131, 132, 133, 134] (by decide +kernel) (by decide +kernel)
set_option maxRecDepth 20000 in
theorem gX12_goesAlong_X12_testOf : GoodIn wsX12_goesAlong (wsV RX12 299 RX12 yX12_testOf wsX12_testOf) := goodIn_app (goodIn_of _ (by decide +kernel)) ggX12_goesAlong_X12_testOf
theorem dX12_goesAlong_0 : decode cX12_goesAlong 0 = .ok (.aload_n 0, 1) := by decide +kernel
theorem dX12_goesAlong_1 : decode cX12_goesAlong 1 = .ok (.iconst 1, 1) := by decide +kernel
theorem dX12_goesAlong_2 : decode cX12_goesAlong 2 = .ok (.putfield 275, 3) := by decide +kernel
theorem dX12_goesAlong_5 : decode cX12_goesAlong 5 = .ok (.aload_n 0, 1) := by decide +kernel
theorem dX12_goesAlong_6 : decode cX12_goesAlong 6 = .ok (.iload_n 1, 1) := by decide +kernel
theorem dX12_goesAlong_7 : decode cX12_goesAlong 7 = .ok (.putfield 242, 3) := by decide +kernel
theorem dX12_goesAlong_10 : decode cX12_goesAlong 10 = .ok (.aload_n 0, 1) := by decide +kernel
theorem dX12_goesAlong_11 : decode cX12_goesAlong 11 = .ok (.aload_n 0, 1) := by decide +kernel
theorem dX12_goesAlong_12 : decode cX12_goesAlong 12 = .ok (.getfield 421, 3) := by decide +kernel
theorem dX12_goesAlong_15 : decode cX12_goesAlong 15 = .ok (.putfield 245, 3) := by decide +kernel
theorem dX12_goesAlong_18 : decode cX12_goesAlong 18 = .ok (.aload_n 0, 1) := by decide +kernel
theorem dX12_goesAlong_19 : decode cX12_goesAlong 19 = .ok (.aload_n 0, 1) := by decide +kernel
theorem dX12_goesAlong_20 : decode cX12_goesAlong 20 = .ok (.aload_n 0, 1) := by decide +kernel
theorem dX12_goesAlong_21 : decode cX12_goesAlong 21 = .ok (.getfield 245, 3) := by decide +kernel
theorem dX12_goesAlong_24 : decode cX12_goesAlong 24 = .ok (.invokevirtual 248, 3) := by decide +kernel
theorem dX12_goesAlong_27 : decode cX12_goesAlong 27 = .ok (.putfield 427, 3) := by decide +kernel
theorem dX12_goesAlong_30 : decode cX12_goesAlong 30 = .ok (.aload_n 0, 1) := by decide +kernel
theorem dX12_goesAlong_31 : decode cX12_goesAlong 31 = .ok (.dup, 1) := by decide +kernel
theorem dX12_goesAlong_32 : decode cX12_goesAlong 32 = .ok (.getfield 245, 3) := by decide +kernel
theorem dX12_goesAlong_35 : decode cX12_goesAlong 35 = .ok (.iconst 1, 1) := by decide +kernel
theorem dX12_goesAlong_36 : decode cX12_goesAlong 36 = .ok (.iadd, 1) := by decide +kernel
theorem dX12_goesAlong_37 : decode cX12_goesAlong 37 = .ok (.putfield 245, 3) := by decide +kernel
theorem dX12_goesAlong_40 : decode cX12_goesAlong 40 = .ok (.aload_n 0, 1) := by decide +kernel
theorem dX12_goesAlong_41 : decode cX12_goesAlong 41 = .ok (.iconst 1, 1) := by decide +kernel
theorem dX12_goesAlong_42 : decode cX12_goesAlong 42 = .ok (.putfield 430, 3) := by decide +kernel
theorem dX12_goesAlong_45 : decode cX12_goesAlong 45 = .ok (.aload_n 0, 1) := by decide +kernel
theorem dX12_goesAlong_46 : decode cX12_goesAlong 46 = .ok (.getfield 427, 3) := by decide +kernel
theorem dX12_goesAlong_49 : decode cX12_goesAlong 49 = .ok (.bipush 27, 2) := by decide +kernel
theorem dX12_goesAlong_51 : decode cX12_goesAlong 51 = .ok (.if_icmp .ne 7, 3) := by decide +kernel
theorem dX12_goesAlong_54 : decode cX12_goesAlong 54 = .ok (.iconst 0, 1) := by decide +kernel
theorem dX12_goesAlong_55 : decode cX12_goesAlong 55 = .ok (.goto 17, 3) := by decide +kernel
theorem dX12_goesAlong_58 : decode cX12_goesAlong 58 = .ok (.aload_n 0, 1) := by decide +kernel
theorem dX12_goesAlong_59 : decode cX12_goesAlong 59 = .ok (.getfield 427, 3) := by decide +kernel
theorem dX12_goesAlong_62 : decode cX12_goesAlong 62 = .ok (.bipush 23, 2) := by decide +kernel
theorem dX12_goesAlong_64 : decode cX12_goesAlong 64 = .ok (.if_icmp .ne 7, 3) := by decide +kernel
theorem dX12_goesAlong_67 : decode cX12_goesAlong 67 = .ok (.iconst 2, 1) := by decide +kernel
theorem dX12_goesAlong_68 : decode cX12_goesAlong 68 = .ok (.goto 4, 3) := by decide +kernel
theorem dX12_goesAlong_71 : decode cX12_goesAlong 71 = .ok (.iconst 1, 1) := by decide +kernel
theorem dX12_goesAlong_72 : decode cX12_goesAlong 72 = .ok (.istore_n 3, 1) := by decide +kernel
theorem dX12_goesAlong_73 : decode cX12_goesAlong 73 = .ok (.iconst 0, 1) := by decide +kernel
theorem dX12_goesAlong_74 : decode cX12_goesAlong 74 = .ok (.istore 4, 2) := by decide +kernel
theorem dX12_goesAlong_76 : decode cX12_goesAlong 76 = .ok (.iload 4, 2) := by decide +kernel
theorem dX12_goesAlong_78 : decode cX12_goesAlong 78 = .ok (.iload_n 3, 1) := by decide +kernel
theorem dX12_goesAlong_79 : decode cX12_goesAlong 79 = .ok (.if_icmp .ge 64, 3) := by decide +kernel
theorem dX12_goesAlong_82 : decode cX12_goesAlong 82 = .ok (.iload 4, 2) := by decide +kernel
theorem dX12_goesAlong_84 : decode cX12_goesAlong 84 = .ok (.ifCond .le 13, 3) := by decide +kernel
theorem dX12_goesAlong_87 : decode cX12_goesAlong 87 = .ok (.aload_n 0, 1) := by decide +kernel
theorem dX12_goesAlong_88 : decode cX12_goesAlong 88 = .ok (.dup, 1) := by decide +kernel
theorem dX12_goesAlong_89 : decode cX12_goesAlong 89 = .ok (.getfield 245, 3) := by decide +kernel
theorem dX12_goesAlong_92 : decode cX12_goesAlong 92 = .ok (.iconst 1, 1) := by decide +kernel
theorem dX12_goesAlong_93 : decode cX12_goesAlong 93 = .ok (.iadd, 1) := by decide +kernel
theorem dX12_goesAlong_94 : decode cX12_goesAlong 94 = .ok (.putfield 245, 3) := by decide +kernel
theorem dX12_goesAlong_97 : decode cX12_goesAlong 97 = .ok (.aload_n 0, 1) := by decide +kernel
theorem dX12_goesAlong_98 : decode cX12_goesAlong 98 = .ok (.iconst 0, 1) := by decide +kernel
theorem dX12_goesAlong_99 : decode cX12_goesAlong 99 = .ok (.putfield 255, 3) := by decide +kernel
theorem dX12_goesAlong_102 : decode cX12_goesAlong 102 = .ok (.aload_n 0, 1) := by decide +kernel
theorem dX12_goesAlong_103 : decode cX12_goesAlong 103 = .ok (.getfield 86, 3) := by decide +kernel
theorem dX12_goesAlong_106 : decode cX12_goesAlong 106 = .ok (.iload 4, 2) := by decide +kernel
theorem dX12_goesAlong_108 : decode cX12_goesAlong 108 = .ok (.aload_n 0, 1) := by decide +kernel
theorem dX12_goesAlong_109 : decode cX12_goesAlong 109 = .ok (.iload_n 2, 1) := by decide +kernel
theorem dX12_goesAlong_110 : decode cX12_goesAlong 110 = .ok (.invokevirtual 272, 3) := by decide +kernel
theorem dX12_goesAlong_113 : decode cX12_goesAlong 113 = .ok (.lastore, 1) := by decide +kernel
theorem dX12_goesAlong_114 : decode cX12_goesAlong 114 = .ok (.aload_n 0, 1) := by decide +kernel
theorem dX12_goesAlong_115 : decode cX12_goesAlong 115 = .ok (.aload_n 0, 1) := by decide +kernel
theorem dX12_goesAlong_116 : decode cX12_goesAlong 116 = .ok (.getfield 430, 3) := by decide +kernel
theorem dX12_goesAlong_119 : decode cX12_goesAlong 119 = .ok (.ifCond .eq 14, 3) := by decide +kernel
theorem dX12_goesAlong_122 : decode cX12_goesAlong 122 = .ok (.aload_n 0, 1) := by decide +kernel
theorem dX12_goesAlong_123 : decode cX12_goesAlong 123 = .ok (.getfield 255, 3) := by decide +kernel
theorem dX12_goesAlong_126 : decode cX12_goesAlong 126 = .ok (.ifCond .ne 7, 3) := by decide +kernel
theorem dX12_goesAlong_129 : decode cX12_goesAlong 129 = .ok (.iconst 1, 1) := by decide +kernel
theorem dX12_goesAlong_130 : decode cX12_goesAlong 130 = .ok (.goto 4, 3) := by decide +kernel
theorem dX12_goesAlong_133 : decode cX12_goesAlong 133 = .ok (.iconst 0, 1) := by decide +kernel
theorem dX12_goesAlong_134 : decode cX12_goesAlong 134 = .ok (.putfield 430, 3) := by decide +kernel
theorem dX12_goesAlong_137 : decode cX12_goesAlong 137 = .ok (.iinc 4 1, 3) := by decide +kernel
theorem dX12_goesAlong_140 : decode cX12_goesAlong 140 = .ok (.goto (-64), 3) := by decide +kernel
theorem dX12_goesAlong_143 : decode cX12_goesAlong 143 = .ok (.aload_n 0, 1) := by decide +kernel
theorem dX12_goesAlong_144 : decode cX12_goesAlong 144 = .ok (.iconst 1, 1) := by decide +kernel
theorem dX12_goesAlong_145 : decode cX12_goesAlong 145 = .ok (.putfield 433, 3) := by decide +kernel
theorem dX12_goesAlong_148 : decode cX12_goesAlong 148 = .ok (.aload_n 0, 1) := by decide +kernel
theorem dX12_goesAlong_149 : decode cX12_goesAlong 149 = .ok (.bipush 28, 2) := by decide +kernel
theorem dX12_goesAlong_151 : decode cX12_goesAlong 151 = .ok (.invokevirtual 269, 3) := by decide +kernel
theorem dX12_goesAlong_154 : decode cX12_goesAlong 154 = .ok (.ifCond .eq 30, 3) := by decide +kernel
theorem dX12_goesAlong_157 : decode cX12_goesAlong 157 = .ok (.aload_n 0, 1) := by decide +kernel
theorem dX12_goesAlong_158 : decode cX12_goesAlong 158 = .ok (.aload_n 0, 1) := by decide +kernel
theorem dX12_goesAlong_159 : decode cX12_goesAlong 159 = .ok (.getfield 24, 3) := by decide +kernel
theorem dX12_goesAlong_162 : decode cX12_goesAlong 162 = .ok (.sipush 2914, 3) := by decide +kernel
theorem dX12_goesAlong_165 : decode cX12_goesAlong 165 = .ok (.aload_n 0, 1) := by decide +kernel
theorem dX12_goesAlong_166 : decode cX12_goesAlong 166 = .ok (.getfield 245, 3) := by decide +kernel
theorem dX12_goesAlong_169 : decode cX12_goesAlong 169 = .ok (.iadd, 1) := by decide +kernel
theorem dX12_goesAlong_170 : decode cX12_goesAlong 170 = .ok (.iaload, 1) := by decide +kernel
theorem dX12_goesAlong_171 : decode cX12_goesAlong 171 = .ok (.putfield 433, 3) := by decide +kernel
theorem dX12_goesAlong_174 : decode cX12_goesAlong 174 = .ok (.aload_n 0, 1) := by decide +kernel
theorem dX12_goesAlong_175 : decode cX12_goesAlong 175 = .ok (.dup, 1) := by decide +kernel
theorem dX12_goesAlong_176 : decode cX12_goesAlong 176 = .ok (.getfield 245, 3) := by decide +kernel
theorem dX12_goesAlong_179 : decode cX12_goesAlong 179 = .ok (.iconst 1, 1) := by decide +kernel
theorem dX12_goesAlong_180 : decode cX12_goesAlong 180 = .ok (.iadd, 1) := by decide +kernel
theorem dX12_goesAlong_181 : decode cX12_goesAlong 181 = .ok (.putfield 245, 3) := by decide +kernel
theorem dX12_goesAlong_184 : decode cX12_goesAlong 184 = .ok (.aload_n 0, 1) := by decide +kernel
theorem dX12_goesAlong_185 : decode cX12_goesAlong 185 = .ok (.iconst 0, 1) := by decide +kernel
theorem dX12_goesAlong_186 : decode cX12_goesAlong 186 = .ok (.putfield 255, 3) := by decide +kernel
theorem dX12_goesAlong_189 : decode cX12_goesAlong 189 = .ok (.aload_n 0, 1) := by decide +kernel
theorem dX12_goesAlong_190 : decode cX12_goesAlong 190 = .ok (.aload_n 0, 1) := by decide +kernel
theorem dX12_goesAlong_191 : decode cX12_goesAlong 191 = .ok (.iconst 5, 1) := by decide +kernel
theorem dX12_goesAlong_192 : decode cX12_goesAlong 192 = .ok (.invokevirtual 269, 3) := by decide +kernel
theorem dX12_goesAlong_195 : decode cX12_goesAlong 195 = .ok (.ifCond .eq 11, 3) := by decide +kernel
theorem dX12_goesAlong_198 : decode cX12_goesAlong 198 = .ok (.aload_n 0, 1) := by decide +kernel
theorem dX12_goesAlong_199 : decode cX12_goesAlong 199 = .ok (.iload_n 2, 1) := by decide +kernel
theorem dX12_goesAlong_200 : decode cX12_goesAlong 200 = .ok (.invokevirtual 299, 3) := by decide +kernel
theorem dX12_goesAlong_203 : decode cX12_goesAlong 203 = .ok (.ifCond .eq 7, 3) := by decide +kernel
theorem dX12_goesAlong_206 : decode cX12_goesAlong 206 = .ok (.iconst 1, 1) := by decide +kernel
theorem dX12_goesAlong_207 : decode cX12_goesAlong 207 = .ok (.goto 4, 3) := by decide +kernel
theorem dX12_goesAlong_210 : decode cX12_goesAlong 210 = .ok (.iconst 0, 1) := by decide +kernel
theorem dX12_goesAlong_211 : decode cX12_goesAlong 211 = .ok (.putfield 436, 3) := by decide +kernel
theorem dX12_goesAlong_214 : decode cX12_goesAlong 214 = .ok (.aload_n 0, 1) := by decide +kernel
theorem dX12_goesAlong_215 : decode cX12_goesAlong 215 = .ok (.aload_n 0, 1) := by decide +kernel
theorem dX12_goesAlong_216 : decode cX12_goesAlong 216 = .ok (.getfield 436, 3) := by decide +kernel
theorem dX12_goesAlong_219 : decode cX12_goesAlong 219 = .ok (.ifCond .eq 14, 3) := by decide +kernel
theorem dX12_goesAlong_222 : decode cX12_goesAlong 222 = .ok (.aload_n 0, 1) := by decide +kernel
theorem dX12_goesAlong_223 : decode cX12_goesAlong 223 = .ok (.getfield 255, 3) := by decide +kernel
theorem dX12_goesAlong_226 : decode cX12_goesAlong 226 = .ok (.ifCond .ne 7, 3) := by decide +kernel
theorem dX12_goesAlong_229 : decode cX12_goesAlong 229 = .ok (.iconst 1, 1) := by decide +kernel
theorem dX12_goesAlong_230 : decode cX12_goesAlong 230 = .ok (.goto 4, 3) := by decide +kernel
theorem dX12_goesAlong_233 : decode cX12_goesAlong 233 = .ok (.iconst 0, 1) := by decide +kernel
theorem dX12_goesAlong_234 : decode cX12_goesAlong 234 = .ok (.putfield 436, 3) := by decide +kernel
theorem dX12_goesAlong_237 : decode cX12_goesAlong 237 = .ok (.aload_n 0, 1) := by decide +kernel
theorem dX12_goesAlong_238 : decode cX12_goesAlong 238 = .ok (.dup, 1) := by decide +kernel
theorem dX12_goesAlong_239 : decode cX12_goesAlong 239 = .ok (.getfield 245, 3) := by decide +kernel
theorem dX12_goesAlong_242 : decode cX12_goesAlong 242 = .ok (.iconst 1, 1) := by decide +kernel
theorem dX12_goesAlong_243 : decode cX12_goesAlong 243 = .ok (.iadd, 1) := by decide +kernel
theorem dX12_goesAlong_244 : decode cX12_goesAlong 244 = .ok (.putfield 245, 3) := by decide +kernel
theorem dX12_goesAlong_247 : decode cX12_goesAlong 247 = .ok (.return_, 1) := by decide +kernel
theorem dX12_small_0 : decode cX12_small 0 = .ok (.lload_n 0, 1) := by decide +kernel
theorem dX12_small_1 : decode cX12_small 1 = .ok (.lconst 0, 1) := by decide +kernel
theorem dX12_small_2 : decode cX12_small 2 = .ok (.lcmp, 1) := by decide +kernel
theorem dX12_small_3 : decode cX12_small 3 = .ok (.ifCond .lt 11, 3) := by decide +kernel
theorem dX12_small_6 : decode cX12_small 6 = .ok (.lload_n 0, 1) := by decide +kernel
theorem dX12_small_7 : decode cX12_small 7 = .ok (.ldc2_w 439, 3) := by decide +kernel
theorem dX12_small_10 : decode cX12_small 10 = .ok (.lcmp, 1) := by decide +kernel
theorem dX12_small_11 : decode cX12_small 11 = .ok (.ifCond .le 7, 3) := by decide +kernel
theorem dX12_small_14 : decode cX12_small 14 = .ok (.iconst (-1), 1) := by decide +kernel
theorem dX12_small_15 : decode cX12_small 15 = .ok (.goto 5, 3) := by decide +kernel
theorem dX12_small_18 : decode cX12_small 18 = .ok (.lload_n 0, 1) := by decide +kernel
theorem dX12_small_19 : decode cX12_small 19 = .ok (.l2i, 1) := by decide +kernel
theorem dX12_small_20 : decode cX12_small 20 = .ok (.ireturn, 1) := by decide +kernel
set_option maxRecDepth 20000 in
theorem ggX12_obeys_X12_small : GoodIn wsX12_obeys wsX12_small := goodIn_r _ [7, 8] (by decide +kernel) (by decide +kernel)
set_option maxRecDepth 20000 in
theorem gX12_obeys_X12_small : GoodIn wsX12_obeys (va_wsS RX12 441 yX12_small wsX12_small) := goodIn_app (goodIn_of _ (by decide +kernel)) ggX12_obeys_X12_small
set_option maxRecDepth 20000 in
theorem ggX12_obeys_X12_sendsKept : GoodIn wsX12_obeys wsX12_sendsKept := goodIn_r _ [12, 13, 14, 15, 16, 6, 17, 18, 19, 20, 21, 22, 23, 24, 25, 26, 27, 28, 29, 30, 31, 32, 33, 34, 35, 36, 37, 38, 39, 40, 41, 42, 43, 44, 45, 46, 47, 48, 49, 50, 51, 52, 53, 54, 55, 56, 57, 58, 59, 60, 61, 62, 63, 64, 65, 66, 67, 68, 69, 70, 71, 72, 73, 74, 75, 76, 77, 78, 79, 80, 81, 82, 83, 84, 85, 86, 87, 88, 89, 90, 3, 91, 92, 93, 94, 95, 96, 97, 98, 99, 100, 101, 102, 103, 104, 105, 106, 107, 108, 109, 110, 111, 112, 113, 114, 115, 116, 117, 118, 119, 164, 165, 166, 167, 168, 169, 170, 171, 172, 173, 174, 175, 176, 177, 178, 179, 180, 181, 182, 183, 184, 185, 186, 187, 188, 189, 190, 191, 192, 193, 194, 195, 196, 197, 198, 199, 200, 201, 202, 203, 204, 205, 206, 207, 208, 209, 210, 211] (by decide +kernel) (by decide +kernel)
set_option maxRecDepth 20000 in
theorem gX12_obeys_X12_sendsKept : GoodIn wsX12_obeys (wsV RX12 348 RX12 yX12_sendsKept wsX12_sendsKept) := goodIn_app (goodIn_of _ (by decide +kernel)) ggX12_obeys_X12_sendsKept
set_option maxRecDepth 20000 in
theorem ggX12_obeys_X12_restsKept : GoodIn wsX12_obeys wsX12_restsKept := goodIn_r _ [123, 13, 14, 15, 16, 6, 17, 18, 19, 20, 114, 115, 116, 117, 118, 119, 164, 165, 166, 167, 168, 169, 170, 171, 172, 173, 174, 175, 176, 177, 178, 179, 180, 181, 182, 183, 184, 185, 186, 187, 188, 189, 190, 191, 192, 193, 194, 195, 196, 197, 198, 199, 200, 201, 202, 203, 204, 205, 206, 207, 208, 209, 210, 211] (by decide +kernel) (by decide +kernel)
set_option maxRecDepth 20000 in
theorem gX12_obeys_X12_restsKept : GoodIn wsX12_obeys (wsV RX12 354 RX12 yX12_restsKept wsX12_restsKept) := goodIn_app (goodIn_of _ (by decide +kernel)) ggX12_obeys_X12_restsKept
set_option maxRecDepth 20000 in
theorem ggX12_obeys_X12_throwsKept : GoodIn wsX12_obeys wsX12_throwsKept := goodIn_r _ [127, 13, 21, 22, 23, 6, 24, 18, 19, 20, 128, 129, 130, 131, 29, 30, 31, 32, 54, 55, 56, 132, 133, 134, 135, 57, 58, 59, 60, 114, 115, 116, 117, 118, 119, 164, 165, 166, 167, 168, 169, 170, 171, 172, 173, 174, 175, 176, 177, 178, 179, 180, 181, 182, 183, 184, 185, 186, 187, 188, 189, 190, 191, 192, 193, 194, 195, 196, 197, 198, 199, 200, 201, 202, 203, 204, 205, 206, 207, 208, 209, 210, 211] (by decide +kernel) (by decide +kernel)
set_option maxRecDepth 20000 in
theorem gX12_obeys_X12_throwsKept : GoodIn wsX12_obeys (wsV RX12 357 RX12 yX12_throwsKept wsX12_throwsKept) := goodIn_app (goodIn_of _ (by decide +kernel)) ggX12_obeys_X12_throwsKept
set_option maxRecDepth 20000 in
theorem ggX12_obeys_X12_ticksKept : GoodIn wsX12_obeys wsX12_ticksKept := goodIn_r _ [139, 13, 114, 115, 116, 6, 117, 118, 119, 140, 141, 142, 143, 144, 145, 146, 147, 148, 149, 33, 34, 35, 36, 29, 30, 31, 32, 54, 55, 56, 150, 151, 152, 153, 50, 51, 52, 53, 41, 42, 43, 44, 45, 46, 47, 48, 49, 57, 58, 59, 60, 61, 62, 63, 64, 65, 66, 67, 68, 69, 70, 71, 72, 73, 74, 75, 76, 77, 78, 79, 80, 81, 82, 83, 84, 85, 86, 87, 88, 89, 90, 3, 21, 22, 23, 24, 18, 19, 20, 14, 15, 16, 17, 91, 92, 93, 94, 95, 96, 97, 98, 99, 100, 101, 102, 103, 104, 105, 106, 107, 108, 109, 110, 111, 112, 113, 154, 155, 156, 157, 158, 159, 160, 161, 162, 163, 164, 165, 166, 167, 168, 169, 170, 171, 172, 173, 174, 175, 176, 177, 178, 179, 180, 181, 182, 183, 184, 185, 186, 187, 188, 189, 190, 191, 192, 193, 194, 195, 196, 197, 198, 199, 200, 201, 202, 203, 204, 205, 206, 207, 208, 209, 210, 211] (by decide +kernel) (by decide +kernel)
set_option maxRecDepth 20000 in
theorem gX12_obeys_X12_ticksKept : GoodIn wsX12_obeys (wsV RX12 360 RX12 yX12_ticksKept wsX12_ticksKept) := goodIn_app (goodIn_of _ (by decide +kernel)) ggX12_obeys_X12_ticksKept
theorem dX12_obeys_0 : decode cX12_obeys 0 = .ok (.aload_n 0, 1) := by decide +kernel
theorem dX12_obeys_1 : decode cX12_obeys 1 = .ok (.getfield 86, 3) := by decide +kernel
theorem dX12_obeys_4 : decode cX12_obeys 4 = .ok (.iconst 0, 1) := by decide +kernel
theorem dX12_obeys_5 : decode cX12_obeys 5 = .ok (.laload, 1) := by decide +kernel
theorem dX12_obeys_6 : decode cX12_obeys 6 = .ok (.invokestatic 441, 3) := by decide +kernel
theorem dX12_obeys_9 : decode cX12_obeys 9 = .ok (.istore_n 1, 1) := by decide +kernel
theorem dX12_obeys_10 : decode cX12_obeys 10 = .ok (.aload_n 0, 1) := by decide +kernel
theorem dX12_obeys_11 : decode cX12_obeys 11 = .ok (.getfield 427, 3) := by decide +kernel
theorem dX12_obeys_14 : decode cX12_obeys 14 = .ok (.tableswitch 57 23 26 #[30, 57, 45, 51], 30) := by decide +kernel
theorem dX12_obeys_44 : decode cX12_obeys 44 = .ok (.aload_n 0, 1) := by decide +kernel
theorem dX12_obeys_45 : decode cX12_obeys 45 = .ok (.iload_n 1, 1) := by decide +kernel
theorem dX12_obeys_46 : decode cX12_obeys 46 = .ok (.aload_n 0, 1) := by decide +kernel
theorem dX12_obeys_47 : decode cX12_obeys 47 = .ok (.getfield 86, 3) := by decide +kernel
theorem dX12_obeys_50 : decode cX12_obeys 50 = .ok (.iconst 1, 1) := by decide +kernel
theorem dX12_obeys_51 : decode cX12_obeys 51 = .ok (.laload, 1) := by decide +kernel
theorem dX12_obeys_52 : decode cX12_obeys 52 = .ok (.invokestatic 441, 3) := by decide +kernel
theorem dX12_obeys_55 : decode cX12_obeys 55 = .ok (.invokevirtual 348, 3) := by decide +kernel
theorem dX12_obeys_58 : decode cX12_obeys 58 = .ok (.ireturn, 1) := by decide +kernel
theorem dX12_obeys_59 : decode cX12_obeys 59 = .ok (.aload_n 0, 1) := by decide +kernel
theorem dX12_obeys_60 : decode cX12_obeys 60 = .ok (.iload_n 1, 1) := by decide +kernel
theorem dX12_obeys_61 : decode cX12_obeys 61 = .ok (.invokevirtual 354, 3) := by decide +kernel
theorem dX12_obeys_64 : decode cX12_obeys 64 = .ok (.ireturn, 1) := by decide +kernel
theorem dX12_obeys_65 : decode cX12_obeys 65 = .ok (.aload_n 0, 1) := by decide +kernel
theorem dX12_obeys_66 : decode cX12_obeys 66 = .ok (.iload_n 1, 1) := by decide +kernel
theorem dX12_obeys_67 : decode cX12_obeys 67 = .ok (.invokevirtual 357, 3) := by decide +kernel
theorem dX12_obeys_70 : decode cX12_obeys 70 = .ok (.ireturn, 1) := by decide +kernel
theorem dX12_obeys_71 : decode cX12_obeys 71 = .ok (.aload_n 0, 1) := by decide +kernel
theorem dX12_obeys_72 : decode cX12_obeys 72 = .ok (.invokevirtual 360, 3) := by decide +kernel
theorem dX12_obeys_75 : decode cX12_obeys 75 = .ok (.istore_n 2, 1) := by decide +kernel
theorem dX12_obeys_76 : decode cX12_obeys 76 = .ok (.aload_n 0, 1) := by decide +kernel
theorem dX12_obeys_77 : decode cX12_obeys 77 = .ok (.iload_n 2, 1) := by decide +kernel
theorem dX12_obeys_78 : decode cX12_obeys 78 = .ok (.ifCond .ge 10, 3) := by decide +kernel
theorem dX12_obeys_81 : decode cX12_obeys 81 = .ok (.aload_n 0, 1) := by decide +kernel
theorem dX12_obeys_82 : decode cX12_obeys 82 = .ok (.getfield 284, 3) := by decide +kernel
theorem dX12_obeys_85 : decode cX12_obeys 85 = .ok (.goto 4, 3) := by decide +kernel
theorem dX12_obeys_88 : decode cX12_obeys 88 = .ok (.iload_n 2, 1) := by decide +kernel
theorem dX12_obeys_89 : decode cX12_obeys 89 = .ok (.putfield 284, 3) := by decide +kernel
theorem dX12_obeys_92 : decode cX12_obeys 92 = .ok (.iload_n 2, 1) := by decide +kernel
theorem dX12_obeys_93 : decode cX12_obeys 93 = .ok (.ireturn, 1) := by decide +kernel
set_option maxRecDepth 20000 in
theorem ggX12_runs_X12_goesAlong : GoodIn wsX12_runs wsX12_goesAlong := goodIn_r _ [11, 12, 13, 6, 2, 14, 4, 15, 16, 1, 17, 3, 18, 19, 20, 10, 21, 22, 23, 24, 25, 26, 27, 28, 29, 30, 31, 32, 33, 34, 35, 36, 37, 38, 39, 40, 41, 42, 43, 44, 45, 46, 47, 5, 48, 49, 50, 51, 52, 53, 54, 55, 56, 57, 58, 59, 60, 61, 62, 63, 64, 65, 66, 67, 68, 69, 70, 71, 72, 73, 74, 75, 76, 77, 78, 79, 80, 81, 82, 83, 84, 85, 86, 87, 88, 89, 90, 176, 177, 178, 179, 180, 181, 182, 183, 184, 185, 186, 187, 188, 189, 190, 191, 192, 193, 194, 195, 196, 197, 198, 199, 200, 201, 202, 203, 204, 205, 206, 207, 208, 209, 210, 211, 212, 213, 214, 215, 216, 217, 218, 219, 220, 221, 222, 223] (by decide +kernel) (by decide +kernel)
set_option maxRecDepth 20000 in
theorem gX12_runs_X12_goesAlong : GoodIn wsX12_runs (wsV RX12 445 RX12 yX12_goesAlong wsX12_goesAlong) := goodIn_app (goodIn_of _ (by decide +kernel)) ggX12_runs_X12_goesAlong
set_option maxRecDepth 20000 in
theorem ggX12_runs_X12_obeys : GoodIn wsX12_runs wsX12_obeys := goodIn_r _ [94, 16, 14, 48, 95, 96, 10, 97, 98, 99, 100, 101, 102, 17, 56, 57, 58, 59, 53, 54, 55, 49, 50, 51, 52, 103, 104, 105, 106, 64, 65, 66, 67, 60, 61, 62, 63, 107, 108, 109, 110, 111, 112, 113, 114, 39, 12, 2, 13, 15, 115, 116, 117, 118, 119, 120, 121, 122, 123, 124, 125, 18, 19, 20, 21, 22, 23, 24, 25, 26, 27, 28, 29, 30, 31, 32, 33, 34, 35, 36, 37, 38, 40, 41, 42, 43, 44, 45, 46, 47, 5, 68, 69, 70, 71, 72, 73, 74, 75, 76, 77, 78, 79, 80, 81, 82, 83, 84, 85, 86, 87, 88, 89, 90, 126, 127, 128, 129, 130, 131, 132, 133, 134, 135, 136, 137, 138, 139, 140, 141, 142, 143, 144, 145, 146, 147, 148, 149, 150, 151, 152, 153, 154, 155, 156, 157, 158, 159, 160, 161, 162, 163, 164, 165, 166, 167, 168, 169, 170, 171, 172, 173, 174, 175, 176, 177, 178, 179, 180, 181, 182, 183, 184, 185, 186, 187, 188, 189, 190, 191, 192, 193, 194, 195, 196, 197, 198, 199, 200, 201, 202, 203, 204, 205, 206, 207, 208, 209, 210, 211, 212, 213, 214, 215, 216, 217, 218, 219, 220, 221, 222, 223] (by decide +kernel) (by decide +kernel)
set_option maxRecDepth 20000 in
theorem gX12_runs_X12_obeys : GoodIn wsX12_runs (wsV RX12 449 RX12 yX12_obeys wsX12_obeys) := goodIn_app (goodIn_of _ (by decide +kernel)) ggX12_runs_X12_obeys
theorem dX12_runs_0 : decode cX12_runs 0 = .ok (.aload_n 0, 1) := by decide +kernel
theorem dX12_runs_1 : decode cX12_runs 1 = .ok (.iload_n 1, 1) := by decide +kernel
theorem dX12_runs_2 : decode cX12_runs 2 = .ok (.iconst 0, 1) := by decide +kernel
theorem dX12_runs_3 : decode cX12_runs 3 = .ok (.invokevirtual 445, 3) := by decide +kernel
theorem dX12_runs_6 : decode cX12_runs 6 = .ok (.aload_n 0, 1) := by decide +kernel
theorem dX12_runs_7 : decode cX12_runs 7 = .ok (.getfield 433, 3) := by decide +kernel
theorem dX12_runs_10 : decode cX12_runs 10 = .ok (.istore_n 2, 1) := by decide +kernel
theorem dX12_runs_11 : decode cX12_runs 11 = .ok (.aload_n 0, 1) := by decide +kernel
theorem dX12_runs_12 : decode cX12_runs 12 = .ok (.getfield 245, 3) := by decide +kernel
theorem dX12_runs_15 : decode cX12_runs 15 = .ok (.istore_n 3, 1) := by decide +kernel
theorem dX12_runs_16 : decode cX12_runs 16 = .ok (.iconst 0, 1) := by decide +kernel
theorem dX12_runs_17 : decode cX12_runs 17 = .ok (.istore 4, 2) := by decide +kernel
theorem dX12_runs_19 : decode cX12_runs 19 = .ok (.iload 4, 2) := by decide +kernel
theorem dX12_runs_21 : decode cX12_runs 21 = .ok (.iload_n 2, 1) := by decide +kernel
theorem dX12_runs_22 : decode cX12_runs 22 = .ok (.if_icmp .ge 51, 3) := by decide +kernel
theorem dX12_runs_25 : decode cX12_runs 25 = .ok (.aload_n 0, 1) := by decide +kernel
theorem dX12_runs_26 : decode cX12_runs 26 = .ok (.iload_n 1, 1) := by decide +kernel
theorem dX12_runs_27 : decode cX12_runs 27 = .ok (.iconst 1, 1) := by decide +kernel
theorem dX12_runs_28 : decode cX12_runs 28 = .ok (.invokevirtual 445, 3) := by decide +kernel
theorem dX12_runs_31 : decode cX12_runs 31 = .ok (.aload_n 0, 1) := by decide +kernel
theorem dX12_runs_32 : decode cX12_runs 32 = .ok (.getfield 436, 3) := by decide +kernel
theorem dX12_runs_35 : decode cX12_runs 35 = .ok (.ifCond .ne 6, 3) := by decide +kernel
theorem dX12_runs_38 : decode cX12_runs 38 = .ok (.goto 29, 3) := by decide +kernel
theorem dX12_runs_41 : decode cX12_runs 41 = .ok (.aload_n 0, 1) := by decide +kernel
theorem dX12_runs_42 : decode cX12_runs 42 = .ok (.getfield 430, 3) := by decide +kernel
theorem dX12_runs_45 : decode cX12_runs 45 = .ok (.ifCond .eq 10, 3) := by decide +kernel
theorem dX12_runs_48 : decode cX12_runs 48 = .ok (.aload_n 0, 1) := by decide +kernel
theorem dX12_runs_49 : decode cX12_runs 49 = .ok (.invokevirtual 449, 3) := by decide +kernel
theorem dX12_runs_52 : decode cX12_runs 52 = .ok (.ifCond .ge 5, 3) := by decide +kernel
theorem dX12_runs_55 : decode cX12_runs 55 = .ok (.iconst 0, 1) := by decide +kernel
theorem dX12_runs_56 : decode cX12_runs 56 = .ok (.ireturn, 1) := by decide +kernel
theorem dX12_runs_57 : decode cX12_runs 57 = .ok (.aload_n 0, 1) := by decide +kernel
theorem dX12_runs_58 : decode cX12_runs 58 = .ok (.dup, 1) := by decide +kernel
theorem dX12_runs_59 : decode cX12_runs 59 = .ok (.getfield 281, 3) := by decide +kernel
theorem dX12_runs_62 : decode cX12_runs 62 = .ok (.iconst 1, 1) := by decide +kernel
theorem dX12_runs_63 : decode cX12_runs 63 = .ok (.iadd, 1) := by decide +kernel
theorem dX12_runs_64 : decode cX12_runs 64 = .ok (.putfield 281, 3) := by decide +kernel
theorem dX12_runs_67 : decode cX12_runs 67 = .ok (.iinc 4 1, 3) := by decide +kernel
theorem dX12_runs_70 : decode cX12_runs 70 = .ok (.goto (-51), 3) := by decide +kernel
theorem dX12_runs_73 : decode cX12_runs 73 = .ok (.aload_n 0, 1) := by decide +kernel
theorem dX12_runs_74 : decode cX12_runs 74 = .ok (.iload_n 3, 1) := by decide +kernel
theorem dX12_runs_75 : decode cX12_runs 75 = .ok (.putfield 421, 3) := by decide +kernel
theorem dX12_runs_78 : decode cX12_runs 78 = .ok (.iconst 1, 1) := by decide +kernel
theorem dX12_runs_79 : decode cX12_runs 79 = .ok (.ireturn, 1) := by decide +kernel
theorem dX12_draws_0 : decode cX12_draws 0 = .ok (.aload_n 0, 1) := by decide +kernel
theorem dX12_draws_1 : decode cX12_draws 1 = .ok (.ldc2_w 452, 3) := by decide +kernel
theorem dX12_draws_4 : decode cX12_draws 4 = .ok (.aload_n 0, 1) := by decide +kernel
theorem dX12_draws_5 : decode cX12_draws 5 = .ok (.getfield 454, 3) := by decide +kernel
theorem dX12_draws_8 : decode cX12_draws 8 = .ok (.i2l, 1) := by decide +kernel
theorem dX12_draws_9 : decode cX12_draws 9 = .ok (.lmul, 1) := by decide +kernel
theorem dX12_draws_10 : decode cX12_draws 10 = .ok (.ldc2_w 457, 3) := by decide +kernel
theorem dX12_draws_13 : decode cX12_draws 13 = .ok (.ladd, 1) := by decide +kernel
theorem dX12_draws_14 : decode cX12_draws 14 = .ok (.ldc2_w 459, 3) := by decide +kernel
theorem dX12_draws_17 : decode cX12_draws 17 = .ok (.lrem, 1) := by decide +kernel
theorem dX12_draws_18 : decode cX12_draws 18 = .ok (.l2i, 1) := by decide +kernel
theorem dX12_draws_19 : decode cX12_draws 19 = .ok (.putfield 454, 3) := by decide +kernel
theorem dX12_draws_22 : decode cX12_draws 22 = .ok (.aload_n 0, 1) := by decide +kernel
theorem dX12_draws_23 : decode cX12_draws 23 = .ok (.getfield 454, 3) := by decide +kernel
theorem dX12_draws_26 : decode cX12_draws 26 = .ok (.iload_n 1, 1) := by decide +kernel
theorem dX12_draws_27 : decode cX12_draws 27 = .ok (.irem, 1) := by decide +kernel
theorem dX12_draws_28 : decode cX12_draws 28 = .ok (.ireturn, 1) := by decide +kernel
set_option maxRecDepth 20000 in
theorem ggX12_nights_X12_lies : GoodIn wsX12_nights wsX12_lies := goodIn_r _ [10] (by decide +kernel) (by decide +kernel)
set_option maxRecDepth 20000 in
theorem gX12_nights_X12_lies : GoodIn wsX12_nights (va_wsS RX12 96 yX12_lies wsX12_lies) := goodIn_app (goodIn_of _ (by decide +kernel)) ggX12_nights_X12_lies
set_option maxRecDepth 20000 in
theorem ggX12_nights_X12_refuses : GoodIn wsX12_nights wsX12_refuses := goodIn_r _ [14, 15, 16, 184, 185, 186, 187, 188, 189, 190, 191, 192, 193, 194, 195, 196, 197, 198, 199, 200, 201, 202, 203, 204, 205, 206, 207, 208, 209, 210, 211, 212, 213, 214, 215, 216, 217, 218, 219, 220, 221, 222, 223, 224, 225, 226, 227, 228, 229, 230, 231] (by decide +kernel) (by decide +kernel)
set_option maxRecDepth 20000 in
theorem gX12_nights_X12_refuses : GoodIn wsX12_nights (wsV RX12 100 RX12 yX12_refuses wsX12_refuses) := goodIn_app (goodIn_of _ (by decide +kernel)) ggX12_nights_X12_refuses
set_option maxRecDepth 20000 in
theorem ggX12_nights_X12_begins : GoodIn wsX12_nights wsX12_begins := goodIn_r _ [20, 3, 21, 22, 23, 9, 24, 25, 184, 185, 186, 187, 188, 189, 190, 191, 192, 193, 194, 195, 196, 197, 198, 199, 200, 201, 202, 203, 204, 205, 206, 207, 208, 209, 210, 211, 212, 213, 214, 215, 216, 217, 218, 219, 220, 221, 222, 223, 224, 225, 226, 227, 228, 229, 230, 231] (by decide +kernel) (by decide +kernel)
set_option maxRecDepth 20000 in
theorem gX12_nights_X12_begins : GoodIn wsX12_nights (wsV RX12 378 RX12 yX12_begins wsX12_begins) := goodIn_app (goodIn_of _ (by decide +kernel)) ggX12_nights_X12_begins
set_option maxRecDepth 20000 in
theorem ggX12_nights_X12_allBuilders : GoodIn wsX12_nights wsX12_allBuilders := goodIn_r _ [29, 3, 184, 185, 186, 187, 188, 189, 190, 191, 192, 193, 194, 195, 196, 197, 198, 199, 200, 201, 202, 203, 204, 205, 206, 207, 208, 209, 210, 211, 212, 213, 214, 215, 216, 217, 218, 219, 220, 221, 222, 223, 224, 225, 226, 227, 228, 229, 230, 231] (by decide +kernel) (by decide +kernel)
set_option maxRecDepth 20000 in
theorem gX12_nights_X12_allBuilders : GoodIn wsX12_nights (wsV RX12 342 RX12 yX12_allBuilders wsX12_allBuilders) := goodIn_app (goodIn_of _ (by decide +kernel)) ggX12_nights_X12_allBuilders
set_option maxRecDepth 20000 in
theorem ggX12_nights_X12_sendsAll : GoodIn wsX12_nights wsX12_sendsAll := goodIn_r _ [33, 3, 34, 35, 36, 9, 37, 38, 39, 40, 41, 42, 43, 44, 45, 46, 47, 48, 49, 50, 51, 52, 53, 54, 55, 56, 57, 58, 59, 60, 61, 62, 63, 64, 65, 66, 67, 68, 69, 70, 71, 72, 73, 74, 75, 76, 77, 78, 79, 80, 81, 82, 83, 84, 85, 86, 87, 88, 89, 90, 91, 92, 93, 94, 95, 96, 97, 98, 99, 100, 101, 102, 103, 104, 105, 106, 107, 108, 109, 110, 111, 112, 113, 114, 115, 116, 7, 8, 10, 117, 118, 119, 120, 121, 122, 123, 124, 125, 126, 127, 128, 129, 130, 131, 132, 133, 134, 135, 136, 137, 138, 139, 140, 141, 142, 143, 144, 145, 146, 147, 184, 185, 186, 187, 188, 189, 190, 191, 192, 193, 194, 195, 196, 197, 198, 199, 200, 201, 202, 203, 204, 205, 206, 207, 208, 209, 210, 211, 212, 213, 214, 215, 216, 217, 218, 219, 220, 221, 222, 223, 224, 225, 226, 227, 228, 229, 230, 231] (by decide +kernel) (by decide +kernel)
set_option maxRecDepth 20000 in
theorem gX12_nights_X12_sendsAll : GoodIn wsX12_nights (wsV RX12 384 RX12 yX12_sendsAll wsX12_sendsAll) := goodIn_app (goodIn_of _ (by decide +kernel)) ggX12_nights_X12_sendsAll
set_option maxRecDepth 20000 in
theorem ggX12_nights_X12_draws : GoodIn wsX12_nights wsX12_draws := goodIn_r _ [151, 152, 2, 153, 154, 184, 185, 186, 187, 188, 189, 190, 191, 192, 193, 194, 195, 196, 197, 198, 199, 200, 201, 202, 203, 204, 205, 206, 207, 208, 209, 210, 211, 212, 213, 214, 215, 216, 217, 218, 219, 220, 221, 222, 223, 224, 225, 226, 227, 228, 229, 230, 231] (by decide +kernel) (by decide +kernel)
set_option maxRecDepth 20000 in
theorem gX12_nights_X12_draws : GoodIn wsX12_nights (wsV RX12 464 RX12 yX12_draws wsX12_draws) := goodIn_app (goodIn_of _ (by decide +kernel)) ggX12_nights_X12_draws
set_option maxRecDepth 20000 in
theorem ggX12_nights_X12_ticks : GoodIn wsX12_nights wsX12_ticks := goodIn_r _ [158, 3, 159, 160, 57, 58, 59, 9, 60, 42, 43, 44, 45, 39, 40, 41, 144, 145, 146, 147, 74, 75, 76, 77, 65, 66, 67, 68, 69, 70, 71, 72, 73, 78, 79, 80, 81, 82, 83, 84, 85, 86, 87, 88, 89, 90, 91, 92, 93, 94, 95, 96, 97, 98, 99, 100, 101, 102, 103, 104, 105, 106, 107, 108, 109, 110, 111, 112, 113, 114, 115, 116, 7, 8, 10, 117, 118, 119, 120, 121, 122, 123, 124, 125, 126, 127, 128, 129, 130, 131, 132, 133, 134, 135, 136, 137, 138, 139, 140, 141, 142, 143, 161, 162, 163, 164, 46, 47, 48, 165, 166, 167, 184, 185, 186, 187, 188, 189, 190, 191, 192, 193, 194, 195, 196, 197, 198, 199, 200, 201, 202, 203, 204, 205, 206, 207, 208, 209, 210, 211, 212, 213, 214, 215, 216, 217, 218, 219, 220, 221, 222, 223, 224, 225, 226, 227, 228, 229, 230, 231] (by decide +kernel) (by decide +kernel)
set_option maxRecDepth 20000 in
theorem gX12_nights_X12_ticks : GoodIn wsX12_nights (wsV RX12 345 RX12 yX12_ticks wsX12_ticks) := goodIn_app (goodIn_of _ (by decide +kernel)) ggX12_nights_X12_ticks
set_option maxRecDepth 20000 in
theorem ggX12_nights_X12_allParts : GoodIn wsX12_nights wsX12_allParts := goodIn_r _ [171, 3, 184, 185, 186, 187, 188, 189, 190, 191, 192, 193, 194, 195, 196, 197, 198, 199, 200, 201, 202, 203, 204, 205, 206, 207, 208, 209, 210, 211, 212, 213, 214, 215, 216, 217, 218, 219, 220, 221, 222, 223, 224, 225, 226, 227, 228, 229, 230, 231] (by decide +kernel) (by decide +kernel)
set_option maxRecDepth 20000 in
theorem gX12_nights_X12_allParts : GoodIn wsX12_nights (wsV RX12 363 RX12 yX12_allParts wsX12_allParts) := goodIn_app (goodIn_of _ (by decide +kernel)) ggX12_nights_X12_allParts
set_option maxRecDepth 20000 in
theorem ggX12_nights_X12_areStanding : GoodIn wsX12_nights wsX12_areStanding := goodIn_r _ [175, 57, 58, 59, 9, 60, 3, 42, 43, 44, 45, 184, 185, 186, 187, 188, 189, 190, 191, 192, 193, 194, 195, 196, 197, 198, 199, 200, 201, 202, 203, 204, 205, 206, 207, 208, 209, 210, 211, 212, 213, 214, 215, 216, 217, 218, 219, 220, 221, 222, 223, 224, 225, 226, 227, 228, 229, 230, 231] (by decide +kernel) (by decide +kernel)
set_option maxRecDepth 20000 in
theorem gX12_nights_X12_areStanding : GoodIn wsX12_nights (wsV RX12 381 RX12 yX12_areStanding wsX12_areStanding) := goodIn_app (goodIn_of _ (by decide +kernel)) ggX12_nights_X12_areStanding
set_option maxRecDepth 20000 in
theorem ggX12_nights_X12_takesBack : GoodIn wsX12_nights wsX12_takesBack := goodIn_r _ [179, 3, 25, 184, 185, 186, 187, 188, 189, 190, 191, 192, 193, 194, 195, 196, 197, 198, 199, 200, 201, 202, 203, 204, 205, 206, 207, 208, 209, 210, 211, 212, 213, 214, 215, 216, 217, 218, 219, 220, 221, 222, 223, 224, 225, 226, 227, 228, 229, 230, 231] (by decide +kernel) (by decide +kernel)
set_option maxRecDepth 20000 in
theorem gX12_nights_X12_takesBack : GoodIn wsX12_nights (wsV RX12 387 RX12 yX12_takesBack wsX12_takesBack) := goodIn_app (goodIn_of _ (by decide +kernel)) ggX12_nights_X12_takesBack
set_option maxRecDepth 20000 in
theorem ggX12_nights_X12_good : GoodIn wsX12_nights wsX12_good := goodIn_r _ [183, 15, 184, 185, 186, 187, 188, 189, 190, 191, 192, 193, 194, 195, 196, 197, 198, 199, 200, 201, 202, 203, 204, 205, 206, 207, 208, 209, 210, 211, 212, 213, 214, 215, 216, 217, 218, 219, 220, 221, 222, 223, 224, 225, 226, 227, 228, 229, 230, 231] (by decide +kernel) (by decide +kernel)
set_option maxRecDepth 20000 in
theorem gX12_nights_X12_good : GoodIn wsX12_nights (wsV RX12 14 RX12 yX12_good wsX12_good) := goodIn_app (goodIn_of _ (by decide +kernel)) ggX12_nights_X12_good
theorem dX12_nights_0 : decode cX12_nights 0 = .ok (.iload_n 1, 1) := by decide +kernel
theorem dX12_nights_1 : decode cX12_nights 1 = .ok (.iconst 0, 1) := by decide +kernel
theorem dX12_nights_2 : decode cX12_nights 2 = .ok (.ldc 157, 2) := by decide +kernel
theorem dX12_nights_4 : decode cX12_nights 4 = .ok (.invokestatic 96, 3) := by decide +kernel
theorem dX12_nights_7 : decode cX12_nights 7 = .ok (.ifCond .eq 13, 3) := by decide +kernel
theorem dX12_nights_10 : decode cX12_nights 10 = .ok (.iload_n 2, 1) := by decide +kernel
theorem dX12_nights_11 : decode cX12_nights 11 = .ok (.iconst 1, 1) := by decide +kernel
theorem dX12_nights_12 : decode cX12_nights 12 = .ok (.bipush 20, 2) := by decide +kernel
theorem dX12_nights_14 : decode cX12_nights 14 = .ok (.invokestatic 96, 3) := by decide +kernel
theorem dX12_nights_17 : decode cX12_nights 17 = .ok (.ifCond .ne 9, 3) := by decide +kernel
theorem dX12_nights_20 : decode cX12_nights 20 = .ok (.aload_n 0, 1) := by decide +kernel
theorem dX12_nights_21 : decode cX12_nights 21 = .ok (.iconst (-1), 1) := by decide +kernel
theorem dX12_nights_22 : decode cX12_nights 22 = .ok (.invokevirtual 100, 3) := by decide +kernel
theorem dX12_nights_25 : decode cX12_nights 25 = .ok (.ireturn, 1) := by decide +kernel
theorem dX12_nights_26 : decode cX12_nights 26 = .ok (.aload_n 0, 1) := by decide +kernel
theorem dX12_nights_27 : decode cX12_nights 27 = .ok (.iload_n 1, 1) := by decide +kernel
theorem dX12_nights_28 : decode cX12_nights 28 = .ok (.putfield 454, 3) := by decide +kernel
theorem dX12_nights_31 : decode cX12_nights 31 = .ok (.aload_n 0, 1) := by decide +kernel
theorem dX12_nights_32 : decode cX12_nights 32 = .ok (.aload_n 0, 1) := by decide +kernel
theorem dX12_nights_33 : decode cX12_nights 33 = .ok (.getfield 24, 3) := by decide +kernel
theorem dX12_nights_36 : decode cX12_nights 36 = .ok (.bipush 102, 2) := by decide +kernel
theorem dX12_nights_38 : decode cX12_nights 38 = .ok (.iaload, 1) := by decide +kernel
theorem dX12_nights_39 : decode cX12_nights 39 = .ok (.putfield 93, 3) := by decide +kernel
theorem dX12_nights_42 : decode cX12_nights 42 = .ok (.aload_n 0, 1) := by decide +kernel
theorem dX12_nights_43 : decode cX12_nights 43 = .ok (.aload_n 0, 1) := by decide +kernel
theorem dX12_nights_44 : decode cX12_nights 44 = .ok (.getfield 24, 3) := by decide +kernel
theorem dX12_nights_47 : decode cX12_nights 47 = .ok (.bipush 103, 2) := by decide +kernel
theorem dX12_nights_49 : decode cX12_nights 49 = .ok (.iaload, 1) := by decide +kernel
theorem dX12_nights_50 : decode cX12_nights 50 = .ok (.putfield 461, 3) := by decide +kernel
theorem dX12_nights_53 : decode cX12_nights 53 = .ok (.iconst 0, 1) := by decide +kernel
theorem dX12_nights_54 : decode cX12_nights 54 = .ok (.istore_n 3, 1) := by decide +kernel
theorem dX12_nights_55 : decode cX12_nights 55 = .ok (.iconst 0, 1) := by decide +kernel
theorem dX12_nights_56 : decode cX12_nights 56 = .ok (.istore 4, 2) := by decide +kernel
theorem dX12_nights_58 : decode cX12_nights 58 = .ok (.iload 4, 2) := by decide +kernel
theorem dX12_nights_60 : decode cX12_nights 60 = .ok (.iload_n 2, 1) := by decide +kernel
theorem dX12_nights_61 : decode cX12_nights 61 = .ok (.if_icmp .ge 135, 3) := by decide +kernel
theorem dX12_nights_64 : decode cX12_nights 64 = .ok (.aload_n 0, 1) := by decide +kernel
theorem dX12_nights_65 : decode cX12_nights 65 = .ok (.invokevirtual 378, 3) := by decide +kernel
theorem dX12_nights_68 : decode cX12_nights 68 = .ok (.iconst 0, 1) := by decide +kernel
theorem dX12_nights_69 : decode cX12_nights 69 = .ok (.istore 5, 2) := by decide +kernel
theorem dX12_nights_71 : decode cX12_nights 71 = .ok (.iload 5, 2) := by decide +kernel
theorem dX12_nights_73 : decode cX12_nights 73 = .ok (.aload_n 0, 1) := by decide +kernel
theorem dX12_nights_74 : decode cX12_nights 74 = .ok (.getfield 24, 3) := by decide +kernel
theorem dX12_nights_77 : decode cX12_nights 77 = .ok (.bipush 99, 2) := by decide +kernel
theorem dX12_nights_79 : decode cX12_nights 79 = .ok (.iaload, 1) := by decide +kernel
theorem dX12_nights_80 : decode cX12_nights 80 = .ok (.if_icmp .ge 56, 3) := by decide +kernel
theorem dX12_nights_83 : decode cX12_nights 83 = .ok (.aload_n 0, 1) := by decide +kernel
theorem dX12_nights_84 : decode cX12_nights 84 = .ok (.aload_n 0, 1) := by decide +kernel
theorem dX12_nights_85 : decode cX12_nights 85 = .ok (.invokevirtual 342, 3) := by decide +kernel
theorem dX12_nights_88 : decode cX12_nights 88 = .ok (.invokevirtual 384, 3) := by decide +kernel
theorem dX12_nights_91 : decode cX12_nights 91 = .ok (.aload_n 0, 1) := by decide +kernel
theorem dX12_nights_92 : decode cX12_nights 92 = .ok (.bipush 10, 2) := by decide +kernel
theorem dX12_nights_94 : decode cX12_nights 94 = .ok (.invokevirtual 464, 3) := by decide +kernel
theorem dX12_nights_97 : decode cX12_nights 97 = .ok (.aload_n 0, 1) := by decide +kernel
theorem dX12_nights_98 : decode cX12_nights 98 = .ok (.getfield 24, 3) := by decide +kernel
theorem dX12_nights_101 : decode cX12_nights 101 = .ok (.bipush 100, 2) := by decide +kernel
theorem dX12_nights_103 : decode cX12_nights 103 = .ok (.iaload, 1) := by decide +kernel
theorem dX12_nights_104 : decode cX12_nights 104 = .ok (.if_icmp .ge 17, 3) := by decide +kernel
theorem dX12_nights_107 : decode cX12_nights 107 = .ok (.aload_n 0, 1) := by decide +kernel
theorem dX12_nights_108 : decode cX12_nights 108 = .ok (.getfield 24, 3) := by decide +kernel
theorem dX12_nights_111 : decode cX12_nights 111 = .ok (.bipush 22, 2) := by decide +kernel
theorem dX12_nights_113 : decode cX12_nights 113 = .ok (.dup2, 1) := by decide +kernel
theorem dX12_nights_114 : decode cX12_nights 114 = .ok (.iaload, 1) := by decide +kernel
theorem dX12_nights_115 : decode cX12_nights 115 = .ok (.iconst 1, 1) := by decide +kernel
theorem dX12_nights_116 : decode cX12_nights 116 = .ok (.iadd, 1) := by decide +kernel
theorem dX12_nights_117 : decode cX12_nights 117 = .ok (.iastore, 1) := by decide +kernel
theorem dX12_nights_118 : decode cX12_nights 118 = .ok (.goto 12, 3) := by decide +kernel
theorem dX12_nights_121 : decode cX12_nights 121 = .ok (.aload_n 0, 1) := by decide +kernel
theorem dX12_nights_122 : decode cX12_nights 122 = .ok (.aload_n 0, 1) := by decide +kernel
theorem dX12_nights_123 : decode cX12_nights 123 = .ok (.invokevirtual 342, 3) := by decide +kernel
theorem dX12_nights_126 : decode cX12_nights 126 = .ok (.invokevirtual 345, 3) := by decide +kernel
theorem dX12_nights_129 : decode cX12_nights 129 = .ok (.pop, 1) := by decide +kernel
theorem dX12_nights_130 : decode cX12_nights 130 = .ok (.iinc 5 1, 3) := by decide +kernel
theorem dX12_nights_133 : decode cX12_nights 133 = .ok (.goto (-62), 3) := by decide +kernel
theorem dX12_nights_136 : decode cX12_nights 136 = .ok (.iload_n 3, 1) := by decide +kernel
theorem dX12_nights_137 : decode cX12_nights 137 = .ok (.aload_n 0, 1) := by decide +kernel
theorem dX12_nights_138 : decode cX12_nights 138 = .ok (.aload_n 0, 1) := by decide +kernel
theorem dX12_nights_139 : decode cX12_nights 139 = .ok (.invokevirtual 363, 3) := by decide +kernel
theorem dX12_nights_142 : decode cX12_nights 142 = .ok (.invokevirtual 381, 3) := by decide +kernel
theorem dX12_nights_145 : decode cX12_nights 145 = .ok (.ifCond .eq 7, 3) := by decide +kernel
theorem dX12_nights_148 : decode cX12_nights 148 = .ok (.iconst 1, 1) := by decide +kernel
theorem dX12_nights_149 : decode cX12_nights 149 = .ok (.goto 4, 3) := by decide +kernel
theorem dX12_nights_152 : decode cX12_nights 152 = .ok (.iconst 0, 1) := by decide +kernel
theorem dX12_nights_153 : decode cX12_nights 153 = .ok (.iadd, 1) := by decide +kernel
theorem dX12_nights_154 : decode cX12_nights 154 = .ok (.istore_n 3, 1) := by decide +kernel
theorem dX12_nights_155 : decode cX12_nights 155 = .ok (.iconst 0, 1) := by decide +kernel
theorem dX12_nights_156 : decode cX12_nights 156 = .ok (.istore 5, 2) := by decide +kernel
theorem dX12_nights_158 : decode cX12_nights 158 = .ok (.iload 5, 2) := by decide +kernel
theorem dX12_nights_160 : decode cX12_nights 160 = .ok (.bipush 23, 2) := by decide +kernel
theorem dX12_nights_162 : decode cX12_nights 162 = .ok (.if_icmp .ge 23, 3) := by decide +kernel
theorem dX12_nights_165 : decode cX12_nights 165 = .ok (.aload_n 0, 1) := by decide +kernel
theorem dX12_nights_166 : decode cX12_nights 166 = .ok (.getfield 90, 3) := by decide +kernel
theorem dX12_nights_169 : decode cX12_nights 169 = .ok (.iload 5, 2) := by decide +kernel
theorem dX12_nights_171 : decode cX12_nights 171 = .ok (.aload_n 0, 1) := by decide +kernel
theorem dX12_nights_172 : decode cX12_nights 172 = .ok (.getfield 24, 3) := by decide +kernel
theorem dX12_nights_175 : decode cX12_nights 175 = .ok (.iload 5, 2) := by decide +kernel
theorem dX12_nights_177 : decode cX12_nights 177 = .ok (.iaload, 1) := by decide +kernel
theorem dX12_nights_178 : decode cX12_nights 178 = .ok (.iastore, 1) := by decide +kernel
theorem dX12_nights_179 : decode cX12_nights 179 = .ok (.iinc 5 1, 3) := by decide +kernel
theorem dX12_nights_182 : decode cX12_nights 182 = .ok (.goto (-24), 3) := by decide +kernel
theorem dX12_nights_185 : decode cX12_nights 185 = .ok (.aload_n 0, 1) := by decide +kernel
theorem dX12_nights_186 : decode cX12_nights 186 = .ok (.iconst 0, 1) := by decide +kernel
theorem dX12_nights_187 : decode cX12_nights 187 = .ok (.invokevirtual 387, 3) := by decide +kernel
theorem dX12_nights_190 : decode cX12_nights 190 = .ok (.iinc 4 1, 3) := by decide +kernel
theorem dX12_nights_193 : decode cX12_nights 193 = .ok (.goto (-135), 3) := by decide +kernel
theorem dX12_nights_196 : decode cX12_nights 196 = .ok (.aload_n 0, 1) := by decide +kernel
theorem dX12_nights_197 : decode cX12_nights 197 = .ok (.iload_n 3, 1) := by decide +kernel
theorem dX12_nights_198 : decode cX12_nights 198 = .ok (.invokevirtual 14, 3) := by decide +kernel
theorem dX12_nights_201 : decode cX12_nights 201 = .ok (.ireturn, 1) := by decide +kernel
set_option maxRecDepth 20000 in
theorem ggX12_drawn_X12_lies : GoodIn wsX12_drawn wsX12_lies := goodIn_r _ [7] (by decide +kernel) (by decide +kernel)
set_option maxRecDepth 20000 in
theorem gX12_drawn_X12_lies : GoodIn wsX12_drawn (va_wsS RX12 96 yX12_lies wsX12_lies) := goodIn_app (goodIn_of _ (by decide +kernel)) ggX12_drawn_X12_lies
theorem dX12_drawn_0 : decode cX12_drawn 0 = .ok (.aload_n 0, 1) := by decide +kernel
theorem dX12_drawn_1 : decode cX12_drawn 1 = .ok (.getfield 93, 3) := by decide +kernel
theorem dX12_drawn_4 : decode cX12_drawn 4 = .ok (.iconst (-1), 1) := by decide +kernel
theorem dX12_drawn_5 : decode cX12_drawn 5 = .ok (.if_icmp .eq 37, 3) := by decide +kernel
theorem dX12_drawn_8 : decode cX12_drawn 8 = .ok (.iload_n 2, 1) := by decide +kernel
theorem dX12_drawn_9 : decode cX12_drawn 9 = .ok (.iconst 0, 1) := by decide +kernel
theorem dX12_drawn_10 : decode cX12_drawn 10 = .ok (.iconst 1, 1) := by decide +kernel
theorem dX12_drawn_11 : decode cX12_drawn 11 = .ok (.invokestatic 96, 3) := by decide +kernel
theorem dX12_drawn_14 : decode cX12_drawn 14 = .ok (.ifCond .eq 28, 3) := by decide +kernel
theorem dX12_drawn_17 : decode cX12_drawn 17 = .ok (.iload_n 1, 1) := by decide +kernel
theorem dX12_drawn_18 : decode cX12_drawn 18 = .ok (.iconst 0, 1) := by decide +kernel
theorem dX12_drawn_19 : decode cX12_drawn 19 = .ok (.iload_n 2, 1) := by decide +kernel
theorem dX12_drawn_20 : decode cX12_drawn 20 = .ok (.ifCond .ne 10, 3) := by decide +kernel
theorem dX12_drawn_23 : decode cX12_drawn 23 = .ok (.aload_n 0, 1) := by decide +kernel
theorem dX12_drawn_24 : decode cX12_drawn 24 = .ok (.getfield 93, 3) := by decide +kernel
theorem dX12_drawn_27 : decode cX12_drawn 27 = .ok (.goto 7, 3) := by decide +kernel
theorem dX12_drawn_30 : decode cX12_drawn 30 = .ok (.aload_n 0, 1) := by decide +kernel
theorem dX12_drawn_31 : decode cX12_drawn 31 = .ok (.getfield 461, 3) := by decide +kernel
theorem dX12_drawn_34 : decode cX12_drawn 34 = .ok (.iconst 1, 1) := by decide +kernel
theorem dX12_drawn_35 : decode cX12_drawn 35 = .ok (.isub, 1) := by decide +kernel
theorem dX12_drawn_36 : decode cX12_drawn 36 = .ok (.invokestatic 96, 3) := by decide +kernel
theorem dX12_drawn_39 : decode cX12_drawn 39 = .ok (.ifCond .ne 5, 3) := by decide +kernel
theorem dX12_drawn_42 : decode cX12_drawn 42 = .ok (.iconst (-1), 1) := by decide +kernel
theorem dX12_drawn_43 : decode cX12_drawn 43 = .ok (.ireturn, 1) := by decide +kernel
theorem dX12_drawn_44 : decode cX12_drawn 44 = .ok (.aload_n 0, 1) := by decide +kernel
theorem dX12_drawn_45 : decode cX12_drawn 45 = .ok (.getfield 90, 3) := by decide +kernel
theorem dX12_drawn_48 : decode cX12_drawn 48 = .ok (.iload_n 2, 1) := by decide +kernel
theorem dX12_drawn_49 : decode cX12_drawn 49 = .ok (.ifCond .ne 7, 3) := by decide +kernel
theorem dX12_drawn_52 : decode cX12_drawn 52 = .ok (.iconst 0, 1) := by decide +kernel
theorem dX12_drawn_53 : decode cX12_drawn 53 = .ok (.goto 5, 3) := by decide +kernel
theorem dX12_drawn_56 : decode cX12_drawn 56 = .ok (.bipush 10, 2) := by decide +kernel
theorem dX12_drawn_58 : decode cX12_drawn 58 = .ok (.iload_n 1, 1) := by decide +kernel
theorem dX12_drawn_59 : decode cX12_drawn 59 = .ok (.iadd, 1) := by decide +kernel
theorem dX12_drawn_60 : decode cX12_drawn 60 = .ok (.iaload, 1) := by decide +kernel
theorem dX12_drawn_61 : decode cX12_drawn 61 = .ok (.ireturn, 1) := by decide +kernel
set_option maxRecDepth 20000 in
theorem ggX12_count_X12_standing : GoodIn wsX12_count wsX12_standing := goodIn_r _ [9, 1, 10, 11, 12, 8, 13, 17, 18, 19, 20, 21, 22, 23, 24, 25, 26, 27, 28, 29, 30, 31, 32, 33, 34, 35, 36, 37, 38, 39, 40, 41, 42, 43, 44, 45, 46, 47, 48, 49, 50, 51, 52, 53, 54, 55, 56, 57, 58, 59, 60, 61, 62, 63, 64] (by decide +kernel) (by decide +kernel)
set_option maxRecDepth 20000 in
theorem gX12_count_X12_standing : GoodIn wsX12_count (wsV RX12 118 RX12 yX12_standing wsX12_standing) := goodIn_app (goodIn_of _ (by decide +kernel)) ggX12_count_X12_standing
set_option maxRecDepth 20000 in
theorem ggX12_count_X12_ones : GoodIn wsX12_count wsX12_ones := goodIn_r _ [16] (by decide +kernel) (by decide +kernel)
set_option maxRecDepth 20000 in
theorem gX12_count_X12_ones : GoodIn wsX12_count (va_wsS RX12 287 yX12_ones wsX12_ones) := goodIn_app (goodIn_of _ (by decide +kernel)) ggX12_count_X12_ones
theorem dX12_count_0 : decode cX12_count 0 = .ok (.iload_n 1, 1) := by decide +kernel
theorem dX12_count_1 : decode cX12_count 1 = .ok (.tableswitch 187 0 16 #[83, 91, 99, 107, 115, 123, 128, 133, 133, 133, 143, 150, 158, 166, 174, 174, 174], 83) := by decide +kernel
theorem dX12_count_84 : decode cX12_count 84 = .ok (.aload_n 0, 1) := by decide +kernel
theorem dX12_count_85 : decode cX12_count 85 = .ok (.getfield 24, 3) := by decide +kernel
theorem dX12_count_88 : decode cX12_count 88 = .ok (.bipush 102, 2) := by decide +kernel
theorem dX12_count_90 : decode cX12_count 90 = .ok (.iaload, 1) := by decide +kernel
theorem dX12_count_91 : decode cX12_count 91 = .ok (.ireturn, 1) := by decide +kernel
theorem dX12_count_92 : decode cX12_count 92 = .ok (.aload_n 0, 1) := by decide +kernel
theorem dX12_count_93 : decode cX12_count 93 = .ok (.invokevirtual 118, 3) := by decide +kernel
theorem dX12_count_96 : decode cX12_count 96 = .ok (.invokestatic 287, 3) := by decide +kernel
theorem dX12_count_99 : decode cX12_count 99 = .ok (.ireturn, 1) := by decide +kernel
theorem dX12_count_100 : decode cX12_count 100 = .ok (.aload_n 0, 1) := by decide +kernel
theorem dX12_count_101 : decode cX12_count 101 = .ok (.getfield 24, 3) := by decide +kernel
theorem dX12_count_104 : decode cX12_count 104 = .ok (.bipush 103, 2) := by decide +kernel
theorem dX12_count_106 : decode cX12_count 106 = .ok (.iaload, 1) := by decide +kernel
theorem dX12_count_107 : decode cX12_count 107 = .ok (.ireturn, 1) := by decide +kernel
theorem dX12_count_108 : decode cX12_count 108 = .ok (.aload_n 0, 1) := by decide +kernel
theorem dX12_count_109 : decode cX12_count 109 = .ok (.getfield 24, 3) := by decide +kernel
theorem dX12_count_112 : decode cX12_count 112 = .ok (.bipush 104, 2) := by decide +kernel
theorem dX12_count_114 : decode cX12_count 114 = .ok (.iaload, 1) := by decide +kernel
theorem dX12_count_115 : decode cX12_count 115 = .ok (.ireturn, 1) := by decide +kernel
theorem dX12_count_116 : decode cX12_count 116 = .ok (.aload_n 0, 1) := by decide +kernel
theorem dX12_count_117 : decode cX12_count 117 = .ok (.getfield 24, 3) := by decide +kernel
theorem dX12_count_120 : decode cX12_count 120 = .ok (.bipush 105, 2) := by decide +kernel
theorem dX12_count_122 : decode cX12_count 122 = .ok (.iaload, 1) := by decide +kernel
theorem dX12_count_123 : decode cX12_count 123 = .ok (.ireturn, 1) := by decide +kernel
theorem dX12_count_124 : decode cX12_count 124 = .ok (.aload_n 0, 1) := by decide +kernel
theorem dX12_count_125 : decode cX12_count 125 = .ok (.getfield 11, 3) := by decide +kernel
theorem dX12_count_128 : decode cX12_count 128 = .ok (.ireturn, 1) := by decide +kernel
theorem dX12_count_129 : decode cX12_count 129 = .ok (.aload_n 0, 1) := by decide +kernel
theorem dX12_count_130 : decode cX12_count 130 = .ok (.getfield 138, 3) := by decide +kernel
theorem dX12_count_133 : decode cX12_count 133 = .ok (.ireturn, 1) := by decide +kernel
theorem dX12_count_134 : decode cX12_count 134 = .ok (.aload_n 0, 1) := by decide +kernel
theorem dX12_count_135 : decode cX12_count 135 = .ok (.getfield 7, 3) := by decide +kernel
theorem dX12_count_138 : decode cX12_count 138 = .ok (.iload_n 1, 1) := by decide +kernel
theorem dX12_count_139 : decode cX12_count 139 = .ok (.bipush 6, 2) := by decide +kernel
theorem dX12_count_141 : decode cX12_count 141 = .ok (.isub, 1) := by decide +kernel
theorem dX12_count_142 : decode cX12_count 142 = .ok (.iaload, 1) := by decide +kernel
theorem dX12_count_143 : decode cX12_count 143 = .ok (.ireturn, 1) := by decide +kernel
theorem dX12_count_144 : decode cX12_count 144 = .ok (.aload_n 0, 1) := by decide +kernel
theorem dX12_count_145 : decode cX12_count 145 = .ok (.getfield 7, 3) := by decide +kernel
theorem dX12_count_148 : decode cX12_count 148 = .ok (.iconst 5, 1) := by decide +kernel
theorem dX12_count_149 : decode cX12_count 149 = .ok (.iaload, 1) := by decide +kernel
theorem dX12_count_150 : decode cX12_count 150 = .ok (.ireturn, 1) := by decide +kernel
theorem dX12_count_151 : decode cX12_count 151 = .ok (.aload_n 0, 1) := by decide +kernel
theorem dX12_count_152 : decode cX12_count 152 = .ok (.getfield 7, 3) := by decide +kernel
theorem dX12_count_155 : decode cX12_count 155 = .ok (.bipush 6, 2) := by decide +kernel
theorem dX12_count_157 : decode cX12_count 157 = .ok (.iaload, 1) := by decide +kernel
theorem dX12_count_158 : decode cX12_count 158 = .ok (.ireturn, 1) := by decide +kernel
theorem dX12_count_159 : decode cX12_count 159 = .ok (.aload_n 0, 1) := by decide +kernel
theorem dX12_count_160 : decode cX12_count 160 = .ok (.getfield 24, 3) := by decide +kernel
theorem dX12_count_163 : decode cX12_count 163 = .ok (.bipush 106, 2) := by decide +kernel
theorem dX12_count_165 : decode cX12_count 165 = .ok (.iaload, 1) := by decide +kernel
theorem dX12_count_166 : decode cX12_count 166 = .ok (.ireturn, 1) := by decide +kernel
theorem dX12_count_167 : decode cX12_count 167 = .ok (.aload_n 0, 1) := by decide +kernel
theorem dX12_count_168 : decode cX12_count 168 = .ok (.getfield 24, 3) := by decide +kernel
theorem dX12_count_171 : decode cX12_count 171 = .ok (.bipush 22, 2) := by decide +kernel
theorem dX12_count_173 : decode cX12_count 173 = .ok (.iaload, 1) := by decide +kernel
theorem dX12_count_174 : decode cX12_count 174 = .ok (.ireturn, 1) := by decide +kernel
theorem dX12_count_175 : decode cX12_count 175 = .ok (.aload_n 0, 1) := by decide +kernel
theorem dX12_count_176 : decode cX12_count 176 = .ok (.getfield 24, 3) := by decide +kernel
theorem dX12_count_179 : decode cX12_count 179 = .ok (.bipush 99, 2) := by decide +kernel
theorem dX12_count_181 : decode cX12_count 181 = .ok (.iload_n 1, 1) := by decide +kernel
theorem dX12_count_182 : decode cX12_count 182 = .ok (.iadd, 1) := by decide +kernel
theorem dX12_count_183 : decode cX12_count 183 = .ok (.bipush 14, 2) := by decide +kernel
theorem dX12_count_185 : decode cX12_count 185 = .ok (.isub, 1) := by decide +kernel
theorem dX12_count_186 : decode cX12_count 186 = .ok (.iaload, 1) := by decide +kernel
theorem dX12_count_187 : decode cX12_count 187 = .ok (.ireturn, 1) := by decide +kernel
theorem dX12_count_188 : decode cX12_count 188 = .ok (.iconst (-1), 1) := by decide +kernel
theorem dX12_count_189 : decode cX12_count 189 = .ok (.ireturn, 1) := by decide +kernel
theorem dX12_status_0 : decode cX12_status 0 = .ok (.aload_n 0, 1) := by decide +kernel
theorem dX12_status_1 : decode cX12_status 1 = .ok (.getfield 3, 3) := by decide +kernel
theorem dX12_status_4 : decode cX12_status 4 = .ok (.ireturn, 1) := by decide +kernel
theorem dJ6_bitCount_0f7a4_0 : decode cJ6_bitCount_0f7a4 0 = .ok (.iload_n 0, 1) := by decide +kernel
theorem dJ6_bitCount_0f7a4_1 : decode cJ6_bitCount_0f7a4 1 = .ok (.iload_n 0, 1) := by decide +kernel
theorem dJ6_bitCount_0f7a4_2 : decode cJ6_bitCount_0f7a4 2 = .ok (.iconst 1, 1) := by decide +kernel
theorem dJ6_bitCount_0f7a4_3 : decode cJ6_bitCount_0f7a4 3 = .ok (.iushr, 1) := by decide +kernel
theorem dJ6_bitCount_0f7a4_4 : decode cJ6_bitCount_0f7a4 4 = .ok (.ldc_w 265, 3) := by decide +kernel
theorem dJ6_bitCount_0f7a4_7 : decode cJ6_bitCount_0f7a4 7 = .ok (.iand, 1) := by decide +kernel
theorem dJ6_bitCount_0f7a4_8 : decode cJ6_bitCount_0f7a4 8 = .ok (.isub, 1) := by decide +kernel
theorem dJ6_bitCount_0f7a4_9 : decode cJ6_bitCount_0f7a4 9 = .ok (.istore_n 0, 1) := by decide +kernel
theorem dJ6_bitCount_0f7a4_10 : decode cJ6_bitCount_0f7a4 10 = .ok (.iload_n 0, 1) := by decide +kernel
theorem dJ6_bitCount_0f7a4_11 : decode cJ6_bitCount_0f7a4 11 = .ok (.ldc_w 266, 3) := by decide +kernel
theorem dJ6_bitCount_0f7a4_14 : decode cJ6_bitCount_0f7a4 14 = .ok (.iand, 1) := by decide +kernel
theorem dJ6_bitCount_0f7a4_15 : decode cJ6_bitCount_0f7a4 15 = .ok (.iload_n 0, 1) := by decide +kernel
theorem dJ6_bitCount_0f7a4_16 : decode cJ6_bitCount_0f7a4 16 = .ok (.iconst 2, 1) := by decide +kernel
theorem dJ6_bitCount_0f7a4_17 : decode cJ6_bitCount_0f7a4 17 = .ok (.iushr, 1) := by decide +kernel
theorem dJ6_bitCount_0f7a4_18 : decode cJ6_bitCount_0f7a4 18 = .ok (.ldc_w 266, 3) := by decide +kernel
theorem dJ6_bitCount_0f7a4_21 : decode cJ6_bitCount_0f7a4 21 = .ok (.iand, 1) := by decide +kernel
theorem dJ6_bitCount_0f7a4_22 : decode cJ6_bitCount_0f7a4 22 = .ok (.iadd, 1) := by decide +kernel
theorem dJ6_bitCount_0f7a4_23 : decode cJ6_bitCount_0f7a4 23 = .ok (.istore_n 0, 1) := by decide +kernel
theorem dJ6_bitCount_0f7a4_24 : decode cJ6_bitCount_0f7a4 24 = .ok (.iload_n 0, 1) := by decide +kernel
theorem dJ6_bitCount_0f7a4_25 : decode cJ6_bitCount_0f7a4 25 = .ok (.iload_n 0, 1) := by decide +kernel
theorem dJ6_bitCount_0f7a4_26 : decode cJ6_bitCount_0f7a4 26 = .ok (.iconst 4, 1) := by decide +kernel
theorem dJ6_bitCount_0f7a4_27 : decode cJ6_bitCount_0f7a4 27 = .ok (.iushr, 1) := by decide +kernel
theorem dJ6_bitCount_0f7a4_28 : decode cJ6_bitCount_0f7a4 28 = .ok (.iadd, 1) := by decide +kernel
theorem dJ6_bitCount_0f7a4_29 : decode cJ6_bitCount_0f7a4 29 = .ok (.ldc_w 267, 3) := by decide +kernel
theorem dJ6_bitCount_0f7a4_32 : decode cJ6_bitCount_0f7a4 32 = .ok (.iand, 1) := by decide +kernel
theorem dJ6_bitCount_0f7a4_33 : decode cJ6_bitCount_0f7a4 33 = .ok (.istore_n 0, 1) := by decide +kernel
theorem dJ6_bitCount_0f7a4_34 : decode cJ6_bitCount_0f7a4 34 = .ok (.iload_n 0, 1) := by decide +kernel
theorem dJ6_bitCount_0f7a4_35 : decode cJ6_bitCount_0f7a4 35 = .ok (.iload_n 0, 1) := by decide +kernel
theorem dJ6_bitCount_0f7a4_36 : decode cJ6_bitCount_0f7a4 36 = .ok (.bipush 8, 2) := by decide +kernel
theorem dJ6_bitCount_0f7a4_38 : decode cJ6_bitCount_0f7a4 38 = .ok (.iushr, 1) := by decide +kernel
theorem dJ6_bitCount_0f7a4_39 : decode cJ6_bitCount_0f7a4 39 = .ok (.iadd, 1) := by decide +kernel
theorem dJ6_bitCount_0f7a4_40 : decode cJ6_bitCount_0f7a4 40 = .ok (.istore_n 0, 1) := by decide +kernel
theorem dJ6_bitCount_0f7a4_41 : decode cJ6_bitCount_0f7a4 41 = .ok (.iload_n 0, 1) := by decide +kernel
theorem dJ6_bitCount_0f7a4_42 : decode cJ6_bitCount_0f7a4 42 = .ok (.iload_n 0, 1) := by decide +kernel
theorem dJ6_bitCount_0f7a4_43 : decode cJ6_bitCount_0f7a4 43 = .ok (.bipush 16, 2) := by decide +kernel
theorem dJ6_bitCount_0f7a4_45 : decode cJ6_bitCount_0f7a4 45 = .ok (.iushr, 1) := by decide +kernel
theorem dJ6_bitCount_0f7a4_46 : decode cJ6_bitCount_0f7a4 46 = .ok (.iadd, 1) := by decide +kernel
theorem dJ6_bitCount_0f7a4_47 : decode cJ6_bitCount_0f7a4 47 = .ok (.istore_n 0, 1) := by decide +kernel
theorem dJ6_bitCount_0f7a4_48 : decode cJ6_bitCount_0f7a4 48 = .ok (.iload_n 0, 1) := by decide +kernel
theorem dJ6_bitCount_0f7a4_49 : decode cJ6_bitCount_0f7a4 49 = .ok (.bipush 63, 2) := by decide +kernel
theorem dJ6_bitCount_0f7a4_51 : decode cJ6_bitCount_0f7a4 51 = .ok (.iand, 1) := by decide +kernel
theorem dJ6_bitCount_0f7a4_52 : decode cJ6_bitCount_0f7a4 52 = .ok (.ireturn, 1) := by decide +kernel
theorem dJ9_max_7cf53_0 : decode cJ9_max_7cf53 0 = .ok (.iload_n 0, 1) := by decide +kernel
theorem dJ9_max_7cf53_1 : decode cJ9_max_7cf53 1 = .ok (.iload_n 1, 1) := by decide +kernel
theorem dJ9_max_7cf53_2 : decode cJ9_max_7cf53 2 = .ok (.if_icmp .lt 7, 3) := by decide +kernel
theorem dJ9_max_7cf53_5 : decode cJ9_max_7cf53 5 = .ok (.iload_n 0, 1) := by decide +kernel
theorem dJ9_max_7cf53_6 : decode cJ9_max_7cf53 6 = .ok (.goto 4, 3) := by decide +kernel
theorem dJ9_max_7cf53_9 : decode cJ9_max_7cf53 9 = .ok (.iload_n 1, 1) := by decide +kernel
theorem dJ9_max_7cf53_10 : decode cJ9_max_7cf53 10 = .ok (.ireturn, 1) := by decide +kernel
theorem dJ9_max_f86c9_0 : decode cJ9_max_f86c9 0 = .ok (.lload_n 0, 1) := by decide +kernel
theorem dJ9_max_f86c9_1 : decode cJ9_max_f86c9 1 = .ok (.lload_n 2, 1) := by decide +kernel
theorem dJ9_max_f86c9_2 : decode cJ9_max_f86c9 2 = .ok (.lcmp, 1) := by decide +kernel
theorem dJ9_max_f86c9_3 : decode cJ9_max_f86c9 3 = .ok (.ifCond .lt 7, 3) := by decide +kernel
theorem dJ9_max_f86c9_6 : decode cJ9_max_f86c9 6 = .ok (.lload_n 0, 1) := by decide +kernel
theorem dJ9_max_f86c9_7 : decode cJ9_max_f86c9 7 = .ok (.goto 4, 3) := by decide +kernel
theorem dJ9_max_f86c9_10 : decode cJ9_max_f86c9 10 = .ok (.lload_n 2, 1) := by decide +kernel
theorem dJ9_max_f86c9_11 : decode cJ9_max_f86c9 11 = .ok (.lreturn, 1) := by decide +kernel
theorem dJ9_min_7cf53_0 : decode cJ9_min_7cf53 0 = .ok (.iload_n 0, 1) := by decide +kernel
theorem dJ9_min_7cf53_1 : decode cJ9_min_7cf53 1 = .ok (.iload_n 1, 1) := by decide +kernel
theorem dJ9_min_7cf53_2 : decode cJ9_min_7cf53 2 = .ok (.if_icmp .gt 7, 3) := by decide +kernel
theorem dJ9_min_7cf53_5 : decode cJ9_min_7cf53 5 = .ok (.iload_n 0, 1) := by decide +kernel
theorem dJ9_min_7cf53_6 : decode cJ9_min_7cf53 6 = .ok (.goto 4, 3) := by decide +kernel
theorem dJ9_min_7cf53_9 : decode cJ9_min_7cf53 9 = .ok (.iload_n 1, 1) := by decide +kernel
theorem dJ9_min_7cf53_10 : decode cJ9_min_7cf53 10 = .ok (.ireturn, 1) := by decide +kernel
theorem dJ9_min_f86c9_0 : decode cJ9_min_f86c9 0 = .ok (.lload_n 0, 1) := by decide +kernel
theorem dJ9_min_f86c9_1 : decode cJ9_min_f86c9 1 = .ok (.lload_n 2, 1) := by decide +kernel
theorem dJ9_min_f86c9_2 : decode cJ9_min_f86c9 2 = .ok (.lcmp, 1) := by decide +kernel
theorem dJ9_min_f86c9_3 : decode cJ9_min_f86c9 3 = .ok (.ifCond .gt 7, 3) := by decide +kernel
theorem dJ9_min_f86c9_6 : decode cJ9_min_f86c9 6 = .ok (.lload_n 0, 1) := by decide +kernel
theorem dJ9_min_f86c9_7 : decode cJ9_min_f86c9 7 = .ok (.goto 4, 3) := by decide +kernel
theorem dJ9_min_f86c9_10 : decode cJ9_min_f86c9 10 = .ok (.lload_n 2, 1) := by decide +kernel
theorem dJ9_min_f86c9_11 : decode cJ9_min_f86c9 11 = .ok (.lreturn, 1) := by decide +kernel
set_option maxRecDepth 20000 in
theorem ggJ0_length_8abf5_J0_coder_7d493 : GoodIn wsJ0_length_8abf5 wsJ0_coder_7d493 := goodIn_r _ [6, 7, 8] (by decide +kernel) (by decide +kernel)
set_option maxRecDepth 20000 in
theorem gJ0_length_8abf5_J0_coder_7d493 : GoodIn wsJ0_length_8abf5 (wsV RJ0 335 RJ0 yJ0_coder_7d493 wsJ0_coder_7d493) := goodIn_app (goodIn_of _ (by decide +kernel)) ggJ0_length_8abf5_J0_coder_7d493
theorem dJ0_length_8abf5_0 : decode cJ0_length_8abf5 0 = .ok (.aload_n 0, 1) := by decide +kernel
theorem dJ0_length_8abf5_1 : decode cJ0_length_8abf5 1 = .ok (.getfield 9, 3) := by decide +kernel
theorem dJ0_length_8abf5_4 : decode cJ0_length_8abf5 4 = .ok (.arraylength, 1) := by decide +kernel
theorem dJ0_length_8abf5_5 : decode cJ0_length_8abf5 5 = .ok (.aload_n 0, 1) := by decide +kernel
theorem dJ0_length_8abf5_6 : decode cJ0_length_8abf5 6 = .ok (.invokevirtual 335, 3) := by decide +kernel
theorem dJ0_length_8abf5_9 : decode cJ0_length_8abf5 9 = .ok (.ishr, 1) := by decide +kernel
theorem dJ0_length_8abf5_10 : decode cJ0_length_8abf5 10 = .ok (.ireturn, 1) := by decide +kernel
set_option maxRecDepth 20000 in
theorem ggJ0_charAt_5068e_J0_isLatin1_aae02 : GoodIn wsJ0_charAt_5068e wsJ0_isLatin1_aae02 := goodIn_r _ [6, 7, 8] (by decide +kernel) (by decide +kernel)
set_option maxRecDepth 20000 in
theorem gJ0_charAt_5068e_J0_isLatin1_aae02 : GoodIn wsJ0_charAt_5068e (wsV RJ0 492 RJ0 yJ0_isLatin1_aae02 wsJ0_isLatin1_aae02) := goodIn_app (goodIn_of _ (by decide +kernel)) ggJ0_charAt_5068e_J0_isLatin1_aae02
set_option maxRecDepth 20000 in
theorem ggJ0_charAt_5068e_J1_charAt_3b067 : GoodIn wsJ0_charAt_5068e wsJ1_charAt_3b067 := goodIn_r _ [12, 13, 14, 5, 15, 16, 17, 18, 19, 20] (by decide +kernel) (by decide +kernel)
set_option maxRecDepth 20000 in
theorem gJ0_charAt_5068e_J1_charAt_3b067 : GoodIn wsJ0_charAt_5068e (va_wsS RJ0 495 yJ1_charAt_3b067 wsJ1_charAt_3b067) := goodIn_app (goodIn_of _ (by decide +kernel)) ggJ0_charAt_5068e_J1_charAt_3b067
set_option maxRecDepth 20000 in
theorem ggJ0_charAt_5068e_J2_charAt_3b067 : GoodIn wsJ0_charAt_5068e wsJ2_charAt_3b067 := goodIn_r _ [24, 25, 26, 23, 27, 28, 29, 30, 31, 14, 5, 15, 16, 17, 18, 19, 20, 32, 33, 34, 35, 36, 37] (by decide +kernel) (by decide +kernel)
set_option maxRecDepth 20000 in
theorem gJ0_charAt_5068e_J2_charAt_3b067 : GoodIn wsJ0_charAt_5068e (va_wsS RJ0 498 yJ2_charAt_3b067 wsJ2_charAt_3b067) := goodIn_app (goodIn_of _ (by decide +kernel)) ggJ0_charAt_5068e_J2_charAt_3b067
theorem dJ0_charAt_5068e_0 : decode cJ0_charAt_5068e 0 = .ok (.aload_n 0, 1) := by decide +kernel
theorem dJ0_charAt_5068e_1 : decode cJ0_charAt_5068e 1 = .ok (.invokevirtual 492, 3) := by decide +kernel
theorem dJ0_charAt_5068e_4 : decode cJ0_charAt_5068e 4 = .ok (.ifCond .eq 12, 3) := by decide +kernel
theorem dJ0_charAt_5068e_7 : decode cJ0_charAt_5068e 7 = .ok (.aload_n 0, 1) := by decide +kernel
theorem dJ0_charAt_5068e_8 : decode cJ0_charAt_5068e 8 = .ok (.getfield 9, 3) := by decide +kernel
theorem dJ0_charAt_5068e_11 : decode cJ0_charAt_5068e 11 = .ok (.iload_n 1, 1) := by decide +kernel
theorem dJ0_charAt_5068e_12 : decode cJ0_charAt_5068e 12 = .ok (.invokestatic 495, 3) := by decide +kernel
theorem dJ0_charAt_5068e_15 : decode cJ0_charAt_5068e 15 = .ok (.ireturn, 1) := by decide +kernel
theorem dJ0_charAt_5068e_16 : decode cJ0_charAt_5068e 16 = .ok (.aload_n 0, 1) := by decide +kernel
theorem dJ0_charAt_5068e_17 : decode cJ0_charAt_5068e 17 = .ok (.getfield 9, 3) := by decide +kernel
theorem dJ0_charAt_5068e_20 : decode cJ0_charAt_5068e 20 = .ok (.iload_n 1, 1) := by decide +kernel
theorem dJ0_charAt_5068e_21 : decode cJ0_charAt_5068e 21 = .ok (.invokestatic 498, 3) := by decide +kernel
theorem dJ0_charAt_5068e_24 : decode cJ0_charAt_5068e 24 = .ok (.ireturn, 1) := by decide +kernel
theorem dJ0_coder_7d493_0 : decode cJ0_coder_7d493 0 = .ok (.getstatic 38, 3) := by decide +kernel
theorem dJ0_coder_7d493_3 : decode cJ0_coder_7d493 3 = .ok (.ifCond .eq 10, 3) := by decide +kernel
theorem dJ0_coder_7d493_6 : decode cJ0_coder_7d493 6 = .ok (.aload_n 0, 1) := by decide +kernel
theorem dJ0_coder_7d493_7 : decode cJ0_coder_7d493 7 = .ok (.getfield 15, 3) := by decide +kernel
theorem dJ0_coder_7d493_10 : decode cJ0_coder_7d493 10 = .ok (.goto 4, 3) := by decide +kernel
theorem dJ0_coder_7d493_13 : decode cJ0_coder_7d493 13 = .ok (.iconst 1, 1) := by decide +kernel
theorem dJ0_coder_7d493_14 : decode cJ0_coder_7d493 14 = .ok (.ireturn, 1) := by decide +kernel
theorem dJ0_isLatin1_aae02_0 : decode cJ0_isLatin1_aae02 0 = .ok (.getstatic 38, 3) := by decide +kernel
theorem dJ0_isLatin1_aae02_3 : decode cJ0_isLatin1_aae02 3 = .ok (.ifCond .eq 14, 3) := by decide +kernel
theorem dJ0_isLatin1_aae02_6 : decode cJ0_isLatin1_aae02 6 = .ok (.aload_n 0, 1) := by decide +kernel
theorem dJ0_isLatin1_aae02_7 : decode cJ0_isLatin1_aae02 7 = .ok (.getfield 15, 3) := by decide +kernel
theorem dJ0_isLatin1_aae02_10 : decode cJ0_isLatin1_aae02 10 = .ok (.ifCond .ne 7, 3) := by decide +kernel
theorem dJ0_isLatin1_aae02_13 : decode cJ0_isLatin1_aae02 13 = .ok (.iconst 1, 1) := by decide +kernel
theorem dJ0_isLatin1_aae02_14 : decode cJ0_isLatin1_aae02 14 = .ok (.goto 4, 3) := by decide +kernel
theorem dJ0_isLatin1_aae02_17 : decode cJ0_isLatin1_aae02 17 = .ok (.iconst 0, 1) := by decide +kernel
theorem dJ0_isLatin1_aae02_18 : decode cJ0_isLatin1_aae02 18 = .ok (.ireturn, 1) := by decide +kernel
set_option maxRecDepth 20000 in
theorem ggJ0_checkIndex_df160_J3_checkIndex_8e157 : GoodIn wsJ0_checkIndex_df160 wsJ3_checkIndex_8e157 := goodIn_r _ [5] (by decide +kernel) (by decide +kernel)
set_option maxRecDepth 20000 in
theorem gJ0_checkIndex_df160_J3_checkIndex_8e157 : GoodIn wsJ0_checkIndex_df160 (va_wsS RJ0 1059 yJ3_checkIndex_8e157 wsJ3_checkIndex_8e157) := goodIn_app (goodIn_of _ (by decide +kernel)) ggJ0_checkIndex_df160_J3_checkIndex_8e157
theorem dJ0_checkIndex_df160_0 : decode cJ0_checkIndex_df160 0 = .ok (.iload_n 0, 1) := by decide +kernel
theorem dJ0_checkIndex_df160_1 : decode cJ0_checkIndex_df160 1 = .ok (.iload_n 1, 1) := by decide +kernel
theorem dJ0_checkIndex_df160_2 : decode cJ0_checkIndex_df160 2 = .ok (.getstatic 1053, 3) := by decide +kernel
theorem dJ0_checkIndex_df160_5 : decode cJ0_checkIndex_df160 5 = .ok (.invokestatic 1059, 3) := by decide +kernel
theorem dJ0_checkIndex_df160_8 : decode cJ0_checkIndex_df160 8 = .ok (.pop, 1) := by decide +kernel
theorem dJ0_checkIndex_df160_9 : decode cJ0_checkIndex_df160 9 = .ok (.return_, 1) := by decide +kernel
set_option maxRecDepth 20000 in
theorem ggJ1_charAt_3b067_J0_checkIndex_df160 : GoodIn wsJ1_charAt_3b067 wsJ0_checkIndex_df160 := goodIn_r _ [4, 5, 6, 7, 8, 9] (by decide +kernel) (by decide +kernel)
set_option maxRecDepth 20000 in
theorem gJ1_charAt_3b067_J0_checkIndex_df160 : GoodIn wsJ1_charAt_3b067 (va_wsS RJ1 9 yJ0_checkIndex_df160 wsJ0_checkIndex_df160) := goodIn_app (goodIn_of _ (by decide +kernel)) ggJ1_charAt_3b067_J0_checkIndex_df160
theorem dJ1_charAt_3b067_0 : decode cJ1_charAt_3b067 0 = .ok (.iload_n 1, 1) := by decide +kernel
theorem dJ1_charAt_3b067_1 : decode cJ1_charAt_3b067 1 = .ok (.aload_n 0, 1) := by decide +kernel
theorem dJ1_charAt_3b067_2 : decode cJ1_charAt_3b067 2 = .ok (.arraylength, 1) := by decide +kernel
theorem dJ1_charAt_3b067_3 : decode cJ1_charAt_3b067 3 = .ok (.invokestatic 9, 3) := by decide +kernel
theorem dJ1_charAt_3b067_6 : decode cJ1_charAt_3b067 6 = .ok (.aload_n 0, 1) := by decide +kernel
theorem dJ1_charAt_3b067_7 : decode cJ1_charAt_3b067 7 = .ok (.iload_n 1, 1) := by decide +kernel
theorem dJ1_charAt_3b067_8 : decode cJ1_charAt_3b067 8 = .ok (.baload, 1) := by decide +kernel
theorem dJ1_charAt_3b067_9 : decode cJ1_charAt_3b067 9 = .ok (.sipush 255, 3) := by decide +kernel
theorem dJ1_charAt_3b067_12 : decode cJ1_charAt_3b067 12 = .ok (.iand, 1) := by decide +kernel
theorem dJ1_charAt_3b067_13 : decode cJ1_charAt_3b067 13 = .ok (.i2c, 1) := by decide +kernel
theorem dJ1_charAt_3b067_14 : decode cJ1_charAt_3b067 14 = .ok (.ireturn, 1) := by decide +kernel
set_option maxRecDepth 20000 in
theorem ggJ2_getChar_3b067_J2_length_9d52b : GoodIn wsJ2_getChar_3b067 wsJ2_length_9d52b := goodIn_r _ [7] (by decide +kernel) (by decide +kernel)
set_option maxRecDepth 20000 in
theorem gJ2_getChar_3b067_J2_length_9d52b : GoodIn wsJ2_getChar_3b067 (va_wsS RJ2 48 yJ2_length_9d52b wsJ2_length_9d52b) := goodIn_app (goodIn_of _ (by decide +kernel)) ggJ2_getChar_3b067_J2_length_9d52b
theorem dJ2_getChar_3b067_0 : decode cJ2_getChar_3b067 0 = .ok (.getstatic 44, 3) := by decide +kernel
theorem dJ2_getChar_3b067_3 : decode cJ2_getChar_3b067 3 = .ok (.ifCond .ne 25, 3) := by decide +kernel
theorem dJ2_getChar_3b067_6 : decode cJ2_getChar_3b067 6 = .ok (.iload_n 1, 1) := by decide +kernel
theorem dJ2_getChar_3b067_7 : decode cJ2_getChar_3b067 7 = .ok (.ifCond .lt 11, 3) := by decide +kernel
theorem dJ2_getChar_3b067_10 : decode cJ2_getChar_3b067 10 = .ok (.iload_n 1, 1) := by decide +kernel
theorem dJ2_getChar_3b067_11 : decode cJ2_getChar_3b067 11 = .ok (.aload_n 0, 1) := by decide +kernel
theorem dJ2_getChar_3b067_12 : decode cJ2_getChar_3b067 12 = .ok (.invokestatic 48, 3) := by decide +kernel
theorem dJ2_getChar_3b067_15 : decode cJ2_getChar_3b067 15 = .ok (.if_icmp .lt 13, 3) := by decide +kernel
theorem dJ2_getChar_3b067_18 : decode cJ2_getChar_3b067 18 = .ok (.new 52, 3) := by decide +kernel
theorem dJ2_getChar_3b067_21 : decode cJ2_getChar_3b067 21 = .ok (.dup, 1) := by decide +kernel
theorem dJ2_getChar_3b067_22 : decode cJ2_getChar_3b067 22 = .ok (.ldc 54, 2) := by decide +kernel
theorem dJ2_getChar_3b067_24 : decode cJ2_getChar_3b067 24 = .ok (.invokespecial 56, 3) := by decide +kernel
theorem dJ2_getChar_3b067_27 : decode cJ2_getChar_3b067 27 = .ok (.athrow, 1) := by decide +kernel
theorem dJ2_getChar_3b067_28 : decode cJ2_getChar_3b067 28 = .ok (.iload_n 1, 1) := by decide +kernel
theorem dJ2_getChar_3b067_29 : decode cJ2_getChar_3b067 29 = .ok (.iconst 1, 1) := by decide +kernel
theorem dJ2_getChar_3b067_30 : decode cJ2_getChar_3b067 30 = .ok (.ishl, 1) := by decide +kernel
theorem dJ2_getChar_3b067_31 : decode cJ2_getChar_3b067 31 = .ok (.istore_n 1, 1) := by decide +kernel
theorem dJ2_getChar_3b067_32 : decode cJ2_getChar_3b067 32 = .ok (.aload_n 0, 1) := by decide +kernel
theorem dJ2_getChar_3b067_33 : decode cJ2_getChar_3b067 33 = .ok (.iload_n 1, 1) := by decide +kernel
theorem dJ2_getChar_3b067_34 : decode cJ2_getChar_3b067 34 = .ok (.iinc 1 1, 3) := by decide +kernel
theorem dJ2_getChar_3b067_37 : decode cJ2_getChar_3b067 37 = .ok (.baload, 1) := by decide +kernel
theorem dJ2_getChar_3b067_38 : decode cJ2_getChar_3b067 38 = .ok (.sipush 255, 3) := by decide +kernel
theorem dJ2_getChar_3b067_41 : decode cJ2_getChar_3b067 41 = .ok (.iand, 1) := by decide +kernel
theorem dJ2_getChar_3b067_42 : decode cJ2_getChar_3b067 42 = .ok (.getstatic 59, 3) := by decide +kernel
theorem dJ2_getChar_3b067_45 : decode cJ2_getChar_3b067 45 = .ok (.ishl, 1) := by decide +kernel
theorem dJ2_getChar_3b067_46 : decode cJ2_getChar_3b067 46 = .ok (.aload_n 0, 1) := by decide +kernel
theorem dJ2_getChar_3b067_47 : decode cJ2_getChar_3b067 47 = .ok (.iload_n 1, 1) := by decide +kernel
theorem dJ2_getChar_3b067_48 : decode cJ2_getChar_3b067 48 = .ok (.baload, 1) := by decide +kernel
theorem dJ2_getChar_3b067_49 : decode cJ2_getChar_3b067 49 = .ok (.sipush 255, 3) := by decide +kernel
theorem dJ2_getChar_3b067_52 : decode cJ2_getChar_3b067 52 = .ok (.iand, 1) := by decide +kernel
theorem dJ2_getChar_3b067_53 : decode cJ2_getChar_3b067 53 = .ok (.getstatic 63, 3) := by decide +kernel
theorem dJ2_getChar_3b067_56 : decode cJ2_getChar_3b067 56 = .ok (.ishl, 1) := by decide +kernel
theorem dJ2_getChar_3b067_57 : decode cJ2_getChar_3b067 57 = .ok (.ior, 1) := by decide +kernel
theorem dJ2_getChar_3b067_58 : decode cJ2_getChar_3b067 58 = .ok (.i2c, 1) := by decide +kernel
theorem dJ2_getChar_3b067_59 : decode cJ2_getChar_3b067 59 = .ok (.ireturn, 1) := by decide +kernel
theorem dJ2_length_9d52b_0 : decode cJ2_length_9d52b 0 = .ok (.aload_n 0, 1) := by decide +kernel
theorem dJ2_length_9d52b_1 : decode cJ2_length_9d52b 1 = .ok (.arraylength, 1) := by decide +kernel
theorem dJ2_length_9d52b_2 : decode cJ2_length_9d52b 2 = .ok (.iconst 1, 1) := by decide +kernel
theorem dJ2_length_9d52b_3 : decode cJ2_length_9d52b 3 = .ok (.ishr, 1) := by decide +kernel
theorem dJ2_length_9d52b_4 : decode cJ2_length_9d52b 4 = .ok (.ireturn, 1) := by decide +kernel
set_option maxRecDepth 20000 in
theorem ggJ2_charAt_3b067_J2_checkIndex_2214a : GoodIn wsJ2_charAt_3b067 wsJ2_checkIndex_2214a := goodIn_r _ [4, 5, 6, 3, 7, 8, 9, 10, 11, 12, 13, 14, 15, 16] (by decide +kernel) (by decide +kernel)
set_option maxRecDepth 20000 in
theorem gJ2_charAt_3b067_J2_checkIndex_2214a : GoodIn wsJ2_charAt_3b067 (va_wsS RJ2 67 yJ2_checkIndex_2214a wsJ2_checkIndex_2214a) := goodIn_app (goodIn_of _ (by decide +kernel)) ggJ2_charAt_3b067_J2_checkIndex_2214a
set_option maxRecDepth 20000 in
theorem ggJ2_charAt_3b067_J2_getChar_3b067 : GoodIn wsJ2_charAt_3b067 wsJ2_getChar_3b067 := goodIn_r _ [19, 20, 21, 22, 5, 6, 3, 7] (by decide +kernel) (by decide +kernel)
set_option maxRecDepth 20000 in
theorem gJ2_charAt_3b067_J2_getChar_3b067 : GoodIn wsJ2_charAt_3b067 (va_wsS RJ2 71 yJ2_getChar_3b067 wsJ2_getChar_3b067) := goodIn_app (goodIn_of _ (by decide +kernel)) ggJ2_charAt_3b067_J2_getChar_3b067
theorem dJ2_charAt_3b067_0 : decode cJ2_charAt_3b067 0 = .ok (.iload_n 1, 1) := by decide +kernel
theorem dJ2_charAt_3b067_1 : decode cJ2_charAt_3b067 1 = .ok (.aload_n 0, 1) := by decide +kernel
theorem dJ2_charAt_3b067_2 : decode cJ2_charAt_3b067 2 = .ok (.invokestatic 67, 3) := by decide +kernel
theorem dJ2_charAt_3b067_5 : decode cJ2_charAt_3b067 5 = .ok (.aload_n 0, 1) := by decide +kernel
theorem dJ2_charAt_3b067_6 : decode cJ2_charAt_3b067 6 = .ok (.iload_n 1, 1) := by decide +kernel
theorem dJ2_charAt_3b067_7 : decode cJ2_charAt_3b067 7 = .ok (.invokestatic 71, 3) := by decide +kernel
theorem dJ2_charAt_3b067_10 : decode cJ2_charAt_3b067 10 = .ok (.ireturn, 1) := by decide +kernel
set_option maxRecDepth 20000 in
theorem ggJ2_checkIndex_2214a_J2_length_9d52b : GoodIn wsJ2_checkIndex_2214a wsJ2_length_9d52b := goodIn_r _ [4] (by decide +kernel) (by decide +kernel)
set_option maxRecDepth 20000 in
theorem gJ2_checkIndex_2214a_J2_length_9d52b : GoodIn wsJ2_checkIndex_2214a (va_wsS RJ2 48 yJ2_length_9d52b wsJ2_length_9d52b) := goodIn_app (goodIn_of _ (by decide +kernel)) ggJ2_checkIndex_2214a_J2_length_9d52b
set_option maxRecDepth 20000 in
theorem ggJ2_checkIndex_2214a_J0_checkIndex_df160 : GoodIn wsJ2_checkIndex_2214a wsJ0_checkIndex_df160 := goodIn_r _ [8, 9, 10, 11, 12, 13] (by decide +kernel) (by decide +kernel)
set_option maxRecDepth 20000 in
theorem gJ2_checkIndex_2214a_J0_checkIndex_df160 : GoodIn wsJ2_checkIndex_2214a (va_wsS RJ2 414 yJ0_checkIndex_df160 wsJ0_checkIndex_df160) := goodIn_app (goodIn_of _ (by decide +kernel)) ggJ2_checkIndex_2214a_J0_checkIndex_df160
theorem dJ2_checkIndex_2214a_0 : decode cJ2_checkIndex_2214a 0 = .ok (.iload_n 0, 1) := by decide +kernel
theorem dJ2_checkIndex_2214a_1 : decode cJ2_checkIndex_2214a 1 = .ok (.aload_n 1, 1) := by decide +kernel
theorem dJ2_checkIndex_2214a_2 : decode cJ2_checkIndex_2214a 2 = .ok (.invokestatic 48, 3) := by decide +kernel
theorem dJ2_checkIndex_2214a_5 : decode cJ2_checkIndex_2214a 5 = .ok (.invokestatic 414, 3) := by decide +kernel
theorem dJ2_checkIndex_2214a_8 : decode cJ2_checkIndex_2214a 8 = .ok (.return_, 1) := by decide +kernel
theorem dJ7_fill_53178_0 : decode cJ7_fill_53178 0 = .ok (.iconst 0, 1) := by decide +kernel
theorem dJ7_fill_53178_1 : decode cJ7_fill_53178 1 = .ok (.istore_n 2, 1) := by decide +kernel
theorem dJ7_fill_53178_2 : decode cJ7_fill_53178 2 = .ok (.aload_n 0, 1) := by decide +kernel
theorem dJ7_fill_53178_3 : decode cJ7_fill_53178 3 = .ok (.arraylength, 1) := by decide +kernel
theorem dJ7_fill_53178_4 : decode cJ7_fill_53178 4 = .ok (.istore_n 3, 1) := by decide +kernel
theorem dJ7_fill_53178_5 : decode cJ7_fill_53178 5 = .ok (.iload_n 2, 1) := by decide +kernel
theorem dJ7_fill_53178_6 : decode cJ7_fill_53178 6 = .ok (.iload_n 3, 1) := by decide +kernel
theorem dJ7_fill_53178_7 : decode cJ7_fill_53178 7 = .ok (.if_icmp .ge 13, 3) := by decide +kernel
theorem dJ7_fill_53178_10 : decode cJ7_fill_53178 10 = .ok (.aload_n 0, 1) := by decide +kernel
theorem dJ7_fill_53178_11 : decode cJ7_fill_53178 11 = .ok (.iload_n 2, 1) := by decide +kernel
theorem dJ7_fill_53178_12 : decode cJ7_fill_53178 12 = .ok (.iload_n 1, 1) := by decide +kernel
theorem dJ7_fill_53178_13 : decode cJ7_fill_53178 13 = .ok (.iastore, 1) := by decide +kernel
theorem dJ7_fill_53178_14 : decode cJ7_fill_53178 14 = .ok (.iinc 2 1, 3) := by decide +kernel
theorem dJ7_fill_53178_17 : decode cJ7_fill_53178 17 = .ok (.goto (-12), 3) := by decide +kernel
theorem dJ7_fill_53178_20 : decode cJ7_fill_53178 20 = .ok (.return_, 1) := by decide +kernel
theorem dJ3_checkIndex_8e157_0 : decode cJ3_checkIndex_8e157 0 = .ok (.iload_n 0, 1) := by decide +kernel
theorem dJ3_checkIndex_8e157_1 : decode cJ3_checkIndex_8e157 1 = .ok (.ifCond .lt 8, 3) := by decide +kernel
theorem dJ3_checkIndex_8e157_4 : decode cJ3_checkIndex_8e157 4 = .ok (.iload_n 0, 1) := by decide +kernel
theorem dJ3_checkIndex_8e157_5 : decode cJ3_checkIndex_8e157 5 = .ok (.iload_n 1, 1) := by decide +kernel
theorem dJ3_checkIndex_8e157_6 : decode cJ3_checkIndex_8e157 6 = .ok (.if_icmp .lt 10, 3) := by decide +kernel
theorem dJ3_checkIndex_8e157_9 : decode cJ3_checkIndex_8e157 9 = .ok (.aload_n 2, 1) := by decide +kernel
theorem dJ3_checkIndex_8e157_10 : decode cJ3_checkIndex_8e157 10 = .ok (.iload_n 0, 1) := by decide +kernel
theorem dJ3_checkIndex_8e157_11 : decode cJ3_checkIndex_8e157 11 = .ok (.iload_n 1, 1) := by decide +kernel
theorem dJ3_checkIndex_8e157_12 : decode cJ3_checkIndex_8e157 12 = .ok (.invokestatic 95, 3) := by decide +kernel
theorem dJ3_checkIndex_8e157_15 : decode cJ3_checkIndex_8e157 15 = .ok (.athrow, 1) := by decide +kernel
theorem dJ3_checkIndex_8e157_16 : decode cJ3_checkIndex_8e157 16 = .ok (.iload_n 0, 1) := by decide +kernel
theorem dJ3_checkIndex_8e157_17 : decode cJ3_checkIndex_8e157 17 = .ok (.ireturn, 1) := by decide +kernel
set_option maxRecDepth 20000 in
theorem ggL_law_X11_init : GoodIn wsL_law wsX11_init := goodIn_r _ [8, 9, 10, 11, 12, 13, 14, 15, 16, 17, 18, 19, 20, 21, 22, 23, 24, 25, 26, 27, 28, 29, 30, 31, 32, 33, 34, 35, 36, 37, 38, 39, 40, 41, 42, 43, 44, 45, 46, 47, 48, 49, 50, 51, 52, 53, 54, 55, 56, 57, 58, 59, 60, 61, 62, 63, 64, 65, 66, 67, 68, 69, 70, 71, 72, 73, 74, 75, 76, 77, 78, 79, 80, 81, 82, 83, 84, 85, 86, 87, 88, 89, 90, 91, 92, 93, 94, 95, 96, 97, 98, 99, 100, 101, 102, 103, 104, 105, 106, 107, 108, 109, 110, 111, 112, 113, 114, 115, 116, 117, 118, 119, 120, 121, 122, 123, 124, 125, 126, 127, 128, 129, 130, 131, 132, 133, 134, 135, 136, 137, 138, 139, 140, 141, 142, 143, 144, 145, 146, 147, 148, 149, 150, 151, 152, 153, 154, 155, 156, 157, 158, 159, 160, 161, 162, 163, 164, 165, 166, 167, 168, 169, 170, 171, 172, 173, 174, 175, 176, 177, 178, 179, 180, 181, 182, 183, 184, 185, 186, 187, 188, 189, 190, 191, 192, 1525, 1526, 1527, 1528, 1529, 1530, 1531, 1532, 1533, 1534, 1535, 1536, 1537, 1538, 1539, 1540, 1541, 1542, 1543, 1544, 1460, 1461, 1462, 1463, 1464, 1465, 1466, 1467, 1468, 1469, 1470, 1471, 1472, 1473, 1474, 1475, 1476, 1545, 1546, 1547, 1548, 1549, 1550, 1551, 1552, 1553, 1554, 1555, 1556, 1557, 1558, 1559, 1560, 1561, 1562, 1563, 1564, 1565, 1566, 1567, 1568, 1569, 1570, 1571, 1572, 1573, 1574, 1575, 1576, 1577, 1578, 1579, 1580, 1581, 1582, 1583, 1584, 1585, 1586, 1587, 1588, 1589, 1590, 1591, 1592, 1593, 1594, 1595, 1596, 1597] (by decide +kernel) (by decide +kernel)
set_option maxRecDepth 20000 in
theorem gL_law_X11_init : GoodIn wsL_law (wsX11_init) := ggL_law_X11_init
set_option maxRecDepth 20000 in
theorem ggL_law_X12_init : GoodIn wsL_law wsX12_init := goodIn_r _ [195, 196, 10, 11, 51, 197, 198, 199, 172, 200, 201, 49, 202, 203, 204, 205, 206, 207, 208, 209, 210, 211, 212, 213, 214, 215, 216, 217, 94, 218, 219, 220, 1477, 1478, 1479, 1480, 1481, 1482, 1483, 1484, 1485, 1486, 1487, 1488, 1489, 1490, 1491, 1492, 1493, 1494, 1495, 1496, 1497, 1498, 1499, 1500, 1501, 1502, 1503, 1504, 1505, 1506, 1507, 1508, 1509, 1510, 1511, 1512, 1513, 1514, 1515, 1516, 1517, 1518, 1519, 1520, 1521, 1522, 1523, 1524] (by decide +kernel) (by decide +kernel)
set_option maxRecDepth 20000 in
theorem gL_law_X12_init : GoodIn wsL_law (wsX12_init) := ggL_law_X12_init
set_option maxRecDepth 20000 in
theorem ggL_law_X11_part : GoodIn wsL_law wsX11_part := goodIn_r _ [224, 15, 19, 225, 226, 227, 14, 228, 61, 62, 63, 64, 65, 66, 229, 230, 231, 2, 232, 52, 57, 233, 234, 235, 18, 236, 103, 104, 237, 238, 239, 240, 39, 43, 241, 242, 243, 38, 244, 166, 169, 170, 245, 246, 247, 42, 248, 182, 249, 250, 251, 252, 1460, 1461, 1462, 1463, 1464, 1465, 1466, 1467, 1468, 1469, 1470, 1471, 1472, 1473, 1474, 1475, 1476, 1525, 1526, 1527, 1528, 1529, 1530, 1531, 1532, 1533, 1534, 1535, 1536, 1537, 1538, 1539, 1540, 1541, 1542, 1543, 1544, 1545, 1546, 1547, 1569, 1570, 1571, 1572, 1573, 1574, 1575, 1576, 1577, 1578, 1579, 1580, 1581] (by decide +kernel) (by decide +kernel)
set_option maxRecDepth 20000 in
theorem gL_law_X11_part : GoodIn wsL_law (wsV RL 13 RX11 yX11_part wsX11_part) := goodIn_app (goodIn_of _ (by decide +kernel)) ggL_law_X11_part
set_option maxRecDepth 20000 in
theorem ggL_law_X12_part : GoodIn wsL_law wsX12_part := goodIn_r _ [256, 198, 257, 258, 259, 5, 260, 261, 262, 263, 264, 265, 266, 267, 268, 197, 269, 270, 271, 272, 273, 274, 275, 276, 277, 278, 279, 280, 281, 1477, 1478, 1479, 1480, 1481, 1482, 1483, 1484, 1485, 1486, 1487, 1488, 1489, 1490, 1491, 1492, 1493, 1494, 1495, 1496, 1497, 1498, 1499, 1500, 1501, 1502, 1503, 1504, 1505, 1506, 1507, 1508, 1509, 1510, 1511, 1512, 1513, 1514, 1515, 1516, 1517, 1518, 1519, 1520, 1521, 1522, 1523, 1524] (by decide +kernel) (by decide +kernel)
set_option maxRecDepth 20000 in
theorem gL_law_X12_part : GoodIn wsL_law (wsV RL 17 RX12 yX12_part wsX12_part) := goodIn_app (goodIn_of _ (by decide +kernel)) ggL_law_X12_part
set_option maxRecDepth 20000 in
theorem ggL_law_X11_of : GoodIn wsL_law wsX11_of := goodIn_r _ [285, 15, 286, 287, 288, 289, 290, 291, 292, 293, 294, 295, 14, 296, 61, 297, 298, 299, 300, 66, 63, 301, 302, 303, 304, 305, 306, 307, 308, 309, 310, 150, 311, 90, 312, 313, 149, 151, 1460, 1461, 1462, 1463, 1464, 1465, 1466, 1467, 1468, 1469, 1470, 1471, 1472, 1473, 1474, 1475, 1476, 1525, 1526, 1527, 1528, 1529, 1530, 1531, 1532, 1533, 1534, 1535, 1536, 1537, 1538, 1539, 1540, 1541, 1542, 1543, 1544, 1587, 1588, 1589, 1590, 1591] (by decide +kernel) (by decide +kernel)
set_option maxRecDepth 20000 in
theorem gL_law_X11_of : GoodIn wsL_law (wsV RL 18 RX11 yX11_of wsX11_of) := goodIn_app (goodIn_of _ (by decide +kernel)) ggL_law_X11_of
set_option maxRecDepth 20000 in
theorem ggL_law_X12_of : GoodIn wsL_law wsX12_of := goodIn_r _ [317, 198, 214, 318, 319, 320, 5, 321, 261, 262, 263, 322, 323, 324, 325, 326, 327, 328, 329, 330, 331, 332, 333, 334, 335, 336, 337, 338, 339, 340, 341, 342, 343, 1477, 1478, 1479, 1480, 1481, 1482, 1483, 1484, 1485, 1486, 1487, 1488, 1489, 1490, 1491, 1492, 1493, 1494, 1495, 1496, 1497, 1498, 1499, 1500, 1501, 1502, 1503, 1504, 1505, 1506, 1507, 1508, 1509, 1510, 1511, 1512, 1513, 1514, 1515, 1516, 1517, 1518, 1519, 1520, 1521, 1522, 1523, 1524] (by decide +kernel) (by decide +kernel)
set_option maxRecDepth 20000 in
theorem gL_law_X12_of : GoodIn wsL_law (wsV RL 22 RX12 yX12_of wsX12_of) := goodIn_app (goodIn_of _ (by decide +kernel)) ggL_law_X12_of
set_option maxRecDepth 20000 in
theorem ggL_law_X11_builder : GoodIn wsL_law wsX11_builder := goodIn_r _ [347, 15, 19, 348, 349, 350, 14, 351, 67, 68, 69, 70, 71, 229, 230, 231, 2, 232, 52, 57, 233, 234, 235, 18, 236, 103, 104, 237, 238, 239, 240, 39, 43, 241, 242, 243, 38, 244, 166, 169, 170, 245, 246, 247, 42, 248, 182, 249, 250, 251, 252, 1460, 1461, 1462, 1463, 1464, 1465, 1466, 1467, 1468, 1469, 1470, 1471, 1472, 1473, 1474, 1475, 1476, 1525, 1526, 1527, 1528, 1529, 1530, 1531, 1532, 1533, 1534, 1535, 1536, 1537, 1538, 1539, 1540, 1541, 1542, 1543, 1544, 1545, 1546, 1547, 1569, 1570, 1571, 1572, 1573, 1574, 1575, 1576, 1577, 1578, 1579, 1580, 1581] (by decide +kernel) (by decide +kernel)
set_option maxRecDepth 20000 in
theorem gL_law_X11_builder : GoodIn wsL_law (wsV RL 23 RX11 yX11_builder wsX11_builder) := goodIn_app (goodIn_of _ (by decide +kernel)) ggL_law_X11_builder
set_option maxRecDepth 20000 in
theorem ggL_law_X12_builder : GoodIn wsL_law wsX12_builder := goodIn_r _ [355, 198, 261, 262, 5, 263, 264, 265, 266, 267, 268, 197, 273, 274, 275, 276, 277, 278, 279, 280, 281, 1477, 1478, 1479, 1480, 1481, 1482, 1483, 1484, 1485, 1486, 1487, 1488, 1489, 1490, 1491, 1492, 1493, 1494, 1495, 1496, 1497, 1498, 1499, 1500, 1501, 1502, 1503, 1504, 1505, 1506, 1507, 1508, 1509, 1510, 1511, 1512, 1513, 1514, 1515, 1516, 1517, 1518, 1519, 1520, 1521, 1522, 1523, 1524] (by decide +kernel) (by decide +kernel)
set_option maxRecDepth 20000 in
theorem gL_law_X12_builder : GoodIn wsL_law (wsV RL 26 RX12 yX12_builder wsX12_builder) := goodIn_app (goodIn_of _ (by decide +kernel)) ggL_law_X12_builder
set_option maxRecDepth 20000 in
theorem ggL_law_X11_at : GoodIn wsL_law wsX11_at := goodIn_r _ [359, 15, 360, 361, 362, 363, 364, 365, 366, 14, 367, 67, 1460, 1461, 1462, 1463, 1464, 1465, 1466, 1467, 1468, 1469, 1470, 1471, 1472, 1473, 1474, 1475, 1476, 1525, 1526, 1527, 1528, 1529, 1530, 1531, 1532, 1533, 1534, 1535, 1536, 1537, 1538, 1539, 1540, 1541, 1542, 1543, 1544] (by decide +kernel) (by decide +kernel)
set_option maxRecDepth 20000 in
theorem gL_law_X11_at : GoodIn wsL_law (wsV RL 27 RX11 yX11_at wsX11_at) := goodIn_app (goodIn_of _ (by decide +kernel)) ggL_law_X11_at
set_option maxRecDepth 20000 in
theorem ggL_law_X12_at : GoodIn wsL_law wsX12_at := goodIn_r _ [371, 198, 372, 373, 374, 5, 375, 261, 262, 263, 1477, 1478, 1479, 1480, 1481, 1482, 1483, 1484, 1485, 1486, 1487, 1488, 1489, 1490, 1491, 1492, 1493, 1494, 1495, 1496, 1497, 1498, 1499, 1500, 1501, 1502, 1503, 1504, 1505, 1506, 1507, 1508, 1509, 1510, 1511, 1512, 1513, 1514, 1515, 1516, 1517, 1518, 1519, 1520, 1521, 1522, 1523, 1524] (by decide +kernel) (by decide +kernel)
set_option maxRecDepth 20000 in
theorem gL_law_X12_at : GoodIn wsL_law (wsV RL 30 RX12 yX12_at wsX12_at) := goodIn_app (goodIn_of _ (by decide +kernel)) ggL_law_X12_at
set_option maxRecDepth 20000 in
theorem ggL_law_X11_asks : GoodIn wsL_law wsX11_asks := goodIn_r _ [379, 15, 380, 364, 365, 366, 14, 367, 67, 293, 294, 295, 296, 61, 381, 382, 383, 384, 86, 84, 385, 309, 310, 150, 311, 386, 90, 387, 388, 389, 390, 391, 392, 393, 394, 395, 396, 397, 398, 399, 400, 401, 69, 402, 403, 404, 405, 68, 64, 406, 407, 408, 409, 71, 70, 65, 66, 78, 410, 411, 412, 131, 413, 146, 152, 414, 415, 416, 417, 418, 419, 1460, 1461, 1462, 1463, 1464, 1465, 1466, 1467, 1468, 1469, 1470, 1471, 1472, 1473, 1474, 1475, 1476, 1525, 1526, 1527, 1528, 1529, 1530, 1531, 1532, 1533, 1534, 1535, 1536, 1537, 1538, 1539, 1540, 1541, 1542, 1543, 1544, 1592, 1593, 1594, 1595, 1596, 1597, 1587, 1588, 1589, 1590, 1591] (by decide +kernel) (by decide +kernel)
set_option maxRecDepth 20000 in
theorem gL_law_X11_asks : GoodIn wsL_law (wsV RL 31 RX11 yX11_asks wsX11_asks) := goodIn_app (goodIn_of _ (by decide +kernel)) ggL_law_X11_asks
set_option maxRecDepth 20000 in
theorem ggL_law_X12_asks : GoodIn wsL_law wsX12_asks := goodIn_r _ [423, 372, 373, 374, 5, 375, 198, 261, 262, 263, 318, 319, 320, 321, 424, 425, 426, 427, 428, 429, 430, 431, 338, 339, 340, 432, 433, 434, 435, 209, 436, 437, 438, 439, 440, 441, 442, 443, 444, 445, 446, 447, 448, 449, 450, 451, 452, 453, 454, 455, 456, 457, 458, 459, 460, 461, 462, 463, 464, 465, 466, 467, 468, 469, 470, 471, 472, 473, 474, 330, 331, 332, 333, 326, 327, 328, 329, 475, 476, 477, 478, 479, 480, 481, 482, 483, 484, 485, 486, 487, 488, 489, 490, 491, 492, 493, 494, 495, 496, 497, 498, 499, 500, 501, 502, 503, 504, 505, 506, 507, 508, 509, 1477, 1478, 1479, 1480, 1481, 1482, 1483, 1484, 1485, 1486, 1487, 1488, 1489, 1490, 1491, 1492, 1493, 1494, 1495, 1496, 1497, 1498, 1499, 1500, 1501, 1502, 1503, 1504, 1505, 1506, 1507, 1508, 1509, 1510, 1511, 1512, 1513, 1514, 1515, 1516, 1517, 1518, 1519, 1520, 1521, 1522, 1523, 1524] (by decide +kernel) (by decide +kernel)
set_option maxRecDepth 20000 in
theorem gL_law_X12_asks : GoodIn wsL_law (wsV RL 35 RX12 yX12_asks wsX12_asks) := goodIn_app (goodIn_of _ (by decide +kernel)) ggL_law_X12_asks
set_option maxRecDepth 20000 in
theorem ggL_law_X11_terms : GoodIn wsL_law wsX11_terms := goodIn_r _ [513, 514, 515, 15, 516, 19, 229, 230, 231, 2, 232, 52, 57, 233, 234, 235, 18, 236, 103, 104, 237, 238, 239, 240, 39, 43, 241, 242, 243, 38, 244, 166, 169, 170, 245, 246, 247, 42, 248, 182, 249, 250, 251, 252, 1460, 1461, 1462, 1463, 1464, 1465, 1466, 1467, 1468, 1469, 1470, 1471, 1472, 1473, 1474, 1475, 1476, 1525, 1526, 1527, 1528, 1529, 1530, 1531, 1532, 1533, 1534, 1535, 1536, 1537, 1538, 1539, 1540, 1541, 1542, 1543, 1544, 1545, 1546, 1547, 1569, 1570, 1571, 1572, 1573, 1574, 1575, 1576, 1577, 1578, 1579, 1580, 1581] (by decide +kernel) (by decide +kernel)
set_option maxRecDepth 20000 in
theorem gL_law_X11_terms : GoodIn wsL_law (wsV RL 36 RX11 yX11_terms wsX11_terms) := goodIn_app (goodIn_of _ (by decide +kernel)) ggL_law_X11_terms
set_option maxRecDepth 20000 in
theorem ggL_law_X12_terms : GoodIn wsL_law wsX12_terms := goodIn_r _ [520, 198, 521, 522, 5, 523, 261, 262, 263, 264, 265, 266, 267, 268, 197, 273, 274, 275, 276, 277, 278, 279, 280, 281, 1477, 1478, 1479, 1480, 1481, 1482, 1483, 1484, 1485, 1486, 1487, 1488, 1489, 1490, 1491, 1492, 1493, 1494, 1495, 1496, 1497, 1498, 1499, 1500, 1501, 1502, 1503, 1504, 1505, 1506, 1507, 1508, 1509, 1510, 1511, 1512, 1513, 1514, 1515, 1516, 1517, 1518, 1519, 1520, 1521, 1522, 1523, 1524] (by decide +kernel) (by decide +kernel)
set_option maxRecDepth 20000 in
theorem gL_law_X12_terms : GoodIn wsL_law (wsV RL 39 RX12 yX12_terms wsX12_terms) := goodIn_app (goodIn_of _ (by decide +kernel)) ggL_law_X12_terms
set_option maxRecDepth 20000 in
theorem ggL_law_X11_feed : GoodIn wsL_law wsX11_feed := goodIn_r _ [527, 53, 528, 529, 530, 2, 531, 50, 1460, 1461, 1462, 1463, 1464, 1465, 1466, 1467, 1468, 1469, 1470, 1471, 1472, 1473, 1474, 1475, 1476] (by decide +kernel) (by decide +kernel)
set_option maxRecDepth 20000 in
theorem gL_law_X11_feed : GoodIn wsL_law (wsV RL 40 RX11 yX11_feed wsX11_feed) := goodIn_app (goodIn_of _ (by decide +kernel)) ggL_law_X11_feed
set_option maxRecDepth 20000 in
theorem ggL_law_X12_feed : GoodIn wsL_law wsX12_feed := goodIn_r _ [535, 536, 204, 203, 1477, 1478, 1479, 1480, 1481, 1482, 1483, 1484, 1485, 1486, 1487, 1488, 1489, 1490, 1491, 1492, 1493, 1494, 1495, 1496, 1497, 1498, 1499, 1500, 1501, 1502, 1503, 1504, 1505, 1506, 1507, 1508, 1509, 1510, 1511, 1512, 1513, 1514, 1515, 1516, 1517, 1518, 1519, 1520, 1521, 1522, 1523, 1524] (by decide +kernel) (by decide +kernel)
set_option maxRecDepth 20000 in
theorem gL_law_X12_feed : GoodIn wsL_law (wsV RL 44 RX12 yX12_feed wsX12_feed) := goodIn_app (goodIn_of _ (by decide +kernel)) ggL_law_X12_feed
set_option maxRecDepth 20000 in
theorem ggL_law_X11_end : GoodIn wsL_law wsX11_end := goodIn_r _ [540, 53, 1460, 1461, 1462, 1463, 1464, 1465, 1466, 1467, 1468, 1469, 1470, 1471, 1472, 1473, 1474, 1475, 1476] (by decide +kernel) (by decide +kernel)
set_option maxRecDepth 20000 in
theorem gL_law_X11_end : GoodIn wsL_law (wsV RL 45 RX11 yX11_end wsX11_end) := goodIn_app (goodIn_of _ (by decide +kernel)) ggL_law_X11_end
set_option maxRecDepth 20000 in
theorem ggL_law_X12_end : GoodIn wsL_law wsX12_end := goodIn_r _ [544, 536, 261, 262, 5, 263, 1477, 1478, 1479, 1480, 1481, 1482, 1483, 1484, 1485, 1486, 1487, 1488, 1489, 1490, 1491, 1492, 1493, 1494, 1495, 1496, 1497, 1498, 1499, 1500, 1501, 1502, 1503, 1504, 1505, 1506, 1507, 1508, 1509, 1510, 1511, 1512, 1513, 1514, 1515, 1516, 1517, 1518, 1519, 1520, 1521, 1522, 1523, 1524] (by decide +kernel) (by decide +kernel)
set_option maxRecDepth 20000 in
theorem gL_law_X12_end : GoodIn wsL_law (wsV RL 49 RX12 yX12_end wsX12_end) := goodIn_app (goodIn_of _ (by decide +kernel)) ggL_law_X12_end
set_option maxRecDepth 20000 in
theorem ggL_law_X11_row : GoodIn wsL_law wsX11_row := goodIn_r _ [548, 55, 19, 549, 550, 551, 2, 552, 53, 229, 230, 231, 232, 52, 57, 553, 554, 555, 556, 50, 15, 225, 226, 227, 14, 228, 61, 62, 63, 64, 65, 66, 233, 234, 235, 18, 236, 103, 104, 237, 238, 239, 240, 39, 43, 241, 242, 243, 38, 244, 166, 169, 170, 245, 246, 247, 42, 248, 182, 249, 250, 251, 252, 1460, 1461, 1462, 1463, 1464, 1465, 1466, 1467, 1468, 1469, 1470, 1471, 1472, 1473, 1474, 1475, 1476, 1525, 1526, 1527, 1528, 1529, 1530, 1531, 1532, 1533, 1534, 1535, 1536, 1537, 1538, 1539, 1540, 1541, 1542, 1543, 1544, 1545, 1546, 1547, 1569, 1570, 1571, 1572, 1573, 1574, 1575, 1576, 1577, 1578, 1579, 1580, 1581] (by decide +kernel) (by decide +kernel)
set_option maxRecDepth 20000 in
theorem gL_law_X11_row : GoodIn wsL_law (wsV RL 50 RX11 yX11_row wsX11_row) := goodIn_app (goodIn_of _ (by decide +kernel)) ggL_law_X11_row
set_option maxRecDepth 20000 in
theorem ggL_law_X12_row : GoodIn wsL_law wsX12_row := goodIn_r _ [560, 536, 561, 203, 198, 264, 265, 266, 5, 267, 268, 197, 257, 258, 259, 260, 261, 262, 263, 269, 270, 271, 272, 273, 274, 275, 276, 277, 278, 279, 280, 281, 1477, 1478, 1479, 1480, 1481, 1482, 1483, 1484, 1485, 1486, 1487, 1488, 1489, 1490, 1491, 1492, 1493, 1494, 1495, 1496, 1497, 1498, 1499, 1500, 1501, 1502, 1503, 1504, 1505, 1506, 1507, 1508, 1509, 1510, 1511, 1512, 1513, 1514, 1515, 1516, 1517, 1518, 1519, 1520, 1521, 1522, 1523, 1524] (by decide +kernel) (by decide +kernel)
set_option maxRecDepth 20000 in
theorem gL_law_X12_row : GoodIn wsL_law (wsV RL 54 RX12 yX12_row wsX12_row) := goodIn_app (goodIn_of _ (by decide +kernel)) ggL_law_X12_row
set_option maxRecDepth 20000 in
theorem ggL_law_X11_chaff : GoodIn wsL_law wsX11_chaff := goodIn_r _ [565, 55, 1460, 1461, 1462, 1463, 1464, 1465, 1466, 1467, 1468, 1469, 1470, 1471, 1472, 1473, 1474, 1475, 1476] (by decide +kernel) (by decide +kernel)
set_option maxRecDepth 20000 in
theorem gL_law_X11_chaff : GoodIn wsL_law (wsV RL 55 RX11 yX11_chaff wsX11_chaff) := goodIn_app (goodIn_of _ (by decide +kernel)) ggL_law_X11_chaff
set_option maxRecDepth 20000 in
theorem ggL_law_X12_chaff : GoodIn wsL_law wsX12_chaff := goodIn_r _ [569, 561, 1477, 1478, 1479, 1480, 1481, 1482, 1483, 1484, 1485, 1486, 1487, 1488, 1489, 1490, 1491, 1492, 1493, 1494, 1495, 1496, 1497, 1498, 1499, 1500, 1501, 1502, 1503, 1504, 1505, 1506, 1507, 1508, 1509, 1510, 1511, 1512, 1513, 1514, 1515, 1516, 1517, 1518, 1519, 1520, 1521, 1522, 1523, 1524] (by decide +kernel) (by decide +kernel)
set_option maxRecDepth 20000 in
theorem gL_law_X12_chaff : GoodIn wsL_law (wsV RL 58 RX12 yX12_chaff wsX12_chaff) := goodIn_app (goodIn_of _ (by decide +kernel)) ggL_law_X12_chaff
set_option maxRecDepth 20000 in
theorem ggL_law_X11_law : GoodIn wsL_law wsX11_law := goodIn_r _ [573, 15, 574, 31, 50, 54, 575, 576, 549, 550, 551, 2, 552, 53, 229, 230, 231, 232, 52, 57, 577, 578, 579, 30, 580, 581, 310, 150, 311, 132, 136, 137, 138, 582, 583, 584, 585, 135, 586, 587, 588, 589, 590, 591, 592, 593, 594, 595, 596, 597, 598, 599, 600, 601, 602, 603, 604, 605, 606, 607, 608, 609, 610, 611, 612, 613, 614, 615, 616, 617, 618, 619, 620, 621, 622, 623, 624, 625, 626, 627, 628, 629, 630, 631, 632, 633, 634, 635, 636, 637, 638, 639, 640, 641, 642, 643, 644, 645, 646, 647, 648, 649, 650, 133, 134, 651, 652, 653, 131, 654, 143, 147, 146, 655, 656, 657, 658, 659, 660, 661, 662, 663, 664, 665, 666, 667, 668, 669, 670, 144, 145, 671, 672, 673, 674, 675, 676, 677, 678, 679, 680, 681, 682, 683, 684, 685, 152, 686, 687, 688, 689, 690, 691, 692, 693, 694, 695, 696, 697, 698, 699, 700, 701, 702, 703, 704, 705, 706, 707, 708, 709, 710, 711, 712, 713, 714, 715, 716, 717, 718, 719, 720, 721, 722, 723, 724, 725, 726, 727, 728, 729, 730, 731, 130, 732, 733, 734, 735, 736, 140, 141, 142, 10, 11, 51, 148, 149, 151, 249, 250, 251, 252, 1460, 1461, 1462, 1463, 1464, 1465, 1466, 1467, 1468, 1469, 1470, 1471, 1472, 1473, 1474, 1475, 1476, 1525, 1526, 1527, 1528, 1529, 1530, 1531, 1532, 1533, 1534, 1535, 1536, 1537, 1538, 1539, 1540, 1541, 1542, 1543, 1544, 1558, 1559, 1560, 1561, 1562, 1563, 1564, 1592, 1593, 1594, 1595, 1596, 1597] (by decide +kernel) (by decide +kernel)
set_option maxRecDepth 20000 in
theorem gL_law_X11_law : GoodIn wsL_law (wsV RL 59 RX11 yX11_law wsX11_law) := goodIn_app (goodIn_of _ (by decide +kernel)) ggL_law_X11_law
set_option maxRecDepth 20000 in
theorem ggL_law_X12_law : GoodIn wsL_law wsX12_law := goodIn_r _ [740, 198, 536, 264, 265, 266, 5, 267, 268, 197, 741, 742, 743, 744, 745, 746, 747, 748, 749, 750, 751, 752, 753, 754, 755, 205, 756, 757, 758, 759, 203, 208, 207, 206, 760, 761, 762, 763, 764, 765, 766, 767, 768, 769, 770, 202, 771, 772, 773, 774, 775, 776, 777, 778, 779, 780, 781, 782, 783, 784, 785, 786, 787, 788, 789, 790, 791, 792, 793, 455, 456, 457, 794, 795, 796, 797, 798, 799, 800, 801, 802, 803, 804, 805, 806, 807, 808, 809, 810, 261, 262, 263, 811, 812, 813, 814, 815, 816, 817, 818, 819, 820, 821, 822, 823, 824, 825, 826, 827, 828, 829, 830, 831, 832, 833, 834, 278, 279, 280, 281, 1477, 1478, 1479, 1480, 1481, 1482, 1483, 1484, 1485, 1486, 1487, 1488, 1489, 1490, 1491, 1492, 1493, 1494, 1495, 1496, 1497, 1498, 1499, 1500, 1501, 1502, 1503, 1504, 1505, 1506, 1507, 1508, 1509, 1510, 1511, 1512, 1513, 1514, 1515, 1516, 1517, 1518, 1519, 1520, 1521, 1522, 1523, 1524] (by decide +kernel) (by decide +kernel)
set_option maxRecDepth 20000 in
theorem gL_law_X12_law : GoodIn wsL_law (wsV RL 62 RX12 yX12_law wsX12_law) := goodIn_app (goodIn_of _ (by decide +kernel)) ggL_law_X12_law
set_option maxRecDepth 20000 in
theorem ggL_law_X11_orders : GoodIn wsL_law wsX11_orders := goodIn_r _ [838, 56, 31, 50, 54, 27, 576, 839, 549, 550, 551, 2, 552, 53, 577, 578, 579, 30, 580, 581, 310, 150, 311, 132, 136, 137, 138, 582, 583, 584, 585, 135, 586, 587, 588, 589, 590, 591, 592, 593, 594, 595, 596, 597, 598, 599, 600, 601, 602, 603, 604, 605, 606, 607, 608, 609, 610, 611, 612, 613, 614, 615, 616, 617, 618, 619, 620, 621, 622, 623, 624, 625, 626, 627, 628, 629, 630, 631, 632, 633, 634, 635, 636, 637, 638, 639, 640, 641, 642, 643, 644, 645, 646, 647, 648, 649, 650, 133, 134, 651, 652, 653, 131, 654, 143, 147, 146, 655, 656, 657, 658, 659, 660, 661, 662, 663, 664, 665, 666, 667, 668, 669, 670, 144, 145, 671, 672, 673, 674, 675, 676, 677, 678, 679, 680, 681, 682, 683, 684, 685, 152, 686, 687, 688, 689, 690, 691, 692, 693, 694, 695, 696, 697, 698, 699, 700, 701, 702, 703, 704, 705, 706, 707, 708, 709, 710, 711, 712, 713, 714, 715, 716, 717, 718, 719, 720, 721, 722, 723, 724, 725, 726, 229, 230, 231, 232, 52, 57, 840, 841, 842, 26, 843, 117, 123, 119, 124, 121, 122, 844, 845, 846, 847, 848, 14, 849, 61, 62, 850, 733, 734, 735, 63, 64, 65, 66, 67, 68, 69, 70, 71, 78, 79, 80, 81, 82, 84, 85, 86, 851, 852, 853, 18, 854, 103, 104, 105, 855, 856, 857, 858, 859, 120, 860, 861, 862, 863, 125, 864, 865, 866, 867, 868, 869, 870, 871, 872, 873, 302, 303, 304, 874, 875, 876, 877, 878, 879, 880, 881, 294, 295, 296, 882, 365, 366, 367, 883, 411, 412, 413, 414, 415, 416, 417, 418, 419, 884, 885, 886, 22, 887, 110, 111, 888, 889, 890, 891, 892, 298, 299, 300, 301, 893, 382, 383, 384, 385, 309, 386, 90, 387, 388, 389, 390, 391, 392, 393, 394, 395, 396, 397, 398, 399, 400, 401, 402, 403, 404, 405, 406, 407, 408, 409, 410, 894, 895, 896, 897, 898, 899, 900, 901, 902, 903, 904, 905, 906, 907, 908, 909, 910, 911, 912, 913, 914, 915, 916, 917, 918, 919, 920, 921, 922, 923, 924, 925, 926, 927, 928, 929, 930, 931, 932, 933, 313, 149, 151, 934, 935, 237, 238, 239, 240, 39, 43, 241, 242, 243, 38, 244, 166, 169, 170, 245, 246, 247, 42, 248, 182, 249, 250, 251, 252, 1460, 1461, 1462, 1463, 1464, 1465, 1466, 1467, 1468, 1469, 1470, 1471, 1472, 1473, 1474, 1475, 1476, 1558, 1559, 1560, 1561, 1562, 1563, 1564, 1550, 1551, 1552, 1553, 1554, 1555, 1556, 1557, 1592, 1593, 1594, 1595, 1596, 1597, 1525, 1526, 1527, 1528, 1529, 1530, 1531, 1532, 1533, 1534, 1535, 1536, 1537, 1538, 1539, 1540, 1541, 1542, 1543, 1544, 1545, 1546, 1547, 1587, 1588, 1589, 1590, 1591, 1548, 1549, 1569, 1570, 1571, 1572, 1573, 1574, 1575, 1576, 1577, 1578, 1579, 1580, 1581] (by decide +kernel) (by decide +kernel)
set_option maxRecDepth 20000 in
theorem gL_law_X11_orders : GoodIn wsL_law (wsV RL 63 RX11 yX11_orders wsX11_orders) := goodIn_app (goodIn_of _ (by decide +kernel)) ggL_law_X11_orders
set_option maxRecDepth 20000 in
theorem ggL_law_X12_orders : GoodIn wsL_law wsX12_orders := goodIn_r _ [939, 217, 213, 212, 277, 473, 474, 940, 198, 741, 742, 743, 5, 744, 745, 746, 747, 748, 749, 750, 751, 536, 752, 753, 754, 755, 205, 756, 757, 758, 759, 203, 208, 207, 206, 760, 761, 762, 763, 764, 765, 766, 767, 768, 769, 770, 202, 771, 772, 773, 774, 775, 776, 777, 778, 779, 780, 781, 782, 783, 784, 785, 786, 787, 788, 789, 790, 791, 792, 793, 455, 456, 457, 794, 795, 796, 797, 798, 799, 800, 801, 802, 803, 804, 805, 806, 807, 808, 809, 810, 261, 262, 263, 811, 812, 813, 814, 815, 816, 817, 818, 819, 820, 821, 822, 823, 824, 825, 826, 827, 828, 829, 830, 264, 265, 266, 267, 268, 197, 941, 942, 943, 944, 201, 831, 832, 833, 834, 945, 946, 947, 948, 949, 437, 950, 951, 952, 953, 954, 955, 436, 438, 956, 439, 218, 444, 445, 446, 447, 448, 449, 450, 451, 452, 453, 454, 458, 459, 460, 461, 462, 463, 464, 209, 465, 466, 467, 468, 469, 470, 471, 472, 318, 319, 320, 321, 372, 373, 374, 375, 330, 331, 332, 333, 326, 327, 328, 329, 475, 476, 477, 478, 479, 480, 481, 482, 483, 484, 485, 486, 487, 488, 489, 490, 491, 492, 493, 494, 495, 496, 497, 957, 958, 959, 960, 961, 962, 963, 964, 965, 966, 967, 968, 322, 323, 324, 325, 506, 507, 508, 509, 432, 433, 434, 435, 428, 429, 430, 431, 338, 339, 340, 440, 441, 442, 443, 969, 970, 971, 972, 973, 974, 975, 976, 977, 978, 979, 980, 981, 982, 983, 984, 985, 986, 987, 988, 989, 990, 991, 992, 993, 994, 995, 996, 997, 998, 999, 1000, 210, 211, 424, 425, 426, 427, 498, 499, 500, 501, 341, 342, 343, 1001, 1002, 1003, 1004, 1005, 1006, 1007, 278, 279, 280, 281, 1477, 1478, 1479, 1480, 1481, 1482, 1483, 1484, 1485, 1486, 1487, 1488, 1489, 1490, 1491, 1492, 1493, 1494, 1495, 1496, 1497, 1498, 1499, 1500, 1501, 1502, 1503, 1504, 1505, 1506, 1507, 1508, 1509, 1510, 1511, 1512, 1513, 1514, 1515, 1516, 1517, 1518, 1519, 1520, 1521, 1522, 1523, 1524] (by decide +kernel) (by decide +kernel)
set_option maxRecDepth 20000 in
theorem gL_law_X12_orders : GoodIn wsL_law (wsV RL 66 RX12 yX12_orders wsX12_orders) := goodIn_app (goodIn_of _ (by decide +kernel)) ggL_law_X12_orders
set_option maxRecDepth 20000 in
theorem ggL_law_X11_fault : GoodIn wsL_law wsX11_fault := goodIn_r _ [1011, 54, 1460, 1461, 1462, 1463, 1464, 1465, 1466, 1467, 1468, 1469, 1470, 1471, 1472, 1473, 1474, 1475, 1476] (by decide +kernel) (by decide +kernel)
set_option maxRecDepth 20000 in
theorem gL_law_X11_fault : GoodIn wsL_law (wsV RL 67 RX11 yX11_fault wsX11_fault) := goodIn_app (goodIn_of _ (by decide +kernel)) ggL_law_X11_fault
set_option maxRecDepth 20000 in
theorem ggL_law_X12_fault : GoodIn wsL_law wsX12_fault := goodIn_r _ [1015, 205, 1477, 1478, 1479, 1480, 1481, 1482, 1483, 1484, 1485, 1486, 1487, 1488, 1489, 1490, 1491, 1492, 1493, 1494, 1495, 1496, 1497, 1498, 1499, 1500, 1501, 1502, 1503, 1504, 1505, 1506, 1507, 1508, 1509, 1510, 1511, 1512, 1513, 1514, 1515, 1516, 1517, 1518, 1519, 1520, 1521, 1522, 1523, 1524] (by decide +kernel) (by decide +kernel)
set_option maxRecDepth 20000 in
theorem gL_law_X12_fault : GoodIn wsL_law (wsV RL 70 RX12 yX12_fault wsX12_fault) := goodIn_app (goodIn_of _ (by decide +kernel)) ggL_law_X12_fault
set_option maxRecDepth 20000 in
theorem ggL_law_X11_stopped : GoodIn wsL_law wsX11_stopped := goodIn_r _ [1019, 56, 1460, 1461, 1462, 1463, 1464, 1465, 1466, 1467, 1468, 1469, 1470, 1471, 1472, 1473, 1474, 1475, 1476] (by decide +kernel) (by decide +kernel)
set_option maxRecDepth 20000 in
theorem gL_law_X11_stopped : GoodIn wsL_law (wsV RL 71 RX11 yX11_stopped wsX11_stopped) := goodIn_app (goodIn_of _ (by decide +kernel)) ggL_law_X11_stopped
set_option maxRecDepth 20000 in
theorem ggL_law_X12_stopped : GoodIn wsL_law wsX12_stopped := goodIn_r _ [1023, 217, 1477, 1478, 1479, 1480, 1481, 1482, 1483, 1484, 1485, 1486, 1487, 1488, 1489, 1490, 1491, 1492, 1493, 1494, 1495, 1496, 1497, 1498, 1499, 1500, 1501, 1502, 1503, 1504, 1505, 1506, 1507, 1508, 1509, 1510, 1511, 1512, 1513, 1514, 1515, 1516, 1517, 1518, 1519, 1520, 1521, 1522, 1523, 1524] (by decide +kernel) (by decide +kernel)
set_option maxRecDepth 20000 in
theorem gL_law_X12_stopped : GoodIn wsL_law (wsV RL 74 RX12 yX12_stopped wsX12_stopped) := goodIn_app (goodIn_of _ (by decide +kernel)) ggL_law_X12_stopped
set_option maxRecDepth 20000 in
theorem ggL_law_X11_force : GoodIn wsL_law wsX11_force := goodIn_r _ [1027, 15, 574, 1028, 229, 230, 231, 2, 232, 52, 57, 237, 238, 239, 240, 39, 43, 241, 242, 243, 38, 244, 166, 169, 170, 245, 246, 247, 42, 248, 182, 249, 250, 251, 252, 1460, 1461, 1462, 1463, 1464, 1465, 1466, 1467, 1468, 1469, 1470, 1471, 1472, 1473, 1474, 1475, 1476, 1525, 1526, 1527, 1528, 1529, 1530, 1531, 1532, 1533, 1534, 1535, 1536, 1537, 1538, 1539, 1540, 1541, 1542, 1543, 1544, 1569, 1570, 1571, 1572, 1573, 1574, 1575, 1576, 1577, 1578, 1579, 1580, 1581] (by decide +kernel) (by decide +kernel)
set_option maxRecDepth 20000 in
theorem gL_law_X11_force : GoodIn wsL_law (wsV RL 75 RX11 yX11_force wsX11_force) := goodIn_app (goodIn_of _ (by decide +kernel)) ggL_law_X11_force
set_option maxRecDepth 20000 in
theorem ggL_law_X12_force : GoodIn wsL_law wsX12_force := goodIn_r _ [1032, 198, 261, 262, 5, 263, 264, 265, 266, 267, 268, 197, 278, 279, 280, 281, 1477, 1478, 1479, 1480, 1481, 1482, 1483, 1484, 1485, 1486, 1487, 1488, 1489, 1490, 1491, 1492, 1493, 1494, 1495, 1496, 1497, 1498, 1499, 1500, 1501, 1502, 1503, 1504, 1505, 1506, 1507, 1508, 1509, 1510, 1511, 1512, 1513, 1514, 1515, 1516, 1517, 1518, 1519, 1520, 1521, 1522, 1523, 1524] (by decide +kernel) (by decide +kernel)
set_option maxRecDepth 20000 in
theorem gL_law_X12_force : GoodIn wsL_law (wsV RL 78 RX12 yX12_force wsX12_force) := goodIn_app (goodIn_of _ (by decide +kernel)) ggL_law_X12_force
set_option maxRecDepth 20000 in
theorem ggL_law_X11_stands : GoodIn wsL_law wsX11_stands := goodIn_r _ [1036, 15, 1037, 302, 303, 14, 304, 61, 66, 297, 298, 299, 300, 63, 301, 1460, 1461, 1462, 1463, 1464, 1465, 1466, 1467, 1468, 1469, 1470, 1471, 1472, 1473, 1474, 1475, 1476, 1525, 1526, 1527, 1528, 1529, 1530, 1531, 1532, 1533, 1534, 1535, 1536, 1537, 1538, 1539, 1540, 1541, 1542, 1543, 1544] (by decide +kernel) (by decide +kernel)
set_option maxRecDepth 20000 in
theorem gL_law_X11_stands : GoodIn wsL_law (wsV RL 79 RX11 yX11_stands wsX11_stands) := goodIn_app (goodIn_of _ (by decide +kernel)) ggL_law_X11_stands
set_option maxRecDepth 20000 in
theorem ggL_law_X12_stands : GoodIn wsL_law wsX12_stands := goodIn_r _ [1041, 198, 261, 262, 5, 263, 330, 331, 332, 333, 326, 327, 328, 329, 322, 323, 324, 325, 1477, 1478, 1479, 1480, 1481, 1482, 1483, 1484, 1485, 1486, 1487, 1488, 1489, 1490, 1491, 1492, 1493, 1494, 1495, 1496, 1497, 1498, 1499, 1500, 1501, 1502, 1503, 1504, 1505, 1506, 1507, 1508, 1509, 1510, 1511, 1512, 1513, 1514, 1515, 1516, 1517, 1518, 1519, 1520, 1521, 1522, 1523, 1524] (by decide +kernel) (by decide +kernel)
set_option maxRecDepth 20000 in
theorem gL_law_X12_stands : GoodIn wsL_law (wsV RL 82 RX12 yX12_stands wsX12_stands) := goodIn_app (goodIn_of _ (by decide +kernel)) ggL_law_X12_stands
set_option maxRecDepth 20000 in
theorem ggL_law_X11_send : GoodIn wsL_law wsX11_send := goodIn_r _ [1045, 23, 1046, 885, 886, 22, 887, 110, 111, 888, 889, 890, 365, 366, 14, 367, 67, 891, 294, 295, 296, 61, 892, 298, 299, 300, 66, 63, 301, 302, 303, 304, 893, 382, 383, 384, 86, 84, 385, 309, 310, 150, 311, 386, 90, 387, 388, 389, 390, 391, 392, 393, 394, 395, 396, 397, 398, 399, 400, 401, 69, 402, 403, 404, 405, 68, 64, 406, 407, 408, 409, 71, 70, 65, 78, 410, 411, 412, 131, 413, 146, 152, 414, 415, 416, 417, 418, 419, 894, 895, 896, 18, 897, 104, 105, 898, 899, 855, 733, 734, 735, 900, 901, 103, 902, 1047, 1048, 1049, 2, 1050, 229, 230, 231, 232, 52, 57, 237, 238, 239, 240, 39, 43, 241, 242, 243, 38, 244, 166, 169, 170, 245, 246, 247, 42, 248, 182, 249, 250, 251, 252, 1460, 1461, 1462, 1463, 1464, 1465, 1466, 1467, 1468, 1469, 1470, 1471, 1472, 1473, 1474, 1475, 1476, 1548, 1549, 1525, 1526, 1527, 1528, 1529, 1530, 1531, 1532, 1533, 1534, 1535, 1536, 1537, 1538, 1539, 1540, 1541, 1542, 1543, 1544, 1592, 1593, 1594, 1595, 1596, 1597, 1587, 1588, 1589, 1590, 1591, 1545, 1546, 1547, 1569, 1570, 1571, 1572, 1573, 1574, 1575, 1576, 1577, 1578, 1579, 1580, 1581] (by decide +kernel) (by decide +kernel)
set_option maxRecDepth 20000 in
theorem gL_law_X11_send : GoodIn wsL_law (wsV RL 83 RX11 yX11_send wsX11_send) := goodIn_app (goodIn_of _ (by decide +kernel)) ggL_law_X11_send
set_option maxRecDepth 20000 in
theorem ggL_law_X12_send : GoodIn wsL_law wsX12_send := goodIn_r _ [1054, 965, 966, 967, 5, 968, 198, 372, 373, 374, 375, 261, 262, 263, 318, 319, 320, 321, 322, 323, 324, 325, 326, 327, 328, 329, 330, 331, 332, 333, 506, 507, 508, 509, 432, 433, 434, 435, 209, 436, 437, 438, 439, 428, 429, 430, 431, 338, 339, 340, 440, 441, 442, 443, 444, 445, 446, 447, 448, 449, 450, 451, 452, 453, 454, 455, 456, 457, 458, 459, 460, 461, 462, 463, 464, 465, 466, 467, 468, 469, 470, 471, 472, 473, 474, 475, 476, 477, 478, 479, 480, 481, 482, 483, 484, 485, 486, 487, 488, 489, 490, 491, 492, 493, 494, 495, 496, 497, 969, 970, 971, 972, 277, 212, 1055, 1056, 1057, 1058, 264, 265, 266, 267, 268, 197, 278, 279, 280, 281, 1477, 1478, 1479, 1480, 1481, 1482, 1483, 1484, 1485, 1486, 1487, 1488, 1489, 1490, 1491, 1492, 1493, 1494, 1495, 1496, 1497, 1498, 1499, 1500, 1501, 1502, 1503, 1504, 1505, 1506, 1507, 1508, 1509, 1510, 1511, 1512, 1513, 1514, 1515, 1516, 1517, 1518, 1519, 1520, 1521, 1522, 1523, 1524] (by decide +kernel) (by decide +kernel)
set_option maxRecDepth 20000 in
theorem gL_law_X12_send : GoodIn wsL_law (wsV RL 86 RX12 yX12_send wsX12_send) := goodIn_app (goodIn_of _ (by decide +kernel)) ggL_law_X12_send
set_option maxRecDepth 20000 in
theorem ggL_law_X11_rest : GoodIn wsL_law wsX11_rest := goodIn_r _ [1062, 23, 1063, 904, 905, 22, 906, 110, 888, 111, 890, 365, 366, 14, 367, 67, 894, 895, 896, 18, 897, 104, 105, 898, 899, 855, 733, 734, 735, 900, 901, 103, 902, 310, 150, 311, 1047, 1048, 1049, 2, 1050, 229, 230, 231, 232, 52, 57, 237, 238, 239, 240, 39, 43, 241, 242, 243, 38, 244, 166, 169, 170, 245, 246, 247, 42, 248, 182, 249, 250, 251, 252, 1460, 1461, 1462, 1463, 1464, 1465, 1466, 1467, 1468, 1469, 1470, 1471, 1472, 1473, 1474, 1475, 1476, 1548, 1549, 1525, 1526, 1527, 1528, 1529, 1530, 1531, 1532, 1533, 1534, 1535, 1536, 1537, 1538, 1539, 1540, 1541, 1542, 1543, 1544, 1545, 1546, 1547, 1569, 1570, 1571, 1572, 1573, 1574, 1575, 1576, 1577, 1578, 1579, 1580, 1581] (by decide +kernel) (by decide +kernel)
set_option maxRecDepth 20000 in
theorem gL_law_X11_rest : GoodIn wsL_law (wsV RL 87 RX11 yX11_rest wsX11_rest) := goodIn_app (goodIn_of _ (by decide +kernel)) ggL_law_X11_rest
set_option maxRecDepth 20000 in
theorem ggL_law_X12_rest : GoodIn wsL_law wsX12_rest := goodIn_r _ [1067, 973, 974, 975, 5, 976, 198, 372, 373, 374, 375, 261, 262, 263, 969, 970, 971, 972, 277, 212, 1055, 1056, 1057, 1058, 264, 265, 266, 267, 268, 197, 278, 279, 280, 281, 1477, 1478, 1479, 1480, 1481, 1482, 1483, 1484, 1485, 1486, 1487, 1488, 1489, 1490, 1491, 1492, 1493, 1494, 1495, 1496, 1497, 1498, 1499, 1500, 1501, 1502, 1503, 1504, 1505, 1506, 1507, 1508, 1509, 1510, 1511, 1512, 1513, 1514, 1515, 1516, 1517, 1518, 1519, 1520, 1521, 1522, 1523, 1524] (by decide +kernel) (by decide +kernel)
set_option maxRecDepth 20000 in
theorem gL_law_X12_rest : GoodIn wsL_law (wsV RL 90 RX12 yX12_rest wsX12_rest) := goodIn_app (goodIn_of _ (by decide +kernel)) ggL_law_X12_rest
set_option maxRecDepth 20000 in
theorem ggL_law_X11_throwDown : GoodIn wsL_law wsX11_throwDown := goodIn_r _ [1071, 23, 1072, 908, 909, 22, 910, 110, 889, 111, 911, 891, 294, 295, 14, 296, 61, 912, 913, 914, 915, 916, 917, 918, 919, 920, 921, 922, 888, 894, 895, 896, 18, 897, 104, 105, 898, 899, 855, 733, 734, 735, 900, 901, 103, 902, 310, 150, 311, 1047, 1048, 1049, 2, 1050, 229, 230, 231, 232, 52, 57, 237, 238, 239, 240, 39, 43, 241, 242, 243, 38, 244, 166, 169, 170, 245, 246, 247, 42, 248, 182, 249, 250, 251, 252, 1460, 1461, 1462, 1463, 1464, 1465, 1466, 1467, 1468, 1469, 1470, 1471, 1472, 1473, 1474, 1475, 1476, 1548, 1549, 1525, 1526, 1527, 1528, 1529, 1530, 1531, 1532, 1533, 1534, 1535, 1536, 1537, 1538, 1539, 1540, 1541, 1542, 1543, 1544, 1545, 1546, 1547, 1569, 1570, 1571, 1572, 1573, 1574, 1575, 1576, 1577, 1578, 1579, 1580, 1581] (by decide +kernel) (by decide +kernel)
set_option maxRecDepth 20000 in
theorem gL_law_X11_throwDown : GoodIn wsL_law (wsV RL 91 RX11 yX11_throwDown wsX11_throwDown) := goodIn_app (goodIn_of _ (by decide +kernel)) ggL_law_X11_throwDown
set_option maxRecDepth 20000 in
theorem ggL_law_X12_throwDown : GoodIn wsL_law wsX12_throwDown := goodIn_r _ [1076, 977, 978, 979, 5, 980, 198, 318, 319, 320, 321, 261, 262, 263, 981, 982, 983, 984, 326, 327, 328, 329, 338, 339, 340, 985, 986, 987, 988, 440, 441, 442, 443, 969, 970, 971, 972, 277, 212, 1055, 1056, 1057, 1058, 264, 265, 266, 267, 268, 197, 278, 279, 280, 281, 1477, 1478, 1479, 1480, 1481, 1482, 1483, 1484, 1485, 1486, 1487, 1488, 1489, 1490, 1491, 1492, 1493, 1494, 1495, 1496, 1497, 1498, 1499, 1500, 1501, 1502, 1503, 1504, 1505, 1506, 1507, 1508, 1509, 1510, 1511, 1512, 1513, 1514, 1515, 1516, 1517, 1518, 1519, 1520, 1521, 1522, 1523, 1524] (by decide +kernel) (by decide +kernel)
set_option maxRecDepth 20000 in
theorem gL_law_X12_throwDown : GoodIn wsL_law (wsV RL 94 RX12 yX12_throwDown wsX12_throwDown) := goodIn_app (goodIn_of _ (by decide +kernel)) ggL_law_X12_throwDown
set_option maxRecDepth 20000 in
theorem ggL_law_X11_tick : GoodIn wsL_law wsX11_tick := goodIn_r _ [1080, 23, 1081, 924, 925, 22, 926, 110, 927, 111, 894, 895, 896, 18, 897, 104, 105, 898, 899, 855, 733, 734, 735, 900, 901, 103, 902, 310, 150, 311, 928, 929, 930, 14, 931, 67, 71, 90, 932, 933, 66, 313, 149, 151, 70, 309, 78, 397, 294, 295, 296, 61, 934, 382, 383, 384, 86, 84, 385, 386, 387, 388, 389, 390, 391, 392, 393, 394, 395, 396, 365, 366, 367, 398, 399, 400, 401, 69, 402, 403, 404, 405, 68, 64, 406, 407, 408, 409, 65, 410, 411, 412, 131, 413, 146, 152, 414, 415, 416, 417, 418, 419, 301, 302, 303, 304, 935, 875, 876, 877, 878, 879, 880, 1047, 1048, 1049, 2, 1050, 229, 230, 231, 232, 52, 57, 237, 238, 239, 240, 39, 43, 241, 242, 243, 38, 244, 166, 169, 170, 245, 246, 247, 42, 248, 182, 249, 250, 251, 252, 1460, 1461, 1462, 1463, 1464, 1465, 1466, 1467, 1468, 1469, 1470, 1471, 1472, 1473, 1474, 1475, 1476, 1548, 1549, 1525, 1526, 1527, 1528, 1529, 1530, 1531, 1532, 1533, 1534, 1535, 1536, 1537, 1538, 1539, 1540, 1541, 1542, 1543, 1544, 1545, 1546, 1547, 1587, 1588, 1589, 1590, 1591, 1592, 1593, 1594, 1595, 1596, 1597, 1569, 1570, 1571, 1572, 1573, 1574, 1575, 1576, 1577, 1578, 1579, 1580, 1581] (by decide +kernel) (by decide +kernel)
set_option maxRecDepth 20000 in
theorem gL_law_X11_tick : GoodIn wsL_law (wsV RL 95 RX11 yX11_tick wsX11_tick) := goodIn_app (goodIn_of _ (by decide +kernel)) ggL_law_X11_tick
set_option maxRecDepth 20000 in
theorem ggL_law_X12_tick : GoodIn wsL_law wsX12_tick := goodIn_r _ [1085, 989, 990, 991, 5, 992, 198, 969, 970, 971, 972, 277, 212, 993, 994, 995, 996, 997, 998, 999, 1000, 210, 211, 330, 331, 332, 333, 326, 327, 328, 329, 338, 339, 340, 424, 425, 426, 427, 428, 429, 430, 431, 432, 433, 434, 435, 209, 436, 437, 438, 439, 440, 441, 442, 443, 444, 445, 446, 447, 448, 449, 450, 451, 452, 453, 454, 455, 456, 457, 458, 459, 460, 461, 462, 463, 464, 465, 466, 467, 468, 469, 470, 471, 472, 473, 474, 318, 319, 320, 321, 261, 262, 263, 372, 373, 374, 375, 475, 476, 477, 478, 479, 480, 481, 482, 483, 484, 485, 486, 487, 488, 489, 490, 491, 492, 493, 494, 495, 496, 497, 498, 499, 500, 501, 341, 342, 343, 1001, 1002, 1003, 1055, 1056, 1057, 1058, 264, 265, 266, 267, 268, 197, 278, 279, 280, 281, 1477, 1478, 1479, 1480, 1481, 1482, 1483, 1484, 1485, 1486, 1487, 1488, 1489, 1490, 1491, 1492, 1493, 1494, 1495, 1496, 1497, 1498, 1499, 1500, 1501, 1502, 1503, 1504, 1505, 1506, 1507, 1508, 1509, 1510, 1511, 1512, 1513, 1514, 1515, 1516, 1517, 1518, 1519, 1520, 1521, 1522, 1523, 1524] (by decide +kernel) (by decide +kernel)
set_option maxRecDepth 20000 in
theorem gL_law_X12_tick : GoodIn wsL_law (wsV RL 98 RX12 yX12_tick wsX12_tick) := goodIn_app (goodIn_of _ (by decide +kernel)) ggL_law_X12_tick
set_option maxRecDepth 20000 in
theorem ggL_law_X11_undo : GoodIn wsL_law wsX11_undo := goodIn_r _ [1089, 19, 15, 1090, 1091, 1092, 18, 1093, 103, 104, 898, 105, 899, 855, 733, 734, 735, 900, 901, 1047, 1048, 1049, 2, 1050, 229, 230, 231, 232, 52, 57, 237, 238, 239, 240, 39, 43, 241, 242, 243, 38, 244, 166, 169, 170, 245, 246, 247, 42, 248, 182, 249, 250, 251, 252, 1460, 1461, 1462, 1463, 1464, 1465, 1466, 1467, 1468, 1469, 1470, 1471, 1472, 1473, 1474, 1475, 1476, 1545, 1546, 1547, 1525, 1526, 1527, 1528, 1529, 1530, 1531, 1532, 1533, 1534, 1535, 1536, 1537, 1538, 1539, 1540, 1541, 1542, 1543, 1544, 1569, 1570, 1571, 1572, 1573, 1574, 1575, 1576, 1577, 1578, 1579, 1580, 1581] (by decide +kernel) (by decide +kernel)
set_option maxRecDepth 20000 in
theorem gL_law_X11_undo : GoodIn wsL_law (wsV RL 99 RX11 yX11_undo wsX11_undo) := goodIn_app (goodIn_of _ (by decide +kernel)) ggL_law_X11_undo
set_option maxRecDepth 20000 in
theorem ggL_law_X12_undo : GoodIn wsL_law wsX12_undo := goodIn_r _ [1097, 277, 198, 212, 264, 265, 266, 5, 267, 268, 197, 278, 279, 280, 281, 1477, 1478, 1479, 1480, 1481, 1482, 1483, 1484, 1485, 1486, 1487, 1488, 1489, 1490, 1491, 1492, 1493, 1494, 1495, 1496, 1497, 1498, 1499, 1500, 1501, 1502, 1503, 1504, 1505, 1506, 1507, 1508, 1509, 1510, 1511, 1512, 1513, 1514, 1515, 1516, 1517, 1518, 1519, 1520, 1521, 1522, 1523, 1524] (by decide +kernel) (by decide +kernel)
set_option maxRecDepth 20000 in
theorem gL_law_X12_undo : GoodIn wsL_law (wsV RL 102 RX12 yX12_undo wsX12_undo) := goodIn_app (goodIn_of _ (by decide +kernel)) ggL_law_X12_undo
set_option maxRecDepth 20000 in
theorem ggL_law_X11_longest : GoodIn wsL_law wsX11_longest := goodIn_r _ [1101, 15, 305, 306, 307, 14, 308, 61, 309, 310, 150, 311, 63, 66, 90, 312, 313, 149, 151, 1460, 1461, 1462, 1463, 1464, 1465, 1466, 1467, 1468, 1469, 1470, 1471, 1472, 1473, 1474, 1475, 1476, 1525, 1526, 1527, 1528, 1529, 1530, 1531, 1532, 1533, 1534, 1535, 1536, 1537, 1538, 1539, 1540, 1541, 1542, 1543, 1544, 1587, 1588, 1589, 1590, 1591] (by decide +kernel) (by decide +kernel)
set_option maxRecDepth 20000 in
theorem gL_law_X11_longest : GoodIn wsL_law (wsV RL 103 RX11 yX11_longest wsX11_longest) := goodIn_app (goodIn_of _ (by decide +kernel)) ggL_law_X11_longest
set_option maxRecDepth 20000 in
theorem ggL_law_X12_longest : GoodIn wsL_law wsX12_longest := goodIn_r _ [1105, 198, 214, 334, 335, 336, 5, 337, 338, 339, 340, 326, 327, 328, 329, 341, 342, 343, 1477, 1478, 1479, 1480, 1481, 1482, 1483, 1484, 1485, 1486, 1487, 1488, 1489, 1490, 1491, 1492, 1493, 1494, 1495, 1496, 1497, 1498, 1499, 1500, 1501, 1502, 1503, 1504, 1505, 1506, 1507, 1508, 1509, 1510, 1511, 1512, 1513, 1514, 1515, 1516, 1517, 1518, 1519, 1520, 1521, 1522, 1523, 1524] (by decide +kernel) (by decide +kernel)
set_option maxRecDepth 20000 in
theorem gL_law_X12_longest : GoodIn wsL_law (wsV RL 106 RX12 yX12_longest wsX12_longest) := goodIn_app (goodIn_of _ (by decide +kernel)) ggL_law_X12_longest
set_option maxRecDepth 20000 in
theorem ggL_law_X11_rows : GoodIn wsL_law wsX11_rows := goodIn_r _ [1109, 43, 1110, 1111, 1112, 42, 1113, 183, 181, 1114, 1115, 1116, 1117, 182, 1118, 1119, 310, 150, 311, 1120, 302, 303, 14, 304, 61, 66, 1121, 1122, 1123, 1124, 1125, 1126, 1127, 1128, 1129, 1130, 1460, 1461, 1462, 1463, 1464, 1465, 1466, 1467, 1468, 1469, 1470, 1471, 1472, 1473, 1474, 1475, 1476, 1579, 1580, 1581, 1525, 1526, 1527, 1528, 1529, 1530, 1531, 1532, 1533, 1534, 1535, 1536, 1537, 1538, 1539, 1540, 1541, 1542, 1543, 1544] (by decide +kernel) (by decide +kernel)
set_option maxRecDepth 20000 in
theorem gL_law_X11_rows : GoodIn wsL_law (wsV RL 107 RX11 yX11_rows wsX11_rows) := goodIn_app (goodIn_of _ (by decide +kernel)) ggL_law_X11_rows
set_option maxRecDepth 20000 in
theorem ggL_law_X12_rows : GoodIn wsL_law wsX12_rows := goodIn_r _ [1134, 215, 198, 1135, 1136, 1137, 5, 1138, 1139, 1140, 1141, 1142, 1143, 1144, 1145, 1146, 338, 339, 340, 330, 331, 332, 333, 326, 327, 328, 329, 475, 476, 477, 261, 262, 263, 1477, 1478, 1479, 1480, 1481, 1482, 1483, 1484, 1485, 1486, 1487, 1488, 1489, 1490, 1491, 1492, 1493, 1494, 1495, 1496, 1497, 1498, 1499, 1500, 1501, 1502, 1503, 1504, 1505, 1506, 1507, 1508, 1509, 1510, 1511, 1512, 1513, 1514, 1515, 1516, 1517, 1518, 1519, 1520, 1521, 1522, 1523, 1524] (by decide +kernel) (by decide +kernel)
set_option maxRecDepth 20000 in
theorem gL_law_X12_rows : GoodIn wsL_law (wsV RL 110 RX12 yX12_rows wsX12_rows) := goodIn_app (goodIn_of _ (by decide +kernel)) ggL_law_X12_rows
set_option maxRecDepth 20000 in
theorem ggL_law_X11_plan : GoodIn wsL_law wsX11_plan := goodIn_r _ [1150, 39, 15, 1151, 1152, 1153, 38, 1154, 176, 166, 1155, 1156, 1157, 34, 1158, 158, 1159, 1160, 1161, 1162, 161, 1163, 159, 1164, 160, 1165, 847, 848, 14, 849, 61, 62, 850, 733, 734, 735, 63, 64, 65, 66, 67, 68, 69, 70, 71, 78, 79, 80, 81, 82, 84, 85, 86, 1166, 656, 657, 658, 1167, 365, 366, 367, 1168, 1169, 1170, 1171, 1172, 1173, 1174, 1175, 1176, 1177, 1178, 1179, 1180, 1181, 1182, 1183, 1184, 1185, 1186, 298, 299, 300, 301, 302, 303, 304, 1187, 306, 307, 308, 309, 310, 150, 311, 90, 312, 313, 149, 151, 1188, 382, 383, 384, 385, 386, 387, 388, 389, 390, 391, 392, 393, 394, 395, 396, 397, 294, 295, 296, 398, 399, 400, 401, 402, 403, 404, 405, 406, 407, 408, 409, 410, 411, 412, 131, 413, 146, 152, 414, 415, 416, 417, 418, 419, 1189, 1190, 1191, 1192, 1193, 1194, 929, 930, 931, 932, 933, 934, 935, 875, 876, 877, 878, 879, 880, 293, 1195, 1196, 1197, 1198, 1199, 1460, 1461, 1462, 1463, 1464, 1465, 1466, 1467, 1468, 1469, 1470, 1471, 1472, 1473, 1474, 1475, 1476, 1569, 1570, 1571, 1572, 1573, 1574, 1575, 1576, 1577, 1578, 1565, 1566, 1567, 1568, 1525, 1526, 1527, 1528, 1529, 1530, 1531, 1532, 1533, 1534, 1535, 1536, 1537, 1538, 1539, 1540, 1541, 1542, 1543, 1544, 1587, 1588, 1589, 1590, 1591, 1592, 1593, 1594, 1595, 1596, 1597] (by decide +kernel) (by decide +kernel)
set_option maxRecDepth 20000 in
theorem gL_law_X11_plan : GoodIn wsL_law (wsV RL 111 RX11 yX11_plan wsX11_plan) := goodIn_app (goodIn_of _ (by decide +kernel)) ggL_law_X11_plan
set_option maxRecDepth 20000 in
theorem ggL_law_X12_plan : GoodIn wsL_law wsX12_plan := goodIn_r _ [1203, 318, 319, 320, 5, 321, 198, 261, 262, 263, 993, 994, 995, 996, 1139, 1140, 1141, 1142, 1204, 1205, 1206, 1207, 1208, 1209, 1210, 1211, 941, 942, 943, 944, 201, 1212, 1213, 1214, 1215, 330, 331, 332, 333, 326, 327, 328, 329, 1216, 1217, 1218, 1219, 334, 335, 336, 337, 214, 338, 339, 340, 341, 342, 343, 1220, 1221, 1222, 1223, 322, 323, 324, 325, 506, 507, 508, 509, 432, 433, 434, 435, 209, 436, 437, 438, 439, 428, 429, 430, 431, 440, 441, 442, 443, 444, 445, 446, 447, 448, 449, 450, 451, 452, 453, 454, 455, 456, 457, 458, 459, 460, 461, 462, 463, 464, 465, 466, 467, 468, 469, 470, 471, 472, 473, 474, 372, 373, 374, 375, 475, 476, 477, 478, 479, 480, 481, 482, 483, 484, 485, 486, 487, 488, 489, 490, 491, 492, 493, 494, 495, 496, 497, 424, 425, 426, 427, 997, 998, 999, 1000, 210, 211, 498, 499, 500, 501, 1001, 1002, 1003, 1004, 1005, 1006, 1007, 1477, 1478, 1479, 1480, 1481, 1482, 1483, 1484, 1485, 1486, 1487, 1488, 1489, 1490, 1491, 1492, 1493, 1494, 1495, 1496, 1497, 1498, 1499, 1500, 1501, 1502, 1503, 1504, 1505, 1506, 1507, 1508, 1509, 1510, 1511, 1512, 1513, 1514, 1515, 1516, 1517, 1518, 1519, 1520, 1521, 1522, 1523, 1524] (by decide +kernel) (by decide +kernel)
set_option maxRecDepth 20000 in
theorem gL_law_X12_plan : GoodIn wsL_law (wsV RL 114 RX12 yX12_plan wsX12_plan) := goodIn_app (goodIn_of _ (by decide +kernel)) ggL_law_X12_plan
set_option maxRecDepth 20000 in
theorem ggL_law_X11_hands : GoodIn wsL_law wsX11_hands := goodIn_r _ [1227, 39, 1228, 1229, 1230, 38, 1231, 175, 1232, 176, 169, 168, 1233, 1234, 1235, 1236, 1237, 1238, 149, 150, 151, 1239, 1240, 1241, 875, 876, 877, 878, 879, 880, 1155, 1156, 1157, 34, 1158, 158, 1159, 1160, 1161, 1162, 161, 1163, 159, 1164, 160, 1165, 847, 848, 14, 849, 61, 62, 850, 733, 734, 735, 63, 64, 65, 66, 67, 68, 69, 70, 71, 78, 79, 80, 81, 82, 84, 85, 86, 1166, 656, 657, 658, 1167, 365, 366, 367, 1168, 1169, 1170, 1171, 1172, 1173, 1174, 1175, 1176, 1177, 1178, 1179, 1180, 1181, 1182, 1183, 1184, 1185, 1186, 298, 299, 300, 301, 302, 303, 304, 1187, 306, 307, 308, 309, 310, 311, 90, 312, 313, 1188, 382, 383, 384, 385, 386, 387, 388, 389, 390, 391, 392, 393, 394, 395, 396, 397, 294, 295, 296, 398, 399, 400, 401, 402, 403, 404, 405, 406, 407, 408, 409, 410, 411, 412, 131, 413, 146, 152, 414, 415, 416, 417, 418, 419, 1189, 1190, 1191, 1192, 1193, 1194, 929, 930, 931, 932, 933, 934, 935, 1242, 1460, 1461, 1462, 1463, 1464, 1465, 1466, 1467, 1468, 1469, 1470, 1471, 1472, 1473, 1474, 1475, 1476, 1569, 1570, 1571, 1572, 1573, 1574, 1575, 1576, 1577, 1578, 1525, 1526, 1527, 1528, 1529, 1530, 1531, 1532, 1533, 1534, 1535, 1536, 1537, 1538, 1539, 1540, 1541, 1542, 1543, 1544, 1565, 1566, 1567, 1568, 1587, 1588, 1589, 1590, 1591, 1592, 1593, 1594, 1595, 1596, 1597] (by decide +kernel) (by decide +kernel)
set_option maxRecDepth 20000 in
theorem gL_law_X11_hands : GoodIn wsL_law (wsV RL 115 RX11 yX11_hands wsX11_hands) := goodIn_app (goodIn_of _ (by decide +kernel)) ggL_law_X11_hands
set_option maxRecDepth 20000 in
theorem ggL_law_X12_hands : GoodIn wsL_law wsX12_hands := goodIn_r _ [1246, 198, 261, 262, 5, 263, 993, 994, 995, 996, 475, 476, 477, 1139, 1140, 1141, 1142, 1204, 1205, 1206, 1207, 1208, 1209, 1210, 1211, 941, 942, 943, 944, 201, 1212, 1213, 1214, 1215, 330, 331, 332, 333, 326, 327, 328, 329, 1216, 1217, 1218, 1219, 334, 335, 336, 337, 214, 338, 339, 340, 341, 342, 343, 1220, 1221, 1222, 1223, 322, 323, 324, 325, 506, 507, 508, 509, 432, 433, 434, 435, 209, 436, 437, 438, 439, 428, 429, 430, 431, 440, 441, 442, 443, 444, 445, 446, 447, 448, 449, 450, 451, 452, 453, 454, 455, 456, 457, 458, 459, 460, 461, 462, 463, 464, 465, 466, 467, 468, 469, 470, 471, 472, 473, 474, 318, 319, 320, 321, 372, 373, 374, 375, 478, 479, 480, 481, 482, 483, 484, 485, 486, 487, 488, 489, 490, 491, 492, 493, 494, 495, 496, 497, 424, 425, 426, 427, 997, 998, 999, 1000, 210, 211, 498, 499, 500, 501, 1001, 1002, 1003, 1004, 1005, 1006, 1007, 1477, 1478, 1479, 1480, 1481, 1482, 1483, 1484, 1485, 1486, 1487, 1488, 1489, 1490, 1491, 1492, 1493, 1494, 1495, 1496, 1497, 1498, 1499, 1500, 1501, 1502, 1503, 1504, 1505, 1506, 1507, 1508, 1509, 1510, 1511, 1512, 1513, 1514, 1515, 1516, 1517, 1518, 1519, 1520, 1521, 1522, 1523, 1524] (by decide +kernel) (by decide +kernel)
set_option maxRecDepth 20000 in
theorem gL_law_X12_hands : GoodIn wsL_law (wsV RL 118 RX12 yX12_hands wsX12_hands) := goodIn_app (goodIn_of _ (by decide +kernel)) ggL_law_X12_hands
set_option maxRecDepth 20000 in
theorem ggL_law_X11_taught : GoodIn wsL_law wsX11_taught := goodIn_r _ [1250, 39, 1251, 1252, 1253, 38, 1254, 170, 171, 175, 1232, 1255, 1256, 656, 657, 658, 1199, 1152, 1153, 1154, 176, 166, 1155, 1156, 1157, 34, 1158, 158, 1159, 1160, 1161, 1162, 161, 1163, 159, 1164, 160, 1165, 847, 848, 14, 849, 61, 62, 850, 733, 734, 735, 63, 64, 65, 66, 67, 68, 69, 70, 71, 78, 79, 80, 81, 82, 84, 85, 86, 1166, 1167, 365, 366, 367, 1168, 1169, 1170, 1171, 1172, 1173, 1174, 1175, 1176, 1177, 1178, 1179, 1180, 1181, 1182, 1183, 1184, 1185, 1186, 298, 299, 300, 301, 302, 303, 304, 1187, 306, 307, 308, 309, 310, 150, 311, 90, 312, 313, 149, 151, 1188, 382, 383, 384, 385, 386, 387, 388, 389, 390, 391, 392, 393, 394, 395, 396, 397, 294, 295, 296, 398, 399, 400, 401, 402, 403, 404, 405, 406, 407, 408, 409, 410, 411, 412, 131, 413, 146, 152, 414, 415, 416, 417, 418, 419, 1189, 1190, 1191, 1192, 1193, 1194, 929, 930, 931, 932, 933, 934, 935, 875, 876, 877, 878, 879, 880, 1257, 1258, 1259, 1260, 167, 1261, 1262, 1263, 1264, 1460, 1461, 1462, 1463, 1464, 1465, 1466, 1467, 1468, 1469, 1470, 1471, 1472, 1473, 1474, 1475, 1476, 1569, 1570, 1571, 1572, 1573, 1574, 1575, 1576, 1577, 1578, 1525, 1526, 1527, 1528, 1529, 1530, 1531, 1532, 1533, 1534, 1535, 1536, 1537, 1538, 1539, 1540, 1541, 1542, 1543, 1544, 1565, 1566, 1567, 1568, 1587, 1588, 1589, 1590, 1591, 1592, 1593, 1594, 1595, 1596, 1597] (by decide +kernel) (by decide +kernel)
set_option maxRecDepth 20000 in
theorem gL_law_X11_taught : GoodIn wsL_law (wsV RL 119 RX11 yX11_taught wsX11_taught) := goodIn_app (goodIn_of _ (by decide +kernel)) ggL_law_X11_taught
set_option maxRecDepth 20000 in
theorem ggL_law_X12_taught : GoodIn wsL_law wsX12_taught := goodIn_r _ [1268, 760, 198, 261, 262, 5, 263, 1269, 1201, 1202, 1203, 318, 319, 320, 321, 993, 994, 995, 996, 1139, 1140, 1141, 1142, 1204, 1205, 1206, 1207, 1208, 1209, 1210, 1211, 941, 942, 943, 944, 201, 1212, 1213, 1214, 1215, 330, 331, 332, 333, 326, 327, 328, 329, 1216, 1217, 1218, 1219, 334, 335, 336, 337, 214, 338, 339, 340, 341, 342, 343, 1220, 1221, 1222, 1223, 322, 323, 324, 325, 506, 507, 508, 509, 432, 433, 434, 435, 209, 436, 437, 438, 439, 428, 429, 430, 431, 440, 441, 442, 443, 444, 445, 446, 447, 448, 449, 450, 451, 452, 453, 454, 455, 456, 457, 458, 459, 460, 461, 462, 463, 464, 465, 466, 467, 468, 469, 470, 471, 472, 473, 474, 372, 373, 374, 375, 475, 476, 477, 478, 479, 480, 481, 482, 483, 484, 485, 486, 487, 488, 489, 490, 491, 492, 493, 494, 495, 496, 497, 424, 425, 426, 427, 997, 998, 999, 1000, 210, 211, 498, 499, 500, 501, 1001, 1002, 1003, 1004, 1005, 1006, 1007, 1270, 1271, 1272, 1273, 1477, 1478, 1479, 1480, 1481, 1482, 1483, 1484, 1485, 1486, 1487, 1488, 1489, 1490, 1491, 1492, 1493, 1494, 1495, 1496, 1497, 1498, 1499, 1500, 1501, 1502, 1503, 1504, 1505, 1506, 1507, 1508, 1509, 1510, 1511, 1512, 1513, 1514, 1515, 1516, 1517, 1518, 1519, 1520, 1521, 1522, 1523, 1524] (by decide +kernel) (by decide +kernel)
set_option maxRecDepth 20000 in
theorem gL_law_X12_taught : GoodIn wsL_law (wsV RL 122 RX12 yX12_taught wsX12_taught) := goodIn_app (goodIn_of _ (by decide +kernel)) ggL_law_X12_taught
set_option maxRecDepth 20000 in
theorem ggL_law_X11_unseen : GoodIn wsL_law wsX11_unseen := goodIn_r _ [1277, 1278, 35, 1279, 1280, 1281, 34, 1282, 1283, 158, 1185, 1163, 1284, 1159, 1160, 1161, 1162, 161, 159, 1164, 160, 1165, 847, 848, 14, 849, 61, 62, 850, 733, 734, 735, 63, 64, 65, 66, 67, 68, 69, 70, 71, 78, 79, 80, 81, 82, 84, 85, 86, 1166, 656, 657, 658, 1167, 365, 366, 367, 1174, 1175, 1176, 1177, 1178, 1285, 1286, 1287, 1288, 1172, 1289, 302, 303, 304, 1179, 1180, 1181, 1182, 1183, 1184, 1186, 298, 299, 300, 301, 1187, 306, 307, 308, 309, 310, 150, 311, 90, 312, 313, 149, 151, 1188, 382, 383, 384, 385, 386, 387, 388, 389, 390, 391, 392, 393, 394, 395, 396, 397, 294, 295, 296, 398, 399, 400, 401, 402, 403, 404, 405, 406, 407, 408, 409, 410, 411, 412, 131, 413, 146, 152, 414, 415, 416, 417, 418, 419, 1290, 1194, 929, 930, 931, 932, 933, 934, 935, 875, 876, 877, 878, 879, 880, 1460, 1461, 1462, 1463, 1464, 1465, 1466, 1467, 1468, 1469, 1470, 1471, 1472, 1473, 1474, 1475, 1476, 1565, 1566, 1567, 1568, 1525, 1526, 1527, 1528, 1529, 1530, 1531, 1532, 1533, 1534, 1535, 1536, 1537, 1538, 1539, 1540, 1541, 1542, 1543, 1544, 1587, 1588, 1589, 1590, 1591, 1592, 1593, 1594, 1595, 1596, 1597] (by decide +kernel) (by decide +kernel)
set_option maxRecDepth 20000 in
theorem gL_law_X11_unseen : GoodIn wsL_law (wsV RL 123 RX11 yX11_unseen wsX11_unseen) := goodIn_app (goodIn_of _ (by decide +kernel)) ggL_law_X11_unseen
set_option maxRecDepth 20000 in
theorem ggL_law_X12_unseen : GoodIn wsL_law wsX12_unseen := goodIn_r _ [1294, 1295, 1296, 198, 1297, 261, 262, 5, 263, 1208, 1209, 1210, 1211, 941, 942, 943, 944, 201, 1139, 1140, 1141, 1142, 1212, 1213, 1214, 1215, 330, 331, 332, 333, 326, 327, 328, 329, 993, 994, 995, 996, 1216, 1217, 1218, 1219, 334, 335, 336, 337, 214, 338, 339, 340, 341, 342, 343, 1220, 1221, 1222, 1223, 322, 323, 324, 325, 506, 507, 508, 509, 432, 433, 434, 435, 209, 436, 437, 438, 439, 428, 429, 430, 431, 440, 441, 442, 443, 444, 445, 446, 447, 448, 449, 450, 451, 452, 453, 454, 455, 456, 457, 458, 459, 460, 461, 462, 463, 464, 465, 466, 467, 468, 469, 470, 471, 472, 473, 474, 318, 319, 320, 321, 372, 373, 374, 375, 475, 476, 477, 478, 479, 480, 481, 482, 483, 484, 485, 486, 487, 488, 489, 490, 491, 492, 493, 494, 495, 496, 497, 424, 425, 426, 427, 502, 503, 504, 505, 997, 998, 999, 1000, 210, 211, 498, 499, 500, 501, 1001, 1002, 1003, 1004, 1005, 1006, 1007, 1477, 1478, 1479, 1480, 1481, 1482, 1483, 1484, 1485, 1486, 1487, 1488, 1489, 1490, 1491, 1492, 1493, 1494, 1495, 1496, 1497, 1498, 1499, 1500, 1501, 1502, 1503, 1504, 1505, 1506, 1507, 1508, 1509, 1510, 1511, 1512, 1513, 1514, 1515, 1516, 1517, 1518, 1519, 1520, 1521, 1522, 1523, 1524] (by decide +kernel) (by decide +kernel)
set_option maxRecDepth 20000 in
theorem gL_law_X12_unseen : GoodIn wsL_law (wsV RL 127 RX12 yX12_unseen wsX12_unseen) := goodIn_app (goodIn_of _ (by decide +kernel)) ggL_law_X12_unseen
set_option maxRecDepth 20000 in
theorem ggL_law_X11_sight : GoodIn wsL_law wsX11_sight := goodIn_r _ [1301, 15, 1302, 1303, 1304, 1305, 229, 230, 231, 2, 232, 52, 57, 293, 294, 295, 14, 296, 61, 249, 250, 251, 252, 1460, 1461, 1462, 1463, 1464, 1465, 1466, 1467, 1468, 1469, 1470, 1471, 1472, 1473, 1474, 1475, 1476, 1525, 1526, 1527, 1528, 1529, 1530, 1531, 1532, 1533, 1534, 1535, 1536, 1537, 1538, 1539, 1540, 1541, 1542, 1543, 1544] (by decide +kernel) (by decide +kernel)
set_option maxRecDepth 20000 in
theorem gL_law_X11_sight : GoodIn wsL_law (wsV RL 128 RX11 yX11_sight wsX11_sight) := goodIn_app (goodIn_of _ (by decide +kernel)) ggL_law_X11_sight
set_option maxRecDepth 20000 in
theorem ggL_law_X12_sight : GoodIn wsL_law wsX12_sight := goodIn_r _ [1309, 198, 261, 262, 5, 263, 264, 265, 266, 267, 268, 197, 318, 319, 320, 321, 278, 279, 280, 281, 1477, 1478, 1479, 1480, 1481, 1482, 1483, 1484, 1485, 1486, 1487, 1488, 1489, 1490, 1491, 1492, 1493, 1494, 1495, 1496, 1497, 1498, 1499, 1500, 1501, 1502, 1503, 1504, 1505, 1506, 1507, 1508, 1509, 1510, 1511, 1512, 1513, 1514, 1515, 1516, 1517, 1518, 1519, 1520, 1521, 1522, 1523, 1524] (by decide +kernel) (by decide +kernel)
set_option maxRecDepth 20000 in
theorem gL_law_X12_sight : GoodIn wsL_law (wsV RL 131 RX12 yX12_sight wsX12_sight) := goodIn_app (goodIn_of _ (by decide +kernel)) ggL_law_X12_sight
set_option maxRecDepth 20000 in
theorem ggL_law_X11_forget : GoodIn wsL_law wsX11_forget := goodIn_r _ [1313, 15, 1302, 1460, 1461, 1462, 1463, 1464, 1465, 1466, 1467, 1468, 1469, 1470, 1471, 1472, 1473, 1474, 1475, 1476, 1525, 1526, 1527, 1528, 1529, 1530, 1531, 1532, 1533, 1534, 1535, 1536, 1537, 1538, 1539, 1540, 1541, 1542, 1543, 1544] (by decide +kernel) (by decide +kernel)
set_option maxRecDepth 20000 in
theorem gL_law_X11_forget : GoodIn wsL_law (wsV RL 132 RX11 yX11_forget wsX11_forget) := goodIn_app (goodIn_of _ (by decide +kernel)) ggL_law_X11_forget
set_option maxRecDepth 20000 in
theorem ggL_law_X12_forget : GoodIn wsL_law wsX12_forget := goodIn_r _ [1317, 198, 1477, 1478, 1479, 1480, 1481, 1482, 1483, 1484, 1485, 1486, 1487, 1488, 1489, 1490, 1491, 1492, 1493, 1494, 1495, 1496, 1497, 1498, 1499, 1500, 1501, 1502, 1503, 1504, 1505, 1506, 1507, 1508, 1509, 1510, 1511, 1512, 1513, 1514, 1515, 1516, 1517, 1518, 1519, 1520, 1521, 1522, 1523, 1524] (by decide +kernel) (by decide +kernel)
set_option maxRecDepth 20000 in
theorem gL_law_X12_forget : GoodIn wsL_law (wsV RL 135 RX12 yX12_forget wsX12_forget) := goodIn_app (goodIn_of _ (by decide +kernel)) ggL_law_X12_forget
set_option maxRecDepth 20000 in
theorem ggL_law_X11_whose : GoodIn wsL_law wsX11_whose := goodIn_r _ [1321, 39, 1322, 1323, 1324, 38, 1325, 175, 1232, 176, 169, 168, 173, 1234, 1235, 1236, 1237, 1233, 1238, 149, 150, 151, 1239, 1240, 1155, 1156, 1157, 34, 1158, 158, 1159, 1160, 1161, 1162, 161, 1163, 159, 1164, 160, 1165, 847, 848, 14, 849, 61, 62, 850, 733, 734, 735, 63, 64, 65, 66, 67, 68, 69, 70, 71, 78, 79, 80, 81, 82, 84, 85, 86, 1166, 656, 657, 658, 1167, 365, 366, 367, 1168, 1169, 1170, 1171, 1172, 1173, 1174, 1175, 1176, 1177, 1178, 1179, 1180, 1181, 1182, 1183, 1184, 1185, 1186, 298, 299, 300, 301, 302, 303, 304, 1187, 306, 307, 308, 309, 310, 311, 90, 312, 313, 1188, 382, 383, 384, 385, 386, 387, 388, 389, 390, 391, 392, 393, 394, 395, 396, 397, 294, 295, 296, 398, 399, 400, 401, 402, 403, 404, 405, 406, 407, 408, 409, 410, 411, 412, 131, 413, 146, 152, 414, 415, 416, 417, 418, 419, 1189, 1190, 1191, 1192, 1193, 1194, 929, 930, 931, 932, 933, 934, 935, 875, 876, 877, 878, 879, 880, 1326, 1327, 1328, 1329, 1330, 1331, 1332, 1333, 1334, 1335, 1460, 1461, 1462, 1463, 1464, 1465, 1466, 1467, 1468, 1469, 1470, 1471, 1472, 1473, 1474, 1475, 1476, 1569, 1570, 1571, 1572, 1573, 1574, 1575, 1576, 1577, 1578, 1525, 1526, 1527, 1528, 1529, 1530, 1531, 1532, 1533, 1534, 1535, 1536, 1537, 1538, 1539, 1540, 1541, 1542, 1543, 1544, 1565, 1566, 1567, 1568, 1587, 1588, 1589, 1590, 1591, 1592, 1593, 1594, 1595, 1596, 1597] (by decide +kernel) (by decide +kernel)
set_option maxRecDepth 20000 in
theorem gL_law_X11_whose : GoodIn wsL_law (wsV RL 136 RX11 yX11_whose wsX11_whose) := goodIn_app (goodIn_of _ (by decide +kernel)) ggL_law_X11_whose
set_option maxRecDepth 20000 in
theorem ggL_law_X12_whose : GoodIn wsL_law wsX12_whose := goodIn_r _ [1339, 993, 994, 995, 5, 996, 198, 1340, 1341, 1342, 1343, 1208, 1209, 1210, 1211, 941, 942, 943, 944, 201, 1344, 1345, 1346, 1347, 341, 342, 343, 1348, 1349, 1350, 1351, 326, 327, 328, 329, 1352, 1353, 1354, 1355, 1139, 1140, 1141, 1142, 1212, 1213, 1214, 1215, 330, 331, 332, 333, 1216, 1217, 1218, 1219, 334, 335, 336, 337, 214, 338, 339, 340, 1220, 1221, 1222, 1223, 322, 323, 324, 325, 506, 507, 508, 509, 432, 433, 434, 435, 209, 436, 437, 438, 439, 428, 429, 430, 431, 440, 441, 442, 443, 444, 445, 446, 447, 448, 449, 450, 451, 452, 453, 454, 455, 456, 457, 458, 459, 460, 461, 462, 463, 464, 465, 466, 467, 468, 469, 470, 471, 472, 473, 474, 318, 319, 320, 321, 261, 262, 263, 372, 373, 374, 375, 475, 476, 477, 478, 479, 480, 481, 482, 483, 484, 485, 486, 487, 488, 489, 490, 491, 492, 493, 494, 495, 496, 497, 424, 425, 426, 427, 997, 998, 999, 1000, 210, 211, 498, 499, 500, 501, 1001, 1002, 1003, 1004, 1005, 1006, 1007, 1477, 1478, 1479, 1480, 1481, 1482, 1483, 1484, 1485, 1486, 1487, 1488, 1489, 1490, 1491, 1492, 1493, 1494, 1495, 1496, 1497, 1498, 1499, 1500, 1501, 1502, 1503, 1504, 1505, 1506, 1507, 1508, 1509, 1510, 1511, 1512, 1513, 1514, 1515, 1516, 1517, 1518, 1519, 1520, 1521, 1522, 1523, 1524] (by decide +kernel) (by decide +kernel)
set_option maxRecDepth 20000 in
theorem gL_law_X12_whose : GoodIn wsL_law (wsV RL 139 RX12 yX12_whose wsX12_whose) := goodIn_app (goodIn_of _ (by decide +kernel)) ggL_law_X12_whose
set_option maxRecDepth 20000 in
theorem ggL_law_X11_look : GoodIn wsL_law wsX11_look := goodIn_r _ [1359, 39, 1360, 1361, 1362, 38, 1363, 1364, 1323, 1324, 1325, 175, 1232, 176, 169, 168, 173, 1234, 1235, 1236, 1237, 1233, 1238, 149, 150, 151, 1239, 1240, 1155, 1156, 1157, 34, 1158, 158, 1159, 1160, 1161, 1162, 161, 1163, 159, 1164, 160, 1165, 847, 848, 14, 849, 61, 62, 850, 733, 734, 735, 63, 64, 65, 66, 67, 68, 69, 70, 71, 78, 79, 80, 81, 82, 84, 85, 86, 1166, 656, 657, 658, 1167, 365, 366, 367, 1168, 1169, 1170, 1171, 1172, 1173, 1174, 1175, 1176, 1177, 1178, 1179, 1180, 1181, 1182, 1183, 1184, 1185, 1186, 298, 299, 300, 301, 302, 303, 304, 1187, 306, 307, 308, 309, 310, 311, 90, 312, 313, 1188, 382, 383, 384, 385, 386, 387, 388, 389, 390, 391, 392, 393, 394, 395, 396, 397, 294, 295, 296, 398, 399, 400, 401, 402, 403, 404, 405, 406, 407, 408, 409, 410, 411, 412, 131, 413, 146, 152, 414, 415, 416, 417, 418, 419, 1189, 1190, 1191, 1192, 1193, 1194, 929, 930, 931, 932, 933, 934, 935, 875, 876, 877, 878, 879, 880, 1326, 1327, 1328, 1329, 1330, 1331, 1332, 1333, 1334, 1335, 1365, 1366, 1367, 1368, 174, 1369, 1256, 1460, 1461, 1462, 1463, 1464, 1465, 1466, 1467, 1468, 1469, 1470, 1471, 1472, 1473, 1474, 1475, 1476, 1569, 1570, 1571, 1572, 1573, 1574, 1575, 1576, 1577, 1578, 1525, 1526, 1527, 1528, 1529, 1530, 1531, 1532, 1533, 1534, 1535, 1536, 1537, 1538, 1539, 1540, 1541, 1542, 1543, 1544, 1565, 1566, 1567, 1568, 1587, 1588, 1589, 1590, 1591, 1592, 1593, 1594, 1595, 1596, 1597] (by decide +kernel) (by decide +kernel)
set_option maxRecDepth 20000 in
theorem gL_law_X11_look : GoodIn wsL_law (wsV RL 140 RX11 yX11_look wsX11_look) := goodIn_app (goodIn_of _ (by decide +kernel)) ggL_law_X11_look
set_option maxRecDepth 20000 in
theorem ggL_law_X12_look : GoodIn wsL_law wsX12_look := goodIn_r _ [1373, 216, 760, 261, 262, 5, 263, 993, 994, 995, 996, 198, 1340, 1341, 1342, 1343, 1208, 1209, 1210, 1211, 941, 942, 943, 944, 201, 1344, 1345, 1346, 1347, 341, 342, 343, 1348, 1349, 1350, 1351, 326, 327, 328, 329, 1352, 1353, 1354, 1355, 1139, 1140, 1141, 1142, 1212, 1213, 1214, 1215, 330, 331, 332, 333, 1216, 1217, 1218, 1219, 334, 335, 336, 337, 214, 338, 339, 340, 1220, 1221, 1222, 1223, 322, 323, 324, 325, 506, 507, 508, 509, 432, 433, 434, 435, 209, 436, 437, 438, 439, 428, 429, 430, 431, 440, 441, 442, 443, 444, 445, 446, 447, 448, 449, 450, 451, 452, 453, 454, 455, 456, 457, 458, 459, 460, 461, 462, 463, 464, 465, 466, 467, 468, 469, 470, 471, 472, 473, 474, 318, 319, 320, 321, 372, 373, 374, 375, 475, 476, 477, 478, 479, 480, 481, 482, 483, 484, 485, 486, 487, 488, 489, 490, 491, 492, 493, 494, 495, 496, 497, 424, 425, 426, 427, 997, 998, 999, 1000, 210, 211, 498, 499, 500, 501, 1001, 1002, 1003, 1004, 1005, 1006, 1007, 1374, 1375, 1376, 1377, 1477, 1478, 1479, 1480, 1481, 1482, 1483, 1484, 1485, 1486, 1487, 1488, 1489, 1490, 1491, 1492, 1493, 1494, 1495, 1496, 1497, 1498, 1499, 1500, 1501, 1502, 1503, 1504, 1505, 1506, 1507, 1508, 1509, 1510, 1511, 1512, 1513, 1514, 1515, 1516, 1517, 1518, 1519, 1520, 1521, 1522, 1523, 1524] (by decide +kernel) (by decide +kernel)
set_option maxRecDepth 20000 in
theorem gL_law_X12_look : GoodIn wsL_law (wsV RL 143 RX12 yX12_look wsX12_look) := goodIn_app (goodIn_of _ (by decide +kernel)) ggL_law_X12_look
set_option maxRecDepth 20000 in
theorem ggL_law_X11_nights : GoodIn wsL_law wsX11_nights := goodIn_r _ [1381, 1382, 47, 229, 230, 231, 2, 232, 52, 57, 1383, 1384, 1385, 46, 1386, 192, 1387, 1388, 1389, 1390, 188, 1391, 189, 1392, 190, 1393, 733, 734, 735, 1394, 191, 1395, 1160, 1161, 34, 1162, 158, 161, 1163, 159, 1164, 160, 1165, 847, 848, 14, 849, 61, 62, 850, 63, 64, 65, 66, 67, 68, 69, 70, 71, 78, 79, 80, 81, 82, 84, 85, 86, 1166, 656, 657, 658, 1167, 365, 366, 367, 1396, 1180, 1181, 1182, 1183, 1184, 1185, 1172, 1186, 298, 299, 300, 301, 302, 303, 304, 1187, 306, 307, 308, 309, 310, 150, 311, 90, 312, 313, 149, 151, 1188, 382, 383, 384, 385, 386, 387, 388, 389, 390, 391, 392, 393, 394, 395, 396, 397, 294, 295, 296, 398, 399, 400, 401, 402, 403, 404, 405, 406, 407, 408, 409, 410, 411, 412, 131, 413, 146, 152, 414, 415, 416, 417, 418, 419, 1397, 929, 930, 931, 932, 933, 934, 935, 875, 876, 877, 878, 879, 880, 1398, 1286, 1287, 1288, 1289, 249, 250, 251, 252, 1460, 1461, 1462, 1463, 1464, 1465, 1466, 1467, 1468, 1469, 1470, 1471, 1472, 1473, 1474, 1475, 1476, 1582, 1583, 1584, 1585, 1586, 1565, 1566, 1567, 1568, 1525, 1526, 1527, 1528, 1529, 1530, 1531, 1532, 1533, 1534, 1535, 1536, 1537, 1538, 1539, 1540, 1541, 1542, 1543, 1544, 1587, 1588, 1589, 1590, 1591, 1592, 1593, 1594, 1595, 1596, 1597] (by decide +kernel) (by decide +kernel)
set_option maxRecDepth 20000 in
theorem gL_law_X11_nights : GoodIn wsL_law (wsV RL 144 RX11 yX11_nights wsX11_nights) := goodIn_app (goodIn_of _ (by decide +kernel)) ggL_law_X11_nights
set_option maxRecDepth 20000 in
theorem ggL_law_X12_nights : GoodIn wsL_law wsX12_nights := goodIn_r _ [1402, 760, 1403, 198, 220, 1404, 219, 261, 262, 5, 263, 264, 265, 266, 267, 268, 197, 1208, 1209, 1210, 1211, 941, 942, 943, 944, 201, 993, 994, 995, 996, 1216, 1217, 1218, 1219, 334, 335, 336, 337, 214, 338, 339, 340, 326, 327, 328, 329, 341, 342, 343, 1220, 1221, 1222, 1223, 322, 323, 324, 325, 330, 331, 332, 333, 506, 507, 508, 509, 432, 433, 434, 435, 209, 436, 437, 438, 439, 428, 429, 430, 431, 440, 441, 442, 443, 444, 445, 446, 447, 448, 449, 450, 451, 452, 453, 454, 455, 456, 457, 458, 459, 460, 461, 462, 463, 464, 465, 466, 467, 468, 469, 470, 471, 472, 473, 474, 318, 319, 320, 321, 372, 373, 374, 375, 475, 476, 477, 478, 479, 480, 481, 482, 483, 484, 485, 486, 487, 488, 489, 490, 491, 492, 493, 494, 495, 496, 497, 424, 425, 426, 427, 1405, 1406, 1407, 1408, 1409, 1410, 1411, 997, 998, 999, 1000, 210, 211, 498, 499, 500, 501, 1001, 1002, 1003, 1139, 1140, 1141, 1142, 1212, 1213, 1214, 1215, 1004, 1005, 1006, 1007, 278, 279, 280, 281, 1477, 1478, 1479, 1480, 1481, 1482, 1483, 1484, 1485, 1486, 1487, 1488, 1489, 1490, 1491, 1492, 1493, 1494, 1495, 1496, 1497, 1498, 1499, 1500, 1501, 1502, 1503, 1504, 1505, 1506, 1507, 1508, 1509, 1510, 1511, 1512, 1513, 1514, 1515, 1516, 1517, 1518, 1519, 1520, 1521, 1522, 1523, 1524] (by decide +kernel) (by decide +kernel)
set_option maxRecDepth 20000 in
theorem gL_law_X12_nights : GoodIn wsL_law (wsV RL 147 RX12 yX12_nights wsX12_nights) := goodIn_app (goodIn_of _ (by decide +kernel)) ggL_law_X12_nights
set_option maxRecDepth 20000 in
theorem ggL_law_X11_drawn : GoodIn wsL_law wsX11_drawn := goodIn_r _ [1415, 47, 1416, 1417, 1418, 46, 1419, 188, 190, 189, 191, 1460, 1461, 1462, 1463, 1464, 1465, 1466, 1467, 1468, 1469, 1470, 1471, 1472, 1473, 1474, 1475, 1476, 1582, 1583, 1584, 1585, 1586] (by decide +kernel) (by decide +kernel)
set_option maxRecDepth 20000 in
theorem gL_law_X11_drawn : GoodIn wsL_law (wsV RL 148 RX11 yX11_drawn wsX11_drawn) := goodIn_app (goodIn_of _ (by decide +kernel)) ggL_law_X11_drawn
set_option maxRecDepth 20000 in
theorem ggL_law_X12_drawn : GoodIn wsL_law wsX12_drawn := goodIn_r _ [1423, 220, 1404, 219, 261, 262, 5, 263, 1477, 1478, 1479, 1480, 1481, 1482, 1483, 1484, 1485, 1486, 1487, 1488, 1489, 1490, 1491, 1492, 1493, 1494, 1495, 1496, 1497, 1498, 1499, 1500, 1501, 1502, 1503, 1504, 1505, 1506, 1507, 1508, 1509, 1510, 1511, 1512, 1513, 1514, 1515, 1516, 1517, 1518, 1519, 1520, 1521, 1522, 1523, 1524] (by decide +kernel) (by decide +kernel)
set_option maxRecDepth 20000 in
theorem gL_law_X12_drawn : GoodIn wsL_law (wsV RL 151 RX12 yX12_drawn wsX12_drawn) := goodIn_app (goodIn_of _ (by decide +kernel)) ggL_law_X12_drawn
set_option maxRecDepth 20000 in
theorem ggL_law_X11_image : GoodIn wsL_law wsX11_image := goodIn_r _ [1427, 48, 12, 13, 14, 15, 229, 230, 231, 2, 232, 52, 57, 58, 59, 60, 10, 11, 61, 51, 62, 63, 64, 65, 66, 67, 68, 69, 70, 71, 72, 73, 74, 75, 76, 77, 78, 79, 80, 81, 82, 83, 84, 85, 86, 87, 88, 89, 90, 91, 92, 93, 94, 95, 96, 97, 98, 99, 1428, 847, 848, 849, 850, 733, 734, 735, 249, 250, 251, 252, 1460, 1461, 1462, 1463, 1464, 1465, 1466, 1467, 1468, 1469, 1470, 1471, 1472, 1473, 1474, 1475, 1476, 1525, 1526, 1527, 1528, 1529, 1530, 1531, 1532, 1533, 1534, 1535, 1536, 1537, 1538, 1539, 1540, 1541, 1542, 1543, 1544, 1587, 1588, 1589, 1590, 1591] (by decide +kernel) (by decide +kernel)
set_option maxRecDepth 20000 in
theorem gL_law_X11_image : GoodIn wsL_law (wsV RL 152 RX11 yX11_image wsX11_image) := goodIn_app (goodIn_of _ (by decide +kernel)) ggL_law_X11_image
set_option maxRecDepth 20000 in
theorem ggL_law_X12_image : GoodIn wsL_law wsX12_image := goodIn_r _ [1432, 199, 198, 200, 261, 262, 5, 263, 264, 265, 266, 267, 268, 197, 278, 279, 280, 281, 1477, 1478, 1479, 1480, 1481, 1482, 1483, 1484, 1485, 1486, 1487, 1488, 1489, 1490, 1491, 1492, 1493, 1494, 1495, 1496, 1497, 1498, 1499, 1500, 1501, 1502, 1503, 1504, 1505, 1506, 1507, 1508, 1509, 1510, 1511, 1512, 1513, 1514, 1515, 1516, 1517, 1518, 1519, 1520, 1521, 1522, 1523, 1524] (by decide +kernel) (by decide +kernel)
set_option maxRecDepth 20000 in
theorem gL_law_X12_image : GoodIn wsL_law (wsV RL 155 RX12 yX12_image wsX12_image) := goodIn_app (goodIn_of _ (by decide +kernel)) ggL_law_X12_image
set_option maxRecDepth 20000 in
theorem ggL_law_X11_back : GoodIn wsL_law wsX11_back := goodIn_r _ [1436, 48, 15, 19, 229, 230, 231, 2, 232, 52, 57, 1428, 847, 848, 14, 849, 61, 62, 850, 733, 734, 735, 63, 64, 65, 66, 67, 68, 69, 70, 71, 78, 79, 80, 81, 82, 84, 85, 86, 233, 234, 235, 18, 236, 103, 104, 237, 238, 239, 240, 39, 43, 241, 242, 243, 38, 244, 166, 169, 170, 245, 246, 247, 42, 248, 182, 249, 250, 251, 252, 1460, 1461, 1462, 1463, 1464, 1465, 1466, 1467, 1468, 1469, 1470, 1471, 1472, 1473, 1474, 1475, 1476, 1525, 1526, 1527, 1528, 1529, 1530, 1531, 1532, 1533, 1534, 1535, 1536, 1537, 1538, 1539, 1540, 1541, 1542, 1543, 1544, 1545, 1546, 1547, 1569, 1570, 1571, 1572, 1573, 1574, 1575, 1576, 1577, 1578, 1579, 1580, 1581] (by decide +kernel) (by decide +kernel)
set_option maxRecDepth 20000 in
theorem gL_law_X11_back : GoodIn wsL_law (wsV RL 156 RX11 yX11_back wsX11_back) := goodIn_app (goodIn_of _ (by decide +kernel)) ggL_law_X11_back
set_option maxRecDepth 20000 in
theorem ggL_law_X12_back : GoodIn wsL_law wsX12_back := goodIn_r _ [1440, 200, 198, 199, 261, 262, 5, 263, 264, 265, 266, 267, 268, 197, 273, 274, 275, 276, 277, 278, 279, 280, 281, 1477, 1478, 1479, 1480, 1481, 1482, 1483, 1484, 1485, 1486, 1487, 1488, 1489, 1490, 1491, 1492, 1493, 1494, 1495, 1496, 1497, 1498, 1499, 1500, 1501, 1502, 1503, 1504, 1505, 1506, 1507, 1508, 1509, 1510, 1511, 1512, 1513, 1514, 1515, 1516, 1517, 1518, 1519, 1520, 1521, 1522, 1523, 1524] (by decide +kernel) (by decide +kernel)
set_option maxRecDepth 20000 in
theorem gL_law_X12_back : GoodIn wsL_law (wsV RL 159 RX12 yX12_back wsX12_back) := goodIn_app (goodIn_of _ (by decide +kernel)) ggL_law_X12_back
set_option maxRecDepth 20000 in
theorem ggL_law_X11_count : GoodIn wsL_law wsX11_count := goodIn_r _ [1444, 52, 15, 516, 1445, 1446, 1302, 574, 19, 1447, 53, 1028, 1037, 302, 303, 14, 304, 61, 66, 1242, 875, 876, 877, 878, 879, 880, 1460, 1461, 1462, 1463, 1464, 1465, 1466, 1467, 1468, 1469, 1470, 1471, 1472, 1473, 1474, 1475, 1476, 1525, 1526, 1527, 1528, 1529, 1530, 1531, 1532, 1533, 1534, 1535, 1536, 1537, 1538, 1539, 1540, 1541, 1542, 1543, 1544, 1545, 1546, 1547] (by decide +kernel) (by decide +kernel)
set_option maxRecDepth 20000 in
theorem gL_law_X11_count : GoodIn wsL_law (wsV RL 160 RX11 yX11_count wsX11_count) := goodIn_app (goodIn_of _ (by decide +kernel)) ggL_law_X11_count
set_option maxRecDepth 20000 in
theorem ggL_law_X12_count : GoodIn wsL_law wsX12_count := goodIn_r _ [1451, 198, 277, 536, 197, 330, 331, 332, 5, 333, 326, 327, 328, 329, 475, 476, 477, 1477, 1478, 1479, 1480, 1481, 1482, 1483, 1484, 1485, 1486, 1487, 1488, 1489, 1490, 1491, 1492, 1493, 1494, 1495, 1496, 1497, 1498, 1499, 1500, 1501, 1502, 1503, 1504, 1505, 1506, 1507, 1508, 1509, 1510, 1511, 1512, 1513, 1514, 1515, 1516, 1517, 1518, 1519, 1520, 1521, 1522, 1523, 1524] (by decide +kernel) (by decide +kernel)
set_option maxRecDepth 20000 in
theorem gL_law_X12_count : GoodIn wsL_law (wsV RL 163 RX12 yX12_count wsX12_count) := goodIn_app (goodIn_of _ (by decide +kernel)) ggL_law_X12_count
set_option maxRecDepth 20000 in
theorem ggL_law_X11_status : GoodIn wsL_law wsX11_status := goodIn_r _ [1455, 57, 1460, 1461, 1462, 1463, 1464, 1465, 1466, 1467, 1468, 1469, 1470, 1471, 1472, 1473, 1474, 1475, 1476] (by decide +kernel) (by decide +kernel)
set_option maxRecDepth 20000 in
theorem gL_law_X11_status : GoodIn wsL_law (wsV RL 164 RX11 yX11_status wsX11_status) := goodIn_app (goodIn_of _ (by decide +kernel)) ggL_law_X11_status
set_option maxRecDepth 20000 in
theorem ggL_law_X12_status : GoodIn wsL_law wsX12_status := goodIn_r _ [1459, 268, 1477, 1478, 1479, 1480, 1481, 1482, 1483, 1484, 1485, 1486, 1487, 1488, 1489, 1490, 1491, 1492, 1493, 1494, 1495, 1496, 1497, 1498, 1499, 1500, 1501, 1502, 1503, 1504, 1505, 1506, 1507, 1508, 1509, 1510, 1511, 1512, 1513, 1514, 1515, 1516, 1517, 1518, 1519, 1520, 1521, 1522, 1523, 1524] (by decide +kernel) (by decide +kernel)
set_option maxRecDepth 20000 in
theorem gL_law_X12_status : GoodIn wsL_law (wsV RL 167 RX12 yX12_status wsX12_status) := goodIn_app (goodIn_of _ (by decide +kernel)) ggL_law_X12_status
theorem dL_law_0 : decode cL_law 0 = .ok (.new 7, 3) := by decide +kernel
theorem dL_law_3 : decode cL_law 3 = .ok (.dup, 1) := by decide +kernel
theorem dL_law_4 : decode cL_law 4 = .ok (.invokespecial 9, 3) := by decide +kernel
theorem dL_law_7 : decode cL_law 7 = .ok (.astore_n 1, 1) := by decide +kernel
theorem dL_law_8 : decode cL_law 8 = .ok (.new 10, 3) := by decide +kernel
theorem dL_law_11 : decode cL_law 11 = .ok (.dup, 1) := by decide +kernel
theorem dL_law_12 : decode cL_law 12 = .ok (.invokespecial 12, 3) := by decide +kernel
theorem dL_law_15 : decode cL_law 15 = .ok (.astore_n 2, 1) := by decide +kernel
theorem dL_law_16 : decode cL_law 16 = .ok (.iconst 0, 1) := by decide +kernel
theorem dL_law_17 : decode cL_law 17 = .ok (.istore_n 3, 1) := by decide +kernel
theorem dL_law_18 : decode cL_law 18 = .ok (.iload_n 3, 1) := by decide +kernel
theorem dL_law_19 : decode cL_law 19 = .ok (.aload_n 0, 1) := by decide +kernel
theorem dL_law_20 : decode cL_law 20 = .ok (.arraylength, 1) := by decide +kernel
theorem dL_law_21 : decode cL_law 21 = .ok (.bipush 6, 2) := by decide +kernel
theorem dL_law_23 : decode cL_law 23 = .ok (.isub, 1) := by decide +kernel
theorem dL_law_24 : decode cL_law 24 = .ok (.if_icmp .gt 1110, 3) := by decide +kernel
theorem dL_law_27 : decode cL_law 27 = .ok (.aload_n 0, 1) := by decide +kernel
theorem dL_law_28 : decode cL_law 28 = .ok (.iload_n 3, 1) := by decide +kernel
theorem dL_law_29 : decode cL_law 29 = .ok (.iaload, 1) := by decide +kernel
theorem dL_law_30 : decode cL_law 30 = .ok (.bipush 63, 2) := by decide +kernel
theorem dL_law_32 : decode cL_law 32 = .ok (.iand, 1) := by decide +kernel
theorem dL_law_33 : decode cL_law 33 = .ok (.tableswitch 1095 0 36 #[163, 216, 249, 282, 315, 358, 391, 454, 477, 490, 503, 516, 529, 542, 555, 578, 601, 634, 657, 680, 693, 706, 719, 752, 775, 798, 821, 845, 888, 901, 924, 947, 980, 1013, 1036, 1059, 1082], 163) := by decide +kernel
theorem dL_law_196 : decode cL_law 196 = .ok (.aload_n 1, 1) := by decide +kernel
theorem dL_law_197 : decode cL_law 197 = .ok (.aload_n 0, 1) := by decide +kernel
theorem dL_law_198 : decode cL_law 198 = .ok (.iload_n 3, 1) := by decide +kernel
theorem dL_law_199 : decode cL_law 199 = .ok (.iconst 1, 1) := by decide +kernel
theorem dL_law_200 : decode cL_law 200 = .ok (.iadd, 1) := by decide +kernel
theorem dL_law_201 : decode cL_law 201 = .ok (.iaload, 1) := by decide +kernel
theorem dL_law_202 : decode cL_law 202 = .ok (.aload_n 0, 1) := by decide +kernel
theorem dL_law_203 : decode cL_law 203 = .ok (.iload_n 3, 1) := by decide +kernel
theorem dL_law_204 : decode cL_law 204 = .ok (.iconst 2, 1) := by decide +kernel
theorem dL_law_205 : decode cL_law 205 = .ok (.iadd, 1) := by decide +kernel
theorem dL_law_206 : decode cL_law 206 = .ok (.iaload, 1) := by decide +kernel
theorem dL_law_207 : decode cL_law 207 = .ok (.aload_n 0, 1) := by decide +kernel
theorem dL_law_208 : decode cL_law 208 = .ok (.iload_n 3, 1) := by decide +kernel
theorem dL_law_209 : decode cL_law 209 = .ok (.iconst 3, 1) := by decide +kernel
theorem dL_law_210 : decode cL_law 210 = .ok (.iadd, 1) := by decide +kernel
theorem dL_law_211 : decode cL_law 211 = .ok (.iaload, 1) := by decide +kernel
theorem dL_law_212 : decode cL_law 212 = .ok (.aload_n 0, 1) := by decide +kernel
theorem dL_law_213 : decode cL_law 213 = .ok (.iload_n 3, 1) := by decide +kernel
theorem dL_law_214 : decode cL_law 214 = .ok (.iconst 4, 1) := by decide +kernel
theorem dL_law_215 : decode cL_law 215 = .ok (.iadd, 1) := by decide +kernel
theorem dL_law_216 : decode cL_law 216 = .ok (.iaload, 1) := by decide +kernel
theorem dL_law_217 : decode cL_law 217 = .ok (.invokevirtual 13, 3) := by decide +kernel
theorem dL_law_220 : decode cL_law 220 = .ok (.aload_n 2, 1) := by decide +kernel
theorem dL_law_221 : decode cL_law 221 = .ok (.aload_n 0, 1) := by decide +kernel
theorem dL_law_222 : decode cL_law 222 = .ok (.iload_n 3, 1) := by decide +kernel
theorem dL_law_223 : decode cL_law 223 = .ok (.iconst 1, 1) := by decide +kernel
theorem dL_law_224 : decode cL_law 224 = .ok (.iadd, 1) := by decide +kernel
theorem dL_law_225 : decode cL_law 225 = .ok (.iaload, 1) := by decide +kernel
theorem dL_law_226 : decode cL_law 226 = .ok (.aload_n 0, 1) := by decide +kernel
theorem dL_law_227 : decode cL_law 227 = .ok (.iload_n 3, 1) := by decide +kernel
theorem dL_law_228 : decode cL_law 228 = .ok (.iconst 2, 1) := by decide +kernel
theorem dL_law_229 : decode cL_law 229 = .ok (.iadd, 1) := by decide +kernel
theorem dL_law_230 : decode cL_law 230 = .ok (.iaload, 1) := by decide +kernel
theorem dL_law_231 : decode cL_law 231 = .ok (.aload_n 0, 1) := by decide +kernel
theorem dL_law_232 : decode cL_law 232 = .ok (.iload_n 3, 1) := by decide +kernel
theorem dL_law_233 : decode cL_law 233 = .ok (.iconst 3, 1) := by decide +kernel
theorem dL_law_234 : decode cL_law 234 = .ok (.iadd, 1) := by decide +kernel
theorem dL_law_235 : decode cL_law 235 = .ok (.iaload, 1) := by decide +kernel
theorem dL_law_236 : decode cL_law 236 = .ok (.aload_n 0, 1) := by decide +kernel
theorem dL_law_237 : decode cL_law 237 = .ok (.iload_n 3, 1) := by decide +kernel
theorem dL_law_238 : decode cL_law 238 = .ok (.iconst 4, 1) := by decide +kernel
theorem dL_law_239 : decode cL_law 239 = .ok (.iadd, 1) := by decide +kernel
theorem dL_law_240 : decode cL_law 240 = .ok (.iaload, 1) := by decide +kernel
theorem dL_law_241 : decode cL_law 241 = .ok (.invokevirtual 17, 3) := by decide +kernel
theorem dL_law_244 : decode cL_law 244 = .ok (.if_icmp .eq 884, 3) := by decide +kernel
theorem dL_law_247 : decode cL_law 247 = .ok (.iconst 0, 1) := by decide +kernel
theorem dL_law_248 : decode cL_law 248 = .ok (.ireturn, 1) := by decide +kernel
theorem dL_law_249 : decode cL_law 249 = .ok (.aload_n 1, 1) := by decide +kernel
theorem dL_law_250 : decode cL_law 250 = .ok (.aload_n 0, 1) := by decide +kernel
theorem dL_law_251 : decode cL_law 251 = .ok (.iload_n 3, 1) := by decide +kernel
theorem dL_law_252 : decode cL_law 252 = .ok (.iconst 1, 1) := by decide +kernel
theorem dL_law_253 : decode cL_law 253 = .ok (.iadd, 1) := by decide +kernel
theorem dL_law_254 : decode cL_law 254 = .ok (.iaload, 1) := by decide +kernel
theorem dL_law_255 : decode cL_law 255 = .ok (.aload_n 0, 1) := by decide +kernel
theorem dL_law_256 : decode cL_law 256 = .ok (.iload_n 3, 1) := by decide +kernel
theorem dL_law_257 : decode cL_law 257 = .ok (.iconst 2, 1) := by decide +kernel
theorem dL_law_258 : decode cL_law 258 = .ok (.iadd, 1) := by decide +kernel
theorem dL_law_259 : decode cL_law 259 = .ok (.iaload, 1) := by decide +kernel
theorem dL_law_260 : decode cL_law 260 = .ok (.invokevirtual 18, 3) := by decide +kernel
theorem dL_law_263 : decode cL_law 263 = .ok (.aload_n 2, 1) := by decide +kernel
theorem dL_law_264 : decode cL_law 264 = .ok (.aload_n 0, 1) := by decide +kernel
theorem dL_law_265 : decode cL_law 265 = .ok (.iload_n 3, 1) := by decide +kernel
theorem dL_law_266 : decode cL_law 266 = .ok (.iconst 1, 1) := by decide +kernel
theorem dL_law_267 : decode cL_law 267 = .ok (.iadd, 1) := by decide +kernel
theorem dL_law_268 : decode cL_law 268 = .ok (.iaload, 1) := by decide +kernel
theorem dL_law_269 : decode cL_law 269 = .ok (.aload_n 0, 1) := by decide +kernel
