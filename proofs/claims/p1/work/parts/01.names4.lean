theorem dX12_faults_16 : decode cX12_faults 16 = .ok (.iaload, 1) := by decide +kernel
theorem dX12_faults_17 : decode cX12_faults 17 = .ok (.putfield 158, 3) := by decide +kernel
theorem dX12_faults_20 : decode cX12_faults 20 = .ok (.return_, 1) := by decide +kernel
set_option maxRecDepth 20000 in
theorem ggX12_takes0_X12_fine : GoodIn wsX12_takes0 wsX12_fine := goodIn_r _ [7, 8, 9, 10, 11, 12, 13, 14, 15, 16, 17, 18, 19, 20, 21, 22, 23, 24, 25, 26, 27, 28, 29, 30, 31, 32, 33, 34, 35, 36, 37, 38, 39, 40, 41, 42, 43, 44, 45, 46, 47, 48, 49, 50, 51, 52, 53, 54, 55, 56] (by decide +kernel) (by decide +kernel)
set_option maxRecDepth 20000 in
theorem gX12_takes0_X12_fine : GoodIn wsX12_takes0 (wsV RX12 161 RX12 yX12_fine wsX12_fine) := goodIn_app (goodIn_of _ (by decide +kernel)) ggX12_takes0_X12_fine
theorem dX12_takes0_0 : decode cX12_takes0 0 = .ok (.aload_n 0, 1) := by decide +kernel
theorem dX12_takes0_1 : decode cX12_takes0 1 = .ok (.invokevirtual 161, 3) := by decide +kernel
theorem dX12_takes0_4 : decode cX12_takes0 4 = .ok (.ifCond .eq 20, 3) := by decide +kernel
theorem dX12_takes0_7 : decode cX12_takes0 7 = .ok (.aload_n 0, 1) := by decide +kernel
theorem dX12_takes0_8 : decode cX12_takes0 8 = .ok (.getfield 50, 3) := by decide +kernel
theorem dX12_takes0_11 : decode cX12_takes0 11 = .ok (.aload_n 0, 1) := by decide +kernel
theorem dX12_takes0_12 : decode cX12_takes0 12 = .ok (.getfield 165, 3) := by decide +kernel
theorem dX12_takes0_15 : decode cX12_takes0 15 = .ok (.iaload, 1) := by decide +kernel
theorem dX12_takes0_16 : decode cX12_takes0 16 = .ok (.iload_n 1, 1) := by decide +kernel
theorem dX12_takes0_17 : decode cX12_takes0 17 = .ok (.if_icmp .ne 7, 3) := by decide +kernel
theorem dX12_takes0_20 : decode cX12_takes0 20 = .ok (.iconst 1, 1) := by decide +kernel
theorem dX12_takes0_21 : decode cX12_takes0 21 = .ok (.goto 4, 3) := by decide +kernel
theorem dX12_takes0_24 : decode cX12_takes0 24 = .ok (.iconst 0, 1) := by decide +kernel
theorem dX12_takes0_25 : decode cX12_takes0 25 = .ok (.istore_n 2, 1) := by decide +kernel
theorem dX12_takes0_26 : decode cX12_takes0 26 = .ok (.iload_n 2, 1) := by decide +kernel
theorem dX12_takes0_27 : decode cX12_takes0 27 = .ok (.ifCond .eq 13, 3) := by decide +kernel
theorem dX12_takes0_30 : decode cX12_takes0 30 = .ok (.aload_n 0, 1) := by decide +kernel
theorem dX12_takes0_31 : decode cX12_takes0 31 = .ok (.dup, 1) := by decide +kernel
theorem dX12_takes0_32 : decode cX12_takes0 32 = .ok (.getfield 165, 3) := by decide +kernel
theorem dX12_takes0_35 : decode cX12_takes0 35 = .ok (.iconst 1, 1) := by decide +kernel
theorem dX12_takes0_36 : decode cX12_takes0 36 = .ok (.iadd, 1) := by decide +kernel
theorem dX12_takes0_37 : decode cX12_takes0 37 = .ok (.putfield 165, 3) := by decide +kernel
theorem dX12_takes0_40 : decode cX12_takes0 40 = .ok (.iload_n 2, 1) := by decide +kernel
theorem dX12_takes0_41 : decode cX12_takes0 41 = .ok (.ireturn, 1) := by decide +kernel
set_option maxRecDepth 20000 in
theorem ggX12_must_X12_takes0 : GoodIn wsX12_must wsX12_takes0 := goodIn_r _ [5, 6, 7, 8, 9, 10, 4, 11, 12, 18, 19, 20, 21, 22, 23, 24, 25, 26, 27, 28, 29, 30, 31, 32, 33, 34, 35, 36, 37, 38, 39, 40, 41, 42, 43, 44, 45, 46, 47, 48, 49, 50, 51, 52, 53, 54, 55, 56, 57, 58, 59, 60, 61, 62, 63, 64, 65] (by decide +kernel) (by decide +kernel)
set_option maxRecDepth 20000 in
theorem gX12_must_X12_takes0 : GoodIn wsX12_must (wsV RX12 168 RX12 yX12_takes0 wsX12_takes0) := goodIn_app (goodIn_of _ (by decide +kernel)) ggX12_must_X12_takes0
set_option maxRecDepth 20000 in
theorem ggX12_must_X12_faults : GoodIn wsX12_must wsX12_faults := goodIn_r _ [16, 17, 7, 12, 8, 9, 10, 4, 11, 18, 19, 20, 21, 22, 23, 24, 25, 26, 27, 28, 29, 30, 31, 32, 33, 34, 35, 36, 37, 38, 39, 40, 41, 42, 43, 44, 45, 46, 47, 48, 49, 50, 51, 52, 53, 54, 55, 56, 57, 58, 59, 60, 61, 62, 63, 64, 65] (by decide +kernel) (by decide +kernel)
set_option maxRecDepth 20000 in
theorem gX12_must_X12_faults : GoodIn wsX12_must (wsV RX12 171 RX12 yX12_faults wsX12_faults) := goodIn_app (goodIn_of _ (by decide +kernel)) ggX12_must_X12_faults
theorem dX12_must_0 : decode cX12_must 0 = .ok (.aload_n 0, 1) := by decide +kernel
theorem dX12_must_1 : decode cX12_must 1 = .ok (.iload_n 1, 1) := by decide +kernel
theorem dX12_must_2 : decode cX12_must 2 = .ok (.invokevirtual 168, 3) := by decide +kernel
theorem dX12_must_5 : decode cX12_must 5 = .ok (.ifCond .ne 7, 3) := by decide +kernel
theorem dX12_must_8 : decode cX12_must 8 = .ok (.aload_n 0, 1) := by decide +kernel
theorem dX12_must_9 : decode cX12_must 9 = .ok (.invokevirtual 171, 3) := by decide +kernel
theorem dX12_must_12 : decode cX12_must 12 = .ok (.return_, 1) := by decide +kernel
set_option maxRecDepth 20000 in
theorem ggX12_leaf_X12_faults : GoodIn wsX12_leaf wsX12_faults := goodIn_r _ [7, 8, 2, 9, 10, 11, 12, 6, 13, 14, 15, 16, 17, 18, 19, 20, 21, 22, 23, 24, 25, 26, 27, 28, 29, 30, 31, 32, 33, 34, 35, 36, 37, 38, 39, 40, 41, 42, 43, 44, 45, 46, 47, 48, 49, 50, 51, 52, 53, 54, 55, 56, 57, 58, 59, 60, 61] (by decide +kernel) (by decide +kernel)
set_option maxRecDepth 20000 in
theorem gX12_leaf_X12_faults : GoodIn wsX12_leaf (wsV RX12 171 RX12 yX12_faults wsX12_faults) := goodIn_app (goodIn_of _ (by decide +kernel)) ggX12_leaf_X12_faults
set_option maxRecDepth 20000 in
theorem ggX12_leaf_X12_fine : GoodIn wsX12_leaf wsX12_fine := goodIn_r _ [13, 9, 14, 15, 16, 17, 18, 19, 20, 21, 22, 23, 24, 25, 26, 27, 28, 29, 30, 31, 32, 33, 34, 35, 36, 37, 38, 39, 40, 41, 42, 43, 44, 45, 46, 47, 48, 49, 50, 51, 52, 53, 54, 55, 56, 57, 58, 59, 60, 61] (by decide +kernel) (by decide +kernel)
set_option maxRecDepth 20000 in
theorem gX12_leaf_X12_fine : GoodIn wsX12_leaf (wsV RX12 161 RX12 yX12_fine wsX12_fine) := goodIn_app (goodIn_of _ (by decide +kernel)) ggX12_leaf_X12_fine
theorem dX12_leaf_0 : decode cX12_leaf 0 = .ok (.aload_n 0, 1) := by decide +kernel
theorem dX12_leaf_1 : decode cX12_leaf 1 = .ok (.getfield 174, 3) := by decide +kernel
theorem dX12_leaf_4 : decode cX12_leaf 4 = .ok (.bipush 50, 2) := by decide +kernel
theorem dX12_leaf_6 : decode cX12_leaf 6 = .ok (.if_icmp .ne 7, 3) := by decide +kernel
theorem dX12_leaf_9 : decode cX12_leaf 9 = .ok (.aload_n 0, 1) := by decide +kernel
theorem dX12_leaf_10 : decode cX12_leaf 10 = .ok (.invokevirtual 171, 3) := by decide +kernel
theorem dX12_leaf_13 : decode cX12_leaf 13 = .ok (.aload_n 0, 1) := by decide +kernel
theorem dX12_leaf_14 : decode cX12_leaf 14 = .ok (.dup, 1) := by decide +kernel
theorem dX12_leaf_15 : decode cX12_leaf 15 = .ok (.getfield 174, 3) := by decide +kernel
theorem dX12_leaf_18 : decode cX12_leaf 18 = .ok (.iconst 1, 1) := by decide +kernel
theorem dX12_leaf_19 : decode cX12_leaf 19 = .ok (.iadd, 1) := by decide +kernel
theorem dX12_leaf_20 : decode cX12_leaf 20 = .ok (.putfield 174, 3) := by decide +kernel
theorem dX12_leaf_23 : decode cX12_leaf 23 = .ok (.aload_n 0, 1) := by decide +kernel
theorem dX12_leaf_24 : decode cX12_leaf 24 = .ok (.invokevirtual 161, 3) := by decide +kernel
theorem dX12_leaf_27 : decode cX12_leaf 27 = .ok (.ifCond .eq 13, 3) := by decide +kernel
theorem dX12_leaf_30 : decode cX12_leaf 30 = .ok (.aload_n 0, 1) := by decide +kernel
theorem dX12_leaf_31 : decode cX12_leaf 31 = .ok (.dup, 1) := by decide +kernel
theorem dX12_leaf_32 : decode cX12_leaf 32 = .ok (.getfield 165, 3) := by decide +kernel
theorem dX12_leaf_35 : decode cX12_leaf 35 = .ok (.iconst 1, 1) := by decide +kernel
theorem dX12_leaf_36 : decode cX12_leaf 36 = .ok (.iadd, 1) := by decide +kernel
theorem dX12_leaf_37 : decode cX12_leaf 37 = .ok (.putfield 165, 3) := by decide +kernel
theorem dX12_leaf_40 : decode cX12_leaf 40 = .ok (.return_, 1) := by decide +kernel
theorem dX12_sign_0 : decode cX12_sign 0 = .ok (.bipush 100, 2) := by decide +kernel
theorem dX12_sign_2 : decode cX12_sign 2 = .ok (.iload_n 0, 1) := by decide +kernel
theorem dX12_sign_3 : decode cX12_sign 3 = .ok (.iadd, 1) := by decide +kernel
theorem dX12_sign_4 : decode cX12_sign 4 = .ok (.ireturn, 1) := by decide +kernel
set_option maxRecDepth 20000 in
theorem ggX12_mustNumber_X12_fine : GoodIn wsX12_mustNumber wsX12_fine := goodIn_r _ [8, 9, 18, 19, 20, 21, 22, 23, 24, 25, 26, 27, 28, 29, 30, 31, 32, 33, 34, 35, 36, 37, 38, 39, 40, 41, 42, 43, 44, 45, 46, 47, 48, 49, 50, 51, 52, 53, 54, 55, 56, 57, 58, 59, 60, 61, 62, 63, 64, 65] (by decide +kernel) (by decide +kernel)
set_option maxRecDepth 20000 in
theorem gX12_mustNumber_X12_fine : GoodIn wsX12_mustNumber (wsV RX12 161 RX12 yX12_fine wsX12_fine) := goodIn_app (goodIn_of _ (by decide +kernel)) ggX12_mustNumber_X12_fine
set_option maxRecDepth 20000 in
theorem ggX12_mustNumber_X12_lies : GoodIn wsX12_mustNumber wsX12_lies := goodIn_r _ [12] (by decide +kernel) (by decide +kernel)
set_option maxRecDepth 20000 in
theorem gX12_mustNumber_X12_lies : GoodIn wsX12_mustNumber (va_wsS RX12 96 yX12_lies wsX12_lies) := goodIn_app (goodIn_of _ (by decide +kernel)) ggX12_mustNumber_X12_lies
set_option maxRecDepth 20000 in
theorem ggX12_mustNumber_X12_faults : GoodIn wsX12_mustNumber wsX12_faults := goodIn_r _ [16, 17, 2, 9, 4, 5, 6, 7, 8, 18, 19, 20, 21, 22, 23, 24, 25, 26, 27, 28, 29, 30, 31, 32, 33, 34, 35, 36, 37, 38, 39, 40, 41, 42, 43, 44, 45, 46, 47, 48, 49, 50, 51, 52, 53, 54, 55, 56, 57, 58, 59, 60, 61, 62, 63, 64, 65] (by decide +kernel) (by decide +kernel)
set_option maxRecDepth 20000 in
theorem gX12_mustNumber_X12_faults : GoodIn wsX12_mustNumber (wsV RX12 171 RX12 yX12_faults wsX12_faults) := goodIn_app (goodIn_of _ (by decide +kernel)) ggX12_mustNumber_X12_faults
theorem dX12_mustNumber_0 : decode cX12_mustNumber 0 = .ok (.aload_n 0, 1) := by decide +kernel
theorem dX12_mustNumber_1 : decode cX12_mustNumber 1 = .ok (.invokevirtual 161, 3) := by decide +kernel
theorem dX12_mustNumber_4 : decode cX12_mustNumber 4 = .ok (.ifCond .eq 38, 3) := by decide +kernel
theorem dX12_mustNumber_7 : decode cX12_mustNumber 7 = .ok (.aload_n 0, 1) := by decide +kernel
theorem dX12_mustNumber_8 : decode cX12_mustNumber 8 = .ok (.getfield 50, 3) := by decide +kernel
theorem dX12_mustNumber_11 : decode cX12_mustNumber 11 = .ok (.aload_n 0, 1) := by decide +kernel
theorem dX12_mustNumber_12 : decode cX12_mustNumber 12 = .ok (.getfield 165, 3) := by decide +kernel
theorem dX12_mustNumber_15 : decode cX12_mustNumber 15 = .ok (.iaload, 1) := by decide +kernel
theorem dX12_mustNumber_16 : decode cX12_mustNumber 16 = .ok (.bipush 50, 2) := by decide +kernel
theorem dX12_mustNumber_18 : decode cX12_mustNumber 18 = .ok (.if_icmp .ne 20, 3) := by decide +kernel
theorem dX12_mustNumber_21 : decode cX12_mustNumber 21 = .ok (.aload_n 0, 1) := by decide +kernel
theorem dX12_mustNumber_22 : decode cX12_mustNumber 22 = .ok (.getfield 53, 3) := by decide +kernel
theorem dX12_mustNumber_25 : decode cX12_mustNumber 25 = .ok (.aload_n 0, 1) := by decide +kernel
theorem dX12_mustNumber_26 : decode cX12_mustNumber 26 = .ok (.getfield 165, 3) := by decide +kernel
theorem dX12_mustNumber_29 : decode cX12_mustNumber 29 = .ok (.iaload, 1) := by decide +kernel
theorem dX12_mustNumber_30 : decode cX12_mustNumber 30 = .ok (.iload_n 1, 1) := by decide +kernel
theorem dX12_mustNumber_31 : decode cX12_mustNumber 31 = .ok (.iload_n 2, 1) := by decide +kernel
theorem dX12_mustNumber_32 : decode cX12_mustNumber 32 = .ok (.invokestatic 96, 3) := by decide +kernel
theorem dX12_mustNumber_35 : decode cX12_mustNumber 35 = .ok (.ifCond .ne 7, 3) := by decide +kernel
theorem dX12_mustNumber_38 : decode cX12_mustNumber 38 = .ok (.aload_n 0, 1) := by decide +kernel
theorem dX12_mustNumber_39 : decode cX12_mustNumber 39 = .ok (.invokevirtual 171, 3) := by decide +kernel
theorem dX12_mustNumber_42 : decode cX12_mustNumber 42 = .ok (.aload_n 0, 1) := by decide +kernel
theorem dX12_mustNumber_43 : decode cX12_mustNumber 43 = .ok (.invokevirtual 161, 3) := by decide +kernel
theorem dX12_mustNumber_46 : decode cX12_mustNumber 46 = .ok (.ifCond .eq 13, 3) := by decide +kernel
theorem dX12_mustNumber_49 : decode cX12_mustNumber 49 = .ok (.aload_n 0, 1) := by decide +kernel
theorem dX12_mustNumber_50 : decode cX12_mustNumber 50 = .ok (.dup, 1) := by decide +kernel
theorem dX12_mustNumber_51 : decode cX12_mustNumber 51 = .ok (.getfield 165, 3) := by decide +kernel
theorem dX12_mustNumber_54 : decode cX12_mustNumber 54 = .ok (.iconst 1, 1) := by decide +kernel
theorem dX12_mustNumber_55 : decode cX12_mustNumber 55 = .ok (.iadd, 1) := by decide +kernel
theorem dX12_mustNumber_56 : decode cX12_mustNumber 56 = .ok (.putfield 165, 3) := by decide +kernel
theorem dX12_mustNumber_59 : decode cX12_mustNumber 59 = .ok (.return_, 1) := by decide +kernel
set_option maxRecDepth 20000 in
theorem ggX12_readClause_X12_takes0 : GoodIn wsX12_readClause wsX12_takes0 := goodIn_r _ [5, 6, 7, 8, 9, 10, 4, 11, 12, 65, 66, 67, 68, 69, 70, 71, 72, 73, 74, 75, 76, 77, 78, 79, 80, 81, 82, 83, 84, 85, 86, 87, 88, 89, 90, 91, 92, 93, 94, 95, 96, 97, 98, 99, 100, 101, 102, 103, 104, 105, 106, 107, 108, 109, 110, 111, 112] (by decide +kernel) (by decide +kernel)
set_option maxRecDepth 20000 in
theorem gX12_readClause_X12_takes0 : GoodIn wsX12_readClause (wsV RX12 168 RX12 yX12_takes0 wsX12_takes0) := goodIn_app (goodIn_of _ (by decide +kernel)) ggX12_readClause_X12_takes0
set_option maxRecDepth 20000 in
theorem ggX12_readClause_X12_readSum : GoodIn wsX12_readClause wsX12_readSum := goodIn_r _ [16, 17, 18, 19, 4, 20, 21, 22, 1, 2, 3, 5, 6, 7, 8, 9, 10, 11, 12, 23, 24, 25, 26, 27, 28, 29, 30, 31, 32, 13, 14, 15, 33, 34, 35, 36, 37, 38, 39, 40, 41, 42, 43, 44, 45, 46, 47, 48, 49, 50, 51, 52, 65, 66, 67, 68, 69, 70, 71, 72, 73, 74, 75, 76, 77, 78, 79, 80, 81, 82, 83, 84, 85, 86, 87, 88, 89, 90, 91, 92, 93, 94, 95, 96, 97, 98, 99, 100, 101, 102, 103, 104, 105, 106, 107, 108, 109, 110, 111, 112] (by decide +kernel) (by decide +kernel)
set_option maxRecDepth 20000 in
theorem gX12_readClause_X12_readSum : GoodIn wsX12_readClause (wsV RX12 177 RX12 yX12_readSum wsX12_readSum) := goodIn_app (goodIn_of _ (by decide +kernel)) ggX12_readClause_X12_readSum
set_option maxRecDepth 20000 in
theorem ggX12_readClause_X12_must : GoodIn wsX12_readClause wsX12_must := goodIn_r _ [36, 1, 2, 3, 4, 5, 6, 7, 8, 9, 10, 11, 12, 28, 29, 30, 31, 32, 65, 66, 67, 68, 69, 70, 71, 72, 73, 74, 75, 76, 77, 78, 79, 80, 81, 82, 83, 84, 85, 86, 87, 88, 89, 90, 91, 92, 93, 94, 95, 96, 97, 98, 99, 100, 101, 102, 103, 104, 105, 106, 107, 108, 109, 110, 111, 112] (by decide +kernel) (by decide +kernel)
set_option maxRecDepth 20000 in
theorem gX12_readClause_X12_must : GoodIn wsX12_readClause (wsV RX12 181 RX12 yX12_must wsX12_must) := goodIn_app (goodIn_of _ (by decide +kernel)) ggX12_readClause_X12_must
set_option maxRecDepth 20000 in
theorem ggX12_readClause_X12_readTest : GoodIn wsX12_readClause wsX12_readTest := goodIn_r _ [56, 57, 58, 59, 4, 1, 2, 3, 5, 6, 7, 8, 9, 10, 11, 12, 60, 61, 62, 63, 64, 20, 21, 22, 28, 29, 30, 31, 32, 53, 54, 55, 33, 34, 35, 36, 13, 14, 15, 16, 17, 18, 19, 23, 24, 25, 26, 27, 37, 38, 39, 40, 41, 42, 43, 44, 45, 46, 47, 48, 49, 50, 51, 52, 65, 66, 67, 68, 69, 70, 71, 72, 73, 74, 75, 76, 77, 78, 79, 80, 81, 82, 83, 84, 85, 86, 87, 88, 89, 90, 91, 92, 93, 94, 95, 96, 97, 98, 99, 100, 101, 102, 103, 104, 105, 106, 107, 108, 109, 110, 111, 112] (by decide +kernel) (by decide +kernel)
set_option maxRecDepth 20000 in
theorem gX12_readClause_X12_readTest : GoodIn wsX12_readClause (wsV RX12 184 RX12 yX12_readTest wsX12_readTest) := goodIn_app (goodIn_of _ (by decide +kernel)) ggX12_readClause_X12_readTest
theorem dX12_readClause_0 : decode cX12_readClause 0 = .ok (.aload_n 0, 1) := by decide +kernel
theorem dX12_readClause_1 : decode cX12_readClause 1 = .ok (.iconst 1, 1) := by decide +kernel
theorem dX12_readClause_2 : decode cX12_readClause 2 = .ok (.invokevirtual 168, 3) := by decide +kernel
theorem dX12_readClause_5 : decode cX12_readClause 5 = .ok (.ifCond .ne 19, 3) := by decide +kernel
theorem dX12_readClause_8 : decode cX12_readClause 8 = .ok (.aload_n 0, 1) := by decide +kernel
theorem dX12_readClause_9 : decode cX12_readClause 9 = .ok (.iconst 2, 1) := by decide +kernel
theorem dX12_readClause_10 : decode cX12_readClause 10 = .ok (.invokevirtual 168, 3) := by decide +kernel
theorem dX12_readClause_13 : decode cX12_readClause 13 = .ok (.ifCond .ne 11, 3) := by decide +kernel
theorem dX12_readClause_16 : decode cX12_readClause 16 = .ok (.aload_n 0, 1) := by decide +kernel
theorem dX12_readClause_17 : decode cX12_readClause 17 = .ok (.iconst 3, 1) := by decide +kernel
theorem dX12_readClause_18 : decode cX12_readClause 18 = .ok (.invokevirtual 168, 3) := by decide +kernel
theorem dX12_readClause_21 : decode cX12_readClause 21 = .ok (.ifCond .eq 11, 3) := by decide +kernel
theorem dX12_readClause_24 : decode cX12_readClause 24 = .ok (.aload_n 0, 1) := by decide +kernel
theorem dX12_readClause_25 : decode cX12_readClause 25 = .ok (.iconst 0, 1) := by decide +kernel
theorem dX12_readClause_26 : decode cX12_readClause 26 = .ok (.invokevirtual 177, 3) := by decide +kernel
theorem dX12_readClause_29 : decode cX12_readClause 29 = .ok (.goto 8, 3) := by decide +kernel
theorem dX12_readClause_32 : decode cX12_readClause 32 = .ok (.aload_n 0, 1) := by decide +kernel
theorem dX12_readClause_33 : decode cX12_readClause 33 = .ok (.iconst 4, 1) := by decide +kernel
theorem dX12_readClause_34 : decode cX12_readClause 34 = .ok (.invokevirtual 181, 3) := by decide +kernel
theorem dX12_readClause_37 : decode cX12_readClause 37 = .ok (.aload_n 0, 1) := by decide +kernel
theorem dX12_readClause_38 : decode cX12_readClause 38 = .ok (.iconst 5, 1) := by decide +kernel
theorem dX12_readClause_39 : decode cX12_readClause 39 = .ok (.invokevirtual 168, 3) := by decide +kernel
theorem dX12_readClause_42 : decode cX12_readClause 42 = .ok (.ifCond .eq 8, 3) := by decide +kernel
theorem dX12_readClause_45 : decode cX12_readClause 45 = .ok (.aload_n 0, 1) := by decide +kernel
theorem dX12_readClause_46 : decode cX12_readClause 46 = .ok (.iconst 0, 1) := by decide +kernel
theorem dX12_readClause_47 : decode cX12_readClause 47 = .ok (.invokevirtual 184, 3) := by decide +kernel
theorem dX12_readClause_50 : decode cX12_readClause 50 = .ok (.return_, 1) := by decide +kernel
set_option maxRecDepth 20000 in
theorem ggX12_readOrder_X12_takes0 : GoodIn wsX12_readOrder wsX12_takes0 := goodIn_r _ [5, 6, 7, 8, 9, 10, 4, 11, 12, 65, 66, 67, 68, 69, 70, 71, 72, 73, 74, 75, 76, 77, 78, 79, 80, 81, 82, 83, 84, 85, 86, 87, 88, 89, 90, 91, 92, 93, 94, 95, 96, 97, 98, 99, 100, 101, 102, 103, 104, 105, 106, 107, 108, 109, 110, 111, 112] (by decide +kernel) (by decide +kernel)
set_option maxRecDepth 20000 in
theorem gX12_readOrder_X12_takes0 : GoodIn wsX12_readOrder (wsV RX12 168 RX12 yX12_takes0 wsX12_takes0) := goodIn_app (goodIn_of _ (by decide +kernel)) ggX12_readOrder_X12_takes0
set_option maxRecDepth 20000 in
theorem ggX12_readOrder_X12_readSum : GoodIn wsX12_readOrder wsX12_readSum := goodIn_r _ [16, 17, 18, 19, 4, 20, 21, 22, 1, 2, 3, 5, 6, 7, 8, 9, 10, 11, 12, 23, 24, 25, 26, 27, 28, 29, 30, 31, 32, 13, 14, 15, 33, 34, 35, 36, 37, 38, 39, 40, 41, 42, 43, 44, 45, 46, 47, 48, 49, 50, 51, 52, 65, 66, 67, 68, 69, 70, 71, 72, 73, 74, 75, 76, 77, 78, 79, 80, 81, 82, 83, 84, 85, 86, 87, 88, 89, 90, 91, 92, 93, 94, 95, 96, 97, 98, 99, 100, 101, 102, 103, 104, 105, 106, 107, 108, 109, 110, 111, 112] (by decide +kernel) (by decide +kernel)
set_option maxRecDepth 20000 in
theorem gX12_readOrder_X12_readSum : GoodIn wsX12_readOrder (wsV RX12 177 RX12 yX12_readSum wsX12_readSum) := goodIn_app (goodIn_of _ (by decide +kernel)) ggX12_readOrder_X12_readSum
set_option maxRecDepth 20000 in
theorem ggX12_readOrder_X12_must : GoodIn wsX12_readOrder wsX12_must := goodIn_r _ [36, 1, 2, 3, 4, 5, 6, 7, 8, 9, 10, 11, 12, 28, 29, 30, 31, 32, 65, 66, 67, 68, 69, 70, 71, 72, 73, 74, 75, 76, 77, 78, 79, 80, 81, 82, 83, 84, 85, 86, 87, 88, 89, 90, 91, 92, 93, 94, 95, 96, 97, 98, 99, 100, 101, 102, 103, 104, 105, 106, 107, 108, 109, 110, 111, 112] (by decide +kernel) (by decide +kernel)
set_option maxRecDepth 20000 in
theorem gX12_readOrder_X12_must : GoodIn wsX12_readOrder (wsV RX12 181 RX12 yX12_must wsX12_must) := goodIn_app (goodIn_of _ (by decide +kernel)) ggX12_readOrder_X12_must
set_option maxRecDepth 20000 in
theorem ggX12_readOrder_X12_mustNumber : GoodIn wsX12_readOrder wsX12_mustNumber := goodIn_r _ [45, 6, 7, 24, 8, 9, 10, 4, 11, 12, 46, 47, 48, 28, 29, 30, 31, 32, 65, 66, 67, 68, 69, 70, 71, 72, 73, 74, 75, 76, 77, 78, 79, 80, 81, 82, 83, 84, 85, 86, 87, 88, 89, 90, 91, 92, 93, 94, 95, 96, 97, 98, 99, 100, 101, 102, 103, 104, 105, 106, 107, 108, 109, 110, 111, 112] (by decide +kernel) (by decide +kernel)
set_option maxRecDepth 20000 in
theorem gX12_readOrder_X12_mustNumber : GoodIn wsX12_readOrder (wsV RX12 187 RX12 yX12_mustNumber wsX12_mustNumber) := goodIn_app (goodIn_of _ (by decide +kernel)) ggX12_readOrder_X12_mustNumber
set_option maxRecDepth 20000 in
theorem ggX12_readOrder_X12_readTest : GoodIn wsX12_readOrder wsX12_readTest := goodIn_r _ [56, 57, 58, 59, 4, 1, 2, 3, 5, 6, 7, 8, 9, 10, 11, 12, 60, 61, 62, 63, 64, 20, 21, 22, 28, 29, 30, 31, 32, 53, 54, 55, 33, 34, 35, 36, 13, 14, 15, 16, 17, 18, 19, 23, 24, 25, 26, 27, 37, 38, 39, 40, 41, 42, 43, 44, 45, 46, 47, 48, 49, 50, 51, 52, 65, 66, 67, 68, 69, 70, 71, 72, 73, 74, 75, 76, 77, 78, 79, 80, 81, 82, 83, 84, 85, 86, 87, 88, 89, 90, 91, 92, 93, 94, 95, 96, 97, 98, 99, 100, 101, 102, 103, 104, 105, 106, 107, 108, 109, 110, 111, 112] (by decide +kernel) (by decide +kernel)
set_option maxRecDepth 20000 in
theorem gX12_readOrder_X12_readTest : GoodIn wsX12_readOrder (wsV RX12 184 RX12 yX12_readTest wsX12_readTest) := goodIn_app (goodIn_of _ (by decide +kernel)) ggX12_readOrder_X12_readTest
theorem dX12_readOrder_0 : decode cX12_readOrder 0 = .ok (.aload_n 0, 1) := by decide +kernel
theorem dX12_readOrder_1 : decode cX12_readOrder 1 = .ok (.bipush 23, 2) := by decide +kernel
theorem dX12_readOrder_3 : decode cX12_readOrder 3 = .ok (.invokevirtual 168, 3) := by decide +kernel
theorem dX12_readOrder_6 : decode cX12_readOrder 6 = .ok (.ifCond .eq 22, 3) := by decide +kernel
theorem dX12_readOrder_9 : decode cX12_readOrder 9 = .ok (.aload_n 0, 1) := by decide +kernel
theorem dX12_readOrder_10 : decode cX12_readOrder 10 = .ok (.iconst 0, 1) := by decide +kernel
theorem dX12_readOrder_11 : decode cX12_readOrder 11 = .ok (.invokevirtual 177, 3) := by decide +kernel
theorem dX12_readOrder_14 : decode cX12_readOrder 14 = .ok (.aload_n 0, 1) := by decide +kernel
theorem dX12_readOrder_15 : decode cX12_readOrder 15 = .ok (.bipush 24, 2) := by decide +kernel
theorem dX12_readOrder_17 : decode cX12_readOrder 17 = .ok (.invokevirtual 181, 3) := by decide +kernel
theorem dX12_readOrder_20 : decode cX12_readOrder 20 = .ok (.aload_n 0, 1) := by decide +kernel
theorem dX12_readOrder_21 : decode cX12_readOrder 21 = .ok (.iconst 0, 1) := by decide +kernel
theorem dX12_readOrder_22 : decode cX12_readOrder 22 = .ok (.invokevirtual 177, 3) := by decide +kernel
theorem dX12_readOrder_25 : decode cX12_readOrder 25 = .ok (.goto 35, 3) := by decide +kernel
theorem dX12_readOrder_28 : decode cX12_readOrder 28 = .ok (.aload_n 0, 1) := by decide +kernel
theorem dX12_readOrder_29 : decode cX12_readOrder 29 = .ok (.bipush 25, 2) := by decide +kernel
theorem dX12_readOrder_31 : decode cX12_readOrder 31 = .ok (.invokevirtual 168, 3) := by decide +kernel
theorem dX12_readOrder_34 : decode cX12_readOrder 34 = .ok (.ifCond .ne 12, 3) := by decide +kernel
theorem dX12_readOrder_37 : decode cX12_readOrder 37 = .ok (.aload_n 0, 1) := by decide +kernel
theorem dX12_readOrder_38 : decode cX12_readOrder 38 = .ok (.bipush 26, 2) := by decide +kernel
theorem dX12_readOrder_40 : decode cX12_readOrder 40 = .ok (.invokevirtual 168, 3) := by decide +kernel
theorem dX12_readOrder_43 : decode cX12_readOrder 43 = .ok (.ifCond .eq 11, 3) := by decide +kernel
theorem dX12_readOrder_46 : decode cX12_readOrder 46 = .ok (.aload_n 0, 1) := by decide +kernel
theorem dX12_readOrder_47 : decode cX12_readOrder 47 = .ok (.iconst 0, 1) := by decide +kernel
theorem dX12_readOrder_48 : decode cX12_readOrder 48 = .ok (.invokevirtual 177, 3) := by decide +kernel
theorem dX12_readOrder_51 : decode cX12_readOrder 51 = .ok (.goto 9, 3) := by decide +kernel
theorem dX12_readOrder_54 : decode cX12_readOrder 54 = .ok (.aload_n 0, 1) := by decide +kernel
theorem dX12_readOrder_55 : decode cX12_readOrder 55 = .ok (.bipush 27, 2) := by decide +kernel
theorem dX12_readOrder_57 : decode cX12_readOrder 57 = .ok (.invokevirtual 181, 3) := by decide +kernel
theorem dX12_readOrder_60 : decode cX12_readOrder 60 = .ok (.aload_n 0, 1) := by decide +kernel
theorem dX12_readOrder_61 : decode cX12_readOrder 61 = .ok (.bipush 28, 2) := by decide +kernel
theorem dX12_readOrder_63 : decode cX12_readOrder 63 = .ok (.invokevirtual 168, 3) := by decide +kernel
theorem dX12_readOrder_66 : decode cX12_readOrder 66 = .ok (.ifCond .eq 10, 3) := by decide +kernel
theorem dX12_readOrder_69 : decode cX12_readOrder 69 = .ok (.aload_n 0, 1) := by decide +kernel
theorem dX12_readOrder_70 : decode cX12_readOrder 70 = .ok (.iconst 1, 1) := by decide +kernel
theorem dX12_readOrder_71 : decode cX12_readOrder 71 = .ok (.bipush 20, 2) := by decide +kernel
theorem dX12_readOrder_73 : decode cX12_readOrder 73 = .ok (.invokevirtual 187, 3) := by decide +kernel
theorem dX12_readOrder_76 : decode cX12_readOrder 76 = .ok (.aload_n 0, 1) := by decide +kernel
theorem dX12_readOrder_77 : decode cX12_readOrder 77 = .ok (.iconst 5, 1) := by decide +kernel
theorem dX12_readOrder_78 : decode cX12_readOrder 78 = .ok (.invokevirtual 168, 3) := by decide +kernel
theorem dX12_readOrder_81 : decode cX12_readOrder 81 = .ok (.ifCond .eq 8, 3) := by decide +kernel
theorem dX12_readOrder_84 : decode cX12_readOrder 84 = .ok (.aload_n 0, 1) := by decide +kernel
theorem dX12_readOrder_85 : decode cX12_readOrder 85 = .ok (.iconst 0, 1) := by decide +kernel
theorem dX12_readOrder_86 : decode cX12_readOrder 86 = .ok (.invokevirtual 184, 3) := by decide +kernel
theorem dX12_readOrder_89 : decode cX12_readOrder 89 = .ok (.return_, 1) := by decide +kernel
set_option maxRecDepth 20000 in
theorem ggX12_readOne_X12_readOrder : GoodIn wsX12_readOne wsX12_readOrder := goodIn_r _ [6, 7, 8, 9, 5, 10, 11, 12, 13, 14, 15, 16, 17, 18, 19, 20, 21, 22, 23, 24, 25, 26, 27, 28, 29, 30, 31, 1, 32, 33, 34, 35, 36, 37, 38, 39, 40, 41, 42, 43, 44, 45, 46, 47, 48, 49, 50, 51, 52, 53, 54, 55, 56, 57, 58, 59, 60, 61, 62, 63, 64, 65, 66, 67, 68, 73, 74, 75, 76, 77, 78, 79, 80, 81, 82, 83, 84, 85, 86, 87, 88, 89, 90, 91, 92, 93, 94, 95, 96, 97, 98, 99, 100, 101, 102, 103, 104, 105, 106, 107, 108, 109, 110, 111, 112, 113, 114, 115, 116, 117, 118, 119, 120] (by decide +kernel) (by decide +kernel)
set_option maxRecDepth 20000 in
theorem gX12_readOne_X12_readOrder : GoodIn wsX12_readOne (wsV RX12 195 RX12 yX12_readOrder wsX12_readOrder) := goodIn_app (goodIn_of _ (by decide +kernel)) ggX12_readOne_X12_readOrder
set_option maxRecDepth 20000 in
theorem ggX12_readOne_X12_readClause : GoodIn wsX12_readOne wsX12_readClause := goodIn_r _ [72, 7, 8, 9, 5, 10, 11, 12, 13, 14, 15, 16, 17, 18, 19, 20, 21, 22, 23, 24, 25, 26, 27, 28, 29, 30, 31, 1, 32, 33, 34, 35, 36, 37, 38, 39, 40, 41, 42, 43, 44, 45, 46, 47, 48, 49, 50, 51, 52, 53, 54, 55, 56, 57, 58, 59, 60, 61, 62, 63, 64, 65, 66, 67, 68, 73, 74, 75, 76, 77, 78, 79, 80, 81, 82, 83, 84, 85, 86, 87, 88, 89, 90, 91, 92, 93, 94, 95, 96, 97, 98, 99, 100, 101, 102, 103, 104, 105, 106, 107, 108, 109, 110, 111, 112, 113, 114, 115, 116, 117, 118, 119, 120] (by decide +kernel) (by decide +kernel)
set_option maxRecDepth 20000 in
theorem gX12_readOne_X12_readClause : GoodIn wsX12_readOne (wsV RX12 198 RX12 yX12_readClause wsX12_readClause) := goodIn_app (goodIn_of _ (by decide +kernel)) ggX12_readOne_X12_readClause
theorem dX12_readOne_0 : decode cX12_readOne 0 = .ok (.aload_n 0, 1) := by decide +kernel
theorem dX12_readOne_1 : decode cX12_readOne 1 = .ok (.getfield 191, 3) := by decide +kernel
theorem dX12_readOne_4 : decode cX12_readOne 4 = .ok (.ifCond .eq 10, 3) := by decide +kernel
theorem dX12_readOne_7 : decode cX12_readOne 7 = .ok (.aload_n 0, 1) := by decide +kernel
theorem dX12_readOne_8 : decode cX12_readOne 8 = .ok (.invokevirtual 195, 3) := by decide +kernel
theorem dX12_readOne_11 : decode cX12_readOne 11 = .ok (.goto 7, 3) := by decide +kernel
theorem dX12_readOne_14 : decode cX12_readOne 14 = .ok (.aload_n 0, 1) := by decide +kernel
theorem dX12_readOne_15 : decode cX12_readOne 15 = .ok (.invokevirtual 198, 3) := by decide +kernel
theorem dX12_readOne_18 : decode cX12_readOne 18 = .ok (.return_, 1) := by decide +kernel
set_option maxRecDepth 20000 in
theorem ggX12_readTest_X12_readBoth : GoodIn wsX12_readTest wsX12_readBoth := goodIn_r _ [16, 17, 18, 19, 4, 5, 6, 7, 8, 9, 10, 11, 12, 13, 14, 15, 20, 21, 22, 23, 24, 25, 26, 27, 28, 29, 30, 31, 32, 33, 34, 35, 36, 37, 38, 39, 40, 41, 42, 43, 44, 45, 46, 47, 48, 49, 50, 51, 52, 53, 54, 55, 56, 57, 58, 59, 60, 61, 62, 63, 0, 1, 2, 3, 64, 65, 66, 67, 68, 69, 70, 71, 72, 73, 74, 75, 76, 77, 78, 79, 80, 81, 82, 83, 84, 85, 86, 87, 88, 89, 90, 91, 92, 93, 94, 95, 96, 97, 98, 99, 100, 101, 102, 103, 104, 105, 106, 107, 108, 109, 110, 111] (by decide +kernel) (by decide +kernel)
set_option maxRecDepth 20000 in
theorem gX12_readTest_X12_readBoth : GoodIn wsX12_readTest (wsV RX12 201 RX12 yX12_readBoth wsX12_readBoth) := goodIn_app (goodIn_of _ (by decide +kernel)) ggX12_readTest_X12_readBoth
set_option maxRecDepth 20000 in
theorem ggX12_readTest_X12_takes0 : GoodIn wsX12_readTest wsX12_takes0 := goodIn_r _ [8, 9, 10, 11, 12, 13, 4, 14, 15, 64, 65, 66, 67, 68, 69, 70, 71, 72, 73, 74, 75, 76, 77, 78, 79, 80, 81, 82, 83, 84, 85, 86, 87, 88, 89, 90, 91, 92, 93, 94, 95, 96, 97, 98, 99, 100, 101, 102, 103, 104, 105, 106, 107, 108, 109, 110, 111] (by decide +kernel) (by decide +kernel)
set_option maxRecDepth 20000 in
theorem gX12_readTest_X12_takes0 : GoodIn wsX12_readTest (wsV RX12 168 RX12 yX12_takes0 wsX12_takes0) := goodIn_app (goodIn_of _ (by decide +kernel)) ggX12_readTest_X12_takes0
theorem dX12_readTest_0 : decode cX12_readTest 0 = .ok (.aload_n 0, 1) := by decide +kernel
theorem dX12_readTest_1 : decode cX12_readTest 1 = .ok (.iload_n 1, 1) := by decide +kernel
theorem dX12_readTest_2 : decode cX12_readTest 2 = .ok (.invokevirtual 201, 3) := by decide +kernel
theorem dX12_readTest_5 : decode cX12_readTest 5 = .ok (.aload_n 0, 1) := by decide +kernel
theorem dX12_readTest_6 : decode cX12_readTest 6 = .ok (.bipush 6, 2) := by decide +kernel
theorem dX12_readTest_8 : decode cX12_readTest 8 = .ok (.invokevirtual 168, 3) := by decide +kernel
theorem dX12_readTest_11 : decode cX12_readTest 11 = .ok (.ifCond .eq 11, 3) := by decide +kernel
theorem dX12_readTest_14 : decode cX12_readTest 14 = .ok (.aload_n 0, 1) := by decide +kernel
theorem dX12_readTest_15 : decode cX12_readTest 15 = .ok (.iload_n 1, 1) := by decide +kernel
theorem dX12_readTest_16 : decode cX12_readTest 16 = .ok (.invokevirtual 201, 3) := by decide +kernel
theorem dX12_readTest_19 : decode cX12_readTest 19 = .ok (.goto (-14), 3) := by decide +kernel
theorem dX12_readTest_22 : decode cX12_readTest 22 = .ok (.return_, 1) := by decide +kernel
set_option maxRecDepth 20000 in
theorem ggX12_readBoth_X12_readPlain : GoodIn wsX12_readBoth wsX12_readPlain := goodIn_r _ [16, 9, 10, 5, 6, 7, 4, 8, 11, 12, 13, 14, 15, 17, 18, 19, 20, 21, 22, 23, 24, 25, 26, 27, 28, 29, 30, 31, 32, 33, 34, 35, 36, 37, 38, 39, 40, 41, 42, 43, 44, 45, 46, 47, 48, 49, 50, 51, 52, 53, 54, 55, 56, 57, 58, 59, 0, 1, 2, 3, 60, 61, 62, 63, 64, 65, 66, 67, 68, 69, 70, 71, 72, 73, 74, 75, 76, 77, 78, 79, 80, 81, 82, 83, 84, 85, 86, 87, 88, 89, 90, 91, 92, 93, 94, 95, 96, 97, 98, 99, 100, 101, 102, 103, 104, 105, 106, 107, 108, 109, 110, 111] (by decide +kernel) (by decide +kernel)
set_option maxRecDepth 20000 in
theorem gX12_readBoth_X12_readPlain : GoodIn wsX12_readBoth (wsV RX12 204 RX12 yX12_readPlain wsX12_readPlain) := goodIn_app (goodIn_of _ (by decide +kernel)) ggX12_readBoth_X12_readPlain
set_option maxRecDepth 20000 in
theorem ggX12_readBoth_X12_takes0 : GoodIn wsX12_readBoth wsX12_takes0 := goodIn_r _ [8, 9, 10, 11, 12, 13, 4, 14, 15, 64, 65, 66, 67, 68, 69, 70, 71, 72, 73, 74, 75, 76, 77, 78, 79, 80, 81, 82, 83, 84, 85, 86, 87, 88, 89, 90, 91, 92, 93, 94, 95, 96, 97, 98, 99, 100, 101, 102, 103, 104, 105, 106, 107, 108, 109, 110, 111] (by decide +kernel) (by decide +kernel)
set_option maxRecDepth 20000 in
theorem gX12_readBoth_X12_takes0 : GoodIn wsX12_readBoth (wsV RX12 168 RX12 yX12_takes0 wsX12_takes0) := goodIn_app (goodIn_of _ (by decide +kernel)) ggX12_readBoth_X12_takes0
theorem dX12_readBoth_0 : decode cX12_readBoth 0 = .ok (.aload_n 0, 1) := by decide +kernel
theorem dX12_readBoth_1 : decode cX12_readBoth 1 = .ok (.iload_n 1, 1) := by decide +kernel
theorem dX12_readBoth_2 : decode cX12_readBoth 2 = .ok (.invokevirtual 204, 3) := by decide +kernel
theorem dX12_readBoth_5 : decode cX12_readBoth 5 = .ok (.aload_n 0, 1) := by decide +kernel
theorem dX12_readBoth_6 : decode cX12_readBoth 6 = .ok (.bipush 7, 2) := by decide +kernel
theorem dX12_readBoth_8 : decode cX12_readBoth 8 = .ok (.invokevirtual 168, 3) := by decide +kernel
theorem dX12_readBoth_11 : decode cX12_readBoth 11 = .ok (.ifCond .eq 11, 3) := by decide +kernel
theorem dX12_readBoth_14 : decode cX12_readBoth 14 = .ok (.aload_n 0, 1) := by decide +kernel
theorem dX12_readBoth_15 : decode cX12_readBoth 15 = .ok (.iload_n 1, 1) := by decide +kernel
theorem dX12_readBoth_16 : decode cX12_readBoth 16 = .ok (.invokevirtual 204, 3) := by decide +kernel
theorem dX12_readBoth_19 : decode cX12_readBoth 19 = .ok (.goto (-14), 3) := by decide +kernel
theorem dX12_readBoth_22 : decode cX12_readBoth 22 = .ok (.return_, 1) := by decide +kernel
set_option maxRecDepth 20000 in
theorem ggX12_readPlain_X12_takes0 : GoodIn wsX12_readPlain wsX12_takes0 := goodIn_r _ [7, 1, 2, 8, 9, 10, 6, 11, 12, 64, 65, 66, 67, 68, 69, 70, 71, 72, 73, 74, 75, 76, 77, 78, 79, 80, 81, 82, 83, 84, 85, 86, 87, 88, 89, 90, 91, 92, 93, 94, 95, 96, 97, 98, 99, 100, 101, 102, 103, 104, 105, 106, 107, 108, 109, 110, 111] (by decide +kernel) (by decide +kernel)
set_option maxRecDepth 20000 in
theorem gX12_readPlain_X12_takes0 : GoodIn wsX12_readPlain (wsV RX12 168 RX12 yX12_takes0 wsX12_takes0) := goodIn_app (goodIn_of _ (by decide +kernel)) ggX12_readPlain_X12_takes0
set_option maxRecDepth 20000 in
theorem ggX12_readPlain_X12_fine : GoodIn wsX12_readPlain wsX12_fine := goodIn_r _ [11, 12, 64, 65, 66, 67, 68, 69, 70, 71, 72, 73, 74, 75, 76, 77, 78, 79, 80, 81, 82, 83, 84, 85, 86, 87, 88, 89, 90, 91, 92, 93, 94, 95, 96, 97, 98, 99, 100, 101, 102, 103, 104, 105, 106, 107, 108, 109, 110, 111] (by decide +kernel) (by decide +kernel)
set_option maxRecDepth 20000 in
theorem gX12_readPlain_X12_fine : GoodIn wsX12_readPlain (wsV RX12 161 RX12 yX12_fine wsX12_fine) := goodIn_app (goodIn_of _ (by decide +kernel)) ggX12_readPlain_X12_fine
set_option maxRecDepth 20000 in
theorem ggX12_readPlain_X12_sign : GoodIn wsX12_readPlain wsX12_sign := goodIn_r _ [15] (by decide +kernel) (by decide +kernel)
set_option maxRecDepth 20000 in
theorem gX12_readPlain_X12_sign : GoodIn wsX12_readPlain (va_wsS RX12 207 yX12_sign wsX12_sign) := goodIn_app (goodIn_of _ (by decide +kernel)) ggX12_readPlain_X12_sign
set_option maxRecDepth 20000 in
theorem ggX12_readPlain_X12_faults : GoodIn wsX12_readPlain wsX12_faults := goodIn_r _ [19, 20, 2, 12, 8, 9, 10, 6, 11, 64, 65, 66, 67, 68, 69, 70, 71, 72, 73, 74, 75, 76, 77, 78, 79, 80, 81, 82, 83, 84, 85, 86, 87, 88, 89, 90, 91, 92, 93, 94, 95, 96, 97, 98, 99, 100, 101, 102, 103, 104, 105, 106, 107, 108, 109, 110, 111] (by decide +kernel) (by decide +kernel)
set_option maxRecDepth 20000 in
theorem gX12_readPlain_X12_faults : GoodIn wsX12_readPlain (wsV RX12 171 RX12 yX12_faults wsX12_faults) := goodIn_app (goodIn_of _ (by decide +kernel)) ggX12_readPlain_X12_faults
set_option maxRecDepth 20000 in
theorem ggX12_readPlain_X12_readTest : GoodIn wsX12_readPlain wsX12_readTest := goodIn_r _ [60, 61, 62, 63, 6, 3, 4, 5, 7, 1, 2, 8, 9, 10, 11, 12, 56, 57, 58, 59, 0, 13, 14, 15, 16, 17, 18, 19, 20, 21, 22, 23, 24, 25, 26, 27, 28, 29, 30, 31, 32, 33, 34, 35, 36, 37, 38, 39, 40, 41, 42, 43, 44, 45, 46, 47, 48, 49, 50, 51, 52, 53, 54, 55, 64, 65, 66, 67, 68, 69, 70, 71, 72, 73, 74, 75, 76, 77, 78, 79, 80, 81, 82, 83, 84, 85, 86, 87, 88, 89, 90, 91, 92, 93, 94, 95, 96, 97, 98, 99, 100, 101, 102, 103, 104, 105, 106, 107, 108, 109, 110, 111] (by decide +kernel) (by decide +kernel)
set_option maxRecDepth 20000 in
theorem gX12_readPlain_X12_readTest : GoodIn wsX12_readPlain (wsV RX12 184 RX12 yX12_readTest wsX12_readTest) := goodIn_app (goodIn_of _ (by decide +kernel)) ggX12_readPlain_X12_readTest
set_option maxRecDepth 20000 in
theorem ggX12_readPlain_X12_must : GoodIn wsX12_readPlain wsX12_must := goodIn_r _ [27, 3, 4, 5, 6, 7, 1, 2, 8, 9, 10, 11, 12, 16, 17, 18, 19, 20, 64, 65, 66, 67, 68, 69, 70, 71, 72, 73, 74, 75, 76, 77, 78, 79, 80, 81, 82, 83, 84, 85, 86, 87, 88, 89, 90, 91, 92, 93, 94, 95, 96, 97, 98, 99, 100, 101, 102, 103, 104, 105, 106, 107, 108, 109, 110, 111] (by decide +kernel) (by decide +kernel)
set_option maxRecDepth 20000 in
theorem gX12_readPlain_X12_must : GoodIn wsX12_readPlain (wsV RX12 181 RX12 yX12_must wsX12_must) := goodIn_app (goodIn_of _ (by decide +kernel)) ggX12_readPlain_X12_must
set_option maxRecDepth 20000 in
theorem ggX12_readPlain_X12_readSum : GoodIn wsX12_readPlain wsX12_readSum := goodIn_r _ [31, 32, 33, 34, 6, 13, 14, 15, 3, 4, 5, 7, 1, 2, 8, 9, 10, 11, 12, 35, 36, 37, 38, 39, 16, 17, 18, 19, 20, 28, 29, 30, 24, 25, 26, 27, 40, 41, 42, 43, 44, 45, 46, 47, 48, 49, 50, 51, 52, 53, 54, 55, 64, 65, 66, 67, 68, 69, 70, 71, 72, 73, 74, 75, 76, 77, 78, 79, 80, 81, 82, 83, 84, 85, 86, 87, 88, 89, 90, 91, 92, 93, 94, 95, 96, 97, 98, 99, 100, 101, 102, 103, 104, 105, 106, 107, 108, 109, 110, 111] (by decide +kernel) (by decide +kernel)
set_option maxRecDepth 20000 in
theorem gX12_readPlain_X12_readSum : GoodIn wsX12_readPlain (wsV RX12 177 RX12 yX12_readSum wsX12_readSum) := goodIn_app (goodIn_of _ (by decide +kernel)) ggX12_readPlain_X12_readSum
theorem dX12_readPlain_0 : decode cX12_readPlain 0 = .ok (.iconst 1, 1) := by decide +kernel
theorem dX12_readPlain_1 : decode cX12_readPlain 1 = .ok (.istore_n 2, 1) := by decide +kernel
theorem dX12_readPlain_2 : decode cX12_readPlain 2 = .ok (.iload_n 2, 1) := by decide +kernel
theorem dX12_readPlain_3 : decode cX12_readPlain 3 = .ok (.ifCond .eq 13, 3) := by decide +kernel
theorem dX12_readPlain_6 : decode cX12_readPlain 6 = .ok (.aload_n 0, 1) := by decide +kernel
theorem dX12_readPlain_7 : decode cX12_readPlain 7 = .ok (.bipush 8, 2) := by decide +kernel
theorem dX12_readPlain_9 : decode cX12_readPlain 9 = .ok (.invokevirtual 168, 3) := by decide +kernel
theorem dX12_readPlain_12 : decode cX12_readPlain 12 = .ok (.istore_n 2, 1) := by decide +kernel
theorem dX12_readPlain_13 : decode cX12_readPlain 13 = .ok (.goto (-11), 3) := by decide +kernel
theorem dX12_readPlain_16 : decode cX12_readPlain 16 = .ok (.aload_n 0, 1) := by decide +kernel
theorem dX12_readPlain_17 : decode cX12_readPlain 17 = .ok (.invokevirtual 161, 3) := by decide +kernel
theorem dX12_readPlain_20 : decode cX12_readPlain 20 = .ok (.ifCond .ne 4, 3) := by decide +kernel
theorem dX12_readPlain_23 : decode cX12_readPlain 23 = .ok (.return_, 1) := by decide +kernel
theorem dX12_readPlain_24 : decode cX12_readPlain 24 = .ok (.aload_n 0, 1) := by decide +kernel
theorem dX12_readPlain_25 : decode cX12_readPlain 25 = .ok (.getfield 50, 3) := by decide +kernel
theorem dX12_readPlain_28 : decode cX12_readPlain 28 = .ok (.aload_n 0, 1) := by decide +kernel
theorem dX12_readPlain_29 : decode cX12_readPlain 29 = .ok (.getfield 165, 3) := by decide +kernel
theorem dX12_readPlain_32 : decode cX12_readPlain 32 = .ok (.iaload, 1) := by decide +kernel
theorem dX12_readPlain_33 : decode cX12_readPlain 33 = .ok (.istore_n 3, 1) := by decide +kernel
theorem dX12_readPlain_34 : decode cX12_readPlain 34 = .ok (.iload_n 3, 1) := by decide +kernel
theorem dX12_readPlain_35 : decode cX12_readPlain 35 = .ok (.bipush 40, 2) := by decide +kernel
theorem dX12_readPlain_37 : decode cX12_readPlain 37 = .ok (.invokestatic 207, 3) := by decide +kernel
theorem dX12_readPlain_40 : decode cX12_readPlain 40 = .ok (.if_icmp .ne 50, 3) := by decide +kernel
theorem dX12_readPlain_43 : decode cX12_readPlain 43 = .ok (.iload_n 1, 1) := by decide +kernel
theorem dX12_readPlain_44 : decode cX12_readPlain 44 = .ok (.bipush 8, 2) := by decide +kernel
theorem dX12_readPlain_46 : decode cX12_readPlain 46 = .ok (.if_icmp .ne 7, 3) := by decide +kernel
theorem dX12_readPlain_49 : decode cX12_readPlain 49 = .ok (.aload_n 0, 1) := by decide +kernel
theorem dX12_readPlain_50 : decode cX12_readPlain 50 = .ok (.invokevirtual 171, 3) := by decide +kernel
theorem dX12_readPlain_53 : decode cX12_readPlain 53 = .ok (.aload_n 0, 1) := by decide +kernel
theorem dX12_readPlain_54 : decode cX12_readPlain 54 = .ok (.invokevirtual 161, 3) := by decide +kernel
theorem dX12_readPlain_57 : decode cX12_readPlain 57 = .ok (.ifCond .ne 4, 3) := by decide +kernel
theorem dX12_readPlain_60 : decode cX12_readPlain 60 = .ok (.return_, 1) := by decide +kernel
theorem dX12_readPlain_61 : decode cX12_readPlain 61 = .ok (.aload_n 0, 1) := by decide +kernel
theorem dX12_readPlain_62 : decode cX12_readPlain 62 = .ok (.dup, 1) := by decide +kernel
theorem dX12_readPlain_63 : decode cX12_readPlain 63 = .ok (.getfield 165, 3) := by decide +kernel
theorem dX12_readPlain_66 : decode cX12_readPlain 66 = .ok (.iconst 1, 1) := by decide +kernel
theorem dX12_readPlain_67 : decode cX12_readPlain 67 = .ok (.iadd, 1) := by decide +kernel
theorem dX12_readPlain_68 : decode cX12_readPlain 68 = .ok (.putfield 165, 3) := by decide +kernel
theorem dX12_readPlain_71 : decode cX12_readPlain 71 = .ok (.aload_n 0, 1) := by decide +kernel
theorem dX12_readPlain_72 : decode cX12_readPlain 72 = .ok (.iload_n 1, 1) := by decide +kernel
theorem dX12_readPlain_73 : decode cX12_readPlain 73 = .ok (.iconst 1, 1) := by decide +kernel
theorem dX12_readPlain_74 : decode cX12_readPlain 74 = .ok (.iadd, 1) := by decide +kernel
theorem dX12_readPlain_75 : decode cX12_readPlain 75 = .ok (.invokevirtual 184, 3) := by decide +kernel
theorem dX12_readPlain_78 : decode cX12_readPlain 78 = .ok (.aload_n 0, 1) := by decide +kernel
theorem dX12_readPlain_79 : decode cX12_readPlain 79 = .ok (.bipush 41, 2) := by decide +kernel
theorem dX12_readPlain_81 : decode cX12_readPlain 81 = .ok (.invokestatic 207, 3) := by decide +kernel
theorem dX12_readPlain_84 : decode cX12_readPlain 84 = .ok (.invokevirtual 181, 3) := by decide +kernel
theorem dX12_readPlain_87 : decode cX12_readPlain 87 = .ok (.goto 46, 3) := by decide +kernel
theorem dX12_readPlain_90 : decode cX12_readPlain 90 = .ok (.aload_n 0, 1) := by decide +kernel
theorem dX12_readPlain_91 : decode cX12_readPlain 91 = .ok (.iload_n 1, 1) := by decide +kernel
theorem dX12_readPlain_92 : decode cX12_readPlain 92 = .ok (.invokevirtual 177, 3) := by decide +kernel
theorem dX12_readPlain_95 : decode cX12_readPlain 95 = .ok (.aload_n 0, 1) := by decide +kernel
theorem dX12_readPlain_96 : decode cX12_readPlain 96 = .ok (.bipush 60, 2) := by decide +kernel
theorem dX12_readPlain_98 : decode cX12_readPlain 98 = .ok (.invokestatic 207, 3) := by decide +kernel
theorem dX12_readPlain_101 : decode cX12_readPlain 101 = .ok (.invokevirtual 168, 3) := by decide +kernel
theorem dX12_readPlain_104 : decode cX12_readPlain 104 = .ok (.ifCond .ne 24, 3) := by decide +kernel
theorem dX12_readPlain_107 : decode cX12_readPlain 107 = .ok (.aload_n 0, 1) := by decide +kernel
theorem dX12_readPlain_108 : decode cX12_readPlain 108 = .ok (.bipush 62, 2) := by decide +kernel
theorem dX12_readPlain_110 : decode cX12_readPlain 110 = .ok (.invokestatic 207, 3) := by decide +kernel
theorem dX12_readPlain_113 : decode cX12_readPlain 113 = .ok (.invokevirtual 168, 3) := by decide +kernel
theorem dX12_readPlain_116 : decode cX12_readPlain 116 = .ok (.ifCond .ne 12, 3) := by decide +kernel
theorem dX12_readPlain_119 : decode cX12_readPlain 119 = .ok (.aload_n 0, 1) := by decide +kernel
theorem dX12_readPlain_120 : decode cX12_readPlain 120 = .ok (.bipush 61, 2) := by decide +kernel
theorem dX12_readPlain_122 : decode cX12_readPlain 122 = .ok (.invokestatic 207, 3) := by decide +kernel
theorem dX12_readPlain_125 : decode cX12_readPlain 125 = .ok (.invokevirtual 181, 3) := by decide +kernel
theorem dX12_readPlain_128 : decode cX12_readPlain 128 = .ok (.aload_n 0, 1) := by decide +kernel
theorem dX12_readPlain_129 : decode cX12_readPlain 129 = .ok (.iload_n 1, 1) := by decide +kernel
theorem dX12_readPlain_130 : decode cX12_readPlain 130 = .ok (.invokevirtual 177, 3) := by decide +kernel
theorem dX12_readPlain_133 : decode cX12_readPlain 133 = .ok (.return_, 1) := by decide +kernel
set_option maxRecDepth 20000 in
theorem ggX12_readSum_X12_readTerm : GoodIn wsX12_readSum wsX12_readTerm := goodIn_r _ [48, 49, 50, 51, 4, 5, 6, 7, 8, 9, 10, 11, 12, 13, 14, 15, 16, 17, 18, 19, 20, 21, 22, 23, 24, 25, 26, 27, 28, 29, 30, 31, 32, 33, 34, 35, 36, 37, 38, 39, 40, 41, 42, 43, 44, 45, 46, 47, 0, 1, 2, 3, 52, 53, 54, 55, 56, 57, 58, 59, 60, 61, 62, 63, 64, 65, 66, 67, 68, 69, 70, 71, 72, 73, 74, 75, 76, 77, 78, 79, 80, 81, 82, 83, 84, 85, 86, 87, 88, 89, 90, 91, 92, 93, 94, 95, 96, 97, 98, 99] (by decide +kernel) (by decide +kernel)
set_option maxRecDepth 20000 in
theorem gX12_readSum_X12_readTerm : GoodIn wsX12_readSum (wsV RX12 211 RX12 yX12_readTerm wsX12_readTerm) := goodIn_app (goodIn_of _ (by decide +kernel)) ggX12_readSum_X12_readTerm
set_option maxRecDepth 20000 in
theorem ggX12_readSum_X12_sign : GoodIn wsX12_readSum wsX12_sign := goodIn_r _ [7] (by decide +kernel) (by decide +kernel)
set_option maxRecDepth 20000 in
theorem gX12_readSum_X12_sign : GoodIn wsX12_readSum (va_wsS RX12 207 yX12_sign wsX12_sign) := goodIn_app (goodIn_of _ (by decide +kernel)) ggX12_readSum_X12_sign
set_option maxRecDepth 20000 in
theorem ggX12_readSum_X12_takes0 : GoodIn wsX12_readSum wsX12_takes0 := goodIn_r _ [11, 12, 13, 14, 15, 16, 4, 17, 18, 52, 53, 54, 55, 56, 57, 58, 59, 60, 61, 62, 63, 64, 65, 66, 67, 68, 69, 70, 71, 72, 73, 74, 75, 76, 77, 78, 79, 80, 81, 82, 83, 84, 85, 86, 87, 88, 89, 90, 91, 92, 93, 94, 95, 96, 97, 98, 99] (by decide +kernel) (by decide +kernel)
set_option maxRecDepth 20000 in
theorem gX12_readSum_X12_takes0 : GoodIn wsX12_readSum (wsV RX12 168 RX12 yX12_takes0 wsX12_takes0) := goodIn_app (goodIn_of _ (by decide +kernel)) ggX12_readSum_X12_takes0
theorem dX12_readSum_0 : decode cX12_readSum 0 = .ok (.aload_n 0, 1) := by decide +kernel
theorem dX12_readSum_1 : decode cX12_readSum 1 = .ok (.iload_n 1, 1) := by decide +kernel
theorem dX12_readSum_2 : decode cX12_readSum 2 = .ok (.invokevirtual 211, 3) := by decide +kernel
theorem dX12_readSum_5 : decode cX12_readSum 5 = .ok (.aload_n 0, 1) := by decide +kernel
theorem dX12_readSum_6 : decode cX12_readSum 6 = .ok (.bipush 43, 2) := by decide +kernel
theorem dX12_readSum_8 : decode cX12_readSum 8 = .ok (.invokestatic 207, 3) := by decide +kernel
theorem dX12_readSum_11 : decode cX12_readSum 11 = .ok (.invokevirtual 168, 3) := by decide +kernel
theorem dX12_readSum_14 : decode cX12_readSum 14 = .ok (.ifCond .ne 15, 3) := by decide +kernel
theorem dX12_readSum_17 : decode cX12_readSum 17 = .ok (.aload_n 0, 1) := by decide +kernel
theorem dX12_readSum_18 : decode cX12_readSum 18 = .ok (.bipush 45, 2) := by decide +kernel
theorem dX12_readSum_20 : decode cX12_readSum 20 = .ok (.invokestatic 207, 3) := by decide +kernel
theorem dX12_readSum_23 : decode cX12_readSum 23 = .ok (.invokevirtual 168, 3) := by decide +kernel
theorem dX12_readSum_26 : decode cX12_readSum 26 = .ok (.ifCond .eq 11, 3) := by decide +kernel
theorem dX12_readSum_29 : decode cX12_readSum 29 = .ok (.aload_n 0, 1) := by decide +kernel
theorem dX12_readSum_30 : decode cX12_readSum 30 = .ok (.iload_n 1, 1) := by decide +kernel
theorem dX12_readSum_31 : decode cX12_readSum 31 = .ok (.invokevirtual 211, 3) := by decide +kernel
theorem dX12_readSum_34 : decode cX12_readSum 34 = .ok (.goto (-29), 3) := by decide +kernel
theorem dX12_readSum_37 : decode cX12_readSum 37 = .ok (.return_, 1) := by decide +kernel
set_option maxRecDepth 20000 in
theorem ggX12_readTerm_X12_readPart : GoodIn wsX12_readTerm wsX12_readPart := goodIn_r _ [19, 12, 13, 20, 21, 22, 23, 14, 15, 16, 4, 17, 18, 5, 6, 7, 24, 25, 26, 27, 28, 29, 30, 31, 32, 33, 34, 35, 8, 9, 10, 11, 36, 37, 38, 39, 40, 41, 42, 43, 44, 45, 46, 47, 48, 49, 50, 51, 0, 1, 2, 3, 52, 53, 54, 55, 56, 57, 58, 59, 60, 61, 62, 63, 64, 65, 66, 67, 68, 69, 70, 71, 72, 73, 74, 75, 76, 77, 78, 79, 80, 81, 82, 83, 84, 85, 86, 87, 88, 89, 90, 91, 92, 93, 94, 95, 96, 97, 98, 99] (by decide +kernel) (by decide +kernel)
set_option maxRecDepth 20000 in
theorem gX12_readTerm_X12_readPart : GoodIn wsX12_readTerm (wsV RX12 214 RX12 yX12_readPart wsX12_readPart) := goodIn_app (goodIn_of _ (by decide +kernel)) ggX12_readTerm_X12_readPart
set_option maxRecDepth 20000 in
theorem ggX12_readTerm_X12_sign : GoodIn wsX12_readTerm wsX12_sign := goodIn_r _ [7] (by decide +kernel) (by decide +kernel)
set_option maxRecDepth 20000 in
theorem gX12_readTerm_X12_sign : GoodIn wsX12_readTerm (va_wsS RX12 207 yX12_sign wsX12_sign) := goodIn_app (goodIn_of _ (by decide +kernel)) ggX12_readTerm_X12_sign
set_option maxRecDepth 20000 in
theorem ggX12_readTerm_X12_takes0 : GoodIn wsX12_readTerm wsX12_takes0 := goodIn_r _ [11, 12, 13, 14, 15, 16, 4, 17, 18, 52, 53, 54, 55, 56, 57, 58, 59, 60, 61, 62, 63, 64, 65, 66, 67, 68, 69, 70, 71, 72, 73, 74, 75, 76, 77, 78, 79, 80, 81, 82, 83, 84, 85, 86, 87, 88, 89, 90, 91, 92, 93, 94, 95, 96, 97, 98, 99] (by decide +kernel) (by decide +kernel)
set_option maxRecDepth 20000 in
theorem gX12_readTerm_X12_takes0 : GoodIn wsX12_readTerm (wsV RX12 168 RX12 yX12_takes0 wsX12_takes0) := goodIn_app (goodIn_of _ (by decide +kernel)) ggX12_readTerm_X12_takes0
theorem dX12_readTerm_0 : decode cX12_readTerm 0 = .ok (.aload_n 0, 1) := by decide +kernel
theorem dX12_readTerm_1 : decode cX12_readTerm 1 = .ok (.iload_n 1, 1) := by decide +kernel
theorem dX12_readTerm_2 : decode cX12_readTerm 2 = .ok (.invokevirtual 214, 3) := by decide +kernel
theorem dX12_readTerm_5 : decode cX12_readTerm 5 = .ok (.aload_n 0, 1) := by decide +kernel
theorem dX12_readTerm_6 : decode cX12_readTerm 6 = .ok (.bipush 42, 2) := by decide +kernel
theorem dX12_readTerm_8 : decode cX12_readTerm 8 = .ok (.invokestatic 207, 3) := by decide +kernel
theorem dX12_readTerm_11 : decode cX12_readTerm 11 = .ok (.invokevirtual 168, 3) := by decide +kernel
theorem dX12_readTerm_14 : decode cX12_readTerm 14 = .ok (.ifCond .ne 27, 3) := by decide +kernel
theorem dX12_readTerm_17 : decode cX12_readTerm 17 = .ok (.aload_n 0, 1) := by decide +kernel
theorem dX12_readTerm_18 : decode cX12_readTerm 18 = .ok (.bipush 47, 2) := by decide +kernel
theorem dX12_readTerm_20 : decode cX12_readTerm 20 = .ok (.invokestatic 207, 3) := by decide +kernel
theorem dX12_readTerm_23 : decode cX12_readTerm 23 = .ok (.invokevirtual 168, 3) := by decide +kernel
theorem dX12_readTerm_26 : decode cX12_readTerm 26 = .ok (.ifCond .ne 15, 3) := by decide +kernel
theorem dX12_readTerm_29 : decode cX12_readTerm 29 = .ok (.aload_n 0, 1) := by decide +kernel
theorem dX12_readTerm_30 : decode cX12_readTerm 30 = .ok (.bipush 37, 2) := by decide +kernel
theorem dX12_readTerm_32 : decode cX12_readTerm 32 = .ok (.invokestatic 207, 3) := by decide +kernel
theorem dX12_readTerm_35 : decode cX12_readTerm 35 = .ok (.invokevirtual 168, 3) := by decide +kernel
theorem dX12_readTerm_38 : decode cX12_readTerm 38 = .ok (.ifCond .eq 11, 3) := by decide +kernel
theorem dX12_readTerm_41 : decode cX12_readTerm 41 = .ok (.aload_n 0, 1) := by decide +kernel
theorem dX12_readTerm_42 : decode cX12_readTerm 42 = .ok (.iload_n 1, 1) := by decide +kernel
theorem dX12_readTerm_43 : decode cX12_readTerm 43 = .ok (.invokevirtual 214, 3) := by decide +kernel
theorem dX12_readTerm_46 : decode cX12_readTerm 46 = .ok (.goto (-41), 3) := by decide +kernel
theorem dX12_readTerm_49 : decode cX12_readTerm 49 = .ok (.return_, 1) := by decide +kernel
set_option maxRecDepth 20000 in
theorem ggX12_readPart_X12_fine : GoodIn wsX12_readPart wsX12_fine := goodIn_r _ [11, 12, 52, 53, 54, 55, 56, 57, 58, 59, 60, 61, 62, 63, 64, 65, 66, 67, 68, 69, 70, 71, 72, 73, 74, 75, 76, 77, 78, 79, 80, 81, 82, 83, 84, 85, 86, 87, 88, 89, 90, 91, 92, 93, 94, 95, 96, 97, 98, 99] (by decide +kernel) (by decide +kernel)
set_option maxRecDepth 20000 in
theorem gX12_readPart_X12_fine : GoodIn wsX12_readPart (wsV RX12 161 RX12 yX12_fine wsX12_fine) := goodIn_app (goodIn_of _ (by decide +kernel)) ggX12_readPart_X12_fine
set_option maxRecDepth 20000 in
theorem ggX12_readPart_X12_sign : GoodIn wsX12_readPart wsX12_sign := goodIn_r _ [15] (by decide +kernel) (by decide +kernel)
set_option maxRecDepth 20000 in
theorem gX12_readPart_X12_sign : GoodIn wsX12_readPart (va_wsS RX12 207 yX12_sign wsX12_sign) := goodIn_app (goodIn_of _ (by decide +kernel)) ggX12_readPart_X12_sign
set_option maxRecDepth 20000 in
theorem ggX12_readPart_X12_faults : GoodIn wsX12_readPart wsX12_faults := goodIn_r _ [19, 20, 2, 12, 7, 8, 9, 10, 11, 52, 53, 54, 55, 56, 57, 58, 59, 60, 61, 62, 63, 64, 65, 66, 67, 68, 69, 70, 71, 72, 73, 74, 75, 76, 77, 78, 79, 80, 81, 82, 83, 84, 85, 86, 87, 88, 89, 90, 91, 92, 93, 94, 95, 96, 97, 98, 99] (by decide +kernel) (by decide +kernel)
set_option maxRecDepth 20000 in
theorem gX12_readPart_X12_faults : GoodIn wsX12_readPart (wsV RX12 171 RX12 yX12_faults wsX12_faults) := goodIn_app (goodIn_of _ (by decide +kernel)) ggX12_readPart_X12_faults
set_option maxRecDepth 20000 in
theorem ggX12_readPart_X12_readSum : GoodIn wsX12_readPart wsX12_readSum := goodIn_r _ [44, 45, 46, 47, 10, 13, 14, 15, 28, 29, 30, 31, 1, 2, 7, 8, 9, 11, 12, 0, 3, 4, 5, 6, 16, 17, 18, 19, 20, 21, 22, 23, 24, 25, 26, 27, 32, 33, 34, 35, 36, 37, 38, 39, 40, 41, 42, 43, 48, 49, 50, 51, 52, 53, 54, 55, 56, 57, 58, 59, 60, 61, 62, 63, 64, 65, 66, 67, 68, 69, 70, 71, 72, 73, 74, 75, 76, 77, 78, 79, 80, 81, 82, 83, 84, 85, 86, 87, 88, 89, 90, 91, 92, 93, 94, 95, 96, 97, 98, 99] (by decide +kernel) (by decide +kernel)
set_option maxRecDepth 20000 in
theorem gX12_readPart_X12_readSum : GoodIn wsX12_readPart (wsV RX12 177 RX12 yX12_readSum wsX12_readSum) := goodIn_app (goodIn_of _ (by decide +kernel)) ggX12_readPart_X12_readSum
set_option maxRecDepth 20000 in
theorem ggX12_readPart_X12_must : GoodIn wsX12_readPart wsX12_must := goodIn_r _ [27, 28, 29, 30, 10, 31, 1, 2, 7, 8, 9, 11, 12, 16, 17, 18, 19, 20, 52, 53, 54, 55, 56, 57, 58, 59, 60, 61, 62, 63, 64, 65, 66, 67, 68, 69, 70, 71, 72, 73, 74, 75, 76, 77, 78, 79, 80, 81, 82, 83, 84, 85, 86, 87, 88, 89, 90, 91, 92, 93, 94, 95, 96, 97, 98, 99] (by decide +kernel) (by decide +kernel)
set_option maxRecDepth 20000 in
theorem gX12_readPart_X12_must : GoodIn wsX12_readPart (wsV RX12 181 RX12 yX12_must wsX12_must) := goodIn_app (goodIn_of _ (by decide +kernel)) ggX12_readPart_X12_must
set_option maxRecDepth 20000 in
theorem ggX12_readPart_X12_leaf : GoodIn wsX12_readPart wsX12_leaf := goodIn_r _ [35, 36, 2, 16, 17, 18, 10, 19, 20, 12, 7, 8, 9, 11, 52, 53, 54, 55, 56, 57, 58, 59, 60, 61, 62, 63, 64, 65, 66, 67, 68, 69, 70, 71, 72, 73, 74, 75, 76, 77, 78, 79, 80, 81, 82, 83, 84, 85, 86, 87, 88, 89, 90, 91, 92, 93, 94, 95, 96, 97, 98, 99] (by decide +kernel) (by decide +kernel)
set_option maxRecDepth 20000 in
theorem gX12_readPart_X12_leaf : GoodIn wsX12_readPart (wsV RX12 223 RX12 yX12_leaf wsX12_leaf) := goodIn_app (goodIn_of _ (by decide +kernel)) ggX12_readPart_X12_leaf
set_option maxRecDepth 20000 in
theorem ggX12_readPart_X12_mustNumber : GoodIn wsX12_readPart wsX12_mustNumber := goodIn_r _ [40, 1, 2, 3, 7, 8, 9, 10, 11, 12, 41, 42, 43, 16, 17, 18, 19, 20, 52, 53, 54, 55, 56, 57, 58, 59, 60, 61, 62, 63, 64, 65, 66, 67, 68, 69, 70, 71, 72, 73, 74, 75, 76, 77, 78, 79, 80, 81, 82, 83, 84, 85, 86, 87, 88, 89, 90, 91, 92, 93, 94, 95, 96, 97, 98, 99] (by decide +kernel) (by decide +kernel)
set_option maxRecDepth 20000 in
theorem gX12_readPart_X12_mustNumber : GoodIn wsX12_readPart (wsV RX12 187 RX12 yX12_mustNumber wsX12_mustNumber) := goodIn_app (goodIn_of _ (by decide +kernel)) ggX12_readPart_X12_mustNumber
theorem dX12_readPart_0 : decode cX12_readPart 0 = .ok (.aload_n 0, 1) := by decide +kernel
theorem dX12_readPart_1 : decode cX12_readPart 1 = .ok (.invokevirtual 161, 3) := by decide +kernel
theorem dX12_readPart_4 : decode cX12_readPart 4 = .ok (.ifCond .ne 4, 3) := by decide +kernel
theorem dX12_readPart_7 : decode cX12_readPart 7 = .ok (.return_, 1) := by decide +kernel
theorem dX12_readPart_8 : decode cX12_readPart 8 = .ok (.aload_n 0, 1) := by decide +kernel
theorem dX12_readPart_9 : decode cX12_readPart 9 = .ok (.getfield 50, 3) := by decide +kernel
theorem dX12_readPart_12 : decode cX12_readPart 12 = .ok (.aload_n 0, 1) := by decide +kernel
theorem dX12_readPart_13 : decode cX12_readPart 13 = .ok (.getfield 165, 3) := by decide +kernel
theorem dX12_readPart_16 : decode cX12_readPart 16 = .ok (.iaload, 1) := by decide +kernel
theorem dX12_readPart_17 : decode cX12_readPart 17 = .ok (.istore_n 2, 1) := by decide +kernel
theorem dX12_readPart_18 : decode cX12_readPart 18 = .ok (.iload_n 2, 1) := by decide +kernel
theorem dX12_readPart_19 : decode cX12_readPart 19 = .ok (.bipush 91, 2) := by decide +kernel
theorem dX12_readPart_21 : decode cX12_readPart 21 = .ok (.invokestatic 207, 3) := by decide +kernel
theorem dX12_readPart_24 : decode cX12_readPart 24 = .ok (.if_icmp .ne 50, 3) := by decide +kernel
theorem dX12_readPart_27 : decode cX12_readPart 27 = .ok (.iload_n 1, 1) := by decide +kernel
theorem dX12_readPart_28 : decode cX12_readPart 28 = .ok (.bipush 8, 2) := by decide +kernel
theorem dX12_readPart_30 : decode cX12_readPart 30 = .ok (.if_icmp .ne 7, 3) := by decide +kernel
theorem dX12_readPart_33 : decode cX12_readPart 33 = .ok (.aload_n 0, 1) := by decide +kernel
theorem dX12_readPart_34 : decode cX12_readPart 34 = .ok (.invokevirtual 171, 3) := by decide +kernel
theorem dX12_readPart_37 : decode cX12_readPart 37 = .ok (.aload_n 0, 1) := by decide +kernel
theorem dX12_readPart_38 : decode cX12_readPart 38 = .ok (.invokevirtual 161, 3) := by decide +kernel
theorem dX12_readPart_41 : decode cX12_readPart 41 = .ok (.ifCond .ne 4, 3) := by decide +kernel
theorem dX12_readPart_44 : decode cX12_readPart 44 = .ok (.return_, 1) := by decide +kernel
theorem dX12_readPart_45 : decode cX12_readPart 45 = .ok (.aload_n 0, 1) := by decide +kernel
theorem dX12_readPart_46 : decode cX12_readPart 46 = .ok (.dup, 1) := by decide +kernel
theorem dX12_readPart_47 : decode cX12_readPart 47 = .ok (.getfield 165, 3) := by decide +kernel
theorem dX12_readPart_50 : decode cX12_readPart 50 = .ok (.iconst 1, 1) := by decide +kernel
theorem dX12_readPart_51 : decode cX12_readPart 51 = .ok (.iadd, 1) := by decide +kernel
theorem dX12_readPart_52 : decode cX12_readPart 52 = .ok (.putfield 165, 3) := by decide +kernel
theorem dX12_readPart_55 : decode cX12_readPart 55 = .ok (.aload_n 0, 1) := by decide +kernel
theorem dX12_readPart_56 : decode cX12_readPart 56 = .ok (.iload_n 1, 1) := by decide +kernel
theorem dX12_readPart_57 : decode cX12_readPart 57 = .ok (.iconst 1, 1) := by decide +kernel
theorem dX12_readPart_58 : decode cX12_readPart 58 = .ok (.iadd, 1) := by decide +kernel
theorem dX12_readPart_59 : decode cX12_readPart 59 = .ok (.invokevirtual 177, 3) := by decide +kernel
theorem dX12_readPart_62 : decode cX12_readPart 62 = .ok (.aload_n 0, 1) := by decide +kernel
theorem dX12_readPart_63 : decode cX12_readPart 63 = .ok (.bipush 93, 2) := by decide +kernel
theorem dX12_readPart_65 : decode cX12_readPart 65 = .ok (.invokestatic 207, 3) := by decide +kernel
theorem dX12_readPart_68 : decode cX12_readPart 68 = .ok (.invokevirtual 181, 3) := by decide +kernel
theorem dX12_readPart_71 : decode cX12_readPart 71 = .ok (.goto 96, 3) := by decide +kernel
theorem dX12_readPart_74 : decode cX12_readPart 74 = .ok (.iload_n 2, 1) := by decide +kernel
theorem dX12_readPart_75 : decode cX12_readPart 75 = .ok (.bipush 50, 2) := by decide +kernel
theorem dX12_readPart_77 : decode cX12_readPart 77 = .ok (.if_icmp .ne 18, 3) := by decide +kernel
theorem dX12_readPart_80 : decode cX12_readPart 80 = .ok (.aload_n 0, 1) := by decide +kernel
theorem dX12_readPart_81 : decode cX12_readPart 81 = .ok (.getfield 53, 3) := by decide +kernel
theorem dX12_readPart_84 : decode cX12_readPart 84 = .ok (.aload_n 0, 1) := by decide +kernel
theorem dX12_readPart_85 : decode cX12_readPart 85 = .ok (.getfield 165, 3) := by decide +kernel
theorem dX12_readPart_88 : decode cX12_readPart 88 = .ok (.iaload, 1) := by decide +kernel
theorem dX12_readPart_89 : decode cX12_readPart 89 = .ok (.sipush 1000, 3) := by decide +kernel
theorem dX12_readPart_92 : decode cX12_readPart 92 = .ok (.if_icmp .le 19, 3) := by decide +kernel
theorem dX12_readPart_95 : decode cX12_readPart 95 = .ok (.iload_n 2, 1) := by decide +kernel
theorem dX12_readPart_96 : decode cX12_readPart 96 = .ok (.aload_n 0, 1) := by decide +kernel
theorem dX12_readPart_97 : decode cX12_readPart 97 = .ok (.getfield 217, 3) := by decide +kernel
theorem dX12_readPart_100 : decode cX12_readPart 100 = .ok (.if_icmp .lt 63, 3) := by decide +kernel
theorem dX12_readPart_103 : decode cX12_readPart 103 = .ok (.iload_n 2, 1) := by decide +kernel
theorem dX12_readPart_104 : decode cX12_readPart 104 = .ok (.aload_n 0, 1) := by decide +kernel
theorem dX12_readPart_105 : decode cX12_readPart 105 = .ok (.getfield 220, 3) := by decide +kernel
theorem dX12_readPart_108 : decode cX12_readPart 108 = .ok (.if_icmp .gt 55, 3) := by decide +kernel
theorem dX12_readPart_111 : decode cX12_readPart 111 = .ok (.aload_n 0, 1) := by decide +kernel
theorem dX12_readPart_112 : decode cX12_readPart 112 = .ok (.invokevirtual 223, 3) := by decide +kernel
theorem dX12_readPart_115 : decode cX12_readPart 115 = .ok (.aload_n 0, 1) := by decide +kernel
theorem dX12_readPart_116 : decode cX12_readPart 116 = .ok (.getfield 191, 3) := by decide +kernel
theorem dX12_readPart_119 : decode cX12_readPart 119 = .ok (.ifCond .eq 16, 3) := by decide +kernel
theorem dX12_readPart_122 : decode cX12_readPart 122 = .ok (.iload_n 2, 1) := by decide +kernel
theorem dX12_readPart_123 : decode cX12_readPart 123 = .ok (.bipush 16, 2) := by decide +kernel
theorem dX12_readPart_125 : decode cX12_readPart 125 = .ok (.if_icmp .ne 10, 3) := by decide +kernel
theorem dX12_readPart_128 : decode cX12_readPart 128 = .ok (.aload_n 0, 1) := by decide +kernel
theorem dX12_readPart_129 : decode cX12_readPart 129 = .ok (.iconst 0, 1) := by decide +kernel
theorem dX12_readPart_130 : decode cX12_readPart 130 = .ok (.bipush 9, 2) := by decide +kernel
theorem dX12_readPart_132 : decode cX12_readPart 132 = .ok (.invokevirtual 187, 3) := by decide +kernel
theorem dX12_readPart_135 : decode cX12_readPart 135 = .ok (.aload_n 0, 1) := by decide +kernel
theorem dX12_readPart_136 : decode cX12_readPart 136 = .ok (.getfield 191, 3) := by decide +kernel
theorem dX12_readPart_139 : decode cX12_readPart 139 = .ok (.ifCond .eq 28, 3) := by decide +kernel
theorem dX12_readPart_142 : decode cX12_readPart 142 = .ok (.iload_n 2, 1) := by decide +kernel
theorem dX12_readPart_143 : decode cX12_readPart 143 = .ok (.bipush 17, 2) := by decide +kernel
theorem dX12_readPart_145 : decode cX12_readPart 145 = .ok (.if_icmp .eq 9, 3) := by decide +kernel
theorem dX12_readPart_148 : decode cX12_readPart 148 = .ok (.iload_n 2, 1) := by decide +kernel
theorem dX12_readPart_149 : decode cX12_readPart 149 = .ok (.bipush 22, 2) := by decide +kernel
theorem dX12_readPart_151 : decode cX12_readPart 151 = .ok (.if_icmp .ne 16, 3) := by decide +kernel
theorem dX12_readPart_154 : decode cX12_readPart 154 = .ok (.aload_n 0, 1) := by decide +kernel
theorem dX12_readPart_155 : decode cX12_readPart 155 = .ok (.iconst 0, 1) := by decide +kernel
theorem dX12_readPart_156 : decode cX12_readPart 156 = .ok (.iconst 5, 1) := by decide +kernel
theorem dX12_readPart_157 : decode cX12_readPart 157 = .ok (.invokevirtual 187, 3) := by decide +kernel
theorem dX12_readPart_160 : decode cX12_readPart 160 = .ok (.goto 7, 3) := by decide +kernel
theorem dX12_readPart_163 : decode cX12_readPart 163 = .ok (.aload_n 0, 1) := by decide +kernel
theorem dX12_readPart_164 : decode cX12_readPart 164 = .ok (.invokevirtual 171, 3) := by decide +kernel
theorem dX12_readPart_167 : decode cX12_readPart 167 = .ok (.return_, 1) := by decide +kernel
set_option maxRecDepth 20000 in
theorem ggX12_reads_X12_splits : GoodIn wsX12_reads wsX12_splits := goodIn_r _ [11, 5, 12, 13, 14, 15, 16, 17, 18, 10, 19, 20, 21, 22, 23, 24, 25, 26, 27, 97, 98, 99, 100, 101, 102, 103, 104, 105, 106, 107, 108, 109, 110, 111, 112, 113, 114, 115, 116, 117, 118, 119, 120, 121, 122, 123, 124, 125, 126, 127, 128, 129, 130, 131, 132, 133, 134, 135, 136, 137, 138, 139, 140, 141, 142, 143, 144] (by decide +kernel) (by decide +kernel)
set_option maxRecDepth 20000 in
theorem gX12_reads_X12_splits : GoodIn wsX12_reads (wsV RX12 226 RX12 yX12_splits wsX12_splits) := goodIn_app (goodIn_of _ (by decide +kernel)) ggX12_reads_X12_splits
set_option maxRecDepth 20000 in
theorem ggX12_reads_X12_readOne : GoodIn wsX12_reads wsX12_readOne := goodIn_r _ [31, 32, 33, 34, 35, 10, 36, 37, 38, 39, 40, 15, 2, 41, 42, 43, 44, 4, 45, 46, 47, 48, 49, 50, 51, 52, 53, 54, 55, 14, 56, 57, 58, 59, 60, 61, 13, 62, 63, 64, 65, 66, 67, 68, 69, 3, 70, 71, 72, 73, 74, 75, 76, 77, 78, 79, 80, 81, 82, 83, 84, 85, 86, 87, 88, 89, 90, 91, 92, 93, 94, 95, 96, 97, 98, 99, 100, 101, 102, 103, 104, 105, 106, 107, 108, 109, 110, 111, 112, 113, 114, 115, 116, 117, 118, 119, 120, 121, 122, 123, 124, 125, 126, 127, 128, 129, 130, 131, 132, 133, 134, 135, 136, 137, 138, 139, 140, 141, 142, 143, 144] (by decide +kernel) (by decide +kernel)
set_option maxRecDepth 20000 in
theorem gX12_reads_X12_readOne : GoodIn wsX12_reads (wsV RX12 229 RX12 yX12_readOne wsX12_readOne) := goodIn_app (goodIn_of _ (by decide +kernel)) ggX12_reads_X12_readOne
set_option maxRecDepth 20000 in
theorem ggX12_reads_X12_sign : GoodIn wsX12_reads wsX12_sign := goodIn_r _ [54] (by decide +kernel) (by decide +kernel)
set_option maxRecDepth 20000 in
theorem gX12_reads_X12_sign : GoodIn wsX12_reads (va_wsS RX12 207 yX12_sign wsX12_sign) := goodIn_app (goodIn_of _ (by decide +kernel)) ggX12_reads_X12_sign
set_option maxRecDepth 20000 in
theorem ggX12_reads_X12_takes0 : GoodIn wsX12_reads wsX12_takes0 := goodIn_r _ [40, 15, 2, 41, 42, 43, 10, 44, 4, 97, 98, 99, 100, 101, 102, 103, 104, 105, 106, 107, 108, 109, 110, 111, 112, 113, 114, 115, 116, 117, 118, 119, 120, 121, 122, 123, 124, 125, 126, 127, 128, 129, 130, 131, 132, 133, 134, 135, 136, 137, 138, 139, 140, 141, 142, 143, 144] (by decide +kernel) (by decide +kernel)
set_option maxRecDepth 20000 in
theorem gX12_reads_X12_takes0 : GoodIn wsX12_reads (wsV RX12 168 RX12 yX12_takes0 wsX12_takes0) := goodIn_app (goodIn_of _ (by decide +kernel)) ggX12_reads_X12_takes0
set_option maxRecDepth 20000 in
theorem ggX12_reads_X12_faults : GoodIn wsX12_reads wsX12_faults := goodIn_r _ [61, 13, 2, 4, 41, 42, 43, 10, 44, 97, 98, 99, 100, 101, 102, 103, 104, 105, 106, 107, 108, 109, 110, 111, 112, 113, 114, 115, 116, 117, 118, 119, 120, 121, 122, 123, 124, 125, 126, 127, 128, 129, 130, 131, 132, 133, 134, 135, 136, 137, 138, 139, 140, 141, 142, 143, 144] (by decide +kernel) (by decide +kernel)
set_option maxRecDepth 20000 in
theorem gX12_reads_X12_faults : GoodIn wsX12_reads (wsV RX12 171 RX12 yX12_faults wsX12_faults) := goodIn_app (goodIn_of _ (by decide +kernel)) ggX12_reads_X12_faults
set_option maxRecDepth 20000 in
theorem ggX12_reads_X12_fine : GoodIn wsX12_reads wsX12_fine := goodIn_r _ [44, 4, 97, 98, 99, 100, 101, 102, 103, 104, 105, 106, 107, 108, 109, 110, 111, 112, 113, 114, 115, 116, 117, 118, 119, 120, 121, 122, 123, 124, 125, 126, 127, 128, 129, 130, 131, 132, 133, 134, 135, 136, 137, 138, 139, 140, 141, 142, 143, 144] (by decide +kernel) (by decide +kernel)
set_option maxRecDepth 20000 in
theorem gX12_reads_X12_fine : GoodIn wsX12_reads (wsV RX12 161 RX12 yX12_fine wsX12_fine) := goodIn_app (goodIn_of _ (by decide +kernel)) ggX12_reads_X12_fine
theorem dX12_reads_0 : decode cX12_reads 0 = .ok (.aload_n 0, 1) := by decide +kernel
theorem dX12_reads_1 : decode cX12_reads 1 = .ok (.aload_n 0, 1) := by decide +kernel
theorem dX12_reads_2 : decode cX12_reads 2 = .ok (.getfield 138, 3) := by decide +kernel
theorem dX12_reads_5 : decode cX12_reads 5 = .ok (.invokevirtual 226, 3) := by decide +kernel
theorem dX12_reads_8 : decode cX12_reads 8 = .ok (.aload_n 0, 1) := by decide +kernel
theorem dX12_reads_9 : decode cX12_reads 9 = .ok (.iconst 0, 1) := by decide +kernel
theorem dX12_reads_10 : decode cX12_reads 10 = .ok (.putfield 138, 3) := by decide +kernel
theorem dX12_reads_13 : decode cX12_reads 13 = .ok (.aload_n 0, 1) := by decide +kernel
theorem dX12_reads_14 : decode cX12_reads 14 = .ok (.iconst 0, 1) := by decide +kernel
theorem dX12_reads_15 : decode cX12_reads 15 = .ok (.putfield 165, 3) := by decide +kernel
theorem dX12_reads_18 : decode cX12_reads 18 = .ok (.aload_n 0, 1) := by decide +kernel
theorem dX12_reads_19 : decode cX12_reads 19 = .ok (.iconst 0, 1) := by decide +kernel
theorem dX12_reads_20 : decode cX12_reads 20 = .ok (.putfield 174, 3) := by decide +kernel
theorem dX12_reads_23 : decode cX12_reads 23 = .ok (.aload_n 0, 1) := by decide +kernel
theorem dX12_reads_24 : decode cX12_reads 24 = .ok (.iconst (-1), 1) := by decide +kernel
theorem dX12_reads_25 : decode cX12_reads 25 = .ok (.putfield 158, 3) := by decide +kernel
theorem dX12_reads_28 : decode cX12_reads 28 = .ok (.aload_n 0, 1) := by decide +kernel
theorem dX12_reads_29 : decode cX12_reads 29 = .ok (.invokevirtual 229, 3) := by decide +kernel
theorem dX12_reads_32 : decode cX12_reads 32 = .ok (.iconst 1, 1) := by decide +kernel
theorem dX12_reads_33 : decode cX12_reads 33 = .ok (.istore_n 1, 1) := by decide +kernel
theorem dX12_reads_34 : decode cX12_reads 34 = .ok (.aload_n 0, 1) := by decide +kernel
theorem dX12_reads_35 : decode cX12_reads 35 = .ok (.bipush 59, 2) := by decide +kernel
theorem dX12_reads_37 : decode cX12_reads 37 = .ok (.invokestatic 207, 3) := by decide +kernel
theorem dX12_reads_40 : decode cX12_reads 40 = .ok (.invokevirtual 168, 3) := by decide +kernel
theorem dX12_reads_43 : decode cX12_reads 43 = .ok (.ifCond .eq 30, 3) := by decide +kernel
theorem dX12_reads_46 : decode cX12_reads 46 = .ok (.iload_n 1, 1) := by decide +kernel
theorem dX12_reads_47 : decode cX12_reads 47 = .ok (.bipush 12, 2) := by decide +kernel
theorem dX12_reads_49 : decode cX12_reads 49 = .ok (.if_icmp .ne 7, 3) := by decide +kernel
theorem dX12_reads_52 : decode cX12_reads 52 = .ok (.aload_n 0, 1) := by decide +kernel
theorem dX12_reads_53 : decode cX12_reads 53 = .ok (.invokevirtual 171, 3) := by decide +kernel
theorem dX12_reads_56 : decode cX12_reads 56 = .ok (.aload_n 0, 1) := by decide +kernel
theorem dX12_reads_57 : decode cX12_reads 57 = .ok (.invokevirtual 161, 3) := by decide +kernel
theorem dX12_reads_60 : decode cX12_reads 60 = .ok (.ifCond .eq 7, 3) := by decide +kernel
theorem dX12_reads_63 : decode cX12_reads 63 = .ok (.aload_n 0, 1) := by decide +kernel
theorem dX12_reads_64 : decode cX12_reads 64 = .ok (.invokevirtual 229, 3) := by decide +kernel
theorem dX12_reads_67 : decode cX12_reads 67 = .ok (.iinc 1 1, 3) := by decide +kernel
theorem dX12_reads_70 : decode cX12_reads 70 = .ok (.goto (-36), 3) := by decide +kernel
theorem dX12_reads_73 : decode cX12_reads 73 = .ok (.aload_n 0, 1) := by decide +kernel
theorem dX12_reads_74 : decode cX12_reads 74 = .ok (.invokevirtual 161, 3) := by decide +kernel
theorem dX12_reads_77 : decode cX12_reads 77 = .ok (.ifCond .eq 18, 3) := by decide +kernel
theorem dX12_reads_80 : decode cX12_reads 80 = .ok (.aload_n 0, 1) := by decide +kernel
theorem dX12_reads_81 : decode cX12_reads 81 = .ok (.getfield 165, 3) := by decide +kernel
theorem dX12_reads_84 : decode cX12_reads 84 = .ok (.aload_n 0, 1) := by decide +kernel
theorem dX12_reads_85 : decode cX12_reads 85 = .ok (.getfield 144, 3) := by decide +kernel
theorem dX12_reads_88 : decode cX12_reads 88 = .ok (.if_icmp .ge 7, 3) := by decide +kernel
theorem dX12_reads_91 : decode cX12_reads 91 = .ok (.aload_n 0, 1) := by decide +kernel
theorem dX12_reads_92 : decode cX12_reads 92 = .ok (.invokevirtual 171, 3) := by decide +kernel
theorem dX12_reads_95 : decode cX12_reads 95 = .ok (.aload_n 0, 1) := by decide +kernel
theorem dX12_reads_96 : decode cX12_reads 96 = .ok (.aload_n 0, 1) := by decide +kernel
theorem dX12_reads_97 : decode cX12_reads 97 = .ok (.getfield 158, 3) := by decide +kernel
theorem dX12_reads_100 : decode cX12_reads 100 = .ok (.putfield 47, 3) := by decide +kernel
theorem dX12_reads_103 : decode cX12_reads 103 = .ok (.aload_n 0, 1) := by decide +kernel
theorem dX12_reads_104 : decode cX12_reads 104 = .ok (.invokevirtual 161, 3) := by decide +kernel
theorem dX12_reads_107 : decode cX12_reads 107 = .ok (.ireturn, 1) := by decide +kernel
set_option maxRecDepth 20000 in
theorem ggX12_readsAs_X12_reads : GoodIn wsX12_readsAs wsX12_reads := goodIn_r _ [8, 9, 10, 11, 12, 13, 14, 15, 16, 17, 7, 18, 19, 20, 21, 22, 23, 24, 25, 26, 27, 28, 29, 30, 31, 32, 33, 34, 35, 36, 37, 38, 1, 39, 40, 41, 42, 43, 44, 45, 46, 47, 48, 49, 50, 51, 52, 53, 54, 55, 56, 57, 58, 59, 60, 61, 2, 3, 62, 63, 64, 65, 66, 67, 68, 69, 70, 71, 72, 73, 74, 75, 76, 77, 78, 79, 80, 81, 82, 83, 84, 85, 86, 87, 88, 89, 90, 91, 92, 93, 94, 95, 96, 97, 98, 99, 100, 101, 102, 103, 104, 105, 106, 107, 108, 109, 110, 111, 112, 113, 114, 115, 116, 117, 118, 119, 120, 121, 122, 123, 124, 125, 126, 127, 128, 129, 130, 131, 132, 133, 134, 135, 136, 137, 138, 139, 140, 141, 142, 143, 144, 145, 146, 147, 148] (by decide +kernel) (by decide +kernel)
set_option maxRecDepth 20000 in
theorem gX12_readsAs_X12_reads : GoodIn wsX12_readsAs (wsV RX12 232 RX12 yX12_reads wsX12_reads) := goodIn_app (goodIn_of _ (by decide +kernel)) ggX12_readsAs_X12_reads
theorem dX12_readsAs_0 : decode cX12_readsAs 0 = .ok (.aload_n 0, 1) := by decide +kernel
theorem dX12_readsAs_1 : decode cX12_readsAs 1 = .ok (.iload_n 1, 1) := by decide +kernel
theorem dX12_readsAs_2 : decode cX12_readsAs 2 = .ok (.putfield 191, 3) := by decide +kernel
theorem dX12_readsAs_5 : decode cX12_readsAs 5 = .ok (.aload_n 0, 1) := by decide +kernel
theorem dX12_readsAs_6 : decode cX12_readsAs 6 = .ok (.iload_n 1, 1) := by decide +kernel
theorem dX12_readsAs_7 : decode cX12_readsAs 7 = .ok (.ifCond .eq 8, 3) := by decide +kernel
theorem dX12_readsAs_10 : decode cX12_readsAs 10 = .ok (.bipush 16, 2) := by decide +kernel
theorem dX12_readsAs_12 : decode cX12_readsAs 12 = .ok (.goto 5, 3) := by decide +kernel
theorem dX12_readsAs_15 : decode cX12_readsAs 15 = .ok (.bipush 9, 2) := by decide +kernel
theorem dX12_readsAs_17 : decode cX12_readsAs 17 = .ok (.putfield 217, 3) := by decide +kernel
theorem dX12_readsAs_20 : decode cX12_readsAs 20 = .ok (.aload_n 0, 1) := by decide +kernel
theorem dX12_readsAs_21 : decode cX12_readsAs 21 = .ok (.iload_n 1, 1) := by decide +kernel
theorem dX12_readsAs_22 : decode cX12_readsAs 22 = .ok (.ifCond .eq 8, 3) := by decide +kernel
theorem dX12_readsAs_25 : decode cX12_readsAs 25 = .ok (.bipush 22, 2) := by decide +kernel
theorem dX12_readsAs_27 : decode cX12_readsAs 27 = .ok (.goto 5, 3) := by decide +kernel
theorem dX12_readsAs_30 : decode cX12_readsAs 30 = .ok (.bipush 18, 2) := by decide +kernel
theorem dX12_readsAs_32 : decode cX12_readsAs 32 = .ok (.putfield 220, 3) := by decide +kernel
theorem dX12_readsAs_35 : decode cX12_readsAs 35 = .ok (.aload_n 0, 1) := by decide +kernel
theorem dX12_readsAs_36 : decode cX12_readsAs 36 = .ok (.invokevirtual 232, 3) := by decide +kernel
theorem dX12_readsAs_39 : decode cX12_readsAs 39 = .ok (.ireturn, 1) := by decide +kernel
theorem dX12_lays_0 : decode cX12_lays 0 = .ok (.aload_n 0, 1) := by decide +kernel
theorem dX12_lays_1 : decode cX12_lays 1 = .ok (.getfield 24, 3) := by decide +kernel
theorem dX12_lays_4 : decode cX12_lays 4 = .ok (.bipush 107, 2) := by decide +kernel
theorem dX12_lays_6 : decode cX12_lays 6 = .ok (.iload_n 1, 1) := by decide +kernel
theorem dX12_lays_7 : decode cX12_lays 7 = .ok (.iadd, 1) := by decide +kernel
theorem dX12_lays_8 : decode cX12_lays 8 = .ok (.aload_n 0, 1) := by decide +kernel
theorem dX12_lays_9 : decode cX12_lays 9 = .ok (.getfield 144, 3) := by decide +kernel
theorem dX12_lays_12 : decode cX12_lays 12 = .ok (.iastore, 1) := by decide +kernel
theorem dX12_lays_13 : decode cX12_lays 13 = .ok (.iconst 0, 1) := by decide +kernel
theorem dX12_lays_14 : decode cX12_lays 14 = .ok (.istore_n 2, 1) := by decide +kernel
theorem dX12_lays_15 : decode cX12_lays 15 = .ok (.iload_n 2, 1) := by decide +kernel
theorem dX12_lays_16 : decode cX12_lays 16 = .ok (.aload_n 0, 1) := by decide +kernel
theorem dX12_lays_17 : decode cX12_lays 17 = .ok (.getfield 144, 3) := by decide +kernel
theorem dX12_lays_20 : decode cX12_lays 20 = .ok (.if_icmp .ge 52, 3) := by decide +kernel
theorem dX12_lays_23 : decode cX12_lays 23 = .ok (.aload_n 0, 1) := by decide +kernel
theorem dX12_lays_24 : decode cX12_lays 24 = .ok (.getfield 24, 3) := by decide +kernel
theorem dX12_lays_27 : decode cX12_lays 27 = .ok (.bipush 114, 2) := by decide +kernel
theorem dX12_lays_29 : decode cX12_lays 29 = .ok (.sipush 400, 3) := by decide +kernel
theorem dX12_lays_32 : decode cX12_lays 32 = .ok (.iload_n 1, 1) := by decide +kernel
theorem dX12_lays_33 : decode cX12_lays 33 = .ok (.imul, 1) := by decide +kernel
theorem dX12_lays_34 : decode cX12_lays 34 = .ok (.iadd, 1) := by decide +kernel
theorem dX12_lays_35 : decode cX12_lays 35 = .ok (.iload_n 2, 1) := by decide +kernel
theorem dX12_lays_36 : decode cX12_lays 36 = .ok (.iadd, 1) := by decide +kernel
theorem dX12_lays_37 : decode cX12_lays 37 = .ok (.aload_n 0, 1) := by decide +kernel
theorem dX12_lays_38 : decode cX12_lays 38 = .ok (.getfield 50, 3) := by decide +kernel
theorem dX12_lays_41 : decode cX12_lays 41 = .ok (.iload_n 2, 1) := by decide +kernel
theorem dX12_lays_42 : decode cX12_lays 42 = .ok (.iaload, 1) := by decide +kernel
theorem dX12_lays_43 : decode cX12_lays 43 = .ok (.iastore, 1) := by decide +kernel
theorem dX12_lays_44 : decode cX12_lays 44 = .ok (.aload_n 0, 1) := by decide +kernel
theorem dX12_lays_45 : decode cX12_lays 45 = .ok (.getfield 24, 3) := by decide +kernel
theorem dX12_lays_48 : decode cX12_lays 48 = .ok (.sipush 2914, 3) := by decide +kernel
theorem dX12_lays_51 : decode cX12_lays 51 = .ok (.sipush 400, 3) := by decide +kernel
theorem dX12_lays_54 : decode cX12_lays 54 = .ok (.iload_n 1, 1) := by decide +kernel
theorem dX12_lays_55 : decode cX12_lays 55 = .ok (.imul, 1) := by decide +kernel
theorem dX12_lays_56 : decode cX12_lays 56 = .ok (.iadd, 1) := by decide +kernel
theorem dX12_lays_57 : decode cX12_lays 57 = .ok (.iload_n 2, 1) := by decide +kernel
theorem dX12_lays_58 : decode cX12_lays 58 = .ok (.iadd, 1) := by decide +kernel
theorem dX12_lays_59 : decode cX12_lays 59 = .ok (.aload_n 0, 1) := by decide +kernel
theorem dX12_lays_60 : decode cX12_lays 60 = .ok (.getfield 53, 3) := by decide +kernel
theorem dX12_lays_63 : decode cX12_lays 63 = .ok (.iload_n 2, 1) := by decide +kernel
theorem dX12_lays_64 : decode cX12_lays 64 = .ok (.iaload, 1) := by decide +kernel
theorem dX12_lays_65 : decode cX12_lays 65 = .ok (.iastore, 1) := by decide +kernel
theorem dX12_lays_66 : decode cX12_lays 66 = .ok (.iinc 2 1, 3) := by decide +kernel
theorem dX12_lays_69 : decode cX12_lays 69 = .ok (.goto (-54), 3) := by decide +kernel
theorem dX12_lays_72 : decode cX12_lays 72 = .ok (.return_, 1) := by decide +kernel
set_option maxRecDepth 20000 in
theorem ggX12_law_X12_refuses : GoodIn wsX12_law wsX12_refuses := goodIn_r _ [7, 8, 9, 120, 121, 122, 123, 124, 125, 126, 127, 128, 129, 130, 131, 132, 133, 134, 135, 136, 137, 138, 139, 140, 141, 142, 143, 144, 145, 146, 147, 148, 149, 150, 151, 152, 153, 154, 155, 156, 157, 158, 159, 160, 161, 162, 163, 164, 165, 166, 167] (by decide +kernel) (by decide +kernel)
set_option maxRecDepth 20000 in
theorem gX12_law_X12_refuses : GoodIn wsX12_law (wsV RX12 100 RX12 yX12_refuses wsX12_refuses) := goodIn_app (goodIn_of _ (by decide +kernel)) ggX12_law_X12_refuses
set_option maxRecDepth 20000 in
theorem ggX12_law_X12_readsAs : GoodIn wsX12_law wsX12_readsAs := goodIn_r _ [13, 14, 15, 16, 17, 18, 19, 6, 20, 2, 21, 22, 23, 24, 25, 26, 27, 28, 29, 30, 31, 32, 33, 34, 35, 36, 37, 38, 39, 40, 41, 42, 43, 44, 45, 46, 47, 48, 49, 50, 51, 52, 53, 54, 55, 56, 57, 58, 59, 60, 61, 62, 63, 64, 65, 66, 67, 68, 69, 70, 71, 72, 73, 74, 75, 76, 77, 78, 79, 80, 81, 82, 83, 84, 85, 86, 87, 88, 89, 90, 91, 92, 93, 94, 95, 96, 97, 98, 99, 100, 101, 102, 103, 104, 105, 106, 107, 108, 109, 110, 111, 120, 121, 122, 123, 124, 125, 126, 127, 128, 129, 130, 131, 132, 133, 134, 135, 136, 137, 138, 139, 140, 141, 142, 143, 144, 145, 146, 147, 148, 149, 150, 151, 152, 153, 154, 155, 156, 157, 158, 159, 160, 161, 162, 163, 164, 165, 166, 167] (by decide +kernel) (by decide +kernel)
set_option maxRecDepth 20000 in
theorem gX12_law_X12_readsAs : GoodIn wsX12_law (wsV RX12 235 RX12 yX12_readsAs wsX12_readsAs) := goodIn_app (goodIn_of _ (by decide +kernel)) ggX12_law_X12_readsAs
set_option maxRecDepth 20000 in
theorem ggX12_law_X12_lays : GoodIn wsX12_law wsX12_lays := goodIn_r _ [115, 1, 24, 33, 32, 120, 121, 122, 123, 124, 125, 126, 127, 128, 129, 130, 131, 132, 133, 134, 135, 136, 137, 138, 139, 140, 141, 142, 143, 144, 145, 146, 147, 148, 149, 150, 151, 152, 153, 154, 155, 156, 157, 158, 159, 160, 161, 162, 163, 164, 165, 166, 167] (by decide +kernel) (by decide +kernel)
set_option maxRecDepth 20000 in
theorem gX12_law_X12_lays : GoodIn wsX12_law (wsV RX12 239 RX12 yX12_lays wsX12_lays) := goodIn_app (goodIn_of _ (by decide +kernel)) ggX12_law_X12_lays
set_option maxRecDepth 20000 in
theorem ggX12_law_X12_good : GoodIn wsX12_law wsX12_good := goodIn_r _ [119, 8, 120, 121, 122, 123, 124, 125, 126, 127, 128, 129, 130, 131, 132, 133, 134, 135, 136, 137, 138, 139, 140, 141, 142, 143, 144, 145, 146, 147, 148, 149, 150, 151, 152, 153, 154, 155, 156, 157, 158, 159, 160, 161, 162, 163, 164, 165, 166, 167] (by decide +kernel) (by decide +kernel)
set_option maxRecDepth 20000 in
theorem gX12_law_X12_good : GoodIn wsX12_law (wsV RX12 14 RX12 yX12_good wsX12_good) := goodIn_app (goodIn_of _ (by decide +kernel)) ggX12_law_X12_good
theorem dX12_law_0 : decode cX12_law 0 = .ok (.aload_n 0, 1) := by decide +kernel
theorem dX12_law_1 : decode cX12_law 1 = .ok (.getfield 24, 3) := by decide +kernel
theorem dX12_law_4 : decode cX12_law 4 = .ok (.bipush 105, 2) := by decide +kernel
theorem dX12_law_6 : decode cX12_law 6 = .ok (.iaload, 1) := by decide +kernel
theorem dX12_law_7 : decode cX12_law 7 = .ok (.bipush 6, 2) := by decide +kernel
theorem dX12_law_9 : decode cX12_law 9 = .ok (.if_icmp .ne 15, 3) := by decide +kernel
theorem dX12_law_12 : decode cX12_law 12 = .ok (.aload_n 0, 1) := by decide +kernel
theorem dX12_law_13 : decode cX12_law 13 = .ok (.iconst 0, 1) := by decide +kernel
theorem dX12_law_14 : decode cX12_law 14 = .ok (.putfield 138, 3) := by decide +kernel
theorem dX12_law_17 : decode cX12_law 17 = .ok (.aload_n 0, 1) := by decide +kernel
theorem dX12_law_18 : decode cX12_law 18 = .ok (.bipush (-5), 2) := by decide +kernel
theorem dX12_law_20 : decode cX12_law 20 = .ok (.invokevirtual 100, 3) := by decide +kernel
theorem dX12_law_23 : decode cX12_law 23 = .ok (.ireturn, 1) := by decide +kernel
theorem dX12_law_24 : decode cX12_law 24 = .ok (.aload_n 0, 1) := by decide +kernel
theorem dX12_law_25 : decode cX12_law 25 = .ok (.iconst 0, 1) := by decide +kernel
theorem dX12_law_26 : decode cX12_law 26 = .ok (.invokevirtual 235, 3) := by decide +kernel
theorem dX12_law_29 : decode cX12_law 29 = .ok (.ifCond .ne 10, 3) := by decide +kernel
theorem dX12_law_32 : decode cX12_law 32 = .ok (.aload_n 0, 1) := by decide +kernel
theorem dX12_law_33 : decode cX12_law 33 = .ok (.bipush (-6), 2) := by decide +kernel
theorem dX12_law_35 : decode cX12_law 35 = .ok (.invokevirtual 100, 3) := by decide +kernel
theorem dX12_law_38 : decode cX12_law 38 = .ok (.ireturn, 1) := by decide +kernel
theorem dX12_law_39 : decode cX12_law 39 = .ok (.aload_n 0, 1) := by decide +kernel
theorem dX12_law_40 : decode cX12_law 40 = .ok (.aload_n 0, 1) := by decide +kernel
theorem dX12_law_41 : decode cX12_law 41 = .ok (.getfield 24, 3) := by decide +kernel
theorem dX12_law_44 : decode cX12_law 44 = .ok (.bipush 105, 2) := by decide +kernel
theorem dX12_law_46 : decode cX12_law 46 = .ok (.iaload, 1) := by decide +kernel
theorem dX12_law_47 : decode cX12_law 47 = .ok (.invokevirtual 239, 3) := by decide +kernel
theorem dX12_law_50 : decode cX12_law 50 = .ok (.aload_n 0, 1) := by decide +kernel
theorem dX12_law_51 : decode cX12_law 51 = .ok (.getfield 24, 3) := by decide +kernel
theorem dX12_law_54 : decode cX12_law 54 = .ok (.bipush 105, 2) := by decide +kernel
theorem dX12_law_56 : decode cX12_law 56 = .ok (.dup2, 1) := by decide +kernel
theorem dX12_law_57 : decode cX12_law 57 = .ok (.iaload, 1) := by decide +kernel
theorem dX12_law_58 : decode cX12_law 58 = .ok (.iconst 1, 1) := by decide +kernel
theorem dX12_law_59 : decode cX12_law 59 = .ok (.iadd, 1) := by decide +kernel
theorem dX12_law_60 : decode cX12_law 60 = .ok (.iastore, 1) := by decide +kernel
theorem dX12_law_61 : decode cX12_law 61 = .ok (.aload_n 0, 1) := by decide +kernel
theorem dX12_law_62 : decode cX12_law 62 = .ok (.aload_n 0, 1) := by decide +kernel
theorem dX12_law_63 : decode cX12_law 63 = .ok (.getfield 24, 3) := by decide +kernel
theorem dX12_law_66 : decode cX12_law 66 = .ok (.bipush 105, 2) := by decide +kernel
theorem dX12_law_68 : decode cX12_law 68 = .ok (.iaload, 1) := by decide +kernel
theorem dX12_law_69 : decode cX12_law 69 = .ok (.iconst 1, 1) := by decide +kernel
theorem dX12_law_70 : decode cX12_law 70 = .ok (.isub, 1) := by decide +kernel
theorem dX12_law_71 : decode cX12_law 71 = .ok (.invokevirtual 14, 3) := by decide +kernel
theorem dX12_law_74 : decode cX12_law 74 = .ok (.ireturn, 1) := by decide +kernel
theorem dX12_fault_0 : decode cX12_fault 0 = .ok (.aload_n 0, 1) := by decide +kernel
theorem dX12_fault_1 : decode cX12_fault 1 = .ok (.getfield 47, 3) := by decide +kernel
theorem dX12_fault_4 : decode cX12_fault 4 = .ok (.ireturn, 1) := by decide +kernel
set_option maxRecDepth 20000 in
theorem ggX12_force_X12_lies : GoodIn wsX12_force wsX12_lies := goodIn_r _ [5] (by decide +kernel) (by decide +kernel)
set_option maxRecDepth 20000 in
theorem gX12_force_X12_lies : GoodIn wsX12_force (va_wsS RX12 96 yX12_lies wsX12_lies) := goodIn_app (goodIn_of _ (by decide +kernel)) ggX12_force_X12_lies
set_option maxRecDepth 20000 in
theorem ggX12_force_X12_refuses : GoodIn wsX12_force wsX12_refuses := goodIn_r _ [9, 10, 11, 16, 17, 18, 19, 20, 21, 22, 23, 24, 25, 26, 27, 28, 29, 30, 31, 32, 33, 34, 35, 36, 37, 38, 39, 40, 41, 42, 43, 44, 45, 46, 47, 48, 49, 50, 51, 52, 53, 54, 55, 56, 57, 58, 59, 60, 61, 62, 63] (by decide +kernel) (by decide +kernel)
set_option maxRecDepth 20000 in
theorem gX12_force_X12_refuses : GoodIn wsX12_force (wsV RX12 100 RX12 yX12_refuses wsX12_refuses) := goodIn_app (goodIn_of _ (by decide +kernel)) ggX12_force_X12_refuses
set_option maxRecDepth 20000 in
theorem ggX12_force_X12_good : GoodIn wsX12_force wsX12_good := goodIn_r _ [15, 10, 16, 17, 18, 19, 20, 21, 22, 23, 24, 25, 26, 27, 28, 29, 30, 31, 32, 33, 34, 35, 36, 37, 38, 39, 40, 41, 42, 43, 44, 45, 46, 47, 48, 49, 50, 51, 52, 53, 54, 55, 56, 57, 58, 59, 60, 61, 62, 63] (by decide +kernel) (by decide +kernel)
set_option maxRecDepth 20000 in
theorem gX12_force_X12_good : GoodIn wsX12_force (wsV RX12 14 RX12 yX12_good wsX12_good) := goodIn_app (goodIn_of _ (by decide +kernel)) ggX12_force_X12_good
theorem dX12_force_0 : decode cX12_force 0 = .ok (.iload_n 1, 1) := by decide +kernel
theorem dX12_force_1 : decode cX12_force 1 = .ok (.iconst (-1), 1) := by decide +kernel
theorem dX12_force_2 : decode cX12_force 2 = .ok (.aload_n 0, 1) := by decide +kernel
theorem dX12_force_3 : decode cX12_force 3 = .ok (.getfield 24, 3) := by decide +kernel
theorem dX12_force_6 : decode cX12_force 6 = .ok (.bipush 105, 2) := by decide +kernel
theorem dX12_force_8 : decode cX12_force 8 = .ok (.iaload, 1) := by decide +kernel
theorem dX12_force_9 : decode cX12_force 9 = .ok (.iconst 1, 1) := by decide +kernel
theorem dX12_force_10 : decode cX12_force 10 = .ok (.isub, 1) := by decide +kernel
theorem dX12_force_11 : decode cX12_force 11 = .ok (.invokestatic 96, 3) := by decide +kernel
theorem dX12_force_14 : decode cX12_force 14 = .ok (.ifCond .ne 10, 3) := by decide +kernel
theorem dX12_force_17 : decode cX12_force 17 = .ok (.aload_n 0, 1) := by decide +kernel
theorem dX12_force_18 : decode cX12_force 18 = .ok (.bipush (-2), 2) := by decide +kernel
theorem dX12_force_20 : decode cX12_force 20 = .ok (.invokevirtual 100, 3) := by decide +kernel
theorem dX12_force_23 : decode cX12_force 23 = .ok (.ireturn, 1) := by decide +kernel
theorem dX12_force_24 : decode cX12_force 24 = .ok (.aload_n 0, 1) := by decide +kernel
theorem dX12_force_25 : decode cX12_force 25 = .ok (.getfield 24, 3) := by decide +kernel
theorem dX12_force_28 : decode cX12_force 28 = .ok (.bipush 106, 2) := by decide +kernel
theorem dX12_force_30 : decode cX12_force 30 = .ok (.iaload, 1) := by decide +kernel
theorem dX12_force_31 : decode cX12_force 31 = .ok (.istore_n 2, 1) := by decide +kernel
theorem dX12_force_32 : decode cX12_force 32 = .ok (.aload_n 0, 1) := by decide +kernel
theorem dX12_force_33 : decode cX12_force 33 = .ok (.getfield 24, 3) := by decide +kernel
theorem dX12_force_36 : decode cX12_force 36 = .ok (.bipush 106, 2) := by decide +kernel
theorem dX12_force_38 : decode cX12_force 38 = .ok (.iload_n 1, 1) := by decide +kernel
theorem dX12_force_39 : decode cX12_force 39 = .ok (.iastore, 1) := by decide +kernel
theorem dX12_force_40 : decode cX12_force 40 = .ok (.aload_n 0, 1) := by decide +kernel
theorem dX12_force_41 : decode cX12_force 41 = .ok (.iload_n 2, 1) := by decide +kernel
theorem dX12_force_42 : decode cX12_force 42 = .ok (.invokevirtual 14, 3) := by decide +kernel
theorem dX12_force_45 : decode cX12_force 45 = .ok (.ireturn, 1) := by decide +kernel
theorem dX12_codeAt_0 : decode cX12_codeAt 0 = .ok (.iload_n 1, 1) := by decide +kernel
theorem dX12_codeAt_1 : decode cX12_codeAt 1 = .ok (.aload_n 0, 1) := by decide +kernel
theorem dX12_codeAt_2 : decode cX12_codeAt 2 = .ok (.getfield 242, 3) := by decide +kernel
theorem dX12_codeAt_5 : decode cX12_codeAt 5 = .ok (.if_icmp .ge 15, 3) := by decide +kernel
theorem dX12_codeAt_8 : decode cX12_codeAt 8 = .ok (.aload_n 0, 1) := by decide +kernel
theorem dX12_codeAt_9 : decode cX12_codeAt 9 = .ok (.getfield 24, 3) := by decide +kernel
theorem dX12_codeAt_12 : decode cX12_codeAt 12 = .ok (.bipush 114, 2) := by decide +kernel
theorem dX12_codeAt_14 : decode cX12_codeAt 14 = .ok (.iload_n 1, 1) := by decide +kernel
theorem dX12_codeAt_15 : decode cX12_codeAt 15 = .ok (.iadd, 1) := by decide +kernel
theorem dX12_codeAt_16 : decode cX12_codeAt 16 = .ok (.iaload, 1) := by decide +kernel
theorem dX12_codeAt_17 : decode cX12_codeAt 17 = .ok (.goto 4, 3) := by decide +kernel
theorem dX12_codeAt_20 : decode cX12_codeAt 20 = .ok (.iconst 0, 1) := by decide +kernel
theorem dX12_codeAt_21 : decode cX12_codeAt 21 = .ok (.ireturn, 1) := by decide +kernel
set_option maxRecDepth 20000 in
theorem ggX12_passes0_X12_codeAt : GoodIn wsX12_passes0 wsX12_codeAt := goodIn_r _ [6, 7, 8, 9, 10, 11, 12, 13, 14, 15, 16, 17, 18, 19, 20, 21, 22, 23, 24, 25, 26, 27, 28, 29, 30, 31, 32, 33, 34, 35, 36, 37, 38, 39, 40, 41, 42, 43, 44, 45, 46, 47, 48, 49, 50, 51, 52, 53, 54, 55, 56] (by decide +kernel) (by decide +kernel)
set_option maxRecDepth 20000 in
theorem gX12_passes0_X12_codeAt : GoodIn wsX12_passes0 (wsV RX12 248 RX12 yX12_codeAt wsX12_codeAt) := goodIn_app (goodIn_of _ (by decide +kernel)) ggX12_passes0_X12_codeAt
theorem dX12_passes0_0 : decode cX12_passes0 0 = .ok (.aload_n 0, 1) := by decide +kernel
theorem dX12_passes0_1 : decode cX12_passes0 1 = .ok (.aload_n 0, 1) := by decide +kernel
theorem dX12_passes0_2 : decode cX12_passes0 2 = .ok (.getfield 245, 3) := by decide +kernel
theorem dX12_passes0_5 : decode cX12_passes0 5 = .ok (.invokevirtual 248, 3) := by decide +kernel
theorem dX12_passes0_8 : decode cX12_passes0 8 = .ok (.iload_n 1, 1) := by decide +kernel
theorem dX12_passes0_9 : decode cX12_passes0 9 = .ok (.if_icmp .ne 7, 3) := by decide +kernel
theorem dX12_passes0_12 : decode cX12_passes0 12 = .ok (.iconst 1, 1) := by decide +kernel
theorem dX12_passes0_13 : decode cX12_passes0 13 = .ok (.goto 4, 3) := by decide +kernel
theorem dX12_passes0_16 : decode cX12_passes0 16 = .ok (.iconst 0, 1) := by decide +kernel
theorem dX12_passes0_17 : decode cX12_passes0 17 = .ok (.istore_n 2, 1) := by decide +kernel
theorem dX12_passes0_18 : decode cX12_passes0 18 = .ok (.iload_n 2, 1) := by decide +kernel
theorem dX12_passes0_19 : decode cX12_passes0 19 = .ok (.ifCond .eq 13, 3) := by decide +kernel
theorem dX12_passes0_22 : decode cX12_passes0 22 = .ok (.aload_n 0, 1) := by decide +kernel
theorem dX12_passes0_23 : decode cX12_passes0 23 = .ok (.dup, 1) := by decide +kernel
theorem dX12_passes0_24 : decode cX12_passes0 24 = .ok (.getfield 245, 3) := by decide +kernel
theorem dX12_passes0_27 : decode cX12_passes0 27 = .ok (.iconst 1, 1) := by decide +kernel
theorem dX12_passes0_28 : decode cX12_passes0 28 = .ok (.iadd, 1) := by decide +kernel
theorem dX12_passes0_29 : decode cX12_passes0 29 = .ok (.putfield 245, 3) := by decide +kernel
theorem dX12_passes0_32 : decode cX12_passes0 32 = .ok (.iload_n 2, 1) := by decide +kernel
theorem dX12_passes0_33 : decode cX12_passes0 33 = .ok (.ireturn, 1) := by decide +kernel
theorem dX12_bounded_0 : decode cX12_bounded 0 = .ok (.iload_n 3, 1) := by decide +kernel
theorem dX12_bounded_1 : decode cX12_bounded 1 = .ok (.ifCond .eq 24, 3) := by decide +kernel
theorem dX12_bounded_4 : decode cX12_bounded 4 = .ok (.lload_n 1, 1) := by decide +kernel
theorem dX12_bounded_5 : decode cX12_bounded 5 = .ok (.ldc2_w 251, 3) := by decide +kernel
theorem dX12_bounded_8 : decode cX12_bounded 8 = .ok (.lcmp, 1) := by decide +kernel
theorem dX12_bounded_9 : decode cX12_bounded 9 = .ok (.ifCond .gt 11, 3) := by decide +kernel
theorem dX12_bounded_12 : decode cX12_bounded 12 = .ok (.lload_n 1, 1) := by decide +kernel
theorem dX12_bounded_13 : decode cX12_bounded 13 = .ok (.ldc2_w 253, 3) := by decide +kernel
theorem dX12_bounded_16 : decode cX12_bounded 16 = .ok (.lcmp, 1) := by decide +kernel
theorem dX12_bounded_17 : decode cX12_bounded 17 = .ok (.ifCond .ge 8, 3) := by decide +kernel
theorem dX12_bounded_20 : decode cX12_bounded 20 = .ok (.aload_n 0, 1) := by decide +kernel
theorem dX12_bounded_21 : decode cX12_bounded 21 = .ok (.iconst 1, 1) := by decide +kernel
theorem dX12_bounded_22 : decode cX12_bounded 22 = .ok (.putfield 255, 3) := by decide +kernel
theorem dX12_bounded_25 : decode cX12_bounded 25 = .ok (.aload_n 0, 1) := by decide +kernel
theorem dX12_bounded_26 : decode cX12_bounded 26 = .ok (.getfield 255, 3) := by decide +kernel
theorem dX12_bounded_29 : decode cX12_bounded 29 = .ok (.ifCond .eq 7, 3) := by decide +kernel
theorem dX12_bounded_32 : decode cX12_bounded 32 = .ok (.lconst 0, 1) := by decide +kernel
theorem dX12_bounded_33 : decode cX12_bounded 33 = .ok (.goto 4, 3) := by decide +kernel
theorem dX12_bounded_36 : decode cX12_bounded 36 = .ok (.lload_n 1, 1) := by decide +kernel
theorem dX12_bounded_37 : decode cX12_bounded 37 = .ok (.lreturn, 1) := by decide +kernel
set_option maxRecDepth 20000 in
theorem ggX12_sumOf_X12_termOf : GoodIn wsX12_sumOf wsX12_termOf := goodIn_r _ [60, 1, 21, 61, 62, 63, 5, 6, 7, 8, 9, 10, 11, 12, 13, 14, 15, 16, 17, 18, 19, 20, 22, 23, 24, 25, 26, 27, 28, 29, 30, 31, 32, 33, 34, 35, 36, 37, 38, 39, 40, 41, 42, 43, 44, 45, 46, 47, 48, 49, 50, 51, 52, 53, 54, 55, 56, 57, 58, 59, 0, 2, 3, 4, 64, 65, 66, 67, 68, 69, 70, 71, 72, 73, 74, 75, 76, 77, 78, 79, 80, 81, 82, 83, 84, 85, 86, 87, 88, 89, 90, 91, 92, 93, 94, 95, 96, 97, 98, 99, 100, 101, 102, 103, 104, 105, 106, 107, 108, 109, 110, 111] (by decide +kernel) (by decide +kernel)
set_option maxRecDepth 20000 in
theorem gX12_sumOf_X12_termOf : GoodIn wsX12_sumOf (wsV RX12 258 RX12 yX12_termOf wsX12_termOf) := goodIn_app (goodIn_of _ (by decide +kernel)) ggX12_sumOf_X12_termOf
set_option maxRecDepth 20000 in
theorem ggX12_sumOf_X12_codeAt : GoodIn wsX12_sumOf wsX12_codeAt := goodIn_r _ [9, 10, 11, 64, 65, 66, 67, 68, 69, 70, 71, 72, 73, 74, 75, 76, 77, 78, 79, 80, 81, 82, 83, 84, 85, 86, 87, 88, 89, 90, 91, 92, 93, 94, 95, 96, 97, 98, 99, 100, 101, 102, 103, 104, 105, 106, 107, 108, 109, 110, 111] (by decide +kernel) (by decide +kernel)
set_option maxRecDepth 20000 in
theorem gX12_sumOf_X12_codeAt : GoodIn wsX12_sumOf (wsV RX12 248 RX12 yX12_codeAt wsX12_codeAt) := goodIn_app (goodIn_of _ (by decide +kernel)) ggX12_sumOf_X12_codeAt
set_option maxRecDepth 20000 in
theorem ggX12_sumOf_X12_sign : GoodIn wsX12_sumOf wsX12_sign := goodIn_r _ [14] (by decide +kernel) (by decide +kernel)
set_option maxRecDepth 20000 in
theorem gX12_sumOf_X12_sign : GoodIn wsX12_sumOf (va_wsS RX12 207 yX12_sign wsX12_sign) := goodIn_app (goodIn_of _ (by decide +kernel)) ggX12_sumOf_X12_sign
set_option maxRecDepth 20000 in
theorem ggX12_sumOf_X12_bounded : GoodIn wsX12_sumOf wsX12_bounded := goodIn_r _ [18, 19, 20, 21, 64, 65, 66, 67, 68, 69, 70, 71, 72, 73, 74, 75, 76, 77, 78, 79, 80, 81, 82, 83, 84, 85, 86, 87, 88, 89, 90, 91, 92, 93, 94, 95, 96, 97, 98, 99, 100, 101, 102, 103, 104, 105, 106, 107, 108, 109, 110, 111] (by decide +kernel) (by decide +kernel)
set_option maxRecDepth 20000 in
theorem gX12_sumOf_X12_bounded : GoodIn wsX12_sumOf (wsV RX12 262 RX12 yX12_bounded wsX12_bounded) := goodIn_app (goodIn_of _ (by decide +kernel)) ggX12_sumOf_X12_bounded
theorem dX12_sumOf_0 : decode cX12_sumOf 0 = .ok (.aload_n 0, 1) := by decide +kernel
theorem dX12_sumOf_1 : decode cX12_sumOf 1 = .ok (.iload_n 1, 1) := by decide +kernel
theorem dX12_sumOf_2 : decode cX12_sumOf 2 = .ok (.invokevirtual 258, 3) := by decide +kernel
theorem dX12_sumOf_5 : decode cX12_sumOf 5 = .ok (.lstore_n 2, 1) := by decide +kernel
theorem dX12_sumOf_6 : decode cX12_sumOf 6 = .ok (.aload_n 0, 1) := by decide +kernel
theorem dX12_sumOf_7 : decode cX12_sumOf 7 = .ok (.aload_n 0, 1) := by decide +kernel
theorem dX12_sumOf_8 : decode cX12_sumOf 8 = .ok (.getfield 245, 3) := by decide +kernel
theorem dX12_sumOf_11 : decode cX12_sumOf 11 = .ok (.invokevirtual 248, 3) := by decide +kernel
theorem dX12_sumOf_14 : decode cX12_sumOf 14 = .ok (.bipush 43, 2) := by decide +kernel
theorem dX12_sumOf_16 : decode cX12_sumOf 16 = .ok (.invokestatic 207, 3) := by decide +kernel
theorem dX12_sumOf_19 : decode cX12_sumOf 19 = .ok (.if_icmp .eq 19, 3) := by decide +kernel
theorem dX12_sumOf_22 : decode cX12_sumOf 22 = .ok (.aload_n 0, 1) := by decide +kernel
theorem dX12_sumOf_23 : decode cX12_sumOf 23 = .ok (.aload_n 0, 1) := by decide +kernel
theorem dX12_sumOf_24 : decode cX12_sumOf 24 = .ok (.getfield 245, 3) := by decide +kernel
theorem dX12_sumOf_27 : decode cX12_sumOf 27 = .ok (.invokevirtual 248, 3) := by decide +kernel
theorem dX12_sumOf_30 : decode cX12_sumOf 30 = .ok (.bipush 45, 2) := by decide +kernel
theorem dX12_sumOf_32 : decode cX12_sumOf 32 = .ok (.invokestatic 207, 3) := by decide +kernel
theorem dX12_sumOf_35 : decode cX12_sumOf 35 = .ok (.if_icmp .ne 68, 3) := by decide +kernel
theorem dX12_sumOf_38 : decode cX12_sumOf 38 = .ok (.aload_n 0, 1) := by decide +kernel
theorem dX12_sumOf_39 : decode cX12_sumOf 39 = .ok (.aload_n 0, 1) := by decide +kernel
theorem dX12_sumOf_40 : decode cX12_sumOf 40 = .ok (.getfield 245, 3) := by decide +kernel
theorem dX12_sumOf_43 : decode cX12_sumOf 43 = .ok (.invokevirtual 248, 3) := by decide +kernel
theorem dX12_sumOf_46 : decode cX12_sumOf 46 = .ok (.bipush 43, 2) := by decide +kernel
theorem dX12_sumOf_48 : decode cX12_sumOf 48 = .ok (.invokestatic 207, 3) := by decide +kernel
theorem dX12_sumOf_51 : decode cX12_sumOf 51 = .ok (.if_icmp .ne 7, 3) := by decide +kernel
theorem dX12_sumOf_54 : decode cX12_sumOf 54 = .ok (.iconst 1, 1) := by decide +kernel
theorem dX12_sumOf_55 : decode cX12_sumOf 55 = .ok (.goto 4, 3) := by decide +kernel
theorem dX12_sumOf_58 : decode cX12_sumOf 58 = .ok (.iconst 0, 1) := by decide +kernel
theorem dX12_sumOf_59 : decode cX12_sumOf 59 = .ok (.istore 4, 2) := by decide +kernel
theorem dX12_sumOf_61 : decode cX12_sumOf 61 = .ok (.aload_n 0, 1) := by decide +kernel
theorem dX12_sumOf_62 : decode cX12_sumOf 62 = .ok (.dup, 1) := by decide +kernel
theorem dX12_sumOf_63 : decode cX12_sumOf 63 = .ok (.getfield 245, 3) := by decide +kernel
theorem dX12_sumOf_66 : decode cX12_sumOf 66 = .ok (.iconst 1, 1) := by decide +kernel
theorem dX12_sumOf_67 : decode cX12_sumOf 67 = .ok (.iadd, 1) := by decide +kernel
theorem dX12_sumOf_68 : decode cX12_sumOf 68 = .ok (.putfield 245, 3) := by decide +kernel
theorem dX12_sumOf_71 : decode cX12_sumOf 71 = .ok (.aload_n 0, 1) := by decide +kernel
theorem dX12_sumOf_72 : decode cX12_sumOf 72 = .ok (.iload_n 1, 1) := by decide +kernel
theorem dX12_sumOf_73 : decode cX12_sumOf 73 = .ok (.invokevirtual 258, 3) := by decide +kernel
theorem dX12_sumOf_76 : decode cX12_sumOf 76 = .ok (.lstore 5, 2) := by decide +kernel
theorem dX12_sumOf_78 : decode cX12_sumOf 78 = .ok (.aload_n 0, 1) := by decide +kernel
theorem dX12_sumOf_79 : decode cX12_sumOf 79 = .ok (.iload 4, 2) := by decide +kernel
theorem dX12_sumOf_81 : decode cX12_sumOf 81 = .ok (.ifCond .eq 10, 3) := by decide +kernel
theorem dX12_sumOf_84 : decode cX12_sumOf 84 = .ok (.lload_n 2, 1) := by decide +kernel
theorem dX12_sumOf_85 : decode cX12_sumOf 85 = .ok (.lload 5, 2) := by decide +kernel
theorem dX12_sumOf_87 : decode cX12_sumOf 87 = .ok (.ladd, 1) := by decide +kernel
theorem dX12_sumOf_88 : decode cX12_sumOf 88 = .ok (.goto 7, 3) := by decide +kernel
theorem dX12_sumOf_91 : decode cX12_sumOf 91 = .ok (.lload_n 2, 1) := by decide +kernel
theorem dX12_sumOf_92 : decode cX12_sumOf 92 = .ok (.lload 5, 2) := by decide +kernel
theorem dX12_sumOf_94 : decode cX12_sumOf 94 = .ok (.lsub, 1) := by decide +kernel
theorem dX12_sumOf_95 : decode cX12_sumOf 95 = .ok (.iload_n 1, 1) := by decide +kernel
theorem dX12_sumOf_96 : decode cX12_sumOf 96 = .ok (.invokevirtual 262, 3) := by decide +kernel
theorem dX12_sumOf_99 : decode cX12_sumOf 99 = .ok (.lstore_n 2, 1) := by decide +kernel
theorem dX12_sumOf_100 : decode cX12_sumOf 100 = .ok (.goto (-94), 3) := by decide +kernel
theorem dX12_sumOf_103 : decode cX12_sumOf 103 = .ok (.lload_n 2, 1) := by decide +kernel
theorem dX12_sumOf_104 : decode cX12_sumOf 104 = .ok (.lreturn, 1) := by decide +kernel
set_option maxRecDepth 20000 in
theorem ggX12_termOf_X12_partOf : GoodIn wsX12_termOf wsX12_partOf := goodIn_r _ [22, 1, 23, 12, 2, 24, 13, 14, 6, 15, 25, 26, 27, 28, 7, 8, 9, 10, 11, 29, 30, 31, 32, 33, 34, 35, 36, 37, 38, 39, 40, 41, 42, 43, 44, 45, 46, 47, 48, 49, 50, 51, 52, 53, 54, 55, 56, 57, 58, 59, 60, 61, 62, 63, 16, 17, 18, 19, 20, 21, 0, 3, 4, 5, 64, 65, 66, 67, 68, 69, 70, 71, 72, 73, 74, 75, 76, 77, 78, 79, 80, 81, 82, 83, 84, 85, 86, 87, 88, 89, 90, 91, 92, 93, 94, 95, 96, 97, 98, 99, 100, 101, 102, 103, 104, 105, 106, 107, 108, 109, 110, 111] (by decide +kernel) (by decide +kernel)
set_option maxRecDepth 20000 in
theorem gX12_termOf_X12_partOf : GoodIn wsX12_termOf (wsV RX12 266 RX12 yX12_partOf wsX12_partOf) := goodIn_app (goodIn_of _ (by decide +kernel)) ggX12_termOf_X12_partOf
set_option maxRecDepth 20000 in
theorem ggX12_termOf_X12_codeAt : GoodIn wsX12_termOf wsX12_codeAt := goodIn_r _ [10, 11, 12, 64, 65, 66, 67, 68, 69, 70, 71, 72, 73, 74, 75, 76, 77, 78, 79, 80, 81, 82, 83, 84, 85, 86, 87, 88, 89, 90, 91, 92, 93, 94, 95, 96, 97, 98, 99, 100, 101, 102, 103, 104, 105, 106, 107, 108, 109, 110, 111] (by decide +kernel) (by decide +kernel)
set_option maxRecDepth 20000 in
theorem gX12_termOf_X12_codeAt : GoodIn wsX12_termOf (wsV RX12 248 RX12 yX12_codeAt wsX12_codeAt) := goodIn_app (goodIn_of _ (by decide +kernel)) ggX12_termOf_X12_codeAt
set_option maxRecDepth 20000 in
theorem ggX12_termOf_X12_sign : GoodIn wsX12_termOf wsX12_sign := goodIn_r _ [15] (by decide +kernel) (by decide +kernel)
set_option maxRecDepth 20000 in
theorem gX12_termOf_X12_sign : GoodIn wsX12_termOf (va_wsS RX12 207 yX12_sign wsX12_sign) := goodIn_app (goodIn_of _ (by decide +kernel)) ggX12_termOf_X12_sign
set_option maxRecDepth 20000 in
theorem ggX12_termOf_X12_bounded : GoodIn wsX12_termOf wsX12_bounded := goodIn_r _ [19, 20, 21, 2, 64, 65, 66, 67, 68, 69, 70, 71, 72, 73, 74, 75, 76, 77, 78, 79, 80, 81, 82, 83, 84, 85, 86, 87, 88, 89, 90, 91, 92, 93, 94, 95, 96, 97, 98, 99, 100, 101, 102, 103, 104, 105, 106, 107, 108, 109, 110, 111] (by decide +kernel) (by decide +kernel)
set_option maxRecDepth 20000 in
theorem gX12_termOf_X12_bounded : GoodIn wsX12_termOf (wsV RX12 262 RX12 yX12_bounded wsX12_bounded) := goodIn_app (goodIn_of _ (by decide +kernel)) ggX12_termOf_X12_bounded
theorem dX12_termOf_0 : decode cX12_termOf 0 = .ok (.aload_n 0, 1) := by decide +kernel
theorem dX12_termOf_1 : decode cX12_termOf 1 = .ok (.iload_n 1, 1) := by decide +kernel
theorem dX12_termOf_2 : decode cX12_termOf 2 = .ok (.invokevirtual 266, 3) := by decide +kernel
theorem dX12_termOf_5 : decode cX12_termOf 5 = .ok (.lstore_n 2, 1) := by decide +kernel
theorem dX12_termOf_6 : decode cX12_termOf 6 = .ok (.aload_n 0, 1) := by decide +kernel
theorem dX12_termOf_7 : decode cX12_termOf 7 = .ok (.aload_n 0, 1) := by decide +kernel
theorem dX12_termOf_8 : decode cX12_termOf 8 = .ok (.getfield 245, 3) := by decide +kernel
theorem dX12_termOf_11 : decode cX12_termOf 11 = .ok (.invokevirtual 248, 3) := by decide +kernel
theorem dX12_termOf_14 : decode cX12_termOf 14 = .ok (.bipush 42, 2) := by decide +kernel
theorem dX12_termOf_16 : decode cX12_termOf 16 = .ok (.invokestatic 207, 3) := by decide +kernel
theorem dX12_termOf_19 : decode cX12_termOf 19 = .ok (.if_icmp .eq 35, 3) := by decide +kernel
theorem dX12_termOf_22 : decode cX12_termOf 22 = .ok (.aload_n 0, 1) := by decide +kernel
theorem dX12_termOf_23 : decode cX12_termOf 23 = .ok (.aload_n 0, 1) := by decide +kernel
theorem dX12_termOf_24 : decode cX12_termOf 24 = .ok (.getfield 245, 3) := by decide +kernel
theorem dX12_termOf_27 : decode cX12_termOf 27 = .ok (.invokevirtual 248, 3) := by decide +kernel
theorem dX12_termOf_30 : decode cX12_termOf 30 = .ok (.bipush 47, 2) := by decide +kernel
theorem dX12_termOf_32 : decode cX12_termOf 32 = .ok (.invokestatic 207, 3) := by decide +kernel
theorem dX12_termOf_35 : decode cX12_termOf 35 = .ok (.if_icmp .eq 19, 3) := by decide +kernel
theorem dX12_termOf_38 : decode cX12_termOf 38 = .ok (.aload_n 0, 1) := by decide +kernel
theorem dX12_termOf_39 : decode cX12_termOf 39 = .ok (.aload_n 0, 1) := by decide +kernel
theorem dX12_termOf_40 : decode cX12_termOf 40 = .ok (.getfield 245, 3) := by decide +kernel
theorem dX12_termOf_43 : decode cX12_termOf 43 = .ok (.invokevirtual 248, 3) := by decide +kernel
theorem dX12_termOf_46 : decode cX12_termOf 46 = .ok (.bipush 37, 2) := by decide +kernel
theorem dX12_termOf_48 : decode cX12_termOf 48 = .ok (.invokestatic 207, 3) := by decide +kernel
theorem dX12_termOf_51 : decode cX12_termOf 51 = .ok (.if_icmp .ne 117, 3) := by decide +kernel
theorem dX12_termOf_54 : decode cX12_termOf 54 = .ok (.aload_n 0, 1) := by decide +kernel
theorem dX12_termOf_55 : decode cX12_termOf 55 = .ok (.aload_n 0, 1) := by decide +kernel
theorem dX12_termOf_56 : decode cX12_termOf 56 = .ok (.getfield 245, 3) := by decide +kernel
theorem dX12_termOf_59 : decode cX12_termOf 59 = .ok (.invokevirtual 248, 3) := by decide +kernel
theorem dX12_termOf_62 : decode cX12_termOf 62 = .ok (.istore 4, 2) := by decide +kernel
theorem dX12_termOf_64 : decode cX12_termOf 64 = .ok (.aload_n 0, 1) := by decide +kernel
theorem dX12_termOf_65 : decode cX12_termOf 65 = .ok (.dup, 1) := by decide +kernel
theorem dX12_termOf_66 : decode cX12_termOf 66 = .ok (.getfield 245, 3) := by decide +kernel
theorem dX12_termOf_69 : decode cX12_termOf 69 = .ok (.iconst 1, 1) := by decide +kernel
theorem dX12_termOf_70 : decode cX12_termOf 70 = .ok (.iadd, 1) := by decide +kernel
theorem dX12_termOf_71 : decode cX12_termOf 71 = .ok (.putfield 245, 3) := by decide +kernel
theorem dX12_termOf_74 : decode cX12_termOf 74 = .ok (.aload_n 0, 1) := by decide +kernel
theorem dX12_termOf_75 : decode cX12_termOf 75 = .ok (.iload_n 1, 1) := by decide +kernel
theorem dX12_termOf_76 : decode cX12_termOf 76 = .ok (.invokevirtual 266, 3) := by decide +kernel
theorem dX12_termOf_79 : decode cX12_termOf 79 = .ok (.lstore 5, 2) := by decide +kernel
theorem dX12_termOf_81 : decode cX12_termOf 81 = .ok (.iload 4, 2) := by decide +kernel
theorem dX12_termOf_83 : decode cX12_termOf 83 = .ok (.bipush 42, 2) := by decide +kernel
theorem dX12_termOf_85 : decode cX12_termOf 85 = .ok (.invokestatic 207, 3) := by decide +kernel
theorem dX12_termOf_88 : decode cX12_termOf 88 = .ok (.if_icmp .eq 33, 3) := by decide +kernel
theorem dX12_termOf_91 : decode cX12_termOf 91 = .ok (.lload 5, 2) := by decide +kernel
theorem dX12_termOf_93 : decode cX12_termOf 93 = .ok (.lconst 0, 1) := by decide +kernel
theorem dX12_termOf_94 : decode cX12_termOf 94 = .ok (.lcmp, 1) := by decide +kernel
theorem dX12_termOf_95 : decode cX12_termOf 95 = .ok (.ifCond .ne 26, 3) := by decide +kernel
theorem dX12_termOf_98 : decode cX12_termOf 98 = .ok (.aload_n 0, 1) := by decide +kernel
theorem dX12_termOf_99 : decode cX12_termOf 99 = .ok (.aload_n 0, 1) := by decide +kernel
theorem dX12_termOf_100 : decode cX12_termOf 100 = .ok (.getfield 255, 3) := by decide +kernel
theorem dX12_termOf_103 : decode cX12_termOf 103 = .ok (.ifCond .ne 7, 3) := by decide +kernel
theorem dX12_termOf_106 : decode cX12_termOf 106 = .ok (.iload_n 1, 1) := by decide +kernel
theorem dX12_termOf_107 : decode cX12_termOf 107 = .ok (.ifCond .eq 7, 3) := by decide +kernel
theorem dX12_termOf_110 : decode cX12_termOf 110 = .ok (.iconst 1, 1) := by decide +kernel
theorem dX12_termOf_111 : decode cX12_termOf 111 = .ok (.goto 4, 3) := by decide +kernel
theorem dX12_termOf_114 : decode cX12_termOf 114 = .ok (.iconst 0, 1) := by decide +kernel
theorem dX12_termOf_115 : decode cX12_termOf 115 = .ok (.putfield 255, 3) := by decide +kernel
theorem dX12_termOf_118 : decode cX12_termOf 118 = .ok (.lconst 1, 1) := by decide +kernel
theorem dX12_termOf_119 : decode cX12_termOf 119 = .ok (.lstore 5, 2) := by decide +kernel
theorem dX12_termOf_121 : decode cX12_termOf 121 = .ok (.aload_n 0, 1) := by decide +kernel
theorem dX12_termOf_122 : decode cX12_termOf 122 = .ok (.iload 4, 2) := by decide +kernel
theorem dX12_termOf_124 : decode cX12_termOf 124 = .ok (.bipush 42, 2) := by decide +kernel
theorem dX12_termOf_126 : decode cX12_termOf 126 = .ok (.invokestatic 207, 3) := by decide +kernel
theorem dX12_termOf_129 : decode cX12_termOf 129 = .ok (.if_icmp .ne 10, 3) := by decide +kernel
theorem dX12_termOf_132 : decode cX12_termOf 132 = .ok (.lload_n 2, 1) := by decide +kernel
theorem dX12_termOf_133 : decode cX12_termOf 133 = .ok (.lload 5, 2) := by decide +kernel
theorem dX12_termOf_135 : decode cX12_termOf 135 = .ok (.lmul, 1) := by decide +kernel
theorem dX12_termOf_136 : decode cX12_termOf 136 = .ok (.goto 24, 3) := by decide +kernel
theorem dX12_termOf_139 : decode cX12_termOf 139 = .ok (.iload 4, 2) := by decide +kernel
theorem dX12_termOf_141 : decode cX12_termOf 141 = .ok (.bipush 47, 2) := by decide +kernel
theorem dX12_termOf_143 : decode cX12_termOf 143 = .ok (.invokestatic 207, 3) := by decide +kernel
theorem dX12_termOf_146 : decode cX12_termOf 146 = .ok (.if_icmp .ne 10, 3) := by decide +kernel
theorem dX12_termOf_149 : decode cX12_termOf 149 = .ok (.lload_n 2, 1) := by decide +kernel
theorem dX12_termOf_150 : decode cX12_termOf 150 = .ok (.lload 5, 2) := by decide +kernel
theorem dX12_termOf_152 : decode cX12_termOf 152 = .ok (.ldiv, 1) := by decide +kernel
theorem dX12_termOf_153 : decode cX12_termOf 153 = .ok (.goto 7, 3) := by decide +kernel
theorem dX12_termOf_156 : decode cX12_termOf 156 = .ok (.lload_n 2, 1) := by decide +kernel
theorem dX12_termOf_157 : decode cX12_termOf 157 = .ok (.lload 5, 2) := by decide +kernel
theorem dX12_termOf_159 : decode cX12_termOf 159 = .ok (.lrem, 1) := by decide +kernel
theorem dX12_termOf_160 : decode cX12_termOf 160 = .ok (.iload_n 1, 1) := by decide +kernel
theorem dX12_termOf_161 : decode cX12_termOf 161 = .ok (.invokevirtual 262, 3) := by decide +kernel
theorem dX12_termOf_164 : decode cX12_termOf 164 = .ok (.lstore_n 2, 1) := by decide +kernel
theorem dX12_termOf_165 : decode cX12_termOf 165 = .ok (.goto (-159), 3) := by decide +kernel
theorem dX12_termOf_168 : decode cX12_termOf 168 = .ok (.lload_n 2, 1) := by decide +kernel
theorem dX12_termOf_169 : decode cX12_termOf 169 = .ok (.lreturn, 1) := by decide +kernel
set_option maxRecDepth 20000 in
theorem ggX12_partOf_X12_sign : GoodIn wsX12_partOf wsX12_sign := goodIn_r _ [9] (by decide +kernel) (by decide +kernel)
set_option maxRecDepth 20000 in
theorem gX12_partOf_X12_sign : GoodIn wsX12_partOf (va_wsS RX12 207 yX12_sign wsX12_sign) := goodIn_app (goodIn_of _ (by decide +kernel)) ggX12_partOf_X12_sign
set_option maxRecDepth 20000 in
theorem ggX12_partOf_X12_passes0 : GoodIn wsX12_partOf wsX12_passes0 := goodIn_r _ [13, 1, 14, 15, 16, 8, 17, 18, 3, 64, 65, 66, 67, 68, 69, 70, 71, 72, 73, 74, 75, 76, 77, 78, 79, 80, 81, 82, 83, 84, 85, 86, 87, 88, 89, 90, 91, 92, 93, 94, 95, 96, 97, 98, 99, 100, 101, 102, 103, 104, 105, 106, 107, 108, 109, 110, 111] (by decide +kernel) (by decide +kernel)
set_option maxRecDepth 20000 in
theorem gX12_partOf_X12_passes0 : GoodIn wsX12_partOf (wsV RX12 269 RX12 yX12_passes0 wsX12_passes0) := goodIn_app (goodIn_of _ (by decide +kernel)) ggX12_partOf_X12_passes0
set_option maxRecDepth 20000 in
theorem ggX12_partOf_X12_sumOf : GoodIn wsX12_partOf wsX12_sumOf := goodIn_r _ [50, 1, 51, 52, 53, 8, 14, 15, 16, 17, 18, 3, 6, 7, 9, 54, 55, 56, 57, 58, 59, 4, 0, 2, 5, 10, 11, 12, 13, 19, 20, 21, 22, 23, 24, 25, 26, 27, 28, 29, 30, 31, 32, 33, 34, 35, 36, 37, 38, 39, 40, 41, 42, 43, 44, 45, 46, 47, 48, 49, 60, 61, 62, 63, 64, 65, 66, 67, 68, 69, 70, 71, 72, 73, 74, 75, 76, 77, 78, 79, 80, 81, 82, 83, 84, 85, 86, 87, 88, 89, 90, 91, 92, 93, 94, 95, 96, 97, 98, 99, 100, 101, 102, 103, 104, 105, 106, 107, 108, 109, 110, 111] (by decide +kernel) (by decide +kernel)
set_option maxRecDepth 20000 in
theorem gX12_partOf_X12_sumOf : GoodIn wsX12_partOf (wsV RX12 272 RX12 yX12_sumOf wsX12_sumOf) := goodIn_app (goodIn_of _ (by decide +kernel)) ggX12_partOf_X12_sumOf
set_option maxRecDepth 20000 in
theorem ggX12_partOf_X12_codeAt : GoodIn wsX12_partOf wsX12_codeAt := goodIn_r _ [17, 18, 3, 64, 65, 66, 67, 68, 69, 70, 71, 72, 73, 74, 75, 76, 77, 78, 79, 80, 81, 82, 83, 84, 85, 86, 87, 88, 89, 90, 91, 92, 93, 94, 95, 96, 97, 98, 99, 100, 101, 102, 103, 104, 105, 106, 107, 108, 109, 110, 111] (by decide +kernel) (by decide +kernel)
set_option maxRecDepth 20000 in
theorem gX12_partOf_X12_codeAt : GoodIn wsX12_partOf (wsV RX12 248 RX12 yX12_codeAt wsX12_codeAt) := goodIn_app (goodIn_of _ (by decide +kernel)) ggX12_partOf_X12_codeAt
set_option maxRecDepth 20000 in
theorem ggX12_partOf_X12_orderValue : GoodIn wsX12_partOf wsX12_orderValue := goodIn_r _ [25, 3, 26, 27, 28, 29, 30, 8, 31, 32, 33, 34, 35, 36, 37, 38, 39, 40, 41, 42, 43, 44, 45, 46, 47, 48, 49, 64, 65, 66, 67, 68, 69, 70, 71, 72, 73, 74, 75, 76, 77, 78, 79, 80, 81, 82, 83, 84, 85, 86, 87, 88, 89, 90, 91, 92, 93, 94, 95, 96, 97, 98, 99, 100, 101, 102, 103, 104, 105, 106, 107, 108, 109, 110, 111] (by decide +kernel) (by decide +kernel)
set_option maxRecDepth 20000 in
theorem gX12_partOf_X12_orderValue : GoodIn wsX12_partOf (wsV RX12 278 RX12 yX12_orderValue wsX12_orderValue) := goodIn_app (goodIn_of _ (by decide +kernel)) ggX12_partOf_X12_orderValue
theorem dX12_partOf_0 : decode cX12_partOf 0 = .ok (.aload_n 0, 1) := by decide +kernel
theorem dX12_partOf_1 : decode cX12_partOf 1 = .ok (.bipush 91, 2) := by decide +kernel
theorem dX12_partOf_3 : decode cX12_partOf 3 = .ok (.invokestatic 207, 3) := by decide +kernel
theorem dX12_partOf_6 : decode cX12_partOf 6 = .ok (.invokevirtual 269, 3) := by decide +kernel
theorem dX12_partOf_9 : decode cX12_partOf 9 = .ok (.ifCond .eq 21, 3) := by decide +kernel
theorem dX12_partOf_12 : decode cX12_partOf 12 = .ok (.aload_n 0, 1) := by decide +kernel
theorem dX12_partOf_13 : decode cX12_partOf 13 = .ok (.iload_n 1, 1) := by decide +kernel
theorem dX12_partOf_14 : decode cX12_partOf 14 = .ok (.invokevirtual 272, 3) := by decide +kernel
theorem dX12_partOf_17 : decode cX12_partOf 17 = .ok (.lstore_n 2, 1) := by decide +kernel
theorem dX12_partOf_18 : decode cX12_partOf 18 = .ok (.aload_n 0, 1) := by decide +kernel
theorem dX12_partOf_19 : decode cX12_partOf 19 = .ok (.dup, 1) := by decide +kernel
theorem dX12_partOf_20 : decode cX12_partOf 20 = .ok (.getfield 245, 3) := by decide +kernel
theorem dX12_partOf_23 : decode cX12_partOf 23 = .ok (.iconst 1, 1) := by decide +kernel
theorem dX12_partOf_24 : decode cX12_partOf 24 = .ok (.iadd, 1) := by decide +kernel
theorem dX12_partOf_25 : decode cX12_partOf 25 = .ok (.putfield 245, 3) := by decide +kernel
theorem dX12_partOf_28 : decode cX12_partOf 28 = .ok (.lload_n 2, 1) := by decide +kernel
theorem dX12_partOf_29 : decode cX12_partOf 29 = .ok (.lreturn, 1) := by decide +kernel
theorem dX12_partOf_30 : decode cX12_partOf 30 = .ok (.aload_n 0, 1) := by decide +kernel
theorem dX12_partOf_31 : decode cX12_partOf 31 = .ok (.aload_n 0, 1) := by decide +kernel
theorem dX12_partOf_32 : decode cX12_partOf 32 = .ok (.getfield 245, 3) := by decide +kernel
theorem dX12_partOf_35 : decode cX12_partOf 35 = .ok (.invokevirtual 248, 3) := by decide +kernel
theorem dX12_partOf_38 : decode cX12_partOf 38 = .ok (.istore_n 2, 1) := by decide +kernel
theorem dX12_partOf_39 : decode cX12_partOf 39 = .ok (.iconst 0, 1) := by decide +kernel
theorem dX12_partOf_40 : decode cX12_partOf 40 = .ok (.istore_n 3, 1) := by decide +kernel
theorem dX12_partOf_41 : decode cX12_partOf 41 = .ok (.aload_n 0, 1) := by decide +kernel
theorem dX12_partOf_42 : decode cX12_partOf 42 = .ok (.dup, 1) := by decide +kernel
theorem dX12_partOf_43 : decode cX12_partOf 43 = .ok (.getfield 245, 3) := by decide +kernel
theorem dX12_partOf_46 : decode cX12_partOf 46 = .ok (.iconst 1, 1) := by decide +kernel
theorem dX12_partOf_47 : decode cX12_partOf 47 = .ok (.iadd, 1) := by decide +kernel
theorem dX12_partOf_48 : decode cX12_partOf 48 = .ok (.putfield 245, 3) := by decide +kernel
theorem dX12_partOf_51 : decode cX12_partOf 51 = .ok (.aload_n 0, 1) := by decide +kernel
theorem dX12_partOf_52 : decode cX12_partOf 52 = .ok (.getfield 275, 3) := by decide +kernel
theorem dX12_partOf_55 : decode cX12_partOf 55 = .ok (.ifCond .eq 45, 3) := by decide +kernel
theorem dX12_partOf_58 : decode cX12_partOf 58 = .ok (.iload_n 2, 1) := by decide +kernel
theorem dX12_partOf_59 : decode cX12_partOf 59 = .ok (.bipush 16, 2) := by decide +kernel
theorem dX12_partOf_61 : decode cX12_partOf 61 = .ok (.if_icmp .eq 15, 3) := by decide +kernel
theorem dX12_partOf_64 : decode cX12_partOf 64 = .ok (.iload_n 2, 1) := by decide +kernel
theorem dX12_partOf_65 : decode cX12_partOf 65 = .ok (.bipush 17, 2) := by decide +kernel
theorem dX12_partOf_67 : decode cX12_partOf 67 = .ok (.if_icmp .eq 9, 3) := by decide +kernel
theorem dX12_partOf_70 : decode cX12_partOf 70 = .ok (.iload_n 2, 1) := by decide +kernel
theorem dX12_partOf_71 : decode cX12_partOf 71 = .ok (.bipush 22, 2) := by decide +kernel
theorem dX12_partOf_73 : decode cX12_partOf 73 = .ok (.if_icmp .ne 27, 3) := by decide +kernel
theorem dX12_partOf_76 : decode cX12_partOf 76 = .ok (.aload_n 0, 1) := by decide +kernel
theorem dX12_partOf_77 : decode cX12_partOf 77 = .ok (.getfield 24, 3) := by decide +kernel
theorem dX12_partOf_80 : decode cX12_partOf 80 = .ok (.sipush 2914, 3) := by decide +kernel
theorem dX12_partOf_83 : decode cX12_partOf 83 = .ok (.aload_n 0, 1) := by decide +kernel
theorem dX12_partOf_84 : decode cX12_partOf 84 = .ok (.getfield 245, 3) := by decide +kernel
theorem dX12_partOf_87 : decode cX12_partOf 87 = .ok (.iadd, 1) := by decide +kernel
theorem dX12_partOf_88 : decode cX12_partOf 88 = .ok (.iaload, 1) := by decide +kernel
theorem dX12_partOf_89 : decode cX12_partOf 89 = .ok (.istore_n 3, 1) := by decide +kernel
theorem dX12_partOf_90 : decode cX12_partOf 90 = .ok (.aload_n 0, 1) := by decide +kernel
theorem dX12_partOf_91 : decode cX12_partOf 91 = .ok (.dup, 1) := by decide +kernel
theorem dX12_partOf_92 : decode cX12_partOf 92 = .ok (.getfield 245, 3) := by decide +kernel
theorem dX12_partOf_95 : decode cX12_partOf 95 = .ok (.iconst 1, 1) := by decide +kernel
theorem dX12_partOf_96 : decode cX12_partOf 96 = .ok (.iadd, 1) := by decide +kernel
theorem dX12_partOf_97 : decode cX12_partOf 97 = .ok (.putfield 245, 3) := by decide +kernel
theorem dX12_partOf_100 : decode cX12_partOf 100 = .ok (.iload_n 1, 1) := by decide +kernel
theorem dX12_partOf_101 : decode cX12_partOf 101 = .ok (.ifCond .eq 10, 3) := by decide +kernel
theorem dX12_partOf_104 : decode cX12_partOf 104 = .ok (.aload_n 0, 1) := by decide +kernel
theorem dX12_partOf_105 : decode cX12_partOf 105 = .ok (.getfield 255, 3) := by decide +kernel
theorem dX12_partOf_108 : decode cX12_partOf 108 = .ok (.ifCond .eq 5, 3) := by decide +kernel
theorem dX12_partOf_111 : decode cX12_partOf 111 = .ok (.lconst 0, 1) := by decide +kernel
theorem dX12_partOf_112 : decode cX12_partOf 112 = .ok (.lreturn, 1) := by decide +kernel
theorem dX12_partOf_113 : decode cX12_partOf 113 = .ok (.iload_n 2, 1) := by decide +kernel
theorem dX12_partOf_114 : decode cX12_partOf 114 = .ok (.bipush 50, 2) := by decide +kernel
theorem dX12_partOf_116 : decode cX12_partOf 116 = .ok (.if_icmp .ne 20, 3) := by decide +kernel
theorem dX12_partOf_119 : decode cX12_partOf 119 = .ok (.aload_n 0, 1) := by decide +kernel
theorem dX12_partOf_120 : decode cX12_partOf 120 = .ok (.getfield 24, 3) := by decide +kernel
theorem dX12_partOf_123 : decode cX12_partOf 123 = .ok (.sipush 2914, 3) := by decide +kernel
theorem dX12_partOf_126 : decode cX12_partOf 126 = .ok (.aload_n 0, 1) := by decide +kernel
theorem dX12_partOf_127 : decode cX12_partOf 127 = .ok (.getfield 245, 3) := by decide +kernel
theorem dX12_partOf_130 : decode cX12_partOf 130 = .ok (.iadd, 1) := by decide +kernel
theorem dX12_partOf_131 : decode cX12_partOf 131 = .ok (.iconst 1, 1) := by decide +kernel
theorem dX12_partOf_132 : decode cX12_partOf 132 = .ok (.isub, 1) := by decide +kernel
theorem dX12_partOf_133 : decode cX12_partOf 133 = .ok (.iaload, 1) := by decide +kernel
theorem dX12_partOf_134 : decode cX12_partOf 134 = .ok (.i2l, 1) := by decide +kernel
theorem dX12_partOf_135 : decode cX12_partOf 135 = .ok (.lreturn, 1) := by decide +kernel
theorem dX12_partOf_136 : decode cX12_partOf 136 = .ok (.aload_n 0, 1) := by decide +kernel
theorem dX12_partOf_137 : decode cX12_partOf 137 = .ok (.getfield 275, 3) := by decide +kernel
theorem dX12_partOf_140 : decode cX12_partOf 140 = .ok (.ifCond .eq 13, 3) := by decide +kernel
theorem dX12_partOf_143 : decode cX12_partOf 143 = .ok (.aload_n 0, 1) := by decide +kernel
theorem dX12_partOf_144 : decode cX12_partOf 144 = .ok (.iload_n 2, 1) := by decide +kernel
theorem dX12_partOf_145 : decode cX12_partOf 145 = .ok (.iload_n 3, 1) := by decide +kernel
theorem dX12_partOf_146 : decode cX12_partOf 146 = .ok (.invokevirtual 278, 3) := by decide +kernel
theorem dX12_partOf_149 : decode cX12_partOf 149 = .ok (.i2l, 1) := by decide +kernel
theorem dX12_partOf_150 : decode cX12_partOf 150 = .ok (.goto 13, 3) := by decide +kernel
theorem dX12_partOf_153 : decode cX12_partOf 153 = .ok (.aload_n 0, 1) := by decide +kernel
theorem dX12_partOf_154 : decode cX12_partOf 154 = .ok (.getfield 59, 3) := by decide +kernel
theorem dX12_partOf_157 : decode cX12_partOf 157 = .ok (.iload_n 2, 1) := by decide +kernel
theorem dX12_partOf_158 : decode cX12_partOf 158 = .ok (.bipush 9, 2) := by decide +kernel
theorem dX12_partOf_160 : decode cX12_partOf 160 = .ok (.isub, 1) := by decide +kernel
theorem dX12_partOf_161 : decode cX12_partOf 161 = .ok (.iaload, 1) := by decide +kernel
theorem dX12_partOf_162 : decode cX12_partOf 162 = .ok (.i2l, 1) := by decide +kernel
theorem dX12_partOf_163 : decode cX12_partOf 163 = .ok (.lreturn, 1) := by decide +kernel
set_option maxRecDepth 20000 in
theorem ggX12_orderValue_X12_isPart : GoodIn wsX12_orderValue wsX12_isPart := goodIn_r _ [8, 1, 9, 10, 7, 11, 27, 28, 29, 30, 31, 32, 33, 34, 35, 36, 37, 38, 39, 40, 41, 42, 43, 44, 45, 46, 47, 48, 49, 50, 51, 52, 53, 54, 55, 56, 57, 58, 59, 60, 61, 62, 63, 64, 65, 66, 67, 68, 69, 70, 71, 72, 73, 74] (by decide +kernel) (by decide +kernel)
set_option maxRecDepth 20000 in
theorem gX12_orderValue_X12_isPart : GoodIn wsX12_orderValue (wsV RX12 122 RX12 yX12_isPart wsX12_isPart) := goodIn_app (goodIn_of _ (by decide +kernel)) ggX12_orderValue_X12_isPart
set_option maxRecDepth 20000 in
theorem ggX12_orderValue_X12_isBuilder : GoodIn wsX12_orderValue wsX12_isBuilder := goodIn_r _ [15, 1, 9, 10, 7, 11, 27, 28, 29, 30, 31, 32, 33, 34, 35, 36, 37, 38, 39, 40, 41, 42, 43, 44, 45, 46, 47, 48, 49, 50, 51, 52, 53, 54, 55, 56, 57, 58, 59, 60, 61, 62, 63, 64, 65, 66, 67, 68, 69, 70, 71, 72, 73, 74] (by decide +kernel) (by decide +kernel)
set_option maxRecDepth 20000 in
theorem gX12_orderValue_X12_isBuilder : GoodIn wsX12_orderValue (wsV RX12 131 RX12 yX12_isBuilder wsX12_isBuilder) := goodIn_app (goodIn_of _ (by decide +kernel)) ggX12_orderValue_X12_isBuilder
set_option maxRecDepth 20000 in
theorem ggX12_orderValue_X12_standing : GoodIn wsX12_orderValue wsX12_standing := goodIn_r _ [19, 1, 20, 21, 22, 7, 23, 27, 28, 29, 30, 31, 32, 33, 34, 35, 36, 37, 38, 39, 40, 41, 42, 43, 44, 45, 46, 47, 48, 49, 50, 51, 52, 53, 54, 55, 56, 57, 58, 59, 60, 61, 62, 63, 64, 65, 66, 67, 68, 69, 70, 71, 72, 73, 74] (by decide +kernel) (by decide +kernel)
set_option maxRecDepth 20000 in
theorem gX12_orderValue_X12_standing : GoodIn wsX12_orderValue (wsV RX12 118 RX12 yX12_standing wsX12_standing) := goodIn_app (goodIn_of _ (by decide +kernel)) ggX12_orderValue_X12_standing
set_option maxRecDepth 20000 in
theorem ggX12_orderValue_X12_ones : GoodIn wsX12_orderValue wsX12_ones := goodIn_r _ [26] (by decide +kernel) (by decide +kernel)
set_option maxRecDepth 20000 in
theorem gX12_orderValue_X12_ones : GoodIn wsX12_orderValue (va_wsS RX12 287 yX12_ones wsX12_ones) := goodIn_app (goodIn_of _ (by decide +kernel)) ggX12_orderValue_X12_ones
theorem dX12_orderValue_0 : decode cX12_orderValue 0 = .ok (.iload_n 1, 1) := by decide +kernel
theorem dX12_orderValue_1 : decode cX12_orderValue 1 = .ok (.tableswitch 126 16 22 #[43, 64, 108, 116, 121, 126, 86], 43) := by decide +kernel
theorem dX12_orderValue_44 : decode cX12_orderValue 44 = .ok (.aload_n 0, 1) := by decide +kernel
theorem dX12_orderValue_45 : decode cX12_orderValue 45 = .ok (.iload_n 2, 1) := by decide +kernel
theorem dX12_orderValue_46 : decode cX12_orderValue 46 = .ok (.invokevirtual 122, 3) := by decide +kernel
theorem dX12_orderValue_49 : decode cX12_orderValue 49 = .ok (.ifCond .eq 14, 3) := by decide +kernel
theorem dX12_orderValue_52 : decode cX12_orderValue 52 = .ok (.aload_n 0, 1) := by decide +kernel
theorem dX12_orderValue_53 : decode cX12_orderValue 53 = .ok (.getfield 24, 3) := by decide +kernel
theorem dX12_orderValue_56 : decode cX12_orderValue 56 = .ok (.iconst 0, 1) := by decide +kernel
theorem dX12_orderValue_57 : decode cX12_orderValue 57 = .ok (.iload_n 2, 1) := by decide +kernel
theorem dX12_orderValue_58 : decode cX12_orderValue 58 = .ok (.iadd, 1) := by decide +kernel
theorem dX12_orderValue_59 : decode cX12_orderValue 59 = .ok (.iaload, 1) := by decide +kernel
theorem dX12_orderValue_60 : decode cX12_orderValue 60 = .ok (.goto 4, 3) := by decide +kernel
theorem dX12_orderValue_63 : decode cX12_orderValue 63 = .ok (.iconst (-1), 1) := by decide +kernel
theorem dX12_orderValue_64 : decode cX12_orderValue 64 = .ok (.ireturn, 1) := by decide +kernel
theorem dX12_orderValue_65 : decode cX12_orderValue 65 = .ok (.aload_n 0, 1) := by decide +kernel
theorem dX12_orderValue_66 : decode cX12_orderValue 66 = .ok (.iload_n 2, 1) := by decide +kernel
theorem dX12_orderValue_67 : decode cX12_orderValue 67 = .ok (.invokevirtual 131, 3) := by decide +kernel
theorem dX12_orderValue_70 : decode cX12_orderValue 70 = .ok (.ifCond .eq 15, 3) := by decide +kernel
theorem dX12_orderValue_73 : decode cX12_orderValue 73 = .ok (.aload_n 0, 1) := by decide +kernel
theorem dX12_orderValue_74 : decode cX12_orderValue 74 = .ok (.getfield 24, 3) := by decide +kernel
theorem dX12_orderValue_77 : decode cX12_orderValue 77 = .ok (.bipush 10, 2) := by decide +kernel
theorem dX12_orderValue_79 : decode cX12_orderValue 79 = .ok (.iload_n 2, 1) := by decide +kernel
theorem dX12_orderValue_80 : decode cX12_orderValue 80 = .ok (.iadd, 1) := by decide +kernel
theorem dX12_orderValue_81 : decode cX12_orderValue 81 = .ok (.iaload, 1) := by decide +kernel
theorem dX12_orderValue_82 : decode cX12_orderValue 82 = .ok (.goto 4, 3) := by decide +kernel
theorem dX12_orderValue_85 : decode cX12_orderValue 85 = .ok (.iconst (-1), 1) := by decide +kernel
theorem dX12_orderValue_86 : decode cX12_orderValue 86 = .ok (.ireturn, 1) := by decide +kernel
theorem dX12_orderValue_87 : decode cX12_orderValue 87 = .ok (.aload_n 0, 1) := by decide +kernel
theorem dX12_orderValue_88 : decode cX12_orderValue 88 = .ok (.iload_n 2, 1) := by decide +kernel
theorem dX12_orderValue_89 : decode cX12_orderValue 89 = .ok (.invokevirtual 131, 3) := by decide +kernel
theorem dX12_orderValue_92 : decode cX12_orderValue 92 = .ok (.ifCond .eq 15, 3) := by decide +kernel
theorem dX12_orderValue_95 : decode cX12_orderValue 95 = .ok (.aload_n 0, 1) := by decide +kernel
theorem dX12_orderValue_96 : decode cX12_orderValue 96 = .ok (.getfield 24, 3) := by decide +kernel
theorem dX12_orderValue_99 : decode cX12_orderValue 99 = .ok (.bipush 16, 2) := by decide +kernel
theorem dX12_orderValue_101 : decode cX12_orderValue 101 = .ok (.iload_n 2, 1) := by decide +kernel
theorem dX12_orderValue_102 : decode cX12_orderValue 102 = .ok (.iadd, 1) := by decide +kernel
theorem dX12_orderValue_103 : decode cX12_orderValue 103 = .ok (.iaload, 1) := by decide +kernel
theorem dX12_orderValue_104 : decode cX12_orderValue 104 = .ok (.goto 4, 3) := by decide +kernel
theorem dX12_orderValue_107 : decode cX12_orderValue 107 = .ok (.iconst (-1), 1) := by decide +kernel
theorem dX12_orderValue_108 : decode cX12_orderValue 108 = .ok (.ireturn, 1) := by decide +kernel
theorem dX12_orderValue_109 : decode cX12_orderValue 109 = .ok (.aload_n 0, 1) := by decide +kernel
theorem dX12_orderValue_110 : decode cX12_orderValue 110 = .ok (.getfield 24, 3) := by decide +kernel
theorem dX12_orderValue_113 : decode cX12_orderValue 113 = .ok (.bipush 22, 2) := by decide +kernel
theorem dX12_orderValue_115 : decode cX12_orderValue 115 = .ok (.iaload, 1) := by decide +kernel
theorem dX12_orderValue_116 : decode cX12_orderValue 116 = .ok (.ireturn, 1) := by decide +kernel
theorem dX12_orderValue_117 : decode cX12_orderValue 117 = .ok (.aload_n 0, 1) := by decide +kernel
theorem dX12_orderValue_118 : decode cX12_orderValue 118 = .ok (.getfield 281, 3) := by decide +kernel
theorem dX12_orderValue_121 : decode cX12_orderValue 121 = .ok (.ireturn, 1) := by decide +kernel
theorem dX12_orderValue_122 : decode cX12_orderValue 122 = .ok (.aload_n 0, 1) := by decide +kernel
theorem dX12_orderValue_123 : decode cX12_orderValue 123 = .ok (.getfield 284, 3) := by decide +kernel
theorem dX12_orderValue_126 : decode cX12_orderValue 126 = .ok (.ireturn, 1) := by decide +kernel
theorem dX12_orderValue_127 : decode cX12_orderValue 127 = .ok (.aload_n 0, 1) := by decide +kernel
theorem dX12_orderValue_128 : decode cX12_orderValue 128 = .ok (.invokevirtual 118, 3) := by decide +kernel
theorem dX12_orderValue_131 : decode cX12_orderValue 131 = .ok (.invokestatic 287, 3) := by decide +kernel
theorem dX12_orderValue_134 : decode cX12_orderValue 134 = .ok (.ireturn, 1) := by decide +kernel
set_option maxRecDepth 20000 in
theorem ggX12_testOf_X12_bothOf : GoodIn wsX12_testOf wsX12_bothOf := goodIn_r _ [16, 17, 18, 19, 4, 5, 6, 7, 8, 9, 10, 11, 12, 13, 14, 15, 20, 21, 22, 23, 24, 25, 26, 27, 28, 29, 30, 31, 32, 33, 34, 35, 36, 37, 38, 39, 40, 41, 42, 43, 44, 45, 46, 47, 48, 49, 50, 51, 52, 53, 54, 55, 56, 57, 58, 59, 60, 61, 62, 63, 64, 65, 66, 67, 68, 69, 70, 71, 72, 73, 74, 75, 76, 77, 78, 79, 0, 1, 2, 3, 80, 81, 82, 83, 84, 85, 86, 87, 88, 89, 90, 91, 92, 93, 94, 95, 96, 97, 98, 99, 100, 101, 102, 103, 104, 105, 106, 107, 108, 109, 110, 111, 112, 113, 114, 115, 116, 117, 118, 119, 120, 121, 122, 123, 124, 125, 126, 127] (by decide +kernel) (by decide +kernel)
set_option maxRecDepth 20000 in
theorem gX12_testOf_X12_bothOf : GoodIn wsX12_testOf (wsV RX12 290 RX12 yX12_bothOf wsX12_bothOf) := goodIn_app (goodIn_of _ (by decide +kernel)) ggX12_testOf_X12_bothOf
set_option maxRecDepth 20000 in
theorem ggX12_testOf_X12_passes0 : GoodIn wsX12_testOf wsX12_passes0 := goodIn_r _ [8, 9, 10, 11, 12, 4, 13, 14, 15, 80, 81, 82, 83, 84, 85, 86, 87, 88, 89, 90, 91, 92, 93, 94, 95, 96, 97, 98, 99, 100, 101, 102, 103, 104, 105, 106, 107, 108, 109, 110, 111, 112, 113, 114, 115, 116, 117, 118, 119, 120, 121, 122, 123, 124, 125, 126, 127] (by decide +kernel) (by decide +kernel)
set_option maxRecDepth 20000 in
theorem gX12_testOf_X12_passes0 : GoodIn wsX12_testOf (wsV RX12 269 RX12 yX12_passes0 wsX12_passes0) := goodIn_app (goodIn_of _ (by decide +kernel)) ggX12_testOf_X12_passes0
theorem dX12_testOf_0 : decode cX12_testOf 0 = .ok (.aload_n 0, 1) := by decide +kernel
theorem dX12_testOf_1 : decode cX12_testOf 1 = .ok (.iload_n 1, 1) := by decide +kernel
theorem dX12_testOf_2 : decode cX12_testOf 2 = .ok (.invokevirtual 290, 3) := by decide +kernel
theorem dX12_testOf_5 : decode cX12_testOf 5 = .ok (.istore_n 2, 1) := by decide +kernel
theorem dX12_testOf_6 : decode cX12_testOf 6 = .ok (.aload_n 0, 1) := by decide +kernel
theorem dX12_testOf_7 : decode cX12_testOf 7 = .ok (.bipush 6, 2) := by decide +kernel
theorem dX12_testOf_9 : decode cX12_testOf 9 = .ok (.invokevirtual 269, 3) := by decide +kernel
theorem dX12_testOf_12 : decode cX12_testOf 12 = .ok (.ifCond .eq 38, 3) := by decide +kernel
theorem dX12_testOf_15 : decode cX12_testOf 15 = .ok (.aload_n 0, 1) := by decide +kernel
theorem dX12_testOf_16 : decode cX12_testOf 16 = .ok (.iload_n 1, 1) := by decide +kernel
theorem dX12_testOf_17 : decode cX12_testOf 17 = .ok (.ifCond .eq 11, 3) := by decide +kernel
theorem dX12_testOf_20 : decode cX12_testOf 20 = .ok (.iload_n 2, 1) := by decide +kernel
theorem dX12_testOf_21 : decode cX12_testOf 21 = .ok (.ifCond .ne 7, 3) := by decide +kernel
theorem dX12_testOf_24 : decode cX12_testOf 24 = .ok (.iconst 1, 1) := by decide +kernel
theorem dX12_testOf_25 : decode cX12_testOf 25 = .ok (.goto 4, 3) := by decide +kernel
theorem dX12_testOf_28 : decode cX12_testOf 28 = .ok (.iconst 0, 1) := by decide +kernel
theorem dX12_testOf_29 : decode cX12_testOf 29 = .ok (.invokevirtual 290, 3) := by decide +kernel
theorem dX12_testOf_32 : decode cX12_testOf 32 = .ok (.istore_n 3, 1) := by decide +kernel
theorem dX12_testOf_33 : decode cX12_testOf 33 = .ok (.iload_n 2, 1) := by decide +kernel
theorem dX12_testOf_34 : decode cX12_testOf 34 = .ok (.ifCond .ne 7, 3) := by decide +kernel
theorem dX12_testOf_37 : decode cX12_testOf 37 = .ok (.iload_n 3, 1) := by decide +kernel
theorem dX12_testOf_38 : decode cX12_testOf 38 = .ok (.ifCond .eq 7, 3) := by decide +kernel
theorem dX12_testOf_41 : decode cX12_testOf 41 = .ok (.iconst 1, 1) := by decide +kernel
theorem dX12_testOf_42 : decode cX12_testOf 42 = .ok (.goto 4, 3) := by decide +kernel
theorem dX12_testOf_45 : decode cX12_testOf 45 = .ok (.iconst 0, 1) := by decide +kernel
theorem dX12_testOf_46 : decode cX12_testOf 46 = .ok (.istore_n 2, 1) := by decide +kernel
theorem dX12_testOf_47 : decode cX12_testOf 47 = .ok (.goto (-41), 3) := by decide +kernel
theorem dX12_testOf_50 : decode cX12_testOf 50 = .ok (.iload_n 2, 1) := by decide +kernel
theorem dX12_testOf_51 : decode cX12_testOf 51 = .ok (.ireturn, 1) := by decide +kernel
set_option maxRecDepth 20000 in
theorem ggX12_bothOf_X12_plainOf : GoodIn wsX12_bothOf wsX12_plainOf := goodIn_r _ [16, 5, 6, 7, 4, 8, 9, 10, 11, 12, 13, 14, 15, 17, 18, 19, 0, 1, 2, 3, 20, 21, 22, 23, 24, 25, 26, 27, 28, 29, 30, 31, 32, 33, 34, 35, 36, 37, 38, 39, 40, 41, 42, 43, 44, 45, 46, 47, 48, 49, 50, 51, 52, 53, 54, 55, 56, 57, 58, 59, 60, 61, 62, 63, 64, 65, 66, 67, 68, 69, 70, 71, 72, 73, 74, 75, 76, 77, 78, 79, 80, 81, 82, 83, 84, 85, 86, 87, 88, 89, 90, 91, 92, 93, 94, 95, 96, 97, 98, 99, 100, 101, 102, 103, 104, 105, 106, 107, 108, 109, 110, 111, 112, 113, 114, 115, 116, 117, 118, 119, 120, 121, 122, 123, 124, 125, 126, 127] (by decide +kernel) (by decide +kernel)
set_option maxRecDepth 20000 in
theorem gX12_bothOf_X12_plainOf : GoodIn wsX12_bothOf (wsV RX12 293 RX12 yX12_plainOf wsX12_plainOf) := goodIn_app (goodIn_of _ (by decide +kernel)) ggX12_bothOf_X12_plainOf
set_option maxRecDepth 20000 in
theorem ggX12_bothOf_X12_passes0 : GoodIn wsX12_bothOf wsX12_passes0 := goodIn_r _ [8, 9, 10, 11, 12, 4, 13, 14, 15, 80, 81, 82, 83, 84, 85, 86, 87, 88, 89, 90, 91, 92, 93, 94, 95, 96, 97, 98, 99, 100, 101, 102, 103, 104, 105, 106, 107, 108, 109, 110, 111, 112, 113, 114, 115, 116, 117, 118, 119, 120, 121, 122, 123, 124, 125, 126, 127] (by decide +kernel) (by decide +kernel)
set_option maxRecDepth 20000 in
theorem gX12_bothOf_X12_passes0 : GoodIn wsX12_bothOf (wsV RX12 269 RX12 yX12_passes0 wsX12_passes0) := goodIn_app (goodIn_of _ (by decide +kernel)) ggX12_bothOf_X12_passes0
theorem dX12_bothOf_0 : decode cX12_bothOf 0 = .ok (.aload_n 0, 1) := by decide +kernel
theorem dX12_bothOf_1 : decode cX12_bothOf 1 = .ok (.iload_n 1, 1) := by decide +kernel
theorem dX12_bothOf_2 : decode cX12_bothOf 2 = .ok (.invokevirtual 293, 3) := by decide +kernel
theorem dX12_bothOf_5 : decode cX12_bothOf 5 = .ok (.istore_n 2, 1) := by decide +kernel
theorem dX12_bothOf_6 : decode cX12_bothOf 6 = .ok (.aload_n 0, 1) := by decide +kernel
theorem dX12_bothOf_7 : decode cX12_bothOf 7 = .ok (.bipush 7, 2) := by decide +kernel
theorem dX12_bothOf_9 : decode cX12_bothOf 9 = .ok (.invokevirtual 269, 3) := by decide +kernel
theorem dX12_bothOf_12 : decode cX12_bothOf 12 = .ok (.ifCond .eq 38, 3) := by decide +kernel
theorem dX12_bothOf_15 : decode cX12_bothOf 15 = .ok (.aload_n 0, 1) := by decide +kernel
theorem dX12_bothOf_16 : decode cX12_bothOf 16 = .ok (.iload_n 1, 1) := by decide +kernel
theorem dX12_bothOf_17 : decode cX12_bothOf 17 = .ok (.ifCond .eq 11, 3) := by decide +kernel
theorem dX12_bothOf_20 : decode cX12_bothOf 20 = .ok (.iload_n 2, 1) := by decide +kernel
theorem dX12_bothOf_21 : decode cX12_bothOf 21 = .ok (.ifCond .eq 7, 3) := by decide +kernel
theorem dX12_bothOf_24 : decode cX12_bothOf 24 = .ok (.iconst 1, 1) := by decide +kernel
theorem dX12_bothOf_25 : decode cX12_bothOf 25 = .ok (.goto 4, 3) := by decide +kernel
theorem dX12_bothOf_28 : decode cX12_bothOf 28 = .ok (.iconst 0, 1) := by decide +kernel
theorem dX12_bothOf_29 : decode cX12_bothOf 29 = .ok (.invokevirtual 293, 3) := by decide +kernel
theorem dX12_bothOf_32 : decode cX12_bothOf 32 = .ok (.istore_n 3, 1) := by decide +kernel
theorem dX12_bothOf_33 : decode cX12_bothOf 33 = .ok (.iload_n 2, 1) := by decide +kernel
theorem dX12_bothOf_34 : decode cX12_bothOf 34 = .ok (.ifCond .eq 11, 3) := by decide +kernel
theorem dX12_bothOf_37 : decode cX12_bothOf 37 = .ok (.iload_n 3, 1) := by decide +kernel
theorem dX12_bothOf_38 : decode cX12_bothOf 38 = .ok (.ifCond .eq 7, 3) := by decide +kernel
theorem dX12_bothOf_41 : decode cX12_bothOf 41 = .ok (.iconst 1, 1) := by decide +kernel
theorem dX12_bothOf_42 : decode cX12_bothOf 42 = .ok (.goto 4, 3) := by decide +kernel
theorem dX12_bothOf_45 : decode cX12_bothOf 45 = .ok (.iconst 0, 1) := by decide +kernel
theorem dX12_bothOf_46 : decode cX12_bothOf 46 = .ok (.istore_n 2, 1) := by decide +kernel
theorem dX12_bothOf_47 : decode cX12_bothOf 47 = .ok (.goto (-41), 3) := by decide +kernel
theorem dX12_bothOf_50 : decode cX12_bothOf 50 = .ok (.iload_n 2, 1) := by decide +kernel
theorem dX12_bothOf_51 : decode cX12_bothOf 51 = .ok (.ireturn, 1) := by decide +kernel
set_option maxRecDepth 20000 in
theorem ggX12_plainOf_X12_passes0 : GoodIn wsX12_plainOf wsX12_passes0 := goodIn_r _ [5, 6, 7, 8, 9, 4, 10, 11, 12, 80, 81, 82, 83, 84, 85, 86, 87, 88, 89, 90, 91, 92, 93, 94, 95, 96, 97, 98, 99, 100, 101, 102, 103, 104, 105, 106, 107, 108, 109, 110, 111, 112, 113, 114, 115, 116, 117, 118, 119, 120, 121, 122, 123, 124, 125, 126, 127] (by decide +kernel) (by decide +kernel)
set_option maxRecDepth 20000 in
theorem gX12_plainOf_X12_passes0 : GoodIn wsX12_plainOf (wsV RX12 269 RX12 yX12_passes0 wsX12_passes0) := goodIn_app (goodIn_of _ (by decide +kernel)) ggX12_plainOf_X12_passes0
set_option maxRecDepth 20000 in
theorem ggX12_plainOf_X12_positiveOf : GoodIn wsX12_plainOf wsX12_positiveOf := goodIn_r _ [20, 6, 21, 22, 23, 4, 24, 1, 2, 3, 5, 7, 8, 9, 10, 11, 12, 25, 26, 27, 28, 29, 30, 31, 32, 33, 34, 35, 36, 37, 38, 39, 40, 41, 42, 43, 44, 45, 46, 47, 48, 49, 50, 51, 52, 53, 54, 55, 56, 57, 58, 59, 60, 61, 62, 63, 64, 65, 66, 67, 68, 69, 70, 71, 72, 73, 74, 75, 16, 17, 18, 19, 0, 13, 14, 15, 76, 77, 78, 79, 80, 81, 82, 83, 84, 85, 86, 87, 88, 89, 90, 91, 92, 93, 94, 95, 96, 97, 98, 99, 100, 101, 102, 103, 104, 105, 106, 107, 108, 109, 110, 111, 112, 113, 114, 115, 116, 117, 118, 119, 120, 121, 122, 123, 124, 125, 126, 127] (by decide +kernel) (by decide +kernel)
set_option maxRecDepth 20000 in
theorem gX12_plainOf_X12_positiveOf : GoodIn wsX12_plainOf (wsV RX12 296 RX12 yX12_positiveOf wsX12_positiveOf) := goodIn_app (goodIn_of _ (by decide +kernel)) ggX12_plainOf_X12_positiveOf
theorem dX12_plainOf_0 : decode cX12_plainOf 0 = .ok (.iconst 0, 1) := by decide +kernel
theorem dX12_plainOf_1 : decode cX12_plainOf 1 = .ok (.istore_n 2, 1) := by decide +kernel
theorem dX12_plainOf_2 : decode cX12_plainOf 2 = .ok (.aload_n 0, 1) := by decide +kernel
theorem dX12_plainOf_3 : decode cX12_plainOf 3 = .ok (.bipush 8, 2) := by decide +kernel
theorem dX12_plainOf_5 : decode cX12_plainOf 5 = .ok (.invokevirtual 269, 3) := by decide +kernel
theorem dX12_plainOf_8 : decode cX12_plainOf 8 = .ok (.ifCond .eq 16, 3) := by decide +kernel
theorem dX12_plainOf_11 : decode cX12_plainOf 11 = .ok (.iload_n 2, 1) := by decide +kernel
theorem dX12_plainOf_12 : decode cX12_plainOf 12 = .ok (.ifCond .ne 7, 3) := by decide +kernel
theorem dX12_plainOf_15 : decode cX12_plainOf 15 = .ok (.iconst 1, 1) := by decide +kernel
theorem dX12_plainOf_16 : decode cX12_plainOf 16 = .ok (.goto 4, 3) := by decide +kernel
theorem dX12_plainOf_19 : decode cX12_plainOf 19 = .ok (.iconst 0, 1) := by decide +kernel
theorem dX12_plainOf_20 : decode cX12_plainOf 20 = .ok (.istore_n 2, 1) := by decide +kernel
theorem dX12_plainOf_21 : decode cX12_plainOf 21 = .ok (.goto (-19), 3) := by decide +kernel
theorem dX12_plainOf_24 : decode cX12_plainOf 24 = .ok (.aload_n 0, 1) := by decide +kernel
theorem dX12_plainOf_25 : decode cX12_plainOf 25 = .ok (.iload_n 1, 1) := by decide +kernel
theorem dX12_plainOf_26 : decode cX12_plainOf 26 = .ok (.invokevirtual 296, 3) := by decide +kernel
theorem dX12_plainOf_29 : decode cX12_plainOf 29 = .ok (.iload_n 2, 1) := by decide +kernel
theorem dX12_plainOf_30 : decode cX12_plainOf 30 = .ok (.if_icmp .eq 7, 3) := by decide +kernel
theorem dX12_plainOf_33 : decode cX12_plainOf 33 = .ok (.iconst 1, 1) := by decide +kernel
theorem dX12_plainOf_34 : decode cX12_plainOf 34 = .ok (.goto 4, 3) := by decide +kernel
theorem dX12_plainOf_37 : decode cX12_plainOf 37 = .ok (.iconst 0, 1) := by decide +kernel
theorem dX12_plainOf_38 : decode cX12_plainOf 38 = .ok (.ireturn, 1) := by decide +kernel
set_option maxRecDepth 20000 in
theorem ggX12_positiveOf_X12_sign : GoodIn wsX12_positiveOf wsX12_sign := goodIn_r _ [6] (by decide +kernel) (by decide +kernel)
set_option maxRecDepth 20000 in
theorem gX12_positiveOf_X12_sign : GoodIn wsX12_positiveOf (va_wsS RX12 207 yX12_sign wsX12_sign) := goodIn_app (goodIn_of _ (by decide +kernel)) ggX12_positiveOf_X12_sign
set_option maxRecDepth 20000 in
theorem ggX12_positiveOf_X12_passes0 : GoodIn wsX12_positiveOf wsX12_passes0 := goodIn_r _ [10, 1, 11, 12, 13, 5, 14, 15, 16, 80, 81, 82, 83, 84, 85, 86, 87, 88, 89, 90, 91, 92, 93, 94, 95, 96, 97, 98, 99, 100, 101, 102, 103, 104, 105, 106, 107, 108, 109, 110, 111, 112, 113, 114, 115, 116, 117, 118, 119, 120, 121, 122, 123, 124, 125, 126, 127] (by decide +kernel) (by decide +kernel)
set_option maxRecDepth 20000 in
theorem gX12_positiveOf_X12_passes0 : GoodIn wsX12_positiveOf (wsV RX12 269 RX12 yX12_passes0 wsX12_passes0) := goodIn_app (goodIn_of _ (by decide +kernel)) ggX12_positiveOf_X12_passes0
set_option maxRecDepth 20000 in
theorem ggX12_positiveOf_X12_testOf : GoodIn wsX12_positiveOf wsX12_testOf := goodIn_r _ [76, 77, 78, 79, 5, 7, 8, 9, 10, 1, 11, 12, 13, 14, 15, 16, 68, 69, 70, 71, 72, 73, 74, 75, 0, 2, 3, 4, 6, 17, 18, 19, 20, 21, 22, 23, 24, 25, 26, 27, 28, 29, 30, 31, 32, 33, 34, 35, 36, 37, 38, 39, 40, 41, 42, 43, 44, 45, 46, 47, 48, 49, 50, 51, 52, 53, 54, 55, 56, 57, 58, 59, 60, 61, 62, 63, 64, 65, 66, 67, 80, 81, 82, 83, 84, 85, 86, 87, 88, 89, 90, 91, 92, 93, 94, 95, 96, 97, 98, 99, 100, 101, 102, 103, 104, 105, 106, 107, 108, 109, 110, 111, 112, 113, 114, 115, 116, 117, 118, 119, 120, 121, 122, 123, 124, 125, 126, 127] (by decide +kernel) (by decide +kernel)
set_option maxRecDepth 20000 in
theorem gX12_positiveOf_X12_testOf : GoodIn wsX12_positiveOf (wsV RX12 299 RX12 yX12_testOf wsX12_testOf) := goodIn_app (goodIn_of _ (by decide +kernel)) ggX12_positiveOf_X12_testOf
set_option maxRecDepth 20000 in
theorem ggX12_positiveOf_X12_sumOf : GoodIn wsX12_positiveOf wsX12_sumOf := goodIn_r _ [23, 1, 24, 25, 26, 5, 11, 12, 13, 14, 15, 16, 3, 4, 6, 27, 28, 29, 30, 31, 32, 2, 33, 34, 35, 7, 8, 9, 10, 20, 21, 22, 36, 37, 38, 39, 40, 41, 42, 43, 44, 45, 46, 47, 48, 49, 50, 51, 52, 53, 54, 55, 56, 57, 58, 59, 60, 61, 62, 63, 64, 65, 66, 67, 80, 81, 82, 83, 84, 85, 86, 87, 88, 89, 90, 91, 92, 93, 94, 95, 96, 97, 98, 99, 100, 101, 102, 103, 104, 105, 106, 107, 108, 109, 110, 111, 112, 113, 114, 115, 116, 117, 118, 119, 120, 121, 122, 123, 124, 125, 126, 127] (by decide +kernel) (by decide +kernel)
set_option maxRecDepth 20000 in
theorem gX12_positiveOf_X12_sumOf : GoodIn wsX12_positiveOf (wsV RX12 272 RX12 yX12_sumOf wsX12_sumOf) := goodIn_app (goodIn_of _ (by decide +kernel)) ggX12_positiveOf_X12_sumOf
set_option maxRecDepth 20000 in
theorem ggX12_positiveOf_X12_codeAt : GoodIn wsX12_positiveOf wsX12_codeAt := goodIn_r _ [14, 15, 16, 80, 81, 82, 83, 84, 85, 86, 87, 88, 89, 90, 91, 92, 93, 94, 95, 96, 97, 98, 99, 100, 101, 102, 103, 104, 105, 106, 107, 108, 109, 110, 111, 112, 113, 114, 115, 116, 117, 118, 119, 120, 121, 122, 123, 124, 125, 126, 127] (by decide +kernel) (by decide +kernel)
set_option maxRecDepth 20000 in
theorem gX12_positiveOf_X12_codeAt : GoodIn wsX12_positiveOf (wsV RX12 248 RX12 yX12_codeAt wsX12_codeAt) := goodIn_app (goodIn_of _ (by decide +kernel)) ggX12_positiveOf_X12_codeAt
theorem dX12_positiveOf_0 : decode cX12_positiveOf 0 = .ok (.aload_n 0, 1) := by decide +kernel
theorem dX12_positiveOf_1 : decode cX12_positiveOf 1 = .ok (.bipush 40, 2) := by decide +kernel
theorem dX12_positiveOf_3 : decode cX12_positiveOf 3 = .ok (.invokestatic 207, 3) := by decide +kernel
theorem dX12_positiveOf_6 : decode cX12_positiveOf 6 = .ok (.invokevirtual 269, 3) := by decide +kernel
theorem dX12_positiveOf_9 : decode cX12_positiveOf 9 = .ok (.ifCond .eq 21, 3) := by decide +kernel
theorem dX12_positiveOf_12 : decode cX12_positiveOf 12 = .ok (.aload_n 0, 1) := by decide +kernel
theorem dX12_positiveOf_13 : decode cX12_positiveOf 13 = .ok (.iload_n 1, 1) := by decide +kernel
theorem dX12_positiveOf_14 : decode cX12_positiveOf 14 = .ok (.invokevirtual 299, 3) := by decide +kernel
theorem dX12_positiveOf_17 : decode cX12_positiveOf 17 = .ok (.istore_n 2, 1) := by decide +kernel
theorem dX12_positiveOf_18 : decode cX12_positiveOf 18 = .ok (.aload_n 0, 1) := by decide +kernel
theorem dX12_positiveOf_19 : decode cX12_positiveOf 19 = .ok (.dup, 1) := by decide +kernel
theorem dX12_positiveOf_20 : decode cX12_positiveOf 20 = .ok (.getfield 245, 3) := by decide +kernel
theorem dX12_positiveOf_23 : decode cX12_positiveOf 23 = .ok (.iconst 1, 1) := by decide +kernel
theorem dX12_positiveOf_24 : decode cX12_positiveOf 24 = .ok (.iadd, 1) := by decide +kernel
theorem dX12_positiveOf_25 : decode cX12_positiveOf 25 = .ok (.putfield 245, 3) := by decide +kernel
theorem dX12_positiveOf_28 : decode cX12_positiveOf 28 = .ok (.iload_n 2, 1) := by decide +kernel
theorem dX12_positiveOf_29 : decode cX12_positiveOf 29 = .ok (.ireturn, 1) := by decide +kernel
theorem dX12_positiveOf_30 : decode cX12_positiveOf 30 = .ok (.aload_n 0, 1) := by decide +kernel
theorem dX12_positiveOf_31 : decode cX12_positiveOf 31 = .ok (.iload_n 1, 1) := by decide +kernel
theorem dX12_positiveOf_32 : decode cX12_positiveOf 32 = .ok (.invokevirtual 272, 3) := by decide +kernel
theorem dX12_positiveOf_35 : decode cX12_positiveOf 35 = .ok (.lstore_n 2, 1) := by decide +kernel
theorem dX12_positiveOf_36 : decode cX12_positiveOf 36 = .ok (.aload_n 0, 1) := by decide +kernel
theorem dX12_positiveOf_37 : decode cX12_positiveOf 37 = .ok (.aload_n 0, 1) := by decide +kernel
theorem dX12_positiveOf_38 : decode cX12_positiveOf 38 = .ok (.getfield 245, 3) := by decide +kernel
theorem dX12_positiveOf_41 : decode cX12_positiveOf 41 = .ok (.invokevirtual 248, 3) := by decide +kernel
theorem dX12_positiveOf_44 : decode cX12_positiveOf 44 = .ok (.istore 4, 2) := by decide +kernel
theorem dX12_positiveOf_46 : decode cX12_positiveOf 46 = .ok (.aload_n 0, 1) := by decide +kernel
theorem dX12_positiveOf_47 : decode cX12_positiveOf 47 = .ok (.dup, 1) := by decide +kernel
theorem dX12_positiveOf_48 : decode cX12_positiveOf 48 = .ok (.getfield 245, 3) := by decide +kernel
theorem dX12_positiveOf_51 : decode cX12_positiveOf 51 = .ok (.iconst 1, 1) := by decide +kernel
theorem dX12_positiveOf_52 : decode cX12_positiveOf 52 = .ok (.iadd, 1) := by decide +kernel
theorem dX12_positiveOf_53 : decode cX12_positiveOf 53 = .ok (.putfield 245, 3) := by decide +kernel
theorem dX12_positiveOf_56 : decode cX12_positiveOf 56 = .ok (.aload_n 0, 1) := by decide +kernel
theorem dX12_positiveOf_57 : decode cX12_positiveOf 57 = .ok (.iload_n 1, 1) := by decide +kernel
theorem dX12_positiveOf_58 : decode cX12_positiveOf 58 = .ok (.invokevirtual 272, 3) := by decide +kernel
theorem dX12_positiveOf_61 : decode cX12_positiveOf 61 = .ok (.lstore 5, 2) := by decide +kernel
theorem dX12_positiveOf_63 : decode cX12_positiveOf 63 = .ok (.iload_n 1, 1) := by decide +kernel
theorem dX12_positiveOf_64 : decode cX12_positiveOf 64 = .ok (.ifCond .eq 61, 3) := by decide +kernel
theorem dX12_positiveOf_67 : decode cX12_positiveOf 67 = .ok (.aload_n 0, 1) := by decide +kernel
theorem dX12_positiveOf_68 : decode cX12_positiveOf 68 = .ok (.getfield 255, 3) := by decide +kernel
theorem dX12_positiveOf_71 : decode cX12_positiveOf 71 = .ok (.ifCond .ne 54, 3) := by decide +kernel
theorem dX12_positiveOf_74 : decode cX12_positiveOf 74 = .ok (.iload 4, 2) := by decide +kernel
theorem dX12_positiveOf_76 : decode cX12_positiveOf 76 = .ok (.bipush 60, 2) := by decide +kernel
theorem dX12_positiveOf_78 : decode cX12_positiveOf 78 = .ok (.invokestatic 207, 3) := by decide +kernel
theorem dX12_positiveOf_81 : decode cX12_positiveOf 81 = .ok (.if_icmp .ne 13, 3) := by decide +kernel
theorem dX12_positiveOf_84 : decode cX12_positiveOf 84 = .ok (.lload_n 2, 1) := by decide +kernel
theorem dX12_positiveOf_85 : decode cX12_positiveOf 85 = .ok (.lload 5, 2) := by decide +kernel
theorem dX12_positiveOf_87 : decode cX12_positiveOf 87 = .ok (.lcmp, 1) := by decide +kernel
theorem dX12_positiveOf_88 : decode cX12_positiveOf 88 = .ok (.ifCond .ge 37, 3) := by decide +kernel
theorem dX12_positiveOf_91 : decode cX12_positiveOf 91 = .ok (.goto 30, 3) := by decide +kernel
theorem dX12_positiveOf_94 : decode cX12_positiveOf 94 = .ok (.iload 4, 2) := by decide +kernel
theorem dX12_positiveOf_96 : decode cX12_positiveOf 96 = .ok (.bipush 62, 2) := by decide +kernel
theorem dX12_positiveOf_98 : decode cX12_positiveOf 98 = .ok (.invokestatic 207, 3) := by decide +kernel
theorem dX12_positiveOf_101 : decode cX12_positiveOf 101 = .ok (.if_icmp .ne 13, 3) := by decide +kernel
theorem dX12_positiveOf_104 : decode cX12_positiveOf 104 = .ok (.lload_n 2, 1) := by decide +kernel
theorem dX12_positiveOf_105 : decode cX12_positiveOf 105 = .ok (.lload 5, 2) := by decide +kernel
theorem dX12_positiveOf_107 : decode cX12_positiveOf 107 = .ok (.lcmp, 1) := by decide +kernel
theorem dX12_positiveOf_108 : decode cX12_positiveOf 108 = .ok (.ifCond .le 17, 3) := by decide +kernel
theorem dX12_positiveOf_111 : decode cX12_positiveOf 111 = .ok (.goto 10, 3) := by decide +kernel
theorem dX12_positiveOf_114 : decode cX12_positiveOf 114 = .ok (.lload_n 2, 1) := by decide +kernel
theorem dX12_positiveOf_115 : decode cX12_positiveOf 115 = .ok (.lload 5, 2) := by decide +kernel
theorem dX12_positiveOf_117 : decode cX12_positiveOf 117 = .ok (.lcmp, 1) := by decide +kernel
theorem dX12_positiveOf_118 : decode cX12_positiveOf 118 = .ok (.ifCond .ne 7, 3) := by decide +kernel
theorem dX12_positiveOf_121 : decode cX12_positiveOf 121 = .ok (.iconst 1, 1) := by decide +kernel
theorem dX12_positiveOf_122 : decode cX12_positiveOf 122 = .ok (.goto 4, 3) := by decide +kernel
theorem dX12_positiveOf_125 : decode cX12_positiveOf 125 = .ok (.iconst 0, 1) := by decide +kernel
theorem dX12_positiveOf_126 : decode cX12_positiveOf 126 = .ok (.ireturn, 1) := by decide +kernel
set_option maxRecDepth 20000 in
theorem ggX12_hasCraft_X12_isIn : GoodIn wsX12_hasCraft wsX12_isIn := goodIn_r _ [5] (by decide +kernel) (by decide +kernel)
set_option maxRecDepth 20000 in
theorem gX12_hasCraft_X12_isIn : GoodIn wsX12_hasCraft (va_wsS RX12 302 yX12_isIn wsX12_isIn) := goodIn_app (goodIn_of _ (by decide +kernel)) ggX12_hasCraft_X12_isIn
theorem dX12_hasCraft_0 : decode cX12_hasCraft 0 = .ok (.aload_n 0, 1) := by decide +kernel
theorem dX12_hasCraft_1 : decode cX12_hasCraft 1 = .ok (.getfield 24, 3) := by decide +kernel
theorem dX12_hasCraft_4 : decode cX12_hasCraft 4 = .ok (.bipush 63, 2) := by decide +kernel
theorem dX12_hasCraft_6 : decode cX12_hasCraft 6 = .ok (.iload_n 1, 1) := by decide +kernel
theorem dX12_hasCraft_7 : decode cX12_hasCraft 7 = .ok (.iadd, 1) := by decide +kernel
theorem dX12_hasCraft_8 : decode cX12_hasCraft 8 = .ok (.iaload, 1) := by decide +kernel
theorem dX12_hasCraft_9 : decode cX12_hasCraft 9 = .ok (.aload_n 0, 1) := by decide +kernel
theorem dX12_hasCraft_10 : decode cX12_hasCraft 10 = .ok (.getfield 24, 3) := by decide +kernel
theorem dX12_hasCraft_13 : decode cX12_hasCraft 13 = .ok (.bipush 43, 2) := by decide +kernel
theorem dX12_hasCraft_15 : decode cX12_hasCraft 15 = .ok (.iload_n 2, 1) := by decide +kernel
theorem dX12_hasCraft_16 : decode cX12_hasCraft 16 = .ok (.iadd, 1) := by decide +kernel
theorem dX12_hasCraft_17 : decode cX12_hasCraft 17 = .ok (.iaload, 1) := by decide +kernel
theorem dX12_hasCraft_18 : decode cX12_hasCraft 18 = .ok (.invokestatic 302, 3) := by decide +kernel
theorem dX12_hasCraft_21 : decode cX12_hasCraft 21 = .ok (.ireturn, 1) := by decide +kernel
theorem dX12_others_0 : decode cX12_others 0 = .ok (.iconst 0, 1) := by decide +kernel
theorem dX12_others_1 : decode cX12_others 1 = .ok (.istore_n 3, 1) := by decide +kernel
theorem dX12_others_2 : decode cX12_others 2 = .ok (.iconst 0, 1) := by decide +kernel
theorem dX12_others_3 : decode cX12_others 3 = .ok (.istore 4, 2) := by decide +kernel
theorem dX12_others_5 : decode cX12_others 5 = .ok (.iload 4, 2) := by decide +kernel
theorem dX12_others_7 : decode cX12_others 7 = .ok (.aload_n 0, 1) := by decide +kernel
theorem dX12_others_8 : decode cX12_others 8 = .ok (.getfield 24, 3) := by decide +kernel
theorem dX12_others_11 : decode cX12_others 11 = .ok (.bipush 103, 2) := by decide +kernel
theorem dX12_others_13 : decode cX12_others 13 = .ok (.iaload, 1) := by decide +kernel
theorem dX12_others_14 : decode cX12_others 14 = .ok (.if_icmp .ge 37, 3) := by decide +kernel
theorem dX12_others_17 : decode cX12_others 17 = .ok (.iload_n 3, 1) := by decide +kernel
theorem dX12_others_18 : decode cX12_others 18 = .ok (.iload 4, 2) := by decide +kernel
theorem dX12_others_20 : decode cX12_others 20 = .ok (.iload_n 1, 1) := by decide +kernel
theorem dX12_others_21 : decode cX12_others 21 = .ok (.if_icmp .eq 21, 3) := by decide +kernel
theorem dX12_others_24 : decode cX12_others 24 = .ok (.aload_n 0, 1) := by decide +kernel
theorem dX12_others_25 : decode cX12_others 25 = .ok (.getfield 24, 3) := by decide +kernel
theorem dX12_others_28 : decode cX12_others 28 = .ok (.bipush 16, 2) := by decide +kernel
theorem dX12_others_30 : decode cX12_others 30 = .ok (.iload 4, 2) := by decide +kernel
theorem dX12_others_32 : decode cX12_others 32 = .ok (.iadd, 1) := by decide +kernel
theorem dX12_others_33 : decode cX12_others 33 = .ok (.iaload, 1) := by decide +kernel
theorem dX12_others_34 : decode cX12_others 34 = .ok (.iload_n 2, 1) := by decide +kernel
theorem dX12_others_35 : decode cX12_others 35 = .ok (.if_icmp .ne 7, 3) := by decide +kernel
theorem dX12_others_38 : decode cX12_others 38 = .ok (.iconst 1, 1) := by decide +kernel
theorem dX12_others_39 : decode cX12_others 39 = .ok (.goto 4, 3) := by decide +kernel
theorem dX12_others_42 : decode cX12_others 42 = .ok (.iconst 0, 1) := by decide +kernel
theorem dX12_others_43 : decode cX12_others 43 = .ok (.iadd, 1) := by decide +kernel
theorem dX12_others_44 : decode cX12_others 44 = .ok (.istore_n 3, 1) := by decide +kernel
theorem dX12_others_45 : decode cX12_others 45 = .ok (.iinc 4 1, 3) := by decide +kernel
theorem dX12_others_48 : decode cX12_others 48 = .ok (.goto (-43), 3) := by decide +kernel
theorem dX12_others_51 : decode cX12_others 51 = .ok (.iload_n 3, 1) := by decide +kernel
theorem dX12_others_52 : decode cX12_others 52 = .ok (.ireturn, 1) := by decide +kernel
set_option maxRecDepth 20000 in
theorem ggX12_tells_X12_hasCraft : GoodIn wsX12_tells wsX12_hasCraft := goodIn_r _ [11, 1, 12, 13, 10, 14, 92, 93, 94, 95, 96, 97, 98, 99, 100, 101, 102, 103, 104, 105, 106, 107, 108, 109, 110, 111, 112, 113, 114, 115, 116, 117, 118, 119, 120, 121, 122, 123, 124, 125, 126, 127, 128, 129, 130, 131, 132, 133, 134, 135, 136, 137, 138, 139] (by decide +kernel) (by decide +kernel)
set_option maxRecDepth 20000 in
theorem gX12_tells_X12_hasCraft : GoodIn wsX12_tells (wsV RX12 305 RX12 yX12_hasCraft wsX12_hasCraft) := goodIn_app (goodIn_of _ (by decide +kernel)) ggX12_tells_X12_hasCraft
set_option maxRecDepth 20000 in
theorem ggX12_tells_X12_others : GoodIn wsX12_tells wsX12_others := goodIn_r _ [18, 1, 92, 93, 94, 95, 96, 97, 98, 99, 100, 101, 102, 103, 104, 105, 106, 107, 108, 109, 110, 111, 112, 113, 114, 115, 116, 117, 118, 119, 120, 121, 122, 123, 124, 125, 126, 127, 128, 129, 130, 131, 132, 133, 134, 135, 136, 137, 138, 139] (by decide +kernel) (by decide +kernel)
set_option maxRecDepth 20000 in
theorem gX12_tells_X12_others : GoodIn wsX12_tells (wsV RX12 308 RX12 yX12_others wsX12_others) := goodIn_app (goodIn_of _ (by decide +kernel)) ggX12_tells_X12_others
set_option maxRecDepth 20000 in
theorem ggX12_tells_X12_codeAt : GoodIn wsX12_tells wsX12_codeAt := goodIn_r _ [22, 5, 1, 92, 93, 94, 95, 96, 97, 98, 99, 100, 101, 102, 103, 104, 105, 106, 107, 108, 109, 110, 111, 112, 113, 114, 115, 116, 117, 118, 119, 120, 121, 122, 123, 124, 125, 126, 127, 128, 129, 130, 131, 132, 133, 134, 135, 136, 137, 138, 139] (by decide +kernel) (by decide +kernel)
set_option maxRecDepth 20000 in
theorem gX12_tells_X12_codeAt : GoodIn wsX12_tells (wsV RX12 248 RX12 yX12_codeAt wsX12_codeAt) := goodIn_app (goodIn_of _ (by decide +kernel)) ggX12_tells_X12_codeAt
set_option maxRecDepth 20000 in
theorem ggX12_tells_X12_sumOf : GoodIn wsX12_tells wsX12_sumOf := goodIn_r _ [26, 4, 27, 28, 29, 10, 19, 20, 21, 22, 5, 1, 30, 31, 32, 33, 34, 35, 36, 37, 38, 6, 39, 3, 2, 40, 41, 42, 43, 23, 24, 25, 44, 45, 46, 47, 48, 49, 50, 51, 52, 53, 54, 55, 56, 57, 58, 59, 60, 61, 62, 63, 64, 65, 66, 67, 68, 69, 70, 71, 72, 73, 74, 75, 92, 93, 94, 95, 96, 97, 98, 99, 100, 101, 102, 103, 104, 105, 106, 107, 108, 109, 110, 111, 112, 113, 114, 115, 116, 117, 118, 119, 120, 121, 122, 123, 124, 125, 126, 127, 128, 129, 130, 131, 132, 133, 134, 135, 136, 137, 138, 139] (by decide +kernel) (by decide +kernel)
set_option maxRecDepth 20000 in
theorem gX12_tells_X12_sumOf : GoodIn wsX12_tells (wsV RX12 272 RX12 yX12_sumOf wsX12_sumOf) := goodIn_app (goodIn_of _ (by decide +kernel)) ggX12_tells_X12_sumOf
set_option maxRecDepth 20000 in
theorem ggX12_tells_X12_passes0 : GoodIn wsX12_tells wsX12_passes0 := goodIn_r _ [43, 4, 19, 20, 21, 10, 22, 5, 1, 92, 93, 94, 95, 96, 97, 98, 99, 100, 101, 102, 103, 104, 105, 106, 107, 108, 109, 110, 111, 112, 113, 114, 115, 116, 117, 118, 119, 120, 121, 122, 123, 124, 125, 126, 127, 128, 129, 130, 131, 132, 133, 134, 135, 136, 137, 138, 139] (by decide +kernel) (by decide +kernel)
set_option maxRecDepth 20000 in
theorem gX12_tells_X12_passes0 : GoodIn wsX12_tells (wsV RX12 269 RX12 yX12_passes0 wsX12_passes0) := goodIn_app (goodIn_of _ (by decide +kernel)) ggX12_tells_X12_passes0
set_option maxRecDepth 20000 in
theorem ggX12_tells_X12_testOf : GoodIn wsX12_tells wsX12_testOf := goodIn_r _ [79, 80, 81, 82, 10, 40, 41, 42, 43, 4, 19, 20, 21, 22, 5, 1, 83, 84, 85, 86, 87, 88, 89, 90, 91, 6, 30, 31, 32, 76, 77, 78, 23, 24, 25, 26, 27, 28, 29, 33, 34, 35, 36, 37, 38, 39, 3, 2, 44, 45, 46, 47, 48, 49, 50, 51, 52, 53, 54, 55, 56, 57, 58, 59, 60, 61, 62, 63, 64, 65, 66, 67, 68, 69, 70, 71, 72, 73, 74, 75, 92, 93, 94, 95, 96, 97, 98, 99, 100, 101, 102, 103, 104, 105, 106, 107, 108, 109, 110, 111, 112, 113, 114, 115, 116, 117, 118, 119, 120, 121, 122, 123, 124, 125, 126, 127, 128, 129, 130, 131, 132, 133, 134, 135, 136, 137, 138, 139] (by decide +kernel) (by decide +kernel)
set_option maxRecDepth 20000 in
theorem gX12_tells_X12_testOf : GoodIn wsX12_tells (wsV RX12 299 RX12 yX12_testOf wsX12_testOf) := goodIn_app (goodIn_of _ (by decide +kernel)) ggX12_tells_X12_testOf
theorem dX12_tells_0 : decode cX12_tells 0 = .ok (.aload_n 0, 1) := by decide +kernel
theorem dX12_tells_1 : decode cX12_tells 1 = .ok (.getfield 24, 3) := by decide +kernel
theorem dX12_tells_4 : decode cX12_tells 4 = .ok (.bipush 106, 2) := by decide +kernel
theorem dX12_tells_6 : decode cX12_tells 6 = .ok (.iaload, 1) := by decide +kernel
theorem dX12_tells_7 : decode cX12_tells 7 = .ok (.iconst (-1), 1) := by decide +kernel
theorem dX12_tells_8 : decode cX12_tells 8 = .ok (.if_icmp .ne 6, 3) := by decide +kernel
theorem dX12_tells_11 : decode cX12_tells 11 = .ok (.iload 5, 2) := by decide +kernel
theorem dX12_tells_13 : decode cX12_tells 13 = .ok (.ireturn, 1) := by decide +kernel
theorem dX12_tells_14 : decode cX12_tells 14 = .ok (.aload_n 0, 1) := by decide +kernel
theorem dX12_tells_15 : decode cX12_tells 15 = .ok (.getfield 59, 3) := by decide +kernel
theorem dX12_tells_18 : decode cX12_tells 18 = .ok (.iconst 0, 1) := by decide +kernel
theorem dX12_tells_19 : decode cX12_tells 19 = .ok (.iload_n 2, 1) := by decide +kernel
theorem dX12_tells_20 : decode cX12_tells 20 = .ok (.iastore, 1) := by decide +kernel
theorem dX12_tells_21 : decode cX12_tells 21 = .ok (.aload_n 0, 1) := by decide +kernel
theorem dX12_tells_22 : decode cX12_tells 22 = .ok (.getfield 59, 3) := by decide +kernel
theorem dX12_tells_25 : decode cX12_tells 25 = .ok (.iconst 1, 1) := by decide +kernel
theorem dX12_tells_26 : decode cX12_tells 26 = .ok (.aload_n 0, 1) := by decide +kernel
theorem dX12_tells_27 : decode cX12_tells 27 = .ok (.getfield 24, 3) := by decide +kernel
theorem dX12_tells_30 : decode cX12_tells 30 = .ok (.bipush 69, 2) := by decide +kernel
theorem dX12_tells_32 : decode cX12_tells 32 = .ok (.iload_n 2, 1) := by decide +kernel
theorem dX12_tells_33 : decode cX12_tells 33 = .ok (.iadd, 1) := by decide +kernel
theorem dX12_tells_34 : decode cX12_tells 34 = .ok (.iaload, 1) := by decide +kernel
theorem dX12_tells_35 : decode cX12_tells 35 = .ok (.iastore, 1) := by decide +kernel
theorem dX12_tells_36 : decode cX12_tells 36 = .ok (.aload_n 0, 1) := by decide +kernel
theorem dX12_tells_37 : decode cX12_tells 37 = .ok (.getfield 59, 3) := by decide +kernel
theorem dX12_tells_40 : decode cX12_tells 40 = .ok (.iconst 2, 1) := by decide +kernel
theorem dX12_tells_41 : decode cX12_tells 41 = .ok (.iload_n 3, 1) := by decide +kernel
theorem dX12_tells_42 : decode cX12_tells 42 = .ok (.iastore, 1) := by decide +kernel
theorem dX12_tells_43 : decode cX12_tells 43 = .ok (.aload_n 0, 1) := by decide +kernel
theorem dX12_tells_44 : decode cX12_tells 44 = .ok (.getfield 59, 3) := by decide +kernel
theorem dX12_tells_47 : decode cX12_tells 47 = .ok (.iconst 3, 1) := by decide +kernel
theorem dX12_tells_48 : decode cX12_tells 48 = .ok (.aload_n 0, 1) := by decide +kernel
theorem dX12_tells_49 : decode cX12_tells 49 = .ok (.iload_n 2, 1) := by decide +kernel
theorem dX12_tells_50 : decode cX12_tells 50 = .ok (.iload_n 3, 1) := by decide +kernel
theorem dX12_tells_51 : decode cX12_tells 51 = .ok (.invokevirtual 305, 3) := by decide +kernel
theorem dX12_tells_54 : decode cX12_tells 54 = .ok (.ifCond .eq 7, 3) := by decide +kernel
theorem dX12_tells_57 : decode cX12_tells 57 = .ok (.iconst 1, 1) := by decide +kernel
theorem dX12_tells_58 : decode cX12_tells 58 = .ok (.goto 4, 3) := by decide +kernel
theorem dX12_tells_61 : decode cX12_tells 61 = .ok (.iconst 0, 1) := by decide +kernel
theorem dX12_tells_62 : decode cX12_tells 62 = .ok (.iastore, 1) := by decide +kernel
theorem dX12_tells_63 : decode cX12_tells 63 = .ok (.aload_n 0, 1) := by decide +kernel
theorem dX12_tells_64 : decode cX12_tells 64 = .ok (.getfield 59, 3) := by decide +kernel
theorem dX12_tells_67 : decode cX12_tells 67 = .ok (.iconst 4, 1) := by decide +kernel
theorem dX12_tells_68 : decode cX12_tells 68 = .ok (.aload_n 0, 1) := by decide +kernel
theorem dX12_tells_69 : decode cX12_tells 69 = .ok (.getfield 24, 3) := by decide +kernel
theorem dX12_tells_72 : decode cX12_tells 72 = .ok (.bipush 53, 2) := by decide +kernel
theorem dX12_tells_74 : decode cX12_tells 74 = .ok (.iload_n 3, 1) := by decide +kernel
theorem dX12_tells_75 : decode cX12_tells 75 = .ok (.iadd, 1) := by decide +kernel
theorem dX12_tells_76 : decode cX12_tells 76 = .ok (.iaload, 1) := by decide +kernel
theorem dX12_tells_77 : decode cX12_tells 77 = .ok (.iastore, 1) := by decide +kernel
theorem dX12_tells_78 : decode cX12_tells 78 = .ok (.aload_n 0, 1) := by decide +kernel
theorem dX12_tells_79 : decode cX12_tells 79 = .ok (.getfield 59, 3) := by decide +kernel
theorem dX12_tells_82 : decode cX12_tells 82 = .ok (.iconst 5, 1) := by decide +kernel
theorem dX12_tells_83 : decode cX12_tells 83 = .ok (.aload_n 0, 1) := by decide +kernel
theorem dX12_tells_84 : decode cX12_tells 84 = .ok (.iload_n 2, 1) := by decide +kernel
theorem dX12_tells_85 : decode cX12_tells 85 = .ok (.iload_n 3, 1) := by decide +kernel
theorem dX12_tells_86 : decode cX12_tells 86 = .ok (.invokevirtual 308, 3) := by decide +kernel
theorem dX12_tells_89 : decode cX12_tells 89 = .ok (.iastore, 1) := by decide +kernel
theorem dX12_tells_90 : decode cX12_tells 90 = .ok (.aload_n 0, 1) := by decide +kernel
theorem dX12_tells_91 : decode cX12_tells 91 = .ok (.getfield 59, 3) := by decide +kernel
theorem dX12_tells_94 : decode cX12_tells 94 = .ok (.bipush 6, 2) := by decide +kernel
theorem dX12_tells_96 : decode cX12_tells 96 = .ok (.aload_n 0, 1) := by decide +kernel
theorem dX12_tells_97 : decode cX12_tells 97 = .ok (.getfield 24, 3) := by decide +kernel
theorem dX12_tells_100 : decode cX12_tells 100 = .ok (.bipush 101, 2) := by decide +kernel
theorem dX12_tells_102 : decode cX12_tells 102 = .ok (.iaload, 1) := by decide +kernel
theorem dX12_tells_103 : decode cX12_tells 103 = .ok (.iastore, 1) := by decide +kernel
theorem dX12_tells_104 : decode cX12_tells 104 = .ok (.aload_n 0, 1) := by decide +kernel
theorem dX12_tells_105 : decode cX12_tells 105 = .ok (.getfield 59, 3) := by decide +kernel
theorem dX12_tells_108 : decode cX12_tells 108 = .ok (.bipush 7, 2) := by decide +kernel
theorem dX12_tells_110 : decode cX12_tells 110 = .ok (.aload_n 0, 1) := by decide +kernel
theorem dX12_tells_111 : decode cX12_tells 111 = .ok (.getfield 24, 3) := by decide +kernel
theorem dX12_tells_114 : decode cX12_tells 114 = .ok (.iconst 0, 1) := by decide +kernel
theorem dX12_tells_115 : decode cX12_tells 115 = .ok (.iload_n 3, 1) := by decide +kernel
theorem dX12_tells_116 : decode cX12_tells 116 = .ok (.iadd, 1) := by decide +kernel
theorem dX12_tells_117 : decode cX12_tells 117 = .ok (.iaload, 1) := by decide +kernel
theorem dX12_tells_118 : decode cX12_tells 118 = .ok (.iastore, 1) := by decide +kernel
theorem dX12_tells_119 : decode cX12_tells 119 = .ok (.aload_n 0, 1) := by decide +kernel
theorem dX12_tells_120 : decode cX12_tells 120 = .ok (.getfield 59, 3) := by decide +kernel
theorem dX12_tells_123 : decode cX12_tells 123 = .ok (.bipush 8, 2) := by decide +kernel
theorem dX12_tells_125 : decode cX12_tells 125 = .ok (.aload_n 0, 1) := by decide +kernel
theorem dX12_tells_126 : decode cX12_tells 126 = .ok (.getfield 24, 3) := by decide +kernel
theorem dX12_tells_129 : decode cX12_tells 129 = .ok (.bipush 10, 2) := by decide +kernel
theorem dX12_tells_131 : decode cX12_tells 131 = .ok (.iload_n 2, 1) := by decide +kernel
theorem dX12_tells_132 : decode cX12_tells 132 = .ok (.iadd, 1) := by decide +kernel
theorem dX12_tells_133 : decode cX12_tells 133 = .ok (.iaload, 1) := by decide +kernel
theorem dX12_tells_134 : decode cX12_tells 134 = .ok (.iastore, 1) := by decide +kernel
theorem dX12_tells_135 : decode cX12_tells 135 = .ok (.aload_n 0, 1) := by decide +kernel
theorem dX12_tells_136 : decode cX12_tells 136 = .ok (.getfield 59, 3) := by decide +kernel
theorem dX12_tells_139 : decode cX12_tells 139 = .ok (.bipush 9, 2) := by decide +kernel
theorem dX12_tells_141 : decode cX12_tells 141 = .ok (.aload_n 0, 1) := by decide +kernel
theorem dX12_tells_142 : decode cX12_tells 142 = .ok (.getfield 24, 3) := by decide +kernel
theorem dX12_tells_145 : decode cX12_tells 145 = .ok (.bipush 22, 2) := by decide +kernel
theorem dX12_tells_147 : decode cX12_tells 147 = .ok (.iaload, 1) := by decide +kernel
theorem dX12_tells_148 : decode cX12_tells 148 = .ok (.iastore, 1) := by decide +kernel
theorem dX12_tells_149 : decode cX12_tells 149 = .ok (.aload_n 0, 1) := by decide +kernel
theorem dX12_tells_150 : decode cX12_tells 150 = .ok (.iconst 0, 1) := by decide +kernel
theorem dX12_tells_151 : decode cX12_tells 151 = .ok (.putfield 275, 3) := by decide +kernel
theorem dX12_tells_154 : decode cX12_tells 154 = .ok (.iload 5, 2) := by decide +kernel
theorem dX12_tells_156 : decode cX12_tells 156 = .ok (.i2l, 1) := by decide +kernel
theorem dX12_tells_157 : decode cX12_tells 157 = .ok (.lstore 6, 2) := by decide +kernel
theorem dX12_tells_159 : decode cX12_tells 159 = .ok (.aload_n 0, 1) := by decide +kernel
theorem dX12_tells_160 : decode cX12_tells 160 = .ok (.sipush 400, 3) := by decide +kernel
theorem dX12_tells_163 : decode cX12_tells 163 = .ok (.aload_n 0, 1) := by decide +kernel
theorem dX12_tells_164 : decode cX12_tells 164 = .ok (.getfield 24, 3) := by decide +kernel
theorem dX12_tells_167 : decode cX12_tells 167 = .ok (.bipush 106, 2) := by decide +kernel
theorem dX12_tells_169 : decode cX12_tells 169 = .ok (.iaload, 1) := by decide +kernel
theorem dX12_tells_170 : decode cX12_tells 170 = .ok (.imul, 1) := by decide +kernel
theorem dX12_tells_171 : decode cX12_tells 171 = .ok (.putfield 245, 3) := by decide +kernel
theorem dX12_tells_174 : decode cX12_tells 174 = .ok (.aload_n 0, 1) := by decide +kernel
theorem dX12_tells_175 : decode cX12_tells 175 = .ok (.aload_n 0, 1) := by decide +kernel
theorem dX12_tells_176 : decode cX12_tells 176 = .ok (.getfield 245, 3) := by decide +kernel
theorem dX12_tells_179 : decode cX12_tells 179 = .ok (.aload_n 0, 1) := by decide +kernel
theorem dX12_tells_180 : decode cX12_tells 180 = .ok (.getfield 24, 3) := by decide +kernel
theorem dX12_tells_183 : decode cX12_tells 183 = .ok (.bipush 107, 2) := by decide +kernel
theorem dX12_tells_185 : decode cX12_tells 185 = .ok (.aload_n 0, 1) := by decide +kernel
theorem dX12_tells_186 : decode cX12_tells 186 = .ok (.getfield 24, 3) := by decide +kernel
theorem dX12_tells_189 : decode cX12_tells 189 = .ok (.bipush 106, 2) := by decide +kernel
theorem dX12_tells_191 : decode cX12_tells 191 = .ok (.iaload, 1) := by decide +kernel
theorem dX12_tells_192 : decode cX12_tells 192 = .ok (.iadd, 1) := by decide +kernel
theorem dX12_tells_193 : decode cX12_tells 193 = .ok (.iaload, 1) := by decide +kernel
theorem dX12_tells_194 : decode cX12_tells 194 = .ok (.iadd, 1) := by decide +kernel
theorem dX12_tells_195 : decode cX12_tells 195 = .ok (.putfield 242, 3) := by decide +kernel
theorem dX12_tells_198 : decode cX12_tells 198 = .ok (.aload_n 0, 1) := by decide +kernel
theorem dX12_tells_199 : decode cX12_tells 199 = .ok (.getfield 245, 3) := by decide +kernel
theorem dX12_tells_202 : decode cX12_tells 202 = .ok (.aload_n 0, 1) := by decide +kernel
theorem dX12_tells_203 : decode cX12_tells 203 = .ok (.getfield 242, 3) := by decide +kernel
theorem dX12_tells_206 : decode cX12_tells 206 = .ok (.if_icmp .ge 145, 3) := by decide +kernel
theorem dX12_tells_209 : decode cX12_tells 209 = .ok (.aload_n 0, 1) := by decide +kernel
theorem dX12_tells_210 : decode cX12_tells 210 = .ok (.aload_n 0, 1) := by decide +kernel
theorem dX12_tells_211 : decode cX12_tells 211 = .ok (.getfield 245, 3) := by decide +kernel
theorem dX12_tells_214 : decode cX12_tells 214 = .ok (.invokevirtual 248, 3) := by decide +kernel
theorem dX12_tells_217 : decode cX12_tells 217 = .ok (.istore 8, 2) := by decide +kernel
theorem dX12_tells_219 : decode cX12_tells 219 = .ok (.aload_n 0, 1) := by decide +kernel
theorem dX12_tells_220 : decode cX12_tells 220 = .ok (.iconst 0, 1) := by decide +kernel
theorem dX12_tells_221 : decode cX12_tells 221 = .ok (.putfield 255, 3) := by decide +kernel
theorem dX12_tells_224 : decode cX12_tells 224 = .ok (.aload_n 0, 1) := by decide +kernel
theorem dX12_tells_225 : decode cX12_tells 225 = .ok (.dup, 1) := by decide +kernel
theorem dX12_tells_226 : decode cX12_tells 226 = .ok (.getfield 245, 3) := by decide +kernel
theorem dX12_tells_229 : decode cX12_tells 229 = .ok (.iconst 1, 1) := by decide +kernel
theorem dX12_tells_230 : decode cX12_tells 230 = .ok (.iadd, 1) := by decide +kernel
theorem dX12_tells_231 : decode cX12_tells 231 = .ok (.putfield 245, 3) := by decide +kernel
theorem dX12_tells_234 : decode cX12_tells 234 = .ok (.iload 8, 2) := by decide +kernel
theorem dX12_tells_236 : decode cX12_tells 236 = .ok (.iconst 4, 1) := by decide +kernel
theorem dX12_tells_237 : decode cX12_tells 237 = .ok (.if_icmp .ne 7, 3) := by decide +kernel
theorem dX12_tells_240 : decode cX12_tells 240 = .ok (.lconst 1, 1) := by decide +kernel
theorem dX12_tells_241 : decode cX12_tells 241 = .ok (.goto 8, 3) := by decide +kernel
theorem dX12_tells_244 : decode cX12_tells 244 = .ok (.aload_n 0, 1) := by decide +kernel
theorem dX12_tells_245 : decode cX12_tells 245 = .ok (.iconst 1, 1) := by decide +kernel
theorem dX12_tells_246 : decode cX12_tells 246 = .ok (.invokevirtual 272, 3) := by decide +kernel
theorem dX12_tells_249 : decode cX12_tells 249 = .ok (.lstore 9, 2) := by decide +kernel
theorem dX12_tells_251 : decode cX12_tells 251 = .ok (.aload_n 0, 1) := by decide +kernel
theorem dX12_tells_252 : decode cX12_tells 252 = .ok (.getfield 255, 3) := by decide +kernel
theorem dX12_tells_255 : decode cX12_tells 255 = .ok (.istore 11, 2) := by decide +kernel
theorem dX12_tells_257 : decode cX12_tells 257 = .ok (.aload_n 0, 1) := by decide +kernel
theorem dX12_tells_258 : decode cX12_tells 258 = .ok (.iconst 0, 1) := by decide +kernel
theorem dX12_tells_259 : decode cX12_tells 259 = .ok (.putfield 255, 3) := by decide +kernel
theorem dX12_tells_262 : decode cX12_tells 262 = .ok (.aload_n 0, 1) := by decide +kernel
theorem dX12_tells_263 : decode cX12_tells 263 = .ok (.iconst 5, 1) := by decide +kernel
theorem dX12_tells_264 : decode cX12_tells 264 = .ok (.invokevirtual 269, 3) := by decide +kernel
theorem dX12_tells_267 : decode cX12_tells 267 = .ok (.ifCond .eq 11, 3) := by decide +kernel
theorem dX12_tells_270 : decode cX12_tells 270 = .ok (.aload_n 0, 1) := by decide +kernel
theorem dX12_tells_271 : decode cX12_tells 271 = .ok (.iconst 1, 1) := by decide +kernel
theorem dX12_tells_272 : decode cX12_tells 272 = .ok (.invokevirtual 299, 3) := by decide +kernel
theorem dX12_tells_275 : decode cX12_tells 275 = .ok (.ifCond .eq 7, 3) := by decide +kernel
theorem dX12_tells_278 : decode cX12_tells 278 = .ok (.iconst 1, 1) := by decide +kernel
theorem dX12_tells_279 : decode cX12_tells 279 = .ok (.goto 4, 3) := by decide +kernel
theorem dX12_tells_282 : decode cX12_tells 282 = .ok (.iconst 0, 1) := by decide +kernel
theorem dX12_tells_283 : decode cX12_tells 283 = .ok (.istore 12, 2) := by decide +kernel
theorem dX12_tells_285 : decode cX12_tells 285 = .ok (.iload 8, 2) := by decide +kernel
theorem dX12_tells_287 : decode cX12_tells 287 = .ok (.iload_n 1, 1) := by decide +kernel
theorem dX12_tells_288 : decode cX12_tells 288 = .ok (.if_icmp .ne 50, 3) := by decide +kernel
theorem dX12_tells_291 : decode cX12_tells 291 = .ok (.iload 12, 2) := by decide +kernel
theorem dX12_tells_293 : decode cX12_tells 293 = .ok (.ifCond .eq 45, 3) := by decide +kernel
theorem dX12_tells_296 : decode cX12_tells 296 = .ok (.aload_n 0, 1) := by decide +kernel
theorem dX12_tells_297 : decode cX12_tells 297 = .ok (.getfield 255, 3) := by decide +kernel
theorem dX12_tells_300 : decode cX12_tells 300 = .ok (.ifCond .ne 38, 3) := by decide +kernel
theorem dX12_tells_303 : decode cX12_tells 303 = .ok (.iload 11, 2) := by decide +kernel
theorem dX12_tells_305 : decode cX12_tells 305 = .ok (.ifCond .ne 33, 3) := by decide +kernel
theorem dX12_tells_308 : decode cX12_tells 308 = .ok (.lload 9, 2) := by decide +kernel
theorem dX12_tells_310 : decode cX12_tells 310 = .ok (.lconst 0, 1) := by decide +kernel
theorem dX12_tells_311 : decode cX12_tells 311 = .ok (.lcmp, 1) := by decide +kernel
theorem dX12_tells_312 : decode cX12_tells 312 = .ok (.ifCond .ge 7, 3) := by decide +kernel
theorem dX12_tells_315 : decode cX12_tells 315 = .ok (.lconst 0, 1) := by decide +kernel
theorem dX12_tells_316 : decode cX12_tells 316 = .ok (.goto 20, 3) := by decide +kernel
theorem dX12_tells_319 : decode cX12_tells 319 = .ok (.lload 9, 2) := by decide +kernel
theorem dX12_tells_321 : decode cX12_tells 321 = .ok (.iload 4, 2) := by decide +kernel
theorem dX12_tells_323 : decode cX12_tells 323 = .ok (.i2l, 1) := by decide +kernel
theorem dX12_tells_324 : decode cX12_tells 324 = .ok (.lcmp, 1) := by decide +kernel
theorem dX12_tells_325 : decode cX12_tells 325 = .ok (.ifCond .le 9, 3) := by decide +kernel
theorem dX12_tells_328 : decode cX12_tells 328 = .ok (.iload 4, 2) := by decide +kernel
theorem dX12_tells_330 : decode cX12_tells 330 = .ok (.i2l, 1) := by decide +kernel
theorem dX12_tells_331 : decode cX12_tells 331 = .ok (.goto 5, 3) := by decide +kernel
theorem dX12_tells_334 : decode cX12_tells 334 = .ok (.lload 9, 2) := by decide +kernel
theorem dX12_tells_336 : decode cX12_tells 336 = .ok (.lstore 6, 2) := by decide +kernel
theorem dX12_tells_338 : decode cX12_tells 338 = .ok (.aload_n 0, 1) := by decide +kernel
theorem dX12_tells_339 : decode cX12_tells 339 = .ok (.dup, 1) := by decide +kernel
theorem dX12_tells_340 : decode cX12_tells 340 = .ok (.getfield 245, 3) := by decide +kernel
theorem dX12_tells_343 : decode cX12_tells 343 = .ok (.iconst 1, 1) := by decide +kernel
theorem dX12_tells_344 : decode cX12_tells 344 = .ok (.iadd, 1) := by decide +kernel
theorem dX12_tells_345 : decode cX12_tells 345 = .ok (.putfield 245, 3) := by decide +kernel
theorem dX12_tells_348 : decode cX12_tells 348 = .ok (.goto (-150), 3) := by decide +kernel
theorem dX12_tells_351 : decode cX12_tells 351 = .ok (.lload 6, 2) := by decide +kernel
theorem dX12_tells_353 : decode cX12_tells 353 = .ok (.l2i, 1) := by decide +kernel
theorem dX12_tells_354 : decode cX12_tells 354 = .ok (.ireturn, 1) := by decide +kernel
set_option maxRecDepth 20000 in
theorem ggX12_worksBy_X12_hasCraft : GoodIn wsX12_worksBy wsX12_hasCraft := goodIn_r _ [6, 1, 7, 8, 5, 9, 96, 97, 98, 99, 100, 101, 102, 103, 104, 105, 106, 107, 108, 109, 110, 111, 112, 113, 114, 115, 116, 117, 118, 119, 120, 121, 122, 123, 124, 125, 126, 127, 128, 129, 130, 131, 132, 133, 134, 135, 136, 137, 138, 139, 140, 141, 142, 143] (by decide +kernel) (by decide +kernel)
set_option maxRecDepth 20000 in
theorem gX12_worksBy_X12_hasCraft : GoodIn wsX12_worksBy (wsV RX12 305 RX12 yX12_hasCraft wsX12_hasCraft) := goodIn_app (goodIn_of _ (by decide +kernel)) ggX12_worksBy_X12_hasCraft
set_option maxRecDepth 20000 in
theorem ggX12_worksBy_X12_tells : GoodIn wsX12_worksBy wsX12_tells := goodIn_r _ [13, 1, 14, 15, 16, 17, 18, 2, 3, 4, 5, 6, 7, 8, 9, 19, 20, 21, 22, 23, 24, 25, 26, 27, 28, 29, 30, 31, 32, 33, 34, 35, 36, 37, 38, 39, 40, 41, 42, 43, 44, 45, 46, 47, 48, 49, 50, 51, 52, 53, 54, 55, 56, 57, 58, 59, 60, 61, 62, 63, 64, 65, 66, 67, 68, 69, 70, 71, 72, 73, 74, 75, 76, 77, 78, 79, 80, 81, 82, 83, 84, 85, 86, 87, 88, 89, 90, 91, 92, 93, 94, 95, 96, 97, 98, 99, 100, 101, 102, 103, 104, 105, 106, 107, 108, 109, 110, 111, 112, 113, 114, 115, 116, 117, 118, 119, 120, 121, 122, 123, 124, 125, 126, 127, 128, 129, 130, 131, 132, 133, 134, 135, 136, 137, 138, 139, 140, 141, 142, 143] (by decide +kernel) (by decide +kernel)
set_option maxRecDepth 20000 in
theorem gX12_worksBy_X12_tells : GoodIn wsX12_worksBy (wsV RX12 311 RX12 yX12_tells wsX12_tells) := goodIn_app (goodIn_of _ (by decide +kernel)) ggX12_worksBy_X12_tells
theorem dX12_worksBy_0 : decode cX12_worksBy 0 = .ok (.aload_n 0, 1) := by decide +kernel
theorem dX12_worksBy_1 : decode cX12_worksBy 1 = .ok (.iconst 1, 1) := by decide +kernel
theorem dX12_worksBy_2 : decode cX12_worksBy 2 = .ok (.iload_n 1, 1) := by decide +kernel
theorem dX12_worksBy_3 : decode cX12_worksBy 3 = .ok (.iload_n 2, 1) := by decide +kernel
theorem dX12_worksBy_4 : decode cX12_worksBy 4 = .ok (.bipush 20, 2) := by decide +kernel
theorem dX12_worksBy_6 : decode cX12_worksBy 6 = .ok (.aload_n 0, 1) := by decide +kernel
theorem dX12_worksBy_7 : decode cX12_worksBy 7 = .ok (.iload_n 1, 1) := by decide +kernel
theorem dX12_worksBy_8 : decode cX12_worksBy 8 = .ok (.iload_n 2, 1) := by decide +kernel
theorem dX12_worksBy_9 : decode cX12_worksBy 9 = .ok (.invokevirtual 305, 3) := by decide +kernel
theorem dX12_worksBy_12 : decode cX12_worksBy 12 = .ok (.ifCond .eq 15, 3) := by decide +kernel
theorem dX12_worksBy_15 : decode cX12_worksBy 15 = .ok (.aload_n 0, 1) := by decide +kernel
theorem dX12_worksBy_16 : decode cX12_worksBy 16 = .ok (.getfield 24, 3) := by decide +kernel
theorem dX12_worksBy_19 : decode cX12_worksBy 19 = .ok (.bipush 69, 2) := by decide +kernel
theorem dX12_worksBy_21 : decode cX12_worksBy 21 = .ok (.iload_n 1, 1) := by decide +kernel
theorem dX12_worksBy_22 : decode cX12_worksBy 22 = .ok (.iadd, 1) := by decide +kernel
theorem dX12_worksBy_23 : decode cX12_worksBy 23 = .ok (.iaload, 1) := by decide +kernel
theorem dX12_worksBy_24 : decode cX12_worksBy 24 = .ok (.goto 4, 3) := by decide +kernel
theorem dX12_worksBy_27 : decode cX12_worksBy 27 = .ok (.iconst 0, 1) := by decide +kernel
theorem dX12_worksBy_28 : decode cX12_worksBy 28 = .ok (.invokevirtual 311, 3) := by decide +kernel
theorem dX12_worksBy_31 : decode cX12_worksBy 31 = .ok (.ireturn, 1) := by decide +kernel
set_option maxRecDepth 20000 in
theorem ggX12_tiresBy_X12_tells : GoodIn wsX12_tiresBy wsX12_tells := goodIn_r _ [5, 6, 7, 8, 9, 10, 11, 12, 13, 14, 4, 15, 16, 17, 18, 19, 20, 21, 22, 23, 24, 25, 26, 27, 28, 29, 30, 31, 32, 33, 34, 35, 36, 37, 38, 39, 40, 41, 42, 43, 44, 45, 46, 47, 48, 49, 50, 51, 52, 53, 54, 55, 56, 57, 58, 59, 60, 61, 62, 63, 64, 65, 66, 67, 68, 69, 70, 71, 72, 73, 74, 75, 76, 77, 78, 79, 80, 81, 82, 83, 84, 85, 86, 87, 88, 89, 90, 91, 92, 93, 94, 95, 96, 97, 98, 99, 100, 101, 102, 103, 104, 105, 106, 107, 108, 109, 110, 111, 112, 113, 114, 115, 116, 117, 118, 119, 120, 121, 122, 123, 124, 125, 126, 127, 128, 129, 130, 131, 132, 133, 134, 135, 136, 137, 138, 139, 140, 141, 142, 143] (by decide +kernel) (by decide +kernel)
set_option maxRecDepth 20000 in
theorem gX12_tiresBy_X12_tells : GoodIn wsX12_tiresBy (wsV RX12 311 RX12 yX12_tells wsX12_tells) := goodIn_app (goodIn_of _ (by decide +kernel)) ggX12_tiresBy_X12_tells
theorem dX12_tiresBy_0 : decode cX12_tiresBy 0 = .ok (.aload_n 0, 1) := by decide +kernel
theorem dX12_tiresBy_1 : decode cX12_tiresBy 1 = .ok (.iconst 2, 1) := by decide +kernel
theorem dX12_tiresBy_2 : decode cX12_tiresBy 2 = .ok (.iload_n 1, 1) := by decide +kernel
theorem dX12_tiresBy_3 : decode cX12_tiresBy 3 = .ok (.iload_n 2, 1) := by decide +kernel
theorem dX12_tiresBy_4 : decode cX12_tiresBy 4 = .ok (.bipush 20, 2) := by decide +kernel
theorem dX12_tiresBy_6 : decode cX12_tiresBy 6 = .ok (.iconst 1, 1) := by decide +kernel
theorem dX12_tiresBy_7 : decode cX12_tiresBy 7 = .ok (.invokevirtual 311, 3) := by decide +kernel
theorem dX12_tiresBy_10 : decode cX12_tiresBy 10 = .ok (.ireturn, 1) := by decide +kernel
set_option maxRecDepth 20000 in
theorem ggX12_showsIn_X12_tells : GoodIn wsX12_showsIn wsX12_tells := goodIn_r _ [5, 6, 7, 8, 9, 10, 11, 12, 13, 14, 4, 15, 16, 17, 18, 19, 20, 21, 22, 23, 24, 25, 26, 27, 28, 29, 30, 31, 32, 33, 34, 35, 36, 37, 38, 39, 40, 41, 42, 43, 44, 45, 46, 47, 48, 49, 50, 51, 52, 53, 54, 55, 56, 57, 58, 59, 60, 61, 62, 63, 64, 65, 66, 67, 68, 69, 70, 71, 72, 73, 74, 75, 76, 77, 78, 79, 80, 81, 82, 83, 84, 85, 86, 87, 88, 89, 90, 91, 92, 93, 94, 95, 96, 97, 98, 99, 100, 101, 102, 103, 104, 105, 106, 107, 108, 109, 110, 111, 112, 113, 114, 115, 116, 117, 118, 119, 120, 121, 122, 123, 124, 125, 126, 127, 128, 129, 130, 131, 132, 133, 134, 135, 136, 137, 138, 139, 140, 141, 142, 143] (by decide +kernel) (by decide +kernel)
set_option maxRecDepth 20000 in
theorem gX12_showsIn_X12_tells : GoodIn wsX12_showsIn (wsV RX12 311 RX12 yX12_tells wsX12_tells) := goodIn_app (goodIn_of _ (by decide +kernel)) ggX12_showsIn_X12_tells
theorem dX12_showsIn_0 : decode cX12_showsIn 0 = .ok (.aload_n 0, 1) := by decide +kernel
theorem dX12_showsIn_1 : decode cX12_showsIn 1 = .ok (.iconst 3, 1) := by decide +kernel
theorem dX12_showsIn_2 : decode cX12_showsIn 2 = .ok (.iload_n 1, 1) := by decide +kernel
theorem dX12_showsIn_3 : decode cX12_showsIn 3 = .ok (.iload_n 2, 1) := by decide +kernel
theorem dX12_showsIn_4 : decode cX12_showsIn 4 = .ok (.bipush 10, 2) := by decide +kernel
theorem dX12_showsIn_6 : decode cX12_showsIn 6 = .ok (.iconst 1, 1) := by decide +kernel
theorem dX12_showsIn_7 : decode cX12_showsIn 7 = .ok (.invokevirtual 311, 3) := by decide +kernel
theorem dX12_showsIn_10 : decode cX12_showsIn 10 = .ok (.ireturn, 1) := by decide +kernel
set_option maxRecDepth 20000 in
theorem ggX12_isBarred_X12_tells : GoodIn wsX12_isBarred wsX12_tells := goodIn_r _ [5, 6, 7, 8, 9, 10, 11, 12, 13, 14, 4, 15, 16, 17, 18, 19, 20, 21, 22, 23, 24, 25, 26, 27, 28, 29, 30, 31, 32, 33, 34, 35, 36, 37, 38, 39, 40, 41, 42, 43, 44, 45, 46, 47, 48, 49, 50, 51, 52, 53, 54, 55, 56, 57, 58, 59, 60, 61, 62, 63, 64, 65, 66, 67, 68, 69, 70, 71, 72, 73, 74, 75, 76, 77, 78, 79, 80, 81, 82, 83, 84, 85, 86, 87, 88, 89, 90, 91, 92, 93, 94, 95, 96, 97, 98, 99, 100, 101, 102, 103, 104, 105, 106, 107, 108, 109, 110, 111, 112, 113, 114, 115, 116, 117, 118, 119, 120, 121, 122, 123, 124, 125, 126, 127, 128, 129, 130, 131, 132, 133, 134, 135, 136, 137, 138, 139, 140, 141, 142, 143] (by decide +kernel) (by decide +kernel)
set_option maxRecDepth 20000 in
theorem gX12_isBarred_X12_tells : GoodIn wsX12_isBarred (wsV RX12 311 RX12 yX12_tells wsX12_tells) := goodIn_app (goodIn_of _ (by decide +kernel)) ggX12_isBarred_X12_tells
theorem dX12_isBarred_0 : decode cX12_isBarred 0 = .ok (.aload_n 0, 1) := by decide +kernel
theorem dX12_isBarred_1 : decode cX12_isBarred 1 = .ok (.iconst 4, 1) := by decide +kernel
theorem dX12_isBarred_2 : decode cX12_isBarred 2 = .ok (.iload_n 1, 1) := by decide +kernel
theorem dX12_isBarred_3 : decode cX12_isBarred 3 = .ok (.iload_n 2, 1) := by decide +kernel
theorem dX12_isBarred_4 : decode cX12_isBarred 4 = .ok (.iconst 1, 1) := by decide +kernel
theorem dX12_isBarred_5 : decode cX12_isBarred 5 = .ok (.iconst 0, 1) := by decide +kernel
theorem dX12_isBarred_6 : decode cX12_isBarred 6 = .ok (.invokevirtual 311, 3) := by decide +kernel
theorem dX12_isBarred_9 : decode cX12_isBarred 9 = .ok (.iconst 1, 1) := by decide +kernel
theorem dX12_isBarred_10 : decode cX12_isBarred 10 = .ok (.if_icmp .ne 7, 3) := by decide +kernel
theorem dX12_isBarred_13 : decode cX12_isBarred 13 = .ok (.iconst 1, 1) := by decide +kernel
theorem dX12_isBarred_14 : decode cX12_isBarred 14 = .ok (.goto 4, 3) := by decide +kernel
theorem dX12_isBarred_17 : decode cX12_isBarred 17 = .ok (.iconst 0, 1) := by decide +kernel
theorem dX12_isBarred_18 : decode cX12_isBarred 18 = .ok (.ireturn, 1) := by decide +kernel
set_option maxRecDepth 20000 in
theorem ggX12_asks_X12_isBuilder : GoodIn wsX12_asks wsX12_isBuilder := goodIn_r _ [5, 6, 7, 8, 4, 9, 112, 113, 114, 115, 116, 117, 118, 119, 120, 121, 122, 123, 124, 125, 126, 127, 128, 129, 130, 131, 132, 133, 134, 135, 136, 137, 138, 139, 140, 141, 142, 143, 144, 145, 146, 147, 148, 149, 150, 151, 152, 153, 154, 155, 156, 157, 158, 159] (by decide +kernel) (by decide +kernel)
set_option maxRecDepth 20000 in
theorem gX12_asks_X12_isBuilder : GoodIn wsX12_asks (wsV RX12 131 RX12 yX12_isBuilder wsX12_isBuilder) := goodIn_app (goodIn_of _ (by decide +kernel)) ggX12_asks_X12_isBuilder
set_option maxRecDepth 20000 in
theorem ggX12_asks_X12_isPart : GoodIn wsX12_asks wsX12_isPart := goodIn_r _ [13, 6, 7, 8, 4, 9, 112, 113, 114, 115, 116, 117, 118, 119, 120, 121, 122, 123, 124, 125, 126, 127, 128, 129, 130, 131, 132, 133, 134, 135, 136, 137, 138, 139, 140, 141, 142, 143, 144, 145, 146, 147, 148, 149, 150, 151, 152, 153, 154, 155, 156, 157, 158, 159] (by decide +kernel) (by decide +kernel)
set_option maxRecDepth 20000 in
theorem gX12_asks_X12_isPart : GoodIn wsX12_asks (wsV RX12 122 RX12 yX12_isPart wsX12_isPart) := goodIn_app (goodIn_of _ (by decide +kernel)) ggX12_asks_X12_isPart
set_option maxRecDepth 20000 in
theorem ggX12_asks_X12_worksBy : GoodIn wsX12_asks wsX12_worksBy := goodIn_r _ [17, 6, 18, 19, 20, 4, 21, 22, 23, 24, 25, 26, 27, 28, 29, 30, 31, 32, 33, 34, 35, 36, 37, 38, 39, 40, 41, 42, 43, 44, 45, 46, 47, 48, 49, 50, 51, 52, 53, 54, 55, 56, 57, 58, 59, 60, 61, 62, 63, 64, 65, 66, 67, 68, 10, 11, 12, 13, 7, 8, 9, 1, 2, 3, 5, 69, 70, 71, 72, 73, 74, 75, 76, 77, 78, 79, 80, 81, 82, 83, 84, 85, 86, 87, 88, 89, 90, 91, 92, 93, 94, 95, 96, 97, 98, 99, 112, 113, 114, 115, 116, 117, 118, 119, 120, 121, 122, 123, 124, 125, 126, 127, 128, 129, 130, 131, 132, 133, 134, 135, 136, 137, 138, 139, 140, 141, 142, 143, 144, 145, 146, 147, 148, 149, 150, 151, 152, 153, 154, 155, 156, 157, 158, 159] (by decide +kernel) (by decide +kernel)
set_option maxRecDepth 20000 in
theorem gX12_asks_X12_worksBy : GoodIn wsX12_asks (wsV RX12 315 RX12 yX12_worksBy wsX12_worksBy) := goodIn_app (goodIn_of _ (by decide +kernel)) ggX12_asks_X12_worksBy
set_option maxRecDepth 20000 in
theorem ggX12_asks_X12_tiresBy : GoodIn wsX12_asks wsX12_tiresBy := goodIn_r _ [103, 25, 26, 27, 4, 28, 6, 29, 30, 31, 32, 33, 18, 19, 20, 21, 22, 23, 24, 34, 35, 36, 37, 38, 39, 40, 41, 42, 43, 44, 45, 46, 47, 48, 49, 50, 51, 52, 53, 54, 55, 56, 57, 58, 59, 60, 61, 62, 63, 64, 65, 66, 67, 68, 10, 11, 12, 13, 7, 8, 9, 1, 2, 3, 5, 69, 70, 71, 72, 73, 74, 75, 76, 77, 78, 79, 80, 81, 82, 83, 84, 85, 86, 87, 88, 89, 90, 91, 92, 93, 94, 95, 96, 97, 98, 99, 112, 113, 114, 115, 116, 117, 118, 119, 120, 121, 122, 123, 124, 125, 126, 127, 128, 129, 130, 131, 132, 133, 134, 135, 136, 137, 138, 139, 140, 141, 142, 143, 144, 145, 146, 147, 148, 149, 150, 151, 152, 153, 154, 155, 156, 157, 158, 159] (by decide +kernel) (by decide +kernel)
set_option maxRecDepth 20000 in
theorem gX12_asks_X12_tiresBy : GoodIn wsX12_asks (wsV RX12 318 RX12 yX12_tiresBy wsX12_tiresBy) := goodIn_app (goodIn_of _ (by decide +kernel)) ggX12_asks_X12_tiresBy
set_option maxRecDepth 20000 in
theorem ggX12_asks_X12_showsIn : GoodIn wsX12_asks wsX12_showsIn := goodIn_r _ [107, 25, 26, 27, 4, 28, 6, 29, 30, 31, 32, 33, 18, 19, 20, 21, 22, 23, 24, 34, 35, 36, 37, 38, 39, 40, 41, 42, 43, 44, 45, 46, 47, 48, 49, 50, 51, 52, 53, 54, 55, 56, 57, 58, 59, 60, 61, 62, 63, 64, 65, 66, 67, 68, 10, 11, 12, 13, 7, 8, 9, 1, 2, 3, 5, 69, 70, 71, 72, 73, 74, 75, 76, 77, 78, 79, 80, 81, 82, 83, 84, 85, 86, 87, 88, 89, 90, 91, 92, 93, 94, 95, 96, 97, 98, 99, 112, 113, 114, 115, 116, 117, 118, 119, 120, 121, 122, 123, 124, 125, 126, 127, 128, 129, 130, 131, 132, 133, 134, 135, 136, 137, 138, 139, 140, 141, 142, 143, 144, 145, 146, 147, 148, 149, 150, 151, 152, 153, 154, 155, 156, 157, 158, 159] (by decide +kernel) (by decide +kernel)
set_option maxRecDepth 20000 in
theorem gX12_asks_X12_showsIn : GoodIn wsX12_asks (wsV RX12 321 RX12 yX12_showsIn wsX12_showsIn) := goodIn_app (goodIn_of _ (by decide +kernel)) ggX12_asks_X12_showsIn
set_option maxRecDepth 20000 in
theorem ggX12_asks_X12_isBarred : GoodIn wsX12_asks wsX12_isBarred := goodIn_r _ [111, 25, 26, 27, 4, 28, 6, 29, 30, 31, 32, 33, 18, 19, 20, 21, 22, 23, 24, 34, 35, 36, 37, 38, 39, 40, 41, 42, 43, 44, 45, 46, 47, 48, 49, 50, 51, 52, 53, 54, 55, 56, 57, 58, 59, 60, 61, 62, 63, 64, 65, 66, 67, 68, 10, 11, 12, 13, 7, 8, 9, 1, 2, 3, 5, 69, 70, 71, 72, 73, 74, 75, 76, 77, 78, 79, 80, 81, 82, 83, 84, 85, 86, 87, 88, 89, 90, 91, 92, 93, 94, 95, 96, 97, 98, 99, 112, 113, 114, 115, 116, 117, 118, 119, 120, 121, 122, 123, 124, 125, 126, 127, 128, 129, 130, 131, 132, 133, 134, 135, 136, 137, 138, 139, 140, 141, 142, 143, 144, 145, 146, 147, 148, 149, 150, 151, 152, 153, 154, 155, 156, 157, 158, 159] (by decide +kernel) (by decide +kernel)
set_option maxRecDepth 20000 in
theorem gX12_asks_X12_isBarred : GoodIn wsX12_asks (wsV RX12 324 RX12 yX12_isBarred wsX12_isBarred) := goodIn_app (goodIn_of _ (by decide +kernel)) ggX12_asks_X12_isBarred
theorem dX12_asks_0 : decode cX12_asks 0 = .ok (.aload_n 0, 1) := by decide +kernel
theorem dX12_asks_1 : decode cX12_asks 1 = .ok (.iload_n 1, 1) := by decide +kernel
theorem dX12_asks_2 : decode cX12_asks 2 = .ok (.invokevirtual 131, 3) := by decide +kernel
theorem dX12_asks_5 : decode cX12_asks 5 = .ok (.ifCond .eq 11, 3) := by decide +kernel
theorem dX12_asks_8 : decode cX12_asks 8 = .ok (.aload_n 0, 1) := by decide +kernel
theorem dX12_asks_9 : decode cX12_asks 9 = .ok (.iload_n 2, 1) := by decide +kernel
theorem dX12_asks_10 : decode cX12_asks 10 = .ok (.invokevirtual 122, 3) := by decide +kernel
theorem dX12_asks_13 : decode cX12_asks 13 = .ok (.ifCond .ne 5, 3) := by decide +kernel
theorem dX12_asks_16 : decode cX12_asks 16 = .ok (.iconst (-1), 1) := by decide +kernel
theorem dX12_asks_17 : decode cX12_asks 17 = .ok (.ireturn, 1) := by decide +kernel
theorem dX12_asks_18 : decode cX12_asks 18 = .ok (.iload_n 3, 1) := by decide +kernel
theorem dX12_asks_19 : decode cX12_asks 19 = .ok (.tableswitch 65 0 3 #[29, 36, 43, 50], 29) := by decide +kernel
theorem dX12_asks_48 : decode cX12_asks 48 = .ok (.aload_n 0, 1) := by decide +kernel
theorem dX12_asks_49 : decode cX12_asks 49 = .ok (.iload_n 1, 1) := by decide +kernel
theorem dX12_asks_50 : decode cX12_asks 50 = .ok (.iload_n 2, 1) := by decide +kernel
theorem dX12_asks_51 : decode cX12_asks 51 = .ok (.invokevirtual 315, 3) := by decide +kernel
theorem dX12_asks_54 : decode cX12_asks 54 = .ok (.ireturn, 1) := by decide +kernel
theorem dX12_asks_55 : decode cX12_asks 55 = .ok (.aload_n 0, 1) := by decide +kernel
theorem dX12_asks_56 : decode cX12_asks 56 = .ok (.iload_n 1, 1) := by decide +kernel
theorem dX12_asks_57 : decode cX12_asks 57 = .ok (.iload_n 2, 1) := by decide +kernel
theorem dX12_asks_58 : decode cX12_asks 58 = .ok (.invokevirtual 318, 3) := by decide +kernel
theorem dX12_asks_61 : decode cX12_asks 61 = .ok (.ireturn, 1) := by decide +kernel
theorem dX12_asks_62 : decode cX12_asks 62 = .ok (.aload_n 0, 1) := by decide +kernel
theorem dX12_asks_63 : decode cX12_asks 63 = .ok (.iload_n 1, 1) := by decide +kernel
theorem dX12_asks_64 : decode cX12_asks 64 = .ok (.iload_n 2, 1) := by decide +kernel
theorem dX12_asks_65 : decode cX12_asks 65 = .ok (.invokevirtual 321, 3) := by decide +kernel
theorem dX12_asks_68 : decode cX12_asks 68 = .ok (.ireturn, 1) := by decide +kernel
theorem dX12_asks_69 : decode cX12_asks 69 = .ok (.aload_n 0, 1) := by decide +kernel
theorem dX12_asks_70 : decode cX12_asks 70 = .ok (.iload_n 1, 1) := by decide +kernel
theorem dX12_asks_71 : decode cX12_asks 71 = .ok (.iload_n 2, 1) := by decide +kernel
theorem dX12_asks_72 : decode cX12_asks 72 = .ok (.invokevirtual 324, 3) := by decide +kernel
theorem dX12_asks_75 : decode cX12_asks 75 = .ok (.ifCond .eq 7, 3) := by decide +kernel
theorem dX12_asks_78 : decode cX12_asks 78 = .ok (.iconst 1, 1) := by decide +kernel
theorem dX12_asks_79 : decode cX12_asks 79 = .ok (.goto 4, 3) := by decide +kernel
theorem dX12_asks_82 : decode cX12_asks 82 = .ok (.iconst 0, 1) := by decide +kernel
theorem dX12_asks_83 : decode cX12_asks 83 = .ok (.ireturn, 1) := by decide +kernel
theorem dX12_asks_84 : decode cX12_asks 84 = .ok (.iconst (-1), 1) := by decide +kernel
theorem dX12_asks_85 : decode cX12_asks 85 = .ok (.ireturn, 1) := by decide +kernel
set_option maxRecDepth 20000 in
theorem ggX12_stands_X12_lies : GoodIn wsX12_stands wsX12_lies := goodIn_r _ [5] (by decide +kernel) (by decide +kernel)
set_option maxRecDepth 20000 in
theorem gX12_stands_X12_lies : GoodIn wsX12_stands (va_wsS RX12 96 yX12_lies wsX12_lies) := goodIn_app (goodIn_of _ (by decide +kernel)) ggX12_stands_X12_lies
set_option maxRecDepth 20000 in
theorem ggX12_stands_X12_standing : GoodIn wsX12_stands wsX12_standing := goodIn_r _ [9, 1, 10, 11, 12, 4, 13, 18, 19, 20, 21, 22, 23, 24, 25, 26, 27, 28, 29, 30, 31, 32, 33, 34, 35, 36, 37, 38, 39, 40, 41, 42, 43, 44, 45, 46, 47, 48, 49, 50, 51, 52, 53, 54, 55, 56, 57, 58, 59, 60, 61, 62, 63, 64, 65] (by decide +kernel) (by decide +kernel)
set_option maxRecDepth 20000 in
theorem gX12_stands_X12_standing : GoodIn wsX12_stands (wsV RX12 118 RX12 yX12_standing wsX12_standing) := goodIn_app (goodIn_of _ (by decide +kernel)) ggX12_stands_X12_standing
set_option maxRecDepth 20000 in
theorem ggX12_stands_X12_isReady : GoodIn wsX12_stands wsX12_isReady := goodIn_r _ [17, 1, 10, 11, 12, 4, 13, 6, 7, 8, 9, 18, 19, 20, 21, 22, 23, 24, 25, 26, 27, 28, 29, 30, 31, 32, 33, 34, 35, 36, 37, 38, 39, 40, 41, 42, 43, 44, 45, 46, 47, 48, 49, 50, 51, 52, 53, 54, 55, 56, 57, 58, 59, 60, 61, 62, 63, 64, 65] (by decide +kernel) (by decide +kernel)
set_option maxRecDepth 20000 in
theorem gX12_stands_X12_isReady : GoodIn wsX12_stands (wsV RX12 125 RX12 yX12_isReady wsX12_isReady) := goodIn_app (goodIn_of _ (by decide +kernel)) ggX12_stands_X12_isReady
theorem dX12_stands_0 : decode cX12_stands 0 = .ok (.iload_n 1, 1) := by decide +kernel
theorem dX12_stands_1 : decode cX12_stands 1 = .ok (.iconst 0, 1) := by decide +kernel
theorem dX12_stands_2 : decode cX12_stands 2 = .ok (.iconst 1, 1) := by decide +kernel
theorem dX12_stands_3 : decode cX12_stands 3 = .ok (.invokestatic 96, 3) := by decide +kernel
theorem dX12_stands_6 : decode cX12_stands 6 = .ok (.ifCond .ne 5, 3) := by decide +kernel
theorem dX12_stands_9 : decode cX12_stands 9 = .ok (.iconst (-1), 1) := by decide +kernel
theorem dX12_stands_10 : decode cX12_stands 10 = .ok (.ireturn, 1) := by decide +kernel
theorem dX12_stands_11 : decode cX12_stands 11 = .ok (.iload_n 1, 1) := by decide +kernel
theorem dX12_stands_12 : decode cX12_stands 12 = .ok (.ifCond .ne 8, 3) := by decide +kernel
theorem dX12_stands_15 : decode cX12_stands 15 = .ok (.aload_n 0, 1) := by decide +kernel
theorem dX12_stands_16 : decode cX12_stands 16 = .ok (.invokevirtual 118, 3) := by decide +kernel
theorem dX12_stands_19 : decode cX12_stands 19 = .ok (.ireturn, 1) := by decide +kernel
theorem dX12_stands_20 : decode cX12_stands 20 = .ok (.iconst 0, 1) := by decide +kernel
theorem dX12_stands_21 : decode cX12_stands 21 = .ok (.istore_n 2, 1) := by decide +kernel
theorem dX12_stands_22 : decode cX12_stands 22 = .ok (.iconst 0, 1) := by decide +kernel
theorem dX12_stands_23 : decode cX12_stands 23 = .ok (.istore_n 3, 1) := by decide +kernel
theorem dX12_stands_24 : decode cX12_stands 24 = .ok (.iload_n 3, 1) := by decide +kernel
theorem dX12_stands_25 : decode cX12_stands 25 = .ok (.aload_n 0, 1) := by decide +kernel
theorem dX12_stands_26 : decode cX12_stands 26 = .ok (.getfield 24, 3) := by decide +kernel
theorem dX12_stands_29 : decode cX12_stands 29 = .ok (.bipush 102, 2) := by decide +kernel
theorem dX12_stands_31 : decode cX12_stands 31 = .ok (.iaload, 1) := by decide +kernel
theorem dX12_stands_32 : decode cX12_stands 32 = .ok (.if_icmp .ge 27, 3) := by decide +kernel
theorem dX12_stands_35 : decode cX12_stands 35 = .ok (.iload_n 2, 1) := by decide +kernel
theorem dX12_stands_36 : decode cX12_stands 36 = .ok (.aload_n 0, 1) := by decide +kernel
theorem dX12_stands_37 : decode cX12_stands 37 = .ok (.iload_n 3, 1) := by decide +kernel
theorem dX12_stands_38 : decode cX12_stands 38 = .ok (.invokevirtual 125, 3) := by decide +kernel
theorem dX12_stands_41 : decode cX12_stands 41 = .ok (.ifCond .eq 9, 3) := by decide +kernel
theorem dX12_stands_44 : decode cX12_stands 44 = .ok (.iconst 1, 1) := by decide +kernel
theorem dX12_stands_45 : decode cX12_stands 45 = .ok (.iload_n 3, 1) := by decide +kernel
theorem dX12_stands_46 : decode cX12_stands 46 = .ok (.ishl, 1) := by decide +kernel
theorem dX12_stands_47 : decode cX12_stands 47 = .ok (.goto 4, 3) := by decide +kernel
theorem dX12_stands_50 : decode cX12_stands 50 = .ok (.iconst 0, 1) := by decide +kernel
theorem dX12_stands_51 : decode cX12_stands 51 = .ok (.ior, 1) := by decide +kernel
theorem dX12_stands_52 : decode cX12_stands 52 = .ok (.istore_n 2, 1) := by decide +kernel
theorem dX12_stands_53 : decode cX12_stands 53 = .ok (.iinc 3 1, 3) := by decide +kernel
theorem dX12_stands_56 : decode cX12_stands 56 = .ok (.goto (-32), 3) := by decide +kernel
theorem dX12_stands_59 : decode cX12_stands 59 = .ok (.iload_n 2, 1) := by decide +kernel
theorem dX12_stands_60 : decode cX12_stands 60 = .ok (.ireturn, 1) := by decide +kernel
set_option maxRecDepth 20000 in
theorem ggX12_ticks_X12_standing : GoodIn wsX12_ticks wsX12_standing := goodIn_r _ [8, 1, 9, 10, 11, 7, 12, 112, 113, 114, 115, 116, 117, 118, 119, 120, 121, 122, 123, 124, 125, 126, 127, 128, 129, 130, 131, 132, 133, 134, 135, 136, 137, 138, 139, 140, 141, 142, 143, 144, 145, 146, 147, 148, 149, 150, 151, 152, 153, 154, 155, 156, 157, 158, 159] (by decide +kernel) (by decide +kernel)
set_option maxRecDepth 20000 in
theorem gX12_ticks_X12_standing : GoodIn wsX12_ticks (wsV RX12 118 RX12 yX12_standing wsX12_standing) := goodIn_app (goodIn_of _ (by decide +kernel)) ggX12_ticks_X12_standing
set_option maxRecDepth 20000 in
theorem ggX12_ticks_X12_isIn : GoodIn wsX12_ticks wsX12_isIn := goodIn_r _ [15] (by decide +kernel) (by decide +kernel)
set_option maxRecDepth 20000 in
theorem gX12_ticks_X12_isIn : GoodIn wsX12_ticks (va_wsS RX12 302 yX12_isIn wsX12_isIn) := goodIn_app (goodIn_of _ (by decide +kernel)) ggX12_ticks_X12_isIn
set_option maxRecDepth 20000 in
theorem ggX12_ticks_X12_worksBy : GoodIn wsX12_ticks wsX12_worksBy := goodIn_r _ [19, 1, 20, 21, 22, 7, 23, 13, 14, 15, 24, 25, 26, 27, 28, 29, 30, 31, 32, 33, 34, 35, 36, 37, 38, 39, 40, 41, 42, 43, 44, 45, 46, 47, 48, 49, 50, 51, 52, 53, 54, 55, 56, 57, 58, 59, 60, 61, 62, 63, 64, 65, 66, 67, 68, 69, 70, 71, 72, 73, 74, 75, 76, 77, 78, 4, 5, 6, 8, 9, 10, 11, 12, 79, 80, 81, 82, 83, 84, 85, 86, 87, 88, 89, 90, 91, 92, 93, 94, 95, 96, 97, 98, 99, 100, 101, 112, 113, 114, 115, 116, 117, 118, 119, 120, 121, 122, 123, 124, 125, 126, 127, 128, 129, 130, 131, 132, 133, 134, 135, 136, 137, 138, 139, 140, 141, 142, 143, 144, 145, 146, 147, 148, 149, 150, 151, 152, 153, 154, 155, 156, 157, 158, 159] (by decide +kernel) (by decide +kernel)
set_option maxRecDepth 20000 in
theorem gX12_ticks_X12_worksBy : GoodIn wsX12_ticks (wsV RX12 315 RX12 yX12_worksBy wsX12_worksBy) := goodIn_app (goodIn_of _ (by decide +kernel)) ggX12_ticks_X12_worksBy
set_option maxRecDepth 20000 in
theorem ggX12_ticks_X12_tiresBy : GoodIn wsX12_ticks wsX12_tiresBy := goodIn_r _ [105, 24, 25, 26, 7, 27, 1, 28, 29, 30, 31, 32, 20, 21, 22, 23, 13, 14, 15, 33, 34, 35, 36, 37, 38, 39, 40, 41, 42, 43, 44, 45, 46, 47, 48, 49, 50, 51, 52, 53, 54, 55, 56, 57, 58, 59, 60, 61, 62, 63, 64, 65, 66, 67, 68, 69, 70, 71, 72, 73, 74, 75, 76, 77, 78, 4, 5, 6, 8, 9, 10, 11, 12, 79, 80, 81, 82, 83, 84, 85, 86, 87, 88, 89, 90, 91, 92, 93, 94, 95, 96, 97, 98, 99, 100, 101, 112, 113, 114, 115, 116, 117, 118, 119, 120, 121, 122, 123, 124, 125, 126, 127, 128, 129, 130, 131, 132, 133, 134, 135, 136, 137, 138, 139, 140, 141, 142, 143, 144, 145, 146, 147, 148, 149, 150, 151, 152, 153, 154, 155, 156, 157, 158, 159] (by decide +kernel) (by decide +kernel)
set_option maxRecDepth 20000 in
theorem gX12_ticks_X12_tiresBy : GoodIn wsX12_ticks (wsV RX12 318 RX12 yX12_tiresBy wsX12_tiresBy) := goodIn_app (goodIn_of _ (by decide +kernel)) ggX12_ticks_X12_tiresBy
set_option maxRecDepth 20000 in
theorem ggX12_ticks_X12_greater : GoodIn wsX12_ticks wsX12_greater := goodIn_r _ [108] (by decide +kernel) (by decide +kernel)
set_option maxRecDepth 20000 in
theorem gX12_ticks_X12_greater : GoodIn wsX12_ticks (va_wsS RX12 327 yX12_greater wsX12_greater) := goodIn_app (goodIn_of _ (by decide +kernel)) ggX12_ticks_X12_greater
set_option maxRecDepth 20000 in
theorem ggX12_ticks_X12_lesser : GoodIn wsX12_ticks wsX12_lesser := goodIn_r _ [111] (by decide +kernel) (by decide +kernel)
set_option maxRecDepth 20000 in
theorem gX12_ticks_X12_lesser : GoodIn wsX12_ticks (va_wsS RX12 330 yX12_lesser wsX12_lesser) := goodIn_app (goodIn_of _ (by decide +kernel)) ggX12_ticks_X12_lesser
set_option maxRecDepth 20000 in
theorem ggX12_ticks_X12_stands0 : GoodIn wsX12_ticks wsX12_stands0 := goodIn_r _ [12, 1, 112, 113, 114, 115, 116, 117, 118, 119, 120, 121, 122, 123, 124, 125, 126, 127, 128, 129, 130, 131, 132, 133, 134, 135, 136, 137, 138, 139, 140, 141, 142, 143, 144, 145, 146, 147, 148, 149, 150, 151, 152, 153, 154, 155, 156, 157, 158, 159] (by decide +kernel) (by decide +kernel)
set_option maxRecDepth 20000 in
theorem gX12_ticks_X12_stands0 : GoodIn wsX12_ticks (wsV RX12 114 RX12 yX12_stands0 wsX12_stands0) := goodIn_app (goodIn_of _ (by decide +kernel)) ggX12_ticks_X12_stands0
set_option maxRecDepth 20000 in
theorem ggX12_ticks_X12_ones : GoodIn wsX12_ticks wsX12_ones := goodIn_r _ [81] (by decide +kernel) (by decide +kernel)
set_option maxRecDepth 20000 in
theorem gX12_ticks_X12_ones : GoodIn wsX12_ticks (va_wsS RX12 287 yX12_ones wsX12_ones) := goodIn_app (goodIn_of _ (by decide +kernel)) ggX12_ticks_X12_ones
theorem dX12_ticks_0 : decode cX12_ticks 0 = .ok (.aload_n 0, 1) := by decide +kernel
theorem dX12_ticks_1 : decode cX12_ticks 1 = .ok (.invokevirtual 118, 3) := by decide +kernel
theorem dX12_ticks_4 : decode cX12_ticks 4 = .ok (.istore_n 2, 1) := by decide +kernel
theorem dX12_ticks_5 : decode cX12_ticks 5 = .ok (.iconst 0, 1) := by decide +kernel
theorem dX12_ticks_6 : decode cX12_ticks 6 = .ok (.istore_n 3, 1) := by decide +kernel
theorem dX12_ticks_7 : decode cX12_ticks 7 = .ok (.iload_n 3, 1) := by decide +kernel
theorem dX12_ticks_8 : decode cX12_ticks 8 = .ok (.aload_n 0, 1) := by decide +kernel
theorem dX12_ticks_9 : decode cX12_ticks 9 = .ok (.getfield 24, 3) := by decide +kernel
theorem dX12_ticks_12 : decode cX12_ticks 12 = .ok (.bipush 103, 2) := by decide +kernel
theorem dX12_ticks_14 : decode cX12_ticks 14 = .ok (.iaload, 1) := by decide +kernel
theorem dX12_ticks_15 : decode cX12_ticks 15 = .ok (.if_icmp .ge 96, 3) := by decide +kernel
theorem dX12_ticks_18 : decode cX12_ticks 18 = .ok (.iload_n 1, 1) := by decide +kernel
theorem dX12_ticks_19 : decode cX12_ticks 19 = .ok (.iload_n 3, 1) := by decide +kernel
theorem dX12_ticks_20 : decode cX12_ticks 20 = .ok (.invokestatic 302, 3) := by decide +kernel
theorem dX12_ticks_23 : decode cX12_ticks 23 = .ok (.ifCond .eq 20, 3) := by decide +kernel
theorem dX12_ticks_26 : decode cX12_ticks 26 = .ok (.aload_n 0, 1) := by decide +kernel
theorem dX12_ticks_27 : decode cX12_ticks 27 = .ok (.getfield 24, 3) := by decide +kernel
theorem dX12_ticks_30 : decode cX12_ticks 30 = .ok (.bipush 16, 2) := by decide +kernel
theorem dX12_ticks_32 : decode cX12_ticks 32 = .ok (.iload_n 3, 1) := by decide +kernel
theorem dX12_ticks_33 : decode cX12_ticks 33 = .ok (.iadd, 1) := by decide +kernel
theorem dX12_ticks_34 : decode cX12_ticks 34 = .ok (.iaload, 1) := by decide +kernel
theorem dX12_ticks_35 : decode cX12_ticks 35 = .ok (.iconst (-1), 1) := by decide +kernel
theorem dX12_ticks_36 : decode cX12_ticks 36 = .ok (.if_icmp .eq 7, 3) := by decide +kernel
theorem dX12_ticks_39 : decode cX12_ticks 39 = .ok (.iconst 1, 1) := by decide +kernel
theorem dX12_ticks_40 : decode cX12_ticks 40 = .ok (.goto 4, 3) := by decide +kernel
theorem dX12_ticks_43 : decode cX12_ticks 43 = .ok (.iconst 0, 1) := by decide +kernel
theorem dX12_ticks_44 : decode cX12_ticks 44 = .ok (.istore 4, 2) := by decide +kernel
theorem dX12_ticks_46 : decode cX12_ticks 46 = .ok (.aload_n 0, 1) := by decide +kernel
theorem dX12_ticks_47 : decode cX12_ticks 47 = .ok (.getfield 62, 3) := by decide +kernel
theorem dX12_ticks_50 : decode cX12_ticks 50 = .ok (.iload_n 3, 1) := by decide +kernel
theorem dX12_ticks_51 : decode cX12_ticks 51 = .ok (.iload 4, 2) := by decide +kernel
theorem dX12_ticks_53 : decode cX12_ticks 53 = .ok (.ifCond .eq 20, 3) := by decide +kernel
theorem dX12_ticks_56 : decode cX12_ticks 56 = .ok (.aload_n 0, 1) := by decide +kernel
theorem dX12_ticks_57 : decode cX12_ticks 57 = .ok (.iload_n 3, 1) := by decide +kernel
theorem dX12_ticks_58 : decode cX12_ticks 58 = .ok (.aload_n 0, 1) := by decide +kernel
theorem dX12_ticks_59 : decode cX12_ticks 59 = .ok (.getfield 24, 3) := by decide +kernel
theorem dX12_ticks_62 : decode cX12_ticks 62 = .ok (.bipush 16, 2) := by decide +kernel
theorem dX12_ticks_64 : decode cX12_ticks 64 = .ok (.iload_n 3, 1) := by decide +kernel
theorem dX12_ticks_65 : decode cX12_ticks 65 = .ok (.iadd, 1) := by decide +kernel
theorem dX12_ticks_66 : decode cX12_ticks 66 = .ok (.iaload, 1) := by decide +kernel
theorem dX12_ticks_67 : decode cX12_ticks 67 = .ok (.invokevirtual 315, 3) := by decide +kernel
theorem dX12_ticks_70 : decode cX12_ticks 70 = .ok (.goto 4, 3) := by decide +kernel
theorem dX12_ticks_73 : decode cX12_ticks 73 = .ok (.iconst 0, 1) := by decide +kernel
theorem dX12_ticks_74 : decode cX12_ticks 74 = .ok (.iastore, 1) := by decide +kernel
theorem dX12_ticks_75 : decode cX12_ticks 75 = .ok (.aload_n 0, 1) := by decide +kernel
theorem dX12_ticks_76 : decode cX12_ticks 76 = .ok (.getfield 65, 3) := by decide +kernel
theorem dX12_ticks_79 : decode cX12_ticks 79 = .ok (.iload_n 3, 1) := by decide +kernel
theorem dX12_ticks_80 : decode cX12_ticks 80 = .ok (.iload 4, 2) := by decide +kernel
theorem dX12_ticks_82 : decode cX12_ticks 82 = .ok (.ifCond .eq 20, 3) := by decide +kernel
theorem dX12_ticks_85 : decode cX12_ticks 85 = .ok (.aload_n 0, 1) := by decide +kernel
theorem dX12_ticks_86 : decode cX12_ticks 86 = .ok (.iload_n 3, 1) := by decide +kernel
theorem dX12_ticks_87 : decode cX12_ticks 87 = .ok (.aload_n 0, 1) := by decide +kernel
theorem dX12_ticks_88 : decode cX12_ticks 88 = .ok (.getfield 24, 3) := by decide +kernel
theorem dX12_ticks_91 : decode cX12_ticks 91 = .ok (.bipush 16, 2) := by decide +kernel
theorem dX12_ticks_93 : decode cX12_ticks 93 = .ok (.iload_n 3, 1) := by decide +kernel
theorem dX12_ticks_94 : decode cX12_ticks 94 = .ok (.iadd, 1) := by decide +kernel
theorem dX12_ticks_95 : decode cX12_ticks 95 = .ok (.iaload, 1) := by decide +kernel
theorem dX12_ticks_96 : decode cX12_ticks 96 = .ok (.invokevirtual 318, 3) := by decide +kernel
theorem dX12_ticks_99 : decode cX12_ticks 99 = .ok (.goto 5, 3) := by decide +kernel
theorem dX12_ticks_102 : decode cX12_ticks 102 = .ok (.bipush (-2), 2) := by decide +kernel
theorem dX12_ticks_104 : decode cX12_ticks 104 = .ok (.iastore, 1) := by decide +kernel
theorem dX12_ticks_105 : decode cX12_ticks 105 = .ok (.iinc 3 1, 3) := by decide +kernel
theorem dX12_ticks_108 : decode cX12_ticks 108 = .ok (.goto (-101), 3) := by decide +kernel
theorem dX12_ticks_111 : decode cX12_ticks 111 = .ok (.iconst 0, 1) := by decide +kernel
theorem dX12_ticks_112 : decode cX12_ticks 112 = .ok (.istore_n 3, 1) := by decide +kernel
theorem dX12_ticks_113 : decode cX12_ticks 113 = .ok (.iload_n 3, 1) := by decide +kernel
theorem dX12_ticks_114 : decode cX12_ticks 114 = .ok (.aload_n 0, 1) := by decide +kernel
theorem dX12_ticks_115 : decode cX12_ticks 115 = .ok (.getfield 24, 3) := by decide +kernel
theorem dX12_ticks_118 : decode cX12_ticks 118 = .ok (.bipush 103, 2) := by decide +kernel
theorem dX12_ticks_120 : decode cX12_ticks 120 = .ok (.iaload, 1) := by decide +kernel
theorem dX12_ticks_121 : decode cX12_ticks 121 = .ok (.if_icmp .ge 100, 3) := by decide +kernel
theorem dX12_ticks_124 : decode cX12_ticks 124 = .ok (.iload_n 1, 1) := by decide +kernel
theorem dX12_ticks_125 : decode cX12_ticks 125 = .ok (.iload_n 3, 1) := by decide +kernel
theorem dX12_ticks_126 : decode cX12_ticks 126 = .ok (.invokestatic 302, 3) := by decide +kernel
theorem dX12_ticks_129 : decode cX12_ticks 129 = .ok (.ifCond .ne 6, 3) := by decide +kernel
theorem dX12_ticks_132 : decode cX12_ticks 132 = .ok (.goto 83, 3) := by decide +kernel
theorem dX12_ticks_135 : decode cX12_ticks 135 = .ok (.aload_n 0, 1) := by decide +kernel
theorem dX12_ticks_136 : decode cX12_ticks 136 = .ok (.getfield 24, 3) := by decide +kernel
theorem dX12_ticks_139 : decode cX12_ticks 139 = .ok (.bipush 16, 2) := by decide +kernel
theorem dX12_ticks_141 : decode cX12_ticks 141 = .ok (.iload_n 3, 1) := by decide +kernel
theorem dX12_ticks_142 : decode cX12_ticks 142 = .ok (.iadd, 1) := by decide +kernel
theorem dX12_ticks_143 : decode cX12_ticks 143 = .ok (.iaload, 1) := by decide +kernel
theorem dX12_ticks_144 : decode cX12_ticks 144 = .ok (.istore 4, 2) := by decide +kernel
theorem dX12_ticks_146 : decode cX12_ticks 146 = .ok (.iload 4, 2) := by decide +kernel
theorem dX12_ticks_148 : decode cX12_ticks 148 = .ok (.iconst (-1), 1) := by decide +kernel
theorem dX12_ticks_149 : decode cX12_ticks 149 = .ok (.if_icmp .eq 32, 3) := by decide +kernel
theorem dX12_ticks_152 : decode cX12_ticks 152 = .ok (.aload_n 0, 1) := by decide +kernel
theorem dX12_ticks_153 : decode cX12_ticks 153 = .ok (.getfield 24, 3) := by decide +kernel
theorem dX12_ticks_156 : decode cX12_ticks 156 = .ok (.iconst 0, 1) := by decide +kernel
theorem dX12_ticks_157 : decode cX12_ticks 157 = .ok (.iload 4, 2) := by decide +kernel
theorem dX12_ticks_159 : decode cX12_ticks 159 = .ok (.iadd, 1) := by decide +kernel
theorem dX12_ticks_160 : decode cX12_ticks 160 = .ok (.iconst 0, 1) := by decide +kernel
theorem dX12_ticks_161 : decode cX12_ticks 161 = .ok (.aload_n 0, 1) := by decide +kernel
theorem dX12_ticks_162 : decode cX12_ticks 162 = .ok (.getfield 24, 3) := by decide +kernel
theorem dX12_ticks_165 : decode cX12_ticks 165 = .ok (.iconst 0, 1) := by decide +kernel
theorem dX12_ticks_166 : decode cX12_ticks 166 = .ok (.iload 4, 2) := by decide +kernel
theorem dX12_ticks_168 : decode cX12_ticks 168 = .ok (.iadd, 1) := by decide +kernel
theorem dX12_ticks_169 : decode cX12_ticks 169 = .ok (.iaload, 1) := by decide +kernel
theorem dX12_ticks_170 : decode cX12_ticks 170 = .ok (.aload_n 0, 1) := by decide +kernel
theorem dX12_ticks_171 : decode cX12_ticks 171 = .ok (.getfield 62, 3) := by decide +kernel
theorem dX12_ticks_174 : decode cX12_ticks 174 = .ok (.iload_n 3, 1) := by decide +kernel
theorem dX12_ticks_175 : decode cX12_ticks 175 = .ok (.iaload, 1) := by decide +kernel
theorem dX12_ticks_176 : decode cX12_ticks 176 = .ok (.isub, 1) := by decide +kernel
theorem dX12_ticks_177 : decode cX12_ticks 177 = .ok (.invokestatic 327, 3) := by decide +kernel
theorem dX12_ticks_180 : decode cX12_ticks 180 = .ok (.iastore, 1) := by decide +kernel
theorem dX12_ticks_181 : decode cX12_ticks 181 = .ok (.aload_n 0, 1) := by decide +kernel
theorem dX12_ticks_182 : decode cX12_ticks 182 = .ok (.getfield 24, 3) := by decide +kernel
theorem dX12_ticks_185 : decode cX12_ticks 185 = .ok (.bipush 10, 2) := by decide +kernel
theorem dX12_ticks_187 : decode cX12_ticks 187 = .ok (.iload_n 3, 1) := by decide +kernel
theorem dX12_ticks_188 : decode cX12_ticks 188 = .ok (.iadd, 1) := by decide +kernel
theorem dX12_ticks_189 : decode cX12_ticks 189 = .ok (.iconst 0, 1) := by decide +kernel
theorem dX12_ticks_190 : decode cX12_ticks 190 = .ok (.bipush 99, 2) := by decide +kernel
theorem dX12_ticks_192 : decode cX12_ticks 192 = .ok (.aload_n 0, 1) := by decide +kernel
theorem dX12_ticks_193 : decode cX12_ticks 193 = .ok (.getfield 24, 3) := by decide +kernel
theorem dX12_ticks_196 : decode cX12_ticks 196 = .ok (.bipush 10, 2) := by decide +kernel
theorem dX12_ticks_198 : decode cX12_ticks 198 = .ok (.iload_n 3, 1) := by decide +kernel
theorem dX12_ticks_199 : decode cX12_ticks 199 = .ok (.iadd, 1) := by decide +kernel
theorem dX12_ticks_200 : decode cX12_ticks 200 = .ok (.iaload, 1) := by decide +kernel
theorem dX12_ticks_201 : decode cX12_ticks 201 = .ok (.aload_n 0, 1) := by decide +kernel
theorem dX12_ticks_202 : decode cX12_ticks 202 = .ok (.getfield 65, 3) := by decide +kernel
theorem dX12_ticks_205 : decode cX12_ticks 205 = .ok (.iload_n 3, 1) := by decide +kernel
theorem dX12_ticks_206 : decode cX12_ticks 206 = .ok (.iaload, 1) := by decide +kernel
theorem dX12_ticks_207 : decode cX12_ticks 207 = .ok (.iadd, 1) := by decide +kernel
theorem dX12_ticks_208 : decode cX12_ticks 208 = .ok (.invokestatic 330, 3) := by decide +kernel
theorem dX12_ticks_211 : decode cX12_ticks 211 = .ok (.invokestatic 327, 3) := by decide +kernel
theorem dX12_ticks_214 : decode cX12_ticks 214 = .ok (.iastore, 1) := by decide +kernel
theorem dX12_ticks_215 : decode cX12_ticks 215 = .ok (.iinc 3 1, 3) := by decide +kernel
theorem dX12_ticks_218 : decode cX12_ticks 218 = .ok (.goto (-105), 3) := by decide +kernel
theorem dX12_ticks_221 : decode cX12_ticks 221 = .ok (.iconst 0, 1) := by decide +kernel
theorem dX12_ticks_222 : decode cX12_ticks 222 = .ok (.istore_n 3, 1) := by decide +kernel
theorem dX12_ticks_223 : decode cX12_ticks 223 = .ok (.iload_n 3, 1) := by decide +kernel
theorem dX12_ticks_224 : decode cX12_ticks 224 = .ok (.aload_n 0, 1) := by decide +kernel
theorem dX12_ticks_225 : decode cX12_ticks 225 = .ok (.getfield 24, 3) := by decide +kernel
theorem dX12_ticks_228 : decode cX12_ticks 228 = .ok (.bipush 103, 2) := by decide +kernel
theorem dX12_ticks_230 : decode cX12_ticks 230 = .ok (.iaload, 1) := by decide +kernel
theorem dX12_ticks_231 : decode cX12_ticks 231 = .ok (.if_icmp .ge 48, 3) := by decide +kernel
theorem dX12_ticks_234 : decode cX12_ticks 234 = .ok (.aload_n 0, 1) := by decide +kernel
theorem dX12_ticks_235 : decode cX12_ticks 235 = .ok (.getfield 24, 3) := by decide +kernel
theorem dX12_ticks_238 : decode cX12_ticks 238 = .ok (.bipush 16, 2) := by decide +kernel
theorem dX12_ticks_240 : decode cX12_ticks 240 = .ok (.iload_n 3, 1) := by decide +kernel
theorem dX12_ticks_241 : decode cX12_ticks 241 = .ok (.iadd, 1) := by decide +kernel
theorem dX12_ticks_242 : decode cX12_ticks 242 = .ok (.iaload, 1) := by decide +kernel
theorem dX12_ticks_243 : decode cX12_ticks 243 = .ok (.iconst (-1), 1) := by decide +kernel
theorem dX12_ticks_244 : decode cX12_ticks 244 = .ok (.if_icmp .eq 29, 3) := by decide +kernel
theorem dX12_ticks_247 : decode cX12_ticks 247 = .ok (.aload_n 0, 1) := by decide +kernel
theorem dX12_ticks_248 : decode cX12_ticks 248 = .ok (.aload_n 0, 1) := by decide +kernel
theorem dX12_ticks_249 : decode cX12_ticks 249 = .ok (.getfield 24, 3) := by decide +kernel
theorem dX12_ticks_252 : decode cX12_ticks 252 = .ok (.bipush 16, 2) := by decide +kernel
theorem dX12_ticks_254 : decode cX12_ticks 254 = .ok (.iload_n 3, 1) := by decide +kernel
theorem dX12_ticks_255 : decode cX12_ticks 255 = .ok (.iadd, 1) := by decide +kernel
theorem dX12_ticks_256 : decode cX12_ticks 256 = .ok (.iaload, 1) := by decide +kernel
theorem dX12_ticks_257 : decode cX12_ticks 257 = .ok (.invokevirtual 114, 3) := by decide +kernel
theorem dX12_ticks_260 : decode cX12_ticks 260 = .ok (.ifCond .eq 13, 3) := by decide +kernel
theorem dX12_ticks_263 : decode cX12_ticks 263 = .ok (.aload_n 0, 1) := by decide +kernel
theorem dX12_ticks_264 : decode cX12_ticks 264 = .ok (.getfield 24, 3) := by decide +kernel
theorem dX12_ticks_267 : decode cX12_ticks 267 = .ok (.bipush 16, 2) := by decide +kernel
theorem dX12_ticks_269 : decode cX12_ticks 269 = .ok (.iload_n 3, 1) := by decide +kernel
theorem dX12_ticks_270 : decode cX12_ticks 270 = .ok (.iadd, 1) := by decide +kernel
theorem dX12_ticks_271 : decode cX12_ticks 271 = .ok (.iconst (-1), 1) := by decide +kernel
theorem dX12_ticks_272 : decode cX12_ticks 272 = .ok (.iastore, 1) := by decide +kernel
theorem dX12_ticks_273 : decode cX12_ticks 273 = .ok (.iinc 3 1, 3) := by decide +kernel
theorem dX12_ticks_276 : decode cX12_ticks 276 = .ok (.goto (-53), 3) := by decide +kernel
theorem dX12_ticks_279 : decode cX12_ticks 279 = .ok (.aload_n 0, 1) := by decide +kernel
theorem dX12_ticks_280 : decode cX12_ticks 280 = .ok (.getfield 24, 3) := by decide +kernel
theorem dX12_ticks_283 : decode cX12_ticks 283 = .ok (.bipush 22, 2) := by decide +kernel
theorem dX12_ticks_285 : decode cX12_ticks 285 = .ok (.dup2, 1) := by decide +kernel
theorem dX12_ticks_286 : decode cX12_ticks 286 = .ok (.iaload, 1) := by decide +kernel
theorem dX12_ticks_287 : decode cX12_ticks 287 = .ok (.iconst 1, 1) := by decide +kernel
theorem dX12_ticks_288 : decode cX12_ticks 288 = .ok (.iadd, 1) := by decide +kernel
theorem dX12_ticks_289 : decode cX12_ticks 289 = .ok (.iastore, 1) := by decide +kernel
theorem dX12_ticks_290 : decode cX12_ticks 290 = .ok (.aload_n 0, 1) := by decide +kernel
theorem dX12_ticks_291 : decode cX12_ticks 291 = .ok (.invokevirtual 118, 3) := by decide +kernel
theorem dX12_ticks_294 : decode cX12_ticks 294 = .ok (.iload_n 2, 1) := by decide +kernel
theorem dX12_ticks_295 : decode cX12_ticks 295 = .ok (.iconst (-1), 1) := by decide +kernel
theorem dX12_ticks_296 : decode cX12_ticks 296 = .ok (.ixor, 1) := by decide +kernel
theorem dX12_ticks_297 : decode cX12_ticks 297 = .ok (.iand, 1) := by decide +kernel
theorem dX12_ticks_298 : decode cX12_ticks 298 = .ok (.invokestatic 287, 3) := by decide +kernel
theorem dX12_ticks_301 : decode cX12_ticks 301 = .ok (.ireturn, 1) := by decide +kernel
theorem dX12_keeps_0 : decode cX12_keeps 0 = .ok (.bipush 24, 2) := by decide +kernel
theorem dX12_keeps_2 : decode cX12_keeps 2 = .ok (.istore_n 2, 1) := by decide +kernel
theorem dX12_keeps_3 : decode cX12_keeps 3 = .ok (.aload_n 0, 1) := by decide +kernel
theorem dX12_keeps_4 : decode cX12_keeps 4 = .ok (.getfield 11, 3) := by decide +kernel
theorem dX12_keeps_7 : decode cX12_keeps 7 = .ok (.bipush 16, 2) := by decide +kernel
theorem dX12_keeps_9 : decode cX12_keeps 9 = .ok (.if_icmp .ne 43, 3) := by decide +kernel
theorem dX12_keeps_12 : decode cX12_keeps 12 = .ok (.iconst 0, 1) := by decide +kernel
theorem dX12_keeps_13 : decode cX12_keeps 13 = .ok (.istore_n 3, 1) := by decide +kernel
theorem dX12_keeps_14 : decode cX12_keeps 14 = .ok (.iload_n 3, 1) := by decide +kernel
theorem dX12_keeps_15 : decode cX12_keeps 15 = .ok (.bipush 15, 2) := by decide +kernel
theorem dX12_keeps_17 : decode cX12_keeps 17 = .ok (.iload_n 2, 1) := by decide +kernel
theorem dX12_keeps_18 : decode cX12_keeps 18 = .ok (.imul, 1) := by decide +kernel
theorem dX12_keeps_19 : decode cX12_keeps 19 = .ok (.if_icmp .ge 23, 3) := by decide +kernel
theorem dX12_keeps_22 : decode cX12_keeps 22 = .ok (.aload_n 0, 1) := by decide +kernel
theorem dX12_keeps_23 : decode cX12_keeps 23 = .ok (.getfield 68, 3) := by decide +kernel
theorem dX12_keeps_26 : decode cX12_keeps 26 = .ok (.iload_n 3, 1) := by decide +kernel
theorem dX12_keeps_27 : decode cX12_keeps 27 = .ok (.aload_n 0, 1) := by decide +kernel
theorem dX12_keeps_28 : decode cX12_keeps 28 = .ok (.getfield 68, 3) := by decide +kernel
theorem dX12_keeps_31 : decode cX12_keeps 31 = .ok (.iload_n 3, 1) := by decide +kernel
theorem dX12_keeps_32 : decode cX12_keeps 32 = .ok (.iload_n 2, 1) := by decide +kernel
theorem dX12_keeps_33 : decode cX12_keeps 33 = .ok (.iadd, 1) := by decide +kernel
theorem dX12_keeps_34 : decode cX12_keeps 34 = .ok (.iaload, 1) := by decide +kernel
theorem dX12_keeps_35 : decode cX12_keeps 35 = .ok (.iastore, 1) := by decide +kernel
theorem dX12_keeps_36 : decode cX12_keeps 36 = .ok (.iinc 3 1, 3) := by decide +kernel
theorem dX12_keeps_39 : decode cX12_keeps 39 = .ok (.goto (-25), 3) := by decide +kernel
theorem dX12_keeps_42 : decode cX12_keeps 42 = .ok (.aload_n 0, 1) := by decide +kernel
theorem dX12_keeps_43 : decode cX12_keeps 43 = .ok (.dup, 1) := by decide +kernel
theorem dX12_keeps_44 : decode cX12_keeps 44 = .ok (.getfield 11, 3) := by decide +kernel
theorem dX12_keeps_47 : decode cX12_keeps 47 = .ok (.iconst 1, 1) := by decide +kernel
theorem dX12_keeps_48 : decode cX12_keeps 48 = .ok (.isub, 1) := by decide +kernel
theorem dX12_keeps_49 : decode cX12_keeps 49 = .ok (.putfield 11, 3) := by decide +kernel
theorem dX12_keeps_52 : decode cX12_keeps 52 = .ok (.iconst 0, 1) := by decide +kernel
theorem dX12_keeps_53 : decode cX12_keeps 53 = .ok (.istore_n 3, 1) := by decide +kernel
theorem dX12_keeps_54 : decode cX12_keeps 54 = .ok (.iload_n 3, 1) := by decide +kernel
theorem dX12_keeps_55 : decode cX12_keeps 55 = .ok (.bipush 23, 2) := by decide +kernel
theorem dX12_keeps_57 : decode cX12_keeps 57 = .ok (.if_icmp .ge 28, 3) := by decide +kernel
theorem dX12_keeps_60 : decode cX12_keeps 60 = .ok (.aload_n 0, 1) := by decide +kernel
theorem dX12_keeps_61 : decode cX12_keeps 61 = .ok (.getfield 68, 3) := by decide +kernel
theorem dX12_keeps_64 : decode cX12_keeps 64 = .ok (.iload_n 2, 1) := by decide +kernel
theorem dX12_keeps_65 : decode cX12_keeps 65 = .ok (.aload_n 0, 1) := by decide +kernel
theorem dX12_keeps_66 : decode cX12_keeps 66 = .ok (.getfield 11, 3) := by decide +kernel
theorem dX12_keeps_69 : decode cX12_keeps 69 = .ok (.imul, 1) := by decide +kernel
theorem dX12_keeps_70 : decode cX12_keeps 70 = .ok (.iload_n 3, 1) := by decide +kernel
theorem dX12_keeps_71 : decode cX12_keeps 71 = .ok (.iadd, 1) := by decide +kernel
theorem dX12_keeps_72 : decode cX12_keeps 72 = .ok (.aload_n 0, 1) := by decide +kernel
theorem dX12_keeps_73 : decode cX12_keeps 73 = .ok (.getfield 24, 3) := by decide +kernel
theorem dX12_keeps_76 : decode cX12_keeps 76 = .ok (.iload_n 3, 1) := by decide +kernel
theorem dX12_keeps_77 : decode cX12_keeps 77 = .ok (.iaload, 1) := by decide +kernel
theorem dX12_keeps_78 : decode cX12_keeps 78 = .ok (.iastore, 1) := by decide +kernel
theorem dX12_keeps_79 : decode cX12_keeps 79 = .ok (.iinc 3 1, 3) := by decide +kernel
theorem dX12_keeps_82 : decode cX12_keeps 82 = .ok (.goto (-28), 3) := by decide +kernel
theorem dX12_keeps_85 : decode cX12_keeps 85 = .ok (.aload_n 0, 1) := by decide +kernel
theorem dX12_keeps_86 : decode cX12_keeps 86 = .ok (.getfield 68, 3) := by decide +kernel
theorem dX12_keeps_89 : decode cX12_keeps 89 = .ok (.iload_n 2, 1) := by decide +kernel
theorem dX12_keeps_90 : decode cX12_keeps 90 = .ok (.aload_n 0, 1) := by decide +kernel
theorem dX12_keeps_91 : decode cX12_keeps 91 = .ok (.getfield 11, 3) := by decide +kernel
theorem dX12_keeps_94 : decode cX12_keeps 94 = .ok (.imul, 1) := by decide +kernel
theorem dX12_keeps_95 : decode cX12_keeps 95 = .ok (.bipush 23, 2) := by decide +kernel
theorem dX12_keeps_97 : decode cX12_keeps 97 = .ok (.iadd, 1) := by decide +kernel
theorem dX12_keeps_98 : decode cX12_keeps 98 = .ok (.iload_n 1, 1) := by decide +kernel
theorem dX12_keeps_99 : decode cX12_keeps 99 = .ok (.iastore, 1) := by decide +kernel
theorem dX12_keeps_100 : decode cX12_keeps 100 = .ok (.aload_n 0, 1) := by decide +kernel
theorem dX12_keeps_101 : decode cX12_keeps 101 = .ok (.dup, 1) := by decide +kernel
theorem dX12_keeps_102 : decode cX12_keeps 102 = .ok (.getfield 11, 3) := by decide +kernel
theorem dX12_keeps_105 : decode cX12_keeps 105 = .ok (.iconst 1, 1) := by decide +kernel
theorem dX12_keeps_106 : decode cX12_keeps 106 = .ok (.iadd, 1) := by decide +kernel
theorem dX12_keeps_107 : decode cX12_keeps 107 = .ok (.putfield 11, 3) := by decide +kernel
theorem dX12_keeps_110 : decode cX12_keeps 110 = .ok (.return_, 1) := by decide +kernel
set_option maxRecDepth 20000 in
theorem ggX12_undo_X12_refuses : GoodIn wsX12_undo wsX12_refuses := goodIn_r _ [8, 9, 10, 15, 16, 17, 18, 19, 20, 21, 22, 23, 24, 25, 26, 27, 28, 29, 30, 31, 32, 33, 34, 35, 36, 37, 38, 39, 40, 41, 42, 43, 44, 45, 46, 47, 48, 49, 50, 51, 52, 53, 54, 55, 56, 57, 58, 59, 60, 61, 62] (by decide +kernel) (by decide +kernel)
set_option maxRecDepth 20000 in
theorem gX12_undo_X12_refuses : GoodIn wsX12_undo (wsV RX12 100 RX12 yX12_refuses wsX12_refuses) := goodIn_app (goodIn_of _ (by decide +kernel)) ggX12_undo_X12_refuses
set_option maxRecDepth 20000 in
theorem ggX12_undo_X12_good : GoodIn wsX12_undo wsX12_good := goodIn_r _ [14, 9, 15, 16, 17, 18, 19, 20, 21, 22, 23, 24, 25, 26, 27, 28, 29, 30, 31, 32, 33, 34, 35, 36, 37, 38, 39, 40, 41, 42, 43, 44, 45, 46, 47, 48, 49, 50, 51, 52, 53, 54, 55, 56, 57, 58, 59, 60, 61, 62] (by decide +kernel) (by decide +kernel)
set_option maxRecDepth 20000 in
theorem gX12_undo_X12_good : GoodIn wsX12_undo (wsV RX12 14 RX12 yX12_good wsX12_good) := goodIn_app (goodIn_of _ (by decide +kernel)) ggX12_undo_X12_good
theorem dX12_undo_0 : decode cX12_undo 0 = .ok (.aload_n 0, 1) := by decide +kernel
theorem dX12_undo_1 : decode cX12_undo 1 = .ok (.getfield 11, 3) := by decide +kernel
theorem dX12_undo_4 : decode cX12_undo 4 = .ok (.ifCond .ne 10, 3) := by decide +kernel
theorem dX12_undo_7 : decode cX12_undo 7 = .ok (.aload_n 0, 1) := by decide +kernel
theorem dX12_undo_8 : decode cX12_undo 8 = .ok (.bipush (-3), 2) := by decide +kernel
theorem dX12_undo_10 : decode cX12_undo 10 = .ok (.invokevirtual 100, 3) := by decide +kernel
theorem dX12_undo_13 : decode cX12_undo 13 = .ok (.ireturn, 1) := by decide +kernel
theorem dX12_undo_14 : decode cX12_undo 14 = .ok (.aload_n 0, 1) := by decide +kernel
theorem dX12_undo_15 : decode cX12_undo 15 = .ok (.dup, 1) := by decide +kernel
theorem dX12_undo_16 : decode cX12_undo 16 = .ok (.getfield 11, 3) := by decide +kernel
theorem dX12_undo_19 : decode cX12_undo 19 = .ok (.iconst 1, 1) := by decide +kernel
theorem dX12_undo_20 : decode cX12_undo 20 = .ok (.isub, 1) := by decide +kernel
theorem dX12_undo_21 : decode cX12_undo 21 = .ok (.putfield 11, 3) := by decide +kernel
theorem dX12_undo_24 : decode cX12_undo 24 = .ok (.bipush 24, 2) := by decide +kernel
theorem dX12_undo_26 : decode cX12_undo 26 = .ok (.aload_n 0, 1) := by decide +kernel
theorem dX12_undo_27 : decode cX12_undo 27 = .ok (.getfield 11, 3) := by decide +kernel
theorem dX12_undo_30 : decode cX12_undo 30 = .ok (.imul, 1) := by decide +kernel
theorem dX12_undo_31 : decode cX12_undo 31 = .ok (.istore_n 1, 1) := by decide +kernel
theorem dX12_undo_32 : decode cX12_undo 32 = .ok (.iconst 0, 1) := by decide +kernel
theorem dX12_undo_33 : decode cX12_undo 33 = .ok (.istore_n 2, 1) := by decide +kernel
theorem dX12_undo_34 : decode cX12_undo 34 = .ok (.iload_n 2, 1) := by decide +kernel
theorem dX12_undo_35 : decode cX12_undo 35 = .ok (.bipush 23, 2) := by decide +kernel
theorem dX12_undo_37 : decode cX12_undo 37 = .ok (.if_icmp .ge 23, 3) := by decide +kernel
theorem dX12_undo_40 : decode cX12_undo 40 = .ok (.aload_n 0, 1) := by decide +kernel
theorem dX12_undo_41 : decode cX12_undo 41 = .ok (.getfield 24, 3) := by decide +kernel
theorem dX12_undo_44 : decode cX12_undo 44 = .ok (.iload_n 2, 1) := by decide +kernel
theorem dX12_undo_45 : decode cX12_undo 45 = .ok (.aload_n 0, 1) := by decide +kernel
theorem dX12_undo_46 : decode cX12_undo 46 = .ok (.getfield 68, 3) := by decide +kernel
theorem dX12_undo_49 : decode cX12_undo 49 = .ok (.iload_n 1, 1) := by decide +kernel
theorem dX12_undo_50 : decode cX12_undo 50 = .ok (.iload_n 2, 1) := by decide +kernel
theorem dX12_undo_51 : decode cX12_undo 51 = .ok (.iadd, 1) := by decide +kernel
theorem dX12_undo_52 : decode cX12_undo 52 = .ok (.iaload, 1) := by decide +kernel
theorem dX12_undo_53 : decode cX12_undo 53 = .ok (.iastore, 1) := by decide +kernel
theorem dX12_undo_54 : decode cX12_undo 54 = .ok (.iinc 2 1, 3) := by decide +kernel
theorem dX12_undo_57 : decode cX12_undo 57 = .ok (.goto (-23), 3) := by decide +kernel
theorem dX12_undo_60 : decode cX12_undo 60 = .ok (.aload_n 0, 1) := by decide +kernel
theorem dX12_undo_61 : decode cX12_undo 61 = .ok (.aload_n 0, 1) := by decide +kernel
theorem dX12_undo_62 : decode cX12_undo 62 = .ok (.getfield 68, 3) := by decide +kernel
theorem dX12_undo_65 : decode cX12_undo 65 = .ok (.iload_n 1, 1) := by decide +kernel
theorem dX12_undo_66 : decode cX12_undo 66 = .ok (.bipush 23, 2) := by decide +kernel
theorem dX12_undo_68 : decode cX12_undo 68 = .ok (.iadd, 1) := by decide +kernel
theorem dX12_undo_69 : decode cX12_undo 69 = .ok (.iaload, 1) := by decide +kernel
theorem dX12_undo_70 : decode cX12_undo 70 = .ok (.invokevirtual 14, 3) := by decide +kernel
theorem dX12_undo_73 : decode cX12_undo 73 = .ok (.ireturn, 1) := by decide +kernel
set_option maxRecDepth 20000 in
theorem ggX12_goodOr_X12_refuses : GoodIn wsX12_goodOr wsX12_refuses := goodIn_r _ [5, 6, 7, 12, 13, 14, 15, 16, 17, 18, 19, 20, 21, 22, 23, 24, 25, 26, 27, 28, 29, 30, 31, 32, 33, 34, 35, 36, 37, 38, 39, 40, 41, 42, 43, 44, 45, 46, 47, 48, 49, 50, 51, 52, 53, 54, 55, 56, 57, 58, 59] (by decide +kernel) (by decide +kernel)
set_option maxRecDepth 20000 in
theorem gX12_goodOr_X12_refuses : GoodIn wsX12_goodOr (wsV RX12 100 RX12 yX12_refuses wsX12_refuses) := goodIn_app (goodIn_of _ (by decide +kernel)) ggX12_goodOr_X12_refuses
set_option maxRecDepth 20000 in
theorem ggX12_goodOr_X12_good : GoodIn wsX12_goodOr wsX12_good := goodIn_r _ [11, 6, 12, 13, 14, 15, 16, 17, 18, 19, 20, 21, 22, 23, 24, 25, 26, 27, 28, 29, 30, 31, 32, 33, 34, 35, 36, 37, 38, 39, 40, 41, 42, 43, 44, 45, 46, 47, 48, 49, 50, 51, 52, 53, 54, 55, 56, 57, 58, 59] (by decide +kernel) (by decide +kernel)
set_option maxRecDepth 20000 in
theorem gX12_goodOr_X12_good : GoodIn wsX12_goodOr (wsV RX12 14 RX12 yX12_good wsX12_good) := goodIn_app (goodIn_of _ (by decide +kernel)) ggX12_goodOr_X12_good
theorem dX12_goodOr_0 : decode cX12_goodOr 0 = .ok (.iload_n 1, 1) := by decide +kernel
theorem dX12_goodOr_1 : decode cX12_goodOr 1 = .ok (.ifCond .ge 11, 3) := by decide +kernel
theorem dX12_goodOr_4 : decode cX12_goodOr 4 = .ok (.aload_n 0, 1) := by decide +kernel
theorem dX12_goodOr_5 : decode cX12_goodOr 5 = .ok (.iload_n 1, 1) := by decide +kernel
theorem dX12_goodOr_6 : decode cX12_goodOr 6 = .ok (.invokevirtual 100, 3) := by decide +kernel
theorem dX12_goodOr_9 : decode cX12_goodOr 9 = .ok (.goto 8, 3) := by decide +kernel
theorem dX12_goodOr_12 : decode cX12_goodOr 12 = .ok (.aload_n 0, 1) := by decide +kernel
theorem dX12_goodOr_13 : decode cX12_goodOr 13 = .ok (.iload_n 1, 1) := by decide +kernel
theorem dX12_goodOr_14 : decode cX12_goodOr 14 = .ok (.invokevirtual 14, 3) := by decide +kernel
theorem dX12_goodOr_17 : decode cX12_goodOr 17 = .ok (.ireturn, 1) := by decide +kernel
set_option maxRecDepth 20000 in
theorem ggX12_sendsKept_X12_isBuilder : GoodIn wsX12_sendsKept wsX12_isBuilder := goodIn_r _ [6, 1, 7, 8, 5, 9, 110, 111, 112, 113, 114, 115, 116, 117, 118, 119, 120, 121, 122, 123, 124, 125, 126, 127, 128, 129, 130, 131, 132, 133, 134, 135, 136, 137, 138, 139, 140, 141, 142, 143, 144, 145, 146, 147, 148, 149, 150, 151, 152, 153, 154, 155, 156, 157] (by decide +kernel) (by decide +kernel)
set_option maxRecDepth 20000 in
theorem gX12_sendsKept_X12_isBuilder : GoodIn wsX12_sendsKept (wsV RX12 131 RX12 yX12_isBuilder wsX12_isBuilder) := goodIn_app (goodIn_of _ (by decide +kernel)) ggX12_sendsKept_X12_isBuilder
set_option maxRecDepth 20000 in
theorem ggX12_sendsKept_X12_isPart : GoodIn wsX12_sendsKept wsX12_isPart := goodIn_r _ [13, 1, 7, 8, 5, 9, 110, 111, 112, 113, 114, 115, 116, 117, 118, 119, 120, 121, 122, 123, 124, 125, 126, 127, 128, 129, 130, 131, 132, 133, 134, 135, 136, 137, 138, 139, 140, 141, 142, 143, 144, 145, 146, 147, 148, 149, 150, 151, 152, 153, 154, 155, 156, 157] (by decide +kernel) (by decide +kernel)
set_option maxRecDepth 20000 in
theorem gX12_sendsKept_X12_isPart : GoodIn wsX12_sendsKept (wsV RX12 122 RX12 yX12_isPart wsX12_isPart) := goodIn_app (goodIn_of _ (by decide +kernel)) ggX12_sendsKept_X12_isPart
set_option maxRecDepth 20000 in
theorem ggX12_sendsKept_X12_isReady : GoodIn wsX12_sendsKept wsX12_isReady := goodIn_r _ [17, 1, 18, 19, 20, 5, 21, 22, 23, 24, 25, 110, 111, 112, 113, 114, 115, 116, 117, 118, 119, 120, 121, 122, 123, 124, 125, 126, 127, 128, 129, 130, 131, 132, 133, 134, 135, 136, 137, 138, 139, 140, 141, 142, 143, 144, 145, 146, 147, 148, 149, 150, 151, 152, 153, 154, 155, 156, 157] (by decide +kernel) (by decide +kernel)
set_option maxRecDepth 20000 in
theorem gX12_sendsKept_X12_isReady : GoodIn wsX12_sendsKept (wsV RX12 125 RX12 yX12_isReady wsX12_isReady) := goodIn_app (goodIn_of _ (by decide +kernel)) ggX12_sendsKept_X12_isReady
set_option maxRecDepth 20000 in
theorem ggX12_sendsKept_X12_isBarred : GoodIn wsX12_sendsKept wsX12_isBarred := goodIn_r _ [29, 30, 31, 32, 5, 33, 1, 34, 35, 36, 37, 38, 39, 40, 41, 42, 43, 44, 45, 46, 47, 48, 49, 50, 51, 52, 53, 54, 55, 56, 57, 58, 59, 60, 61, 62, 63, 64, 65, 66, 67, 68, 69, 70, 71, 72, 73, 74, 75, 76, 77, 78, 79, 80, 10, 11, 12, 13, 7, 8, 9, 2, 3, 4, 6, 22, 23, 24, 25, 18, 19, 20, 21, 81, 82, 83, 84, 85, 86, 87, 88, 89, 90, 91, 92, 93, 94, 95, 96, 97, 98, 99, 100, 101, 102, 103, 110, 111, 112, 113, 114, 115, 116, 117, 118, 119, 120, 121, 122, 123, 124, 125, 126, 127, 128, 129, 130, 131, 132, 133, 134, 135, 136, 137, 138, 139, 140, 141, 142, 143, 144, 145, 146, 147, 148, 149, 150, 151, 152, 153, 154, 155, 156, 157] (by decide +kernel) (by decide +kernel)
set_option maxRecDepth 20000 in
theorem gX12_sendsKept_X12_isBarred : GoodIn wsX12_sendsKept (wsV RX12 324 RX12 yX12_isBarred wsX12_isBarred) := goodIn_app (goodIn_of _ (by decide +kernel)) ggX12_sendsKept_X12_isBarred
set_option maxRecDepth 20000 in
theorem ggX12_sendsKept_X12_keeps : GoodIn wsX12_sendsKept wsX12_keeps := goodIn_r _ [107, 108, 109, 1, 110, 111, 112, 113, 114, 115, 116, 117, 118, 119, 120, 121, 122, 123, 124, 125, 126, 127, 128, 129, 130, 131, 132, 133, 134, 135, 136, 137, 138, 139, 140, 141, 142, 143, 144, 145, 146, 147, 148, 149, 150, 151, 152, 153, 154, 155, 156, 157] (by decide +kernel) (by decide +kernel)
set_option maxRecDepth 20000 in
theorem gX12_sendsKept_X12_keeps : GoodIn wsX12_sendsKept (wsV RX12 333 RX12 yX12_keeps wsX12_keeps) := goodIn_app (goodIn_of _ (by decide +kernel)) ggX12_sendsKept_X12_keeps
theorem dX12_sendsKept_0 : decode cX12_sendsKept 0 = .ok (.aload_n 0, 1) := by decide +kernel
theorem dX12_sendsKept_1 : decode cX12_sendsKept 1 = .ok (.iload_n 1, 1) := by decide +kernel
theorem dX12_sendsKept_2 : decode cX12_sendsKept 2 = .ok (.invokevirtual 131, 3) := by decide +kernel
theorem dX12_sendsKept_5 : decode cX12_sendsKept 5 = .ok (.ifCond .eq 11, 3) := by decide +kernel
theorem dX12_sendsKept_8 : decode cX12_sendsKept 8 = .ok (.aload_n 0, 1) := by decide +kernel
theorem dX12_sendsKept_9 : decode cX12_sendsKept 9 = .ok (.iload_n 2, 1) := by decide +kernel
theorem dX12_sendsKept_10 : decode cX12_sendsKept 10 = .ok (.invokevirtual 122, 3) := by decide +kernel
theorem dX12_sendsKept_13 : decode cX12_sendsKept 13 = .ok (.ifCond .ne 6, 3) := by decide +kernel
theorem dX12_sendsKept_16 : decode cX12_sendsKept 16 = .ok (.bipush (-2), 2) := by decide +kernel
theorem dX12_sendsKept_18 : decode cX12_sendsKept 18 = .ok (.ireturn, 1) := by decide +kernel
theorem dX12_sendsKept_19 : decode cX12_sendsKept 19 = .ok (.aload_n 0, 1) := by decide +kernel
theorem dX12_sendsKept_20 : decode cX12_sendsKept 20 = .ok (.iload_n 2, 1) := by decide +kernel
theorem dX12_sendsKept_21 : decode cX12_sendsKept 21 = .ok (.invokevirtual 125, 3) := by decide +kernel
theorem dX12_sendsKept_24 : decode cX12_sendsKept 24 = .ok (.ifCond .eq 12, 3) := by decide +kernel
theorem dX12_sendsKept_27 : decode cX12_sendsKept 27 = .ok (.aload_n 0, 1) := by decide +kernel
theorem dX12_sendsKept_28 : decode cX12_sendsKept 28 = .ok (.iload_n 1, 1) := by decide +kernel
theorem dX12_sendsKept_29 : decode cX12_sendsKept 29 = .ok (.iload_n 2, 1) := by decide +kernel
theorem dX12_sendsKept_30 : decode cX12_sendsKept 30 = .ok (.invokevirtual 324, 3) := by decide +kernel
theorem dX12_sendsKept_33 : decode cX12_sendsKept 33 = .ok (.ifCond .eq 6, 3) := by decide +kernel
theorem dX12_sendsKept_36 : decode cX12_sendsKept 36 = .ok (.bipush (-3), 2) := by decide +kernel
theorem dX12_sendsKept_38 : decode cX12_sendsKept 38 = .ok (.ireturn, 1) := by decide +kernel
theorem dX12_sendsKept_39 : decode cX12_sendsKept 39 = .ok (.aload_n 0, 1) := by decide +kernel
theorem dX12_sendsKept_40 : decode cX12_sendsKept 40 = .ok (.iconst 0, 1) := by decide +kernel
theorem dX12_sendsKept_41 : decode cX12_sendsKept 41 = .ok (.invokevirtual 333, 3) := by decide +kernel
theorem dX12_sendsKept_44 : decode cX12_sendsKept 44 = .ok (.aload_n 0, 1) := by decide +kernel
theorem dX12_sendsKept_45 : decode cX12_sendsKept 45 = .ok (.getfield 24, 3) := by decide +kernel
theorem dX12_sendsKept_48 : decode cX12_sendsKept 48 = .ok (.bipush 16, 2) := by decide +kernel
theorem dX12_sendsKept_50 : decode cX12_sendsKept 50 = .ok (.iload_n 1, 1) := by decide +kernel
theorem dX12_sendsKept_51 : decode cX12_sendsKept 51 = .ok (.iadd, 1) := by decide +kernel
theorem dX12_sendsKept_52 : decode cX12_sendsKept 52 = .ok (.iload_n 2, 1) := by decide +kernel
theorem dX12_sendsKept_53 : decode cX12_sendsKept 53 = .ok (.iastore, 1) := by decide +kernel
theorem dX12_sendsKept_54 : decode cX12_sendsKept 54 = .ok (.aload_n 0, 1) := by decide +kernel
theorem dX12_sendsKept_55 : decode cX12_sendsKept 55 = .ok (.getfield 24, 3) := by decide +kernel
theorem dX12_sendsKept_58 : decode cX12_sendsKept 58 = .ok (.iconst 0, 1) := by decide +kernel
theorem dX12_sendsKept_59 : decode cX12_sendsKept 59 = .ok (.iload_n 2, 1) := by decide +kernel
theorem dX12_sendsKept_60 : decode cX12_sendsKept 60 = .ok (.iadd, 1) := by decide +kernel
theorem dX12_sendsKept_61 : decode cX12_sendsKept 61 = .ok (.iaload, 1) := by decide +kernel
theorem dX12_sendsKept_62 : decode cX12_sendsKept 62 = .ok (.ireturn, 1) := by decide +kernel
set_option maxRecDepth 20000 in
theorem ggX12_restsKept_X12_isBuilder : GoodIn wsX12_restsKept wsX12_isBuilder := goodIn_r _ [6, 1, 7, 8, 5, 9, 16, 17, 18, 19, 20, 21, 22, 23, 24, 25, 26, 27, 28, 29, 30, 31, 32, 33, 34, 35, 36, 37, 38, 39, 40, 41, 42, 43, 44, 45, 46, 47, 48, 49, 50, 51, 52, 53, 54, 55, 56, 57, 58, 59, 60, 61, 62, 63] (by decide +kernel) (by decide +kernel)
set_option maxRecDepth 20000 in
theorem gX12_restsKept_X12_isBuilder : GoodIn wsX12_restsKept (wsV RX12 131 RX12 yX12_isBuilder wsX12_isBuilder) := goodIn_app (goodIn_of _ (by decide +kernel)) ggX12_restsKept_X12_isBuilder
set_option maxRecDepth 20000 in
theorem ggX12_restsKept_X12_keeps : GoodIn wsX12_restsKept wsX12_keeps := goodIn_r _ [13, 14, 15, 1, 16, 17, 18, 19, 20, 21, 22, 23, 24, 25, 26, 27, 28, 29, 30, 31, 32, 33, 34, 35, 36, 37, 38, 39, 40, 41, 42, 43, 44, 45, 46, 47, 48, 49, 50, 51, 52, 53, 54, 55, 56, 57, 58, 59, 60, 61, 62, 63] (by decide +kernel) (by decide +kernel)
set_option maxRecDepth 20000 in
theorem gX12_restsKept_X12_keeps : GoodIn wsX12_restsKept (wsV RX12 333 RX12 yX12_keeps wsX12_keeps) := goodIn_app (goodIn_of _ (by decide +kernel)) ggX12_restsKept_X12_keeps
theorem dX12_restsKept_0 : decode cX12_restsKept 0 = .ok (.aload_n 0, 1) := by decide +kernel
theorem dX12_restsKept_1 : decode cX12_restsKept 1 = .ok (.iload_n 1, 1) := by decide +kernel
theorem dX12_restsKept_2 : decode cX12_restsKept 2 = .ok (.invokevirtual 131, 3) := by decide +kernel
theorem dX12_restsKept_5 : decode cX12_restsKept 5 = .ok (.ifCond .ne 6, 3) := by decide +kernel
theorem dX12_restsKept_8 : decode cX12_restsKept 8 = .ok (.bipush (-2), 2) := by decide +kernel
theorem dX12_restsKept_10 : decode cX12_restsKept 10 = .ok (.ireturn, 1) := by decide +kernel
theorem dX12_restsKept_11 : decode cX12_restsKept 11 = .ok (.aload_n 0, 1) := by decide +kernel
theorem dX12_restsKept_12 : decode cX12_restsKept 12 = .ok (.getfield 24, 3) := by decide +kernel
theorem dX12_restsKept_15 : decode cX12_restsKept 15 = .ok (.bipush 16, 2) := by decide +kernel
theorem dX12_restsKept_17 : decode cX12_restsKept 17 = .ok (.iload_n 1, 1) := by decide +kernel
theorem dX12_restsKept_18 : decode cX12_restsKept 18 = .ok (.iadd, 1) := by decide +kernel
theorem dX12_restsKept_19 : decode cX12_restsKept 19 = .ok (.iaload, 1) := by decide +kernel
theorem dX12_restsKept_20 : decode cX12_restsKept 20 = .ok (.istore_n 2, 1) := by decide +kernel
theorem dX12_restsKept_21 : decode cX12_restsKept 21 = .ok (.iload_n 2, 1) := by decide +kernel
theorem dX12_restsKept_22 : decode cX12_restsKept 22 = .ok (.iconst (-1), 1) := by decide +kernel
theorem dX12_restsKept_23 : decode cX12_restsKept 23 = .ok (.if_icmp .ne 6, 3) := by decide +kernel
theorem dX12_restsKept_26 : decode cX12_restsKept 26 = .ok (.bipush (-3), 2) := by decide +kernel
theorem dX12_restsKept_28 : decode cX12_restsKept 28 = .ok (.ireturn, 1) := by decide +kernel
theorem dX12_restsKept_29 : decode cX12_restsKept 29 = .ok (.aload_n 0, 1) := by decide +kernel
theorem dX12_restsKept_30 : decode cX12_restsKept 30 = .ok (.iconst 1, 1) := by decide +kernel
theorem dX12_restsKept_31 : decode cX12_restsKept 31 = .ok (.invokevirtual 333, 3) := by decide +kernel
theorem dX12_restsKept_34 : decode cX12_restsKept 34 = .ok (.aload_n 0, 1) := by decide +kernel
theorem dX12_restsKept_35 : decode cX12_restsKept 35 = .ok (.getfield 24, 3) := by decide +kernel
theorem dX12_restsKept_38 : decode cX12_restsKept 38 = .ok (.bipush 16, 2) := by decide +kernel
theorem dX12_restsKept_40 : decode cX12_restsKept 40 = .ok (.iload_n 1, 1) := by decide +kernel
theorem dX12_restsKept_41 : decode cX12_restsKept 41 = .ok (.iadd, 1) := by decide +kernel
theorem dX12_restsKept_42 : decode cX12_restsKept 42 = .ok (.iconst (-1), 1) := by decide +kernel
theorem dX12_restsKept_43 : decode cX12_restsKept 43 = .ok (.iastore, 1) := by decide +kernel
theorem dX12_restsKept_44 : decode cX12_restsKept 44 = .ok (.iload_n 2, 1) := by decide +kernel
theorem dX12_restsKept_45 : decode cX12_restsKept 45 = .ok (.ireturn, 1) := by decide +kernel
set_option maxRecDepth 20000 in
theorem ggX12_isTouched_X12_others : GoodIn wsX12_isTouched wsX12_others := goodIn_r _ [6, 1, 7, 8, 9, 10, 11, 12, 13, 14, 15, 16, 17, 18, 19, 20, 21, 22, 23, 24, 25, 26, 27, 28, 29, 30, 31, 32, 33, 34, 35, 36, 37, 38, 39, 40, 41, 42, 43, 44, 45, 46, 47, 48, 49, 50, 51, 52, 53, 54] (by decide +kernel) (by decide +kernel)
set_option maxRecDepth 20000 in
theorem gX12_isTouched_X12_others : GoodIn wsX12_isTouched (wsV RX12 308 RX12 yX12_others wsX12_others) := goodIn_app (goodIn_of _ (by decide +kernel)) ggX12_isTouched_X12_others
theorem dX12_isTouched_0 : decode cX12_isTouched 0 = .ok (.aload_n 0, 1) := by decide +kernel
theorem dX12_isTouched_1 : decode cX12_isTouched 1 = .ok (.getfield 24, 3) := by decide +kernel
theorem dX12_isTouched_4 : decode cX12_isTouched 4 = .ok (.iconst 0, 1) := by decide +kernel
theorem dX12_isTouched_5 : decode cX12_isTouched 5 = .ok (.iload_n 1, 1) := by decide +kernel
theorem dX12_isTouched_6 : decode cX12_isTouched 6 = .ok (.iadd, 1) := by decide +kernel
theorem dX12_isTouched_7 : decode cX12_isTouched 7 = .ok (.iaload, 1) := by decide +kernel
theorem dX12_isTouched_8 : decode cX12_isTouched 8 = .ok (.aload_n 0, 1) := by decide +kernel
theorem dX12_isTouched_9 : decode cX12_isTouched 9 = .ok (.getfield 24, 3) := by decide +kernel
theorem dX12_isTouched_12 : decode cX12_isTouched 12 = .ok (.bipush 23, 2) := by decide +kernel
theorem dX12_isTouched_14 : decode cX12_isTouched 14 = .ok (.iload_n 1, 1) := by decide +kernel
theorem dX12_isTouched_15 : decode cX12_isTouched 15 = .ok (.iadd, 1) := by decide +kernel
theorem dX12_isTouched_16 : decode cX12_isTouched 16 = .ok (.iaload, 1) := by decide +kernel
theorem dX12_isTouched_17 : decode cX12_isTouched 17 = .ok (.if_icmp .lt 12, 3) := by decide +kernel
theorem dX12_isTouched_20 : decode cX12_isTouched 20 = .ok (.aload_n 0, 1) := by decide +kernel
theorem dX12_isTouched_21 : decode cX12_isTouched 21 = .ok (.iconst (-1), 1) := by decide +kernel
theorem dX12_isTouched_22 : decode cX12_isTouched 22 = .ok (.iload_n 1, 1) := by decide +kernel
theorem dX12_isTouched_23 : decode cX12_isTouched 23 = .ok (.invokevirtual 308, 3) := by decide +kernel
theorem dX12_isTouched_26 : decode cX12_isTouched 26 = .ok (.ifCond .le 7, 3) := by decide +kernel
theorem dX12_isTouched_29 : decode cX12_isTouched 29 = .ok (.iconst 1, 1) := by decide +kernel
theorem dX12_isTouched_30 : decode cX12_isTouched 30 = .ok (.goto 4, 3) := by decide +kernel
theorem dX12_isTouched_33 : decode cX12_isTouched 33 = .ok (.iconst 0, 1) := by decide +kernel
theorem dX12_isTouched_34 : decode cX12_isTouched 34 = .ok (.ireturn, 1) := by decide +kernel
set_option maxRecDepth 20000 in
theorem ggX12_canThrow_X12_stands0 : GoodIn wsX12_canThrow wsX12_stands0 := goodIn_r _ [6, 1, 18, 19, 20, 21, 22, 23, 24, 25, 26, 27, 28, 29, 30, 31, 32, 33, 34, 35, 36, 37, 38, 39, 40, 41, 42, 43, 44, 45, 46, 47, 48, 49, 50, 51, 52, 53, 54, 55, 56, 57, 58, 59, 60, 61, 62, 63, 64, 65] (by decide +kernel) (by decide +kernel)
set_option maxRecDepth 20000 in
theorem gX12_canThrow_X12_stands0 : GoodIn wsX12_canThrow (wsV RX12 114 RX12 yX12_stands0 wsX12_stands0) := goodIn_app (goodIn_of _ (by decide +kernel)) ggX12_canThrow_X12_stands0
set_option maxRecDepth 20000 in
theorem ggX12_canThrow_X12_isIn : GoodIn wsX12_canThrow wsX12_isIn := goodIn_r _ [9] (by decide +kernel) (by decide +kernel)
set_option maxRecDepth 20000 in
theorem gX12_canThrow_X12_isIn : GoodIn wsX12_canThrow (va_wsS RX12 302 yX12_isIn wsX12_isIn) := goodIn_app (goodIn_of _ (by decide +kernel)) ggX12_canThrow_X12_isIn
set_option maxRecDepth 20000 in
theorem ggX12_canThrow_X12_isTouched : GoodIn wsX12_canThrow wsX12_isTouched := goodIn_r _ [13, 1, 14, 15, 16, 5, 17, 18, 19, 20, 21, 22, 23, 24, 25, 26, 27, 28, 29, 30, 31, 32, 33, 34, 35, 36, 37, 38, 39, 40, 41, 42, 43, 44, 45, 46, 47, 48, 49, 50, 51, 52, 53, 54, 55, 56, 57, 58, 59, 60, 61, 62, 63, 64, 65] (by decide +kernel) (by decide +kernel)
set_option maxRecDepth 20000 in
theorem gX12_canThrow_X12_isTouched : GoodIn wsX12_canThrow (wsV RX12 336 RX12 yX12_isTouched wsX12_isTouched) := goodIn_app (goodIn_of _ (by decide +kernel)) ggX12_canThrow_X12_isTouched
theorem dX12_canThrow_0 : decode cX12_canThrow 0 = .ok (.aload_n 0, 1) := by decide +kernel
theorem dX12_canThrow_1 : decode cX12_canThrow 1 = .ok (.iload_n 1, 1) := by decide +kernel
theorem dX12_canThrow_2 : decode cX12_canThrow 2 = .ok (.invokevirtual 114, 3) := by decide +kernel
theorem dX12_canThrow_5 : decode cX12_canThrow 5 = .ok (.istore_n 2, 1) := by decide +kernel
theorem dX12_canThrow_6 : decode cX12_canThrow 6 = .ok (.iconst 0, 1) := by decide +kernel
theorem dX12_canThrow_7 : decode cX12_canThrow 7 = .ok (.istore_n 3, 1) := by decide +kernel
theorem dX12_canThrow_8 : decode cX12_canThrow 8 = .ok (.iload_n 3, 1) := by decide +kernel
theorem dX12_canThrow_9 : decode cX12_canThrow 9 = .ok (.aload_n 0, 1) := by decide +kernel
theorem dX12_canThrow_10 : decode cX12_canThrow 10 = .ok (.getfield 24, 3) := by decide +kernel
theorem dX12_canThrow_13 : decode cX12_canThrow 13 = .ok (.bipush 102, 2) := by decide +kernel
theorem dX12_canThrow_15 : decode cX12_canThrow 15 = .ok (.iaload, 1) := by decide +kernel
theorem dX12_canThrow_16 : decode cX12_canThrow 16 = .ok (.if_icmp .ge 43, 3) := by decide +kernel
theorem dX12_canThrow_19 : decode cX12_canThrow 19 = .ok (.iload_n 2, 1) := by decide +kernel
theorem dX12_canThrow_20 : decode cX12_canThrow 20 = .ok (.ifCond .eq 31, 3) := by decide +kernel
theorem dX12_canThrow_23 : decode cX12_canThrow 23 = .ok (.aload_n 0, 1) := by decide +kernel
theorem dX12_canThrow_24 : decode cX12_canThrow 24 = .ok (.getfield 24, 3) := by decide +kernel
theorem dX12_canThrow_27 : decode cX12_canThrow 27 = .ok (.bipush 33, 2) := by decide +kernel
theorem dX12_canThrow_29 : decode cX12_canThrow 29 = .ok (.iload_n 3, 1) := by decide +kernel
theorem dX12_canThrow_30 : decode cX12_canThrow 30 = .ok (.iadd, 1) := by decide +kernel
theorem dX12_canThrow_31 : decode cX12_canThrow 31 = .ok (.iaload, 1) := by decide +kernel
theorem dX12_canThrow_32 : decode cX12_canThrow 32 = .ok (.iload_n 1, 1) := by decide +kernel
theorem dX12_canThrow_33 : decode cX12_canThrow 33 = .ok (.invokestatic 302, 3) := by decide +kernel
theorem dX12_canThrow_36 : decode cX12_canThrow 36 = .ok (.ifCond .eq 11, 3) := by decide +kernel
theorem dX12_canThrow_39 : decode cX12_canThrow 39 = .ok (.aload_n 0, 1) := by decide +kernel
theorem dX12_canThrow_40 : decode cX12_canThrow 40 = .ok (.iload_n 3, 1) := by decide +kernel
theorem dX12_canThrow_41 : decode cX12_canThrow 41 = .ok (.invokevirtual 336, 3) := by decide +kernel
theorem dX12_canThrow_44 : decode cX12_canThrow 44 = .ok (.ifCond .ne 7, 3) := by decide +kernel
theorem dX12_canThrow_47 : decode cX12_canThrow 47 = .ok (.iconst 1, 1) := by decide +kernel
theorem dX12_canThrow_48 : decode cX12_canThrow 48 = .ok (.goto 4, 3) := by decide +kernel
theorem dX12_canThrow_51 : decode cX12_canThrow 51 = .ok (.iconst 0, 1) := by decide +kernel
theorem dX12_canThrow_52 : decode cX12_canThrow 52 = .ok (.istore_n 2, 1) := by decide +kernel
theorem dX12_canThrow_53 : decode cX12_canThrow 53 = .ok (.iinc 3 1, 3) := by decide +kernel
theorem dX12_canThrow_56 : decode cX12_canThrow 56 = .ok (.goto (-48), 3) := by decide +kernel
theorem dX12_canThrow_59 : decode cX12_canThrow 59 = .ok (.iload_n 2, 1) := by decide +kernel
theorem dX12_canThrow_60 : decode cX12_canThrow 60 = .ok (.ireturn, 1) := by decide +kernel
set_option maxRecDepth 20000 in
theorem ggX12_throwsKept_X12_isPart : GoodIn wsX12_throwsKept wsX12_isPart := goodIn_r _ [6, 1, 7, 8, 5, 9, 35, 36, 37, 38, 39, 40, 41, 42, 43, 44, 45, 46, 47, 48, 49, 50, 51, 52, 53, 54, 55, 56, 57, 58, 59, 60, 61, 62, 63, 64, 65, 66, 67, 68, 69, 70, 71, 72, 73, 74, 75, 76, 77, 78, 79, 80, 81, 82] (by decide +kernel) (by decide +kernel)
set_option maxRecDepth 20000 in
theorem gX12_throwsKept_X12_isPart : GoodIn wsX12_throwsKept (wsV RX12 122 RX12 yX12_isPart wsX12_isPart) := goodIn_app (goodIn_of _ (by decide +kernel)) ggX12_throwsKept_X12_isPart
set_option maxRecDepth 20000 in
theorem ggX12_throwsKept_X12_canThrow : GoodIn wsX12_throwsKept wsX12_canThrow := goodIn_r _ [13, 1, 14, 15, 16, 5, 17, 18, 19, 20, 21, 22, 23, 24, 25, 26, 27, 28, 35, 36, 37, 38, 39, 40, 41, 42, 43, 44, 45, 46, 47, 48, 49, 50, 51, 52, 53, 54, 55, 56, 57, 58, 59, 60, 61, 62, 63, 64, 65, 66, 67, 68, 69, 70, 71, 72, 73, 74, 75, 76, 77, 78, 79, 80, 81, 82] (by decide +kernel) (by decide +kernel)
set_option maxRecDepth 20000 in
theorem gX12_throwsKept_X12_canThrow : GoodIn wsX12_throwsKept (wsV RX12 339 RX12 yX12_canThrow wsX12_canThrow) := goodIn_app (goodIn_of _ (by decide +kernel)) ggX12_throwsKept_X12_canThrow
set_option maxRecDepth 20000 in
theorem ggX12_throwsKept_X12_keeps : GoodIn wsX12_throwsKept wsX12_keeps := goodIn_r _ [32, 33, 34, 1, 35, 36, 37, 38, 39, 40, 41, 42, 43, 44, 45, 46, 47, 48, 49, 50, 51, 52, 53, 54, 55, 56, 57, 58, 59, 60, 61, 62, 63, 64, 65, 66, 67, 68, 69, 70, 71, 72, 73, 74, 75, 76, 77, 78, 79, 80, 81, 82] (by decide +kernel) (by decide +kernel)
set_option maxRecDepth 20000 in
theorem gX12_throwsKept_X12_keeps : GoodIn wsX12_throwsKept (wsV RX12 333 RX12 yX12_keeps wsX12_keeps) := goodIn_app (goodIn_of _ (by decide +kernel)) ggX12_throwsKept_X12_keeps
theorem dX12_throwsKept_0 : decode cX12_throwsKept 0 = .ok (.aload_n 0, 1) := by decide +kernel
theorem dX12_throwsKept_1 : decode cX12_throwsKept 1 = .ok (.iload_n 1, 1) := by decide +kernel
theorem dX12_throwsKept_2 : decode cX12_throwsKept 2 = .ok (.invokevirtual 122, 3) := by decide +kernel
theorem dX12_throwsKept_5 : decode cX12_throwsKept 5 = .ok (.ifCond .ne 6, 3) := by decide +kernel
theorem dX12_throwsKept_8 : decode cX12_throwsKept 8 = .ok (.bipush (-2), 2) := by decide +kernel
theorem dX12_throwsKept_10 : decode cX12_throwsKept 10 = .ok (.ireturn, 1) := by decide +kernel
theorem dX12_throwsKept_11 : decode cX12_throwsKept 11 = .ok (.aload_n 0, 1) := by decide +kernel
theorem dX12_throwsKept_12 : decode cX12_throwsKept 12 = .ok (.iload_n 1, 1) := by decide +kernel
theorem dX12_throwsKept_13 : decode cX12_throwsKept 13 = .ok (.invokevirtual 339, 3) := by decide +kernel
theorem dX12_throwsKept_16 : decode cX12_throwsKept 16 = .ok (.ifCond .ne 6, 3) := by decide +kernel
theorem dX12_throwsKept_19 : decode cX12_throwsKept 19 = .ok (.bipush (-3), 2) := by decide +kernel
theorem dX12_throwsKept_21 : decode cX12_throwsKept 21 = .ok (.ireturn, 1) := by decide +kernel
theorem dX12_throwsKept_22 : decode cX12_throwsKept 22 = .ok (.aload_n 0, 1) := by decide +kernel
theorem dX12_throwsKept_23 : decode cX12_throwsKept 23 = .ok (.iconst 2, 1) := by decide +kernel
theorem dX12_throwsKept_24 : decode cX12_throwsKept 24 = .ok (.invokevirtual 333, 3) := by decide +kernel
theorem dX12_throwsKept_27 : decode cX12_throwsKept 27 = .ok (.aload_n 0, 1) := by decide +kernel
theorem dX12_throwsKept_28 : decode cX12_throwsKept 28 = .ok (.getfield 24, 3) := by decide +kernel
theorem dX12_throwsKept_31 : decode cX12_throwsKept 31 = .ok (.iconst 0, 1) := by decide +kernel
theorem dX12_throwsKept_32 : decode cX12_throwsKept 32 = .ok (.iload_n 1, 1) := by decide +kernel
theorem dX12_throwsKept_33 : decode cX12_throwsKept 33 = .ok (.iadd, 1) := by decide +kernel
theorem dX12_throwsKept_34 : decode cX12_throwsKept 34 = .ok (.aload_n 0, 1) := by decide +kernel
theorem dX12_throwsKept_35 : decode cX12_throwsKept 35 = .ok (.getfield 24, 3) := by decide +kernel
theorem dX12_throwsKept_38 : decode cX12_throwsKept 38 = .ok (.bipush 23, 2) := by decide +kernel
theorem dX12_throwsKept_40 : decode cX12_throwsKept 40 = .ok (.iload_n 1, 1) := by decide +kernel
theorem dX12_throwsKept_41 : decode cX12_throwsKept 41 = .ok (.iadd, 1) := by decide +kernel
theorem dX12_throwsKept_42 : decode cX12_throwsKept 42 = .ok (.iaload, 1) := by decide +kernel
theorem dX12_throwsKept_43 : decode cX12_throwsKept 43 = .ok (.iastore, 1) := by decide +kernel
theorem dX12_throwsKept_44 : decode cX12_throwsKept 44 = .ok (.aload_n 0, 1) := by decide +kernel
theorem dX12_throwsKept_45 : decode cX12_throwsKept 45 = .ok (.getfield 24, 3) := by decide +kernel
theorem dX12_throwsKept_48 : decode cX12_throwsKept 48 = .ok (.bipush 23, 2) := by decide +kernel
theorem dX12_throwsKept_50 : decode cX12_throwsKept 50 = .ok (.iload_n 1, 1) := by decide +kernel
theorem dX12_throwsKept_51 : decode cX12_throwsKept 51 = .ok (.iadd, 1) := by decide +kernel
theorem dX12_throwsKept_52 : decode cX12_throwsKept 52 = .ok (.iaload, 1) := by decide +kernel
theorem dX12_throwsKept_53 : decode cX12_throwsKept 53 = .ok (.ireturn, 1) := by decide +kernel
set_option maxRecDepth 20000 in
theorem ggX12_ticksKept_X12_keeps : GoodIn wsX12_ticksKept wsX12_keeps := goodIn_r _ [6, 7, 8, 1, 126, 127, 128, 129, 130, 131, 132, 133, 134, 135, 136, 137, 138, 139, 140, 141, 142, 143, 144, 145, 146, 147, 148, 149, 150, 151, 152, 153, 154, 155, 156, 157, 158, 159, 160, 161, 162, 163, 164, 165, 166, 167, 168, 169, 170, 171, 172, 173] (by decide +kernel) (by decide +kernel)
set_option maxRecDepth 20000 in
theorem gX12_ticksKept_X12_keeps : GoodIn wsX12_ticksKept (wsV RX12 333 RX12 yX12_keeps wsX12_keeps) := goodIn_app (goodIn_of _ (by decide +kernel)) ggX12_ticksKept_X12_keeps
set_option maxRecDepth 20000 in
theorem ggX12_ticksKept_X12_allBuilders : GoodIn wsX12_ticksKept wsX12_allBuilders := goodIn_r _ [12, 1, 126, 127, 128, 129, 130, 131, 132, 133, 134, 135, 136, 137, 138, 139, 140, 141, 142, 143, 144, 145, 146, 147, 148, 149, 150, 151, 152, 153, 154, 155, 156, 157, 158, 159, 160, 161, 162, 163, 164, 165, 166, 167, 168, 169, 170, 171, 172, 173] (by decide +kernel) (by decide +kernel)
set_option maxRecDepth 20000 in
theorem gX12_ticksKept_X12_allBuilders : GoodIn wsX12_ticksKept (wsV RX12 342 RX12 yX12_allBuilders wsX12_allBuilders) := goodIn_app (goodIn_of _ (by decide +kernel)) ggX12_ticksKept_X12_allBuilders
set_option maxRecDepth 20000 in
theorem ggX12_ticksKept_X12_ticks : GoodIn wsX12_ticksKept wsX12_ticks := goodIn_r _ [16, 1, 17, 18, 19, 20, 21, 5, 22, 23, 24, 25, 26, 27, 28, 29, 30, 31, 32, 33, 34, 35, 36, 37, 38, 39, 40, 41, 42, 43, 44, 45, 46, 47, 48, 49, 50, 51, 52, 53, 54, 55, 56, 57, 58, 59, 60, 61, 62, 63, 64, 65, 66, 67, 68, 69, 70, 71, 72, 73, 74, 75, 76, 77, 78, 79, 80, 81, 82, 83, 84, 85, 86, 87, 88, 89, 90, 91, 92, 93, 94, 95, 96, 97, 98, 99, 100, 101, 102, 103, 104, 105, 106, 107, 108, 109, 110, 111, 112, 113, 114, 115, 116, 117, 118, 119, 120, 121, 122, 123, 124, 125, 126, 127, 128, 129, 130, 131, 132, 133, 134, 135, 136, 137, 138, 139, 140, 141, 142, 143, 144, 145, 146, 147, 148, 149, 150, 151, 152, 153, 154, 155, 156, 157, 158, 159, 160, 161, 162, 163, 164, 165, 166, 167, 168, 169, 170, 171, 172, 173] (by decide +kernel) (by decide +kernel)
set_option maxRecDepth 20000 in
theorem gX12_ticksKept_X12_ticks : GoodIn wsX12_ticksKept (wsV RX12 345 RX12 yX12_ticks wsX12_ticks) := goodIn_app (goodIn_of _ (by decide +kernel)) ggX12_ticksKept_X12_ticks
theorem dX12_ticksKept_0 : decode cX12_ticksKept 0 = .ok (.aload_n 0, 1) := by decide +kernel
theorem dX12_ticksKept_1 : decode cX12_ticksKept 1 = .ok (.getfield 24, 3) := by decide +kernel
theorem dX12_ticksKept_4 : decode cX12_ticksKept 4 = .ok (.bipush 22, 2) := by decide +kernel
theorem dX12_ticksKept_6 : decode cX12_ticksKept 6 = .ok (.iaload, 1) := by decide +kernel
theorem dX12_ticksKept_7 : decode cX12_ticksKept 7 = .ok (.sipush 999, 3) := by decide +kernel
theorem dX12_ticksKept_10 : decode cX12_ticksKept 10 = .ok (.if_icmp .ne 6, 3) := by decide +kernel
theorem dX12_ticksKept_13 : decode cX12_ticksKept 13 = .ok (.bipush (-3), 2) := by decide +kernel
theorem dX12_ticksKept_15 : decode cX12_ticksKept 15 = .ok (.ireturn, 1) := by decide +kernel
theorem dX12_ticksKept_16 : decode cX12_ticksKept 16 = .ok (.aload_n 0, 1) := by decide +kernel
theorem dX12_ticksKept_17 : decode cX12_ticksKept 17 = .ok (.iconst 3, 1) := by decide +kernel
theorem dX12_ticksKept_18 : decode cX12_ticksKept 18 = .ok (.invokevirtual 333, 3) := by decide +kernel
theorem dX12_ticksKept_21 : decode cX12_ticksKept 21 = .ok (.aload_n 0, 1) := by decide +kernel
theorem dX12_ticksKept_22 : decode cX12_ticksKept 22 = .ok (.aload_n 0, 1) := by decide +kernel
theorem dX12_ticksKept_23 : decode cX12_ticksKept 23 = .ok (.invokevirtual 342, 3) := by decide +kernel
theorem dX12_ticksKept_26 : decode cX12_ticksKept 26 = .ok (.invokevirtual 345, 3) := by decide +kernel
theorem dX12_ticksKept_29 : decode cX12_ticksKept 29 = .ok (.ireturn, 1) := by decide +kernel
theorem dX12_allBuilders_0 : decode cX12_allBuilders 0 = .ok (.iconst 1, 1) := by decide +kernel
theorem dX12_allBuilders_1 : decode cX12_allBuilders 1 = .ok (.aload_n 0, 1) := by decide +kernel
theorem dX12_allBuilders_2 : decode cX12_allBuilders 2 = .ok (.getfield 24, 3) := by decide +kernel
theorem dX12_allBuilders_5 : decode cX12_allBuilders 5 = .ok (.bipush 103, 2) := by decide +kernel
theorem dX12_allBuilders_7 : decode cX12_allBuilders 7 = .ok (.iaload, 1) := by decide +kernel
theorem dX12_allBuilders_8 : decode cX12_allBuilders 8 = .ok (.ishl, 1) := by decide +kernel
theorem dX12_allBuilders_9 : decode cX12_allBuilders 9 = .ok (.iconst 1, 1) := by decide +kernel
theorem dX12_allBuilders_10 : decode cX12_allBuilders 10 = .ok (.isub, 1) := by decide +kernel
theorem dX12_allBuilders_11 : decode cX12_allBuilders 11 = .ok (.ireturn, 1) := by decide +kernel
set_option maxRecDepth 20000 in
theorem ggX12_send_X12_sendsKept : GoodIn wsX12_send wsX12_sendsKept := goodIn_r _ [5, 6, 7, 8, 9, 4, 10, 11, 12, 13, 14, 15, 16, 17, 18, 19, 20, 21, 22, 23, 24, 25, 26, 27, 28, 29, 30, 31, 32, 33, 34, 35, 36, 37, 38, 39, 40, 41, 42, 43, 44, 45, 46, 47, 48, 49, 50, 51, 52, 53, 54, 55, 56, 57, 58, 59, 60, 61, 62, 63, 64, 65, 66, 67, 68, 69, 70, 71, 72, 73, 74, 75, 76, 77, 78, 79, 80, 81, 82, 83, 84, 85, 86, 87, 88, 89, 90, 91, 92, 93, 94, 95, 96, 97, 98, 99, 100, 101, 102, 103, 104, 105, 106, 107, 108, 109, 110, 111, 112, 113, 128, 129, 130, 131, 132, 133, 134, 135, 136, 137, 138, 139, 140, 141, 142, 143, 144, 145, 146, 147, 148, 149, 150, 151, 152, 153, 154, 155, 156, 157, 158, 159, 160, 161, 162, 163, 164, 165, 166, 167, 168, 169, 170, 171, 172, 173, 174, 175] (by decide +kernel) (by decide +kernel)
set_option maxRecDepth 20000 in
theorem gX12_send_X12_sendsKept : GoodIn wsX12_send (wsV RX12 348 RX12 yX12_sendsKept wsX12_sendsKept) := goodIn_app (goodIn_of _ (by decide +kernel)) ggX12_send_X12_sendsKept
set_option maxRecDepth 20000 in
theorem ggX12_send_X12_goodOr : GoodIn wsX12_send wsX12_goodOr := goodIn_r _ [117, 118, 119, 120, 4, 121, 122, 123, 124, 125, 126, 127, 128, 129, 130, 131, 132, 133, 134, 135, 136, 137, 138, 139, 140, 141, 142, 143, 144, 145, 146, 147, 148, 149, 150, 151, 152, 153, 154, 155, 156, 157, 158, 159, 160, 161, 162, 163, 164, 165, 166, 167, 168, 169, 170, 171, 172, 173, 174, 175] (by decide +kernel) (by decide +kernel)
set_option maxRecDepth 20000 in
theorem gX12_send_X12_goodOr : GoodIn wsX12_send (wsV RX12 351 RX12 yX12_goodOr wsX12_goodOr) := goodIn_app (goodIn_of _ (by decide +kernel)) ggX12_send_X12_goodOr
theorem dX12_send_0 : decode cX12_send 0 = .ok (.aload_n 0, 1) := by decide +kernel
theorem dX12_send_1 : decode cX12_send 1 = .ok (.aload_n 0, 1) := by decide +kernel
theorem dX12_send_2 : decode cX12_send 2 = .ok (.iload_n 1, 1) := by decide +kernel
theorem dX12_send_3 : decode cX12_send 3 = .ok (.iload_n 2, 1) := by decide +kernel
theorem dX12_send_4 : decode cX12_send 4 = .ok (.invokevirtual 348, 3) := by decide +kernel
theorem dX12_send_7 : decode cX12_send 7 = .ok (.invokevirtual 351, 3) := by decide +kernel
theorem dX12_send_10 : decode cX12_send 10 = .ok (.ireturn, 1) := by decide +kernel
set_option maxRecDepth 20000 in
theorem ggX12_rest_X12_restsKept : GoodIn wsX12_rest wsX12_restsKept := goodIn_r _ [5, 6, 7, 8, 9, 4, 10, 11, 12, 13, 14, 15, 16, 17, 18, 19, 34, 35, 36, 37, 38, 39, 40, 41, 42, 43, 44, 45, 46, 47, 48, 49, 50, 51, 52, 53, 54, 55, 56, 57, 58, 59, 60, 61, 62, 63, 64, 65, 66, 67, 68, 69, 70, 71, 72, 73, 74, 75, 76, 77, 78, 79, 80, 81] (by decide +kernel) (by decide +kernel)
set_option maxRecDepth 20000 in
theorem gX12_rest_X12_restsKept : GoodIn wsX12_rest (wsV RX12 354 RX12 yX12_restsKept wsX12_restsKept) := goodIn_app (goodIn_of _ (by decide +kernel)) ggX12_rest_X12_restsKept
set_option maxRecDepth 20000 in
theorem ggX12_rest_X12_goodOr : GoodIn wsX12_rest wsX12_goodOr := goodIn_r _ [23, 24, 25, 26, 4, 27, 28, 29, 30, 31, 32, 33, 34, 35, 36, 37, 38, 39, 40, 41, 42, 43, 44, 45, 46, 47, 48, 49, 50, 51, 52, 53, 54, 55, 56, 57, 58, 59, 60, 61, 62, 63, 64, 65, 66, 67, 68, 69, 70, 71, 72, 73, 74, 75, 76, 77, 78, 79, 80, 81] (by decide +kernel) (by decide +kernel)
set_option maxRecDepth 20000 in
theorem gX12_rest_X12_goodOr : GoodIn wsX12_rest (wsV RX12 351 RX12 yX12_goodOr wsX12_goodOr) := goodIn_app (goodIn_of _ (by decide +kernel)) ggX12_rest_X12_goodOr
theorem dX12_rest_0 : decode cX12_rest 0 = .ok (.aload_n 0, 1) := by decide +kernel
theorem dX12_rest_1 : decode cX12_rest 1 = .ok (.aload_n 0, 1) := by decide +kernel
theorem dX12_rest_2 : decode cX12_rest 2 = .ok (.iload_n 1, 1) := by decide +kernel
theorem dX12_rest_3 : decode cX12_rest 3 = .ok (.invokevirtual 354, 3) := by decide +kernel
theorem dX12_rest_6 : decode cX12_rest 6 = .ok (.invokevirtual 351, 3) := by decide +kernel
theorem dX12_rest_9 : decode cX12_rest 9 = .ok (.ireturn, 1) := by decide +kernel
set_option maxRecDepth 20000 in
theorem ggX12_throwDown_X12_throwsKept : GoodIn wsX12_throwDown wsX12_throwsKept := goodIn_r _ [5, 6, 7, 8, 9, 4, 10, 11, 12, 13, 14, 15, 16, 17, 18, 19, 20, 21, 22, 23, 24, 25, 26, 27, 28, 29, 30, 31, 32, 33, 34, 35, 36, 37, 38, 53, 54, 55, 56, 57, 58, 59, 60, 61, 62, 63, 64, 65, 66, 67, 68, 69, 70, 71, 72, 73, 74, 75, 76, 77, 78, 79, 80, 81, 82, 83, 84, 85, 86, 87, 88, 89, 90, 91, 92, 93, 94, 95, 96, 97, 98, 99, 100] (by decide +kernel) (by decide +kernel)
set_option maxRecDepth 20000 in
theorem gX12_throwDown_X12_throwsKept : GoodIn wsX12_throwDown (wsV RX12 357 RX12 yX12_throwsKept wsX12_throwsKept) := goodIn_app (goodIn_of _ (by decide +kernel)) ggX12_throwDown_X12_throwsKept
set_option maxRecDepth 20000 in
theorem ggX12_throwDown_X12_goodOr : GoodIn wsX12_throwDown wsX12_goodOr := goodIn_r _ [42, 43, 44, 45, 4, 46, 47, 48, 49, 50, 51, 52, 53, 54, 55, 56, 57, 58, 59, 60, 61, 62, 63, 64, 65, 66, 67, 68, 69, 70, 71, 72, 73, 74, 75, 76, 77, 78, 79, 80, 81, 82, 83, 84, 85, 86, 87, 88, 89, 90, 91, 92, 93, 94, 95, 96, 97, 98, 99, 100] (by decide +kernel) (by decide +kernel)
set_option maxRecDepth 20000 in
theorem gX12_throwDown_X12_goodOr : GoodIn wsX12_throwDown (wsV RX12 351 RX12 yX12_goodOr wsX12_goodOr) := goodIn_app (goodIn_of _ (by decide +kernel)) ggX12_throwDown_X12_goodOr
theorem dX12_throwDown_0 : decode cX12_throwDown 0 = .ok (.aload_n 0, 1) := by decide +kernel
theorem dX12_throwDown_1 : decode cX12_throwDown 1 = .ok (.aload_n 0, 1) := by decide +kernel
theorem dX12_throwDown_2 : decode cX12_throwDown 2 = .ok (.iload_n 1, 1) := by decide +kernel
theorem dX12_throwDown_3 : decode cX12_throwDown 3 = .ok (.invokevirtual 357, 3) := by decide +kernel
theorem dX12_throwDown_6 : decode cX12_throwDown 6 = .ok (.invokevirtual 351, 3) := by decide +kernel
theorem dX12_throwDown_9 : decode cX12_throwDown 9 = .ok (.ireturn, 1) := by decide +kernel
set_option maxRecDepth 20000 in
theorem ggX12_tick_X12_ticksKept : GoodIn wsX12_tick wsX12_ticksKept := goodIn_r _ [5, 6, 7, 8, 9, 4, 10, 11, 12, 13, 14, 15, 16, 17, 18, 19, 20, 21, 22, 23, 24, 25, 26, 27, 28, 29, 30, 31, 32, 33, 34, 35, 36, 37, 38, 39, 40, 41, 42, 43, 44, 45, 46, 47, 48, 49, 50, 51, 52, 53, 54, 55, 56, 57, 58, 59, 60, 61, 62, 63, 64, 65, 66, 67, 68, 69, 70, 71, 72, 73, 74, 75, 76, 77, 78, 79, 80, 81, 82, 83, 84, 85, 86, 87, 88, 89, 90, 91, 92, 93, 94, 95, 96, 97, 98, 99, 100, 101, 102, 103, 104, 105, 106, 107, 108, 109, 110, 111, 112, 113, 114, 115, 116, 117, 118, 119, 120, 121, 122, 123, 124, 125, 126, 127, 128, 129, 144, 145, 146, 147, 148, 149, 150, 151, 152, 153, 154, 155, 156, 157, 158, 159, 160, 161, 162, 163, 164, 165, 166, 167, 168, 169, 170, 171, 172, 173, 174, 175, 176, 177, 178, 179, 180, 181, 182, 183, 184, 185, 186, 187, 188, 189, 190, 191] (by decide +kernel) (by decide +kernel)
set_option maxRecDepth 20000 in
theorem gX12_tick_X12_ticksKept : GoodIn wsX12_tick (wsV RX12 360 RX12 yX12_ticksKept wsX12_ticksKept) := goodIn_app (goodIn_of _ (by decide +kernel)) ggX12_tick_X12_ticksKept
set_option maxRecDepth 20000 in
theorem ggX12_tick_X12_goodOr : GoodIn wsX12_tick wsX12_goodOr := goodIn_r _ [133, 134, 135, 136, 4, 137, 138, 139, 140, 141, 142, 143, 144, 145, 146, 147, 148, 149, 150, 151, 152, 153, 154, 155, 156, 157, 158, 159, 160, 161, 162, 163, 164, 165, 166, 167, 168, 169, 170, 171, 172, 173, 174, 175, 176, 177, 178, 179, 180, 181, 182, 183, 184, 185, 186, 187, 188, 189, 190, 191] (by decide +kernel) (by decide +kernel)
set_option maxRecDepth 20000 in
theorem gX12_tick_X12_goodOr : GoodIn wsX12_tick (wsV RX12 351 RX12 yX12_goodOr wsX12_goodOr) := goodIn_app (goodIn_of _ (by decide +kernel)) ggX12_tick_X12_goodOr
theorem dX12_tick_0 : decode cX12_tick 0 = .ok (.aload_n 0, 1) := by decide +kernel
theorem dX12_tick_1 : decode cX12_tick 1 = .ok (.aload_n 0, 1) := by decide +kernel
theorem dX12_tick_2 : decode cX12_tick 2 = .ok (.invokevirtual 360, 3) := by decide +kernel
theorem dX12_tick_5 : decode cX12_tick 5 = .ok (.invokevirtual 351, 3) := by decide +kernel
theorem dX12_tick_8 : decode cX12_tick 8 = .ok (.ireturn, 1) := by decide +kernel
set_option maxRecDepth 20000 in
theorem ggX12_laysChains_X12_isIn : GoodIn wsX12_laysChains wsX12_isIn := goodIn_r _ [6] (by decide +kernel) (by decide +kernel)
set_option maxRecDepth 20000 in
theorem gX12_laysChains_X12_isIn : GoodIn wsX12_laysChains (va_wsS RX12 302 yX12_isIn wsX12_isIn) := goodIn_app (goodIn_of _ (by decide +kernel)) ggX12_laysChains_X12_isIn
set_option maxRecDepth 20000 in
theorem ggX12_laysChains_X12_stands0 : GoodIn wsX12_laysChains wsX12_stands0 := goodIn_r _ [10, 1, 14, 15, 16, 17, 18, 19, 20, 21, 22, 23, 24, 25, 26, 27, 28, 29, 30, 31, 32, 33, 34, 35, 36, 37, 38, 39, 40, 41, 42, 43, 44, 45, 46, 47, 48, 49, 50, 51, 52, 53, 54, 55, 56, 57, 58, 59, 60, 61] (by decide +kernel) (by decide +kernel)
set_option maxRecDepth 20000 in
theorem gX12_laysChains_X12_stands0 : GoodIn wsX12_laysChains (wsV RX12 114 RX12 yX12_stands0 wsX12_stands0) := goodIn_app (goodIn_of _ (by decide +kernel)) ggX12_laysChains_X12_stands0
set_option maxRecDepth 20000 in
theorem ggX12_laysChains_X12_greater : GoodIn wsX12_laysChains wsX12_greater := goodIn_r _ [13] (by decide +kernel) (by decide +kernel)
set_option maxRecDepth 20000 in
theorem gX12_laysChains_X12_greater : GoodIn wsX12_laysChains (va_wsS RX12 327 yX12_greater wsX12_greater) := goodIn_app (goodIn_of _ (by decide +kernel)) ggX12_laysChains_X12_greater
theorem dX12_laysChains_0 : decode cX12_laysChains 0 = .ok (.aload_n 0, 1) := by decide +kernel
theorem dX12_laysChains_1 : decode cX12_laysChains 1 = .ok (.getfield 24, 3) := by decide +kernel
theorem dX12_laysChains_4 : decode cX12_laysChains 4 = .ok (.bipush 102, 2) := by decide +kernel
theorem dX12_laysChains_6 : decode cX12_laysChains 6 = .ok (.iaload, 1) := by decide +kernel
theorem dX12_laysChains_7 : decode cX12_laysChains 7 = .ok (.iconst 1, 1) := by decide +kernel
theorem dX12_laysChains_8 : decode cX12_laysChains 8 = .ok (.isub, 1) := by decide +kernel
theorem dX12_laysChains_9 : decode cX12_laysChains 9 = .ok (.istore_n 1, 1) := by decide +kernel
theorem dX12_laysChains_10 : decode cX12_laysChains 10 = .ok (.iload_n 1, 1) := by decide +kernel
theorem dX12_laysChains_11 : decode cX12_laysChains 11 = .ok (.ifCond .lt 83, 3) := by decide +kernel
theorem dX12_laysChains_14 : decode cX12_laysChains 14 = .ok (.iconst 0, 1) := by decide +kernel
theorem dX12_laysChains_15 : decode cX12_laysChains 15 = .ok (.istore_n 2, 1) := by decide +kernel
theorem dX12_laysChains_16 : decode cX12_laysChains 16 = .ok (.iload_n 1, 1) := by decide +kernel
theorem dX12_laysChains_17 : decode cX12_laysChains 17 = .ok (.iconst 1, 1) := by decide +kernel
theorem dX12_laysChains_18 : decode cX12_laysChains 18 = .ok (.iadd, 1) := by decide +kernel
theorem dX12_laysChains_19 : decode cX12_laysChains 19 = .ok (.istore_n 3, 1) := by decide +kernel
theorem dX12_laysChains_20 : decode cX12_laysChains 20 = .ok (.iload_n 3, 1) := by decide +kernel
theorem dX12_laysChains_21 : decode cX12_laysChains 21 = .ok (.aload_n 0, 1) := by decide +kernel
theorem dX12_laysChains_22 : decode cX12_laysChains 22 = .ok (.getfield 24, 3) := by decide +kernel
theorem dX12_laysChains_25 : decode cX12_laysChains 25 = .ok (.bipush 102, 2) := by decide +kernel
theorem dX12_laysChains_27 : decode cX12_laysChains 27 = .ok (.iaload, 1) := by decide +kernel
theorem dX12_laysChains_28 : decode cX12_laysChains 28 = .ok (.if_icmp .ge 44, 3) := by decide +kernel
theorem dX12_laysChains_31 : decode cX12_laysChains 31 = .ok (.aload_n 0, 1) := by decide +kernel
theorem dX12_laysChains_32 : decode cX12_laysChains 32 = .ok (.getfield 24, 3) := by decide +kernel
theorem dX12_laysChains_35 : decode cX12_laysChains 35 = .ok (.bipush 33, 2) := by decide +kernel
theorem dX12_laysChains_37 : decode cX12_laysChains 37 = .ok (.iload_n 3, 1) := by decide +kernel
theorem dX12_laysChains_38 : decode cX12_laysChains 38 = .ok (.iadd, 1) := by decide +kernel
theorem dX12_laysChains_39 : decode cX12_laysChains 39 = .ok (.iaload, 1) := by decide +kernel
theorem dX12_laysChains_40 : decode cX12_laysChains 40 = .ok (.iload_n 1, 1) := by decide +kernel
theorem dX12_laysChains_41 : decode cX12_laysChains 41 = .ok (.invokestatic 302, 3) := by decide +kernel
theorem dX12_laysChains_44 : decode cX12_laysChains 44 = .ok (.ifCond .eq 22, 3) := by decide +kernel
theorem dX12_laysChains_47 : decode cX12_laysChains 47 = .ok (.aload_n 0, 1) := by decide +kernel
theorem dX12_laysChains_48 : decode cX12_laysChains 48 = .ok (.iload_n 3, 1) := by decide +kernel
theorem dX12_laysChains_49 : decode cX12_laysChains 49 = .ok (.invokevirtual 114, 3) := by decide +kernel
theorem dX12_laysChains_52 : decode cX12_laysChains 52 = .ok (.ifCond .ne 14, 3) := by decide +kernel
theorem dX12_laysChains_55 : decode cX12_laysChains 55 = .ok (.iload_n 2, 1) := by decide +kernel
theorem dX12_laysChains_56 : decode cX12_laysChains 56 = .ok (.aload_n 0, 1) := by decide +kernel
theorem dX12_laysChains_57 : decode cX12_laysChains 57 = .ok (.getfield 74, 3) := by decide +kernel
theorem dX12_laysChains_60 : decode cX12_laysChains 60 = .ok (.iload_n 3, 1) := by decide +kernel
theorem dX12_laysChains_61 : decode cX12_laysChains 61 = .ok (.iaload, 1) := by decide +kernel
theorem dX12_laysChains_62 : decode cX12_laysChains 62 = .ok (.invokestatic 327, 3) := by decide +kernel
theorem dX12_laysChains_65 : decode cX12_laysChains 65 = .ok (.istore_n 2, 1) := by decide +kernel
theorem dX12_laysChains_66 : decode cX12_laysChains 66 = .ok (.iinc 3 1, 3) := by decide +kernel
theorem dX12_laysChains_69 : decode cX12_laysChains 69 = .ok (.goto (-49), 3) := by decide +kernel
theorem dX12_laysChains_72 : decode cX12_laysChains 72 = .ok (.aload_n 0, 1) := by decide +kernel
theorem dX12_laysChains_73 : decode cX12_laysChains 73 = .ok (.getfield 74, 3) := by decide +kernel
theorem dX12_laysChains_76 : decode cX12_laysChains 76 = .ok (.iload_n 1, 1) := by decide +kernel
theorem dX12_laysChains_77 : decode cX12_laysChains 77 = .ok (.aload_n 0, 1) := by decide +kernel
theorem dX12_laysChains_78 : decode cX12_laysChains 78 = .ok (.getfield 24, 3) := by decide +kernel
theorem dX12_laysChains_81 : decode cX12_laysChains 81 = .ok (.iconst 0, 1) := by decide +kernel
theorem dX12_laysChains_82 : decode cX12_laysChains 82 = .ok (.iload_n 1, 1) := by decide +kernel
theorem dX12_laysChains_83 : decode cX12_laysChains 83 = .ok (.iadd, 1) := by decide +kernel
theorem dX12_laysChains_84 : decode cX12_laysChains 84 = .ok (.iaload, 1) := by decide +kernel
theorem dX12_laysChains_85 : decode cX12_laysChains 85 = .ok (.iload_n 2, 1) := by decide +kernel
theorem dX12_laysChains_86 : decode cX12_laysChains 86 = .ok (.iadd, 1) := by decide +kernel
