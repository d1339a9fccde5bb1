theorem dX12_faults_0 : decode cX12_faults 0 = .ok (.aload_n 0, 1) := by decide +kernel
theorem dX12_faults_1 : decode cX12_faults 1 = .ok (.invokevirtual 161, 3) := by decide +kernel
theorem dX12_faults_4 : decode cX12_faults 4 = .ok (.ifCond .eq 16, 3) := by decide +kernel
theorem dX12_faults_7 : decode cX12_faults 7 = .ok (.aload_n 0, 1) := by decide +kernel
theorem dX12_faults_8 : decode cX12_faults 8 = .ok (.aload_n 0, 1) := by decide +kernel
theorem dX12_faults_9 : decode cX12_faults 9 = .ok (.getfield 56, 3) := by decide +kernel
theorem dX12_faults_12 : decode cX12_faults 12 = .ok (.aload_n 0, 1) := by decide +kernel
theorem dX12_faults_13 : decode cX12_faults 13 = .ok (.getfield 165, 3) := by decide +kernel
theorem dX12_faults_16 : decode cX12_faults 16 = .ok (.iaload, 1) := by decide +kernel
theorem dX12_faults_17 : decode cX12_faults 17 = .ok (.putfield 158, 3) := by decide +kernel
theorem dX12_faults_20 : decode cX12_faults 20 = .ok (.return_, 1) := by decide +kernel
theorem dX12_takes0_0 : decode cX12_takes0 0 = .ok (.aload_n 0, 1) := by decide +kernel
theorem dX12_takes0_1 : decode cX12_takes0 1 = .ok (.invokevirtual 161, 3) := by decide +kernel
theorem dX12_takes0_4 : decode cX12_takes0 4 = .ok (.ifCond .eq 20, 3) := by decide +kernel
theorem dX12_takes0_7 : decode cX12_takes0 7 = .ok (.aload_n 0, 1) := by decide +kernel
theorem dX12_takes0_8 : decode cX12_takes0 8 = .ok (.getfield 50, 3) := by decide +kernel
theorem dX12_takes0_11 : decode cX12_takes0 11 = .ok (.aload_n 0, 1) := by decide +kernel
theorem dX12_takes0_12 : decode cX12_takes0 12 = .ok (.getfield 165, 3) := by decide +kernel
theorem dX12_takes0_15 : decode cX12_takes0 15 = .ok (.iaload, 1) := by decide +kernel
theorem dX12_takes0_16 : decode cX12_takes0 16 = .ok (.iload_n 1, 1) := by decide +kernel
theorem dX12_takes0_17 : decode cX12_takes0 17 = .ok (.if_icmp .ne 7, 3) := by decide +kernel
theorem dX12_takes0_20 : decode cX12_takes0 20 = .ok (.iconst 1, 1) := by decide +kernel
theorem dX12_takes0_21 : decode cX12_takes0 21 = .ok (.goto 4, 3) := by decide +kernel
theorem dX12_takes0_24 : decode cX12_takes0 24 = .ok (.iconst 0, 1) := by decide +kernel
theorem dX12_takes0_25 : decode cX12_takes0 25 = .ok (.istore_n 2, 1) := by decide +kernel
theorem dX12_takes0_26 : decode cX12_takes0 26 = .ok (.iload_n 2, 1) := by decide +kernel
theorem dX12_takes0_27 : decode cX12_takes0 27 = .ok (.ifCond .eq 13, 3) := by decide +kernel
theorem dX12_takes0_30 : decode cX12_takes0 30 = .ok (.aload_n 0, 1) := by decide +kernel
theorem dX12_takes0_31 : decode cX12_takes0 31 = .ok (.dup, 1) := by decide +kernel
theorem dX12_takes0_32 : decode cX12_takes0 32 = .ok (.getfield 165, 3) := by decide +kernel
theorem dX12_takes0_35 : decode cX12_takes0 35 = .ok (.iconst 1, 1) := by decide +kernel
theorem dX12_takes0_36 : decode cX12_takes0 36 = .ok (.iadd, 1) := by decide +kernel
theorem dX12_takes0_37 : decode cX12_takes0 37 = .ok (.putfield 165, 3) := by decide +kernel
theorem dX12_takes0_40 : decode cX12_takes0 40 = .ok (.iload_n 2, 1) := by decide +kernel
theorem dX12_takes0_41 : decode cX12_takes0 41 = .ok (.ireturn, 1) := by decide +kernel
theorem dX12_must_0 : decode cX12_must 0 = .ok (.aload_n 0, 1) := by decide +kernel
theorem dX12_must_1 : decode cX12_must 1 = .ok (.iload_n 1, 1) := by decide +kernel
theorem dX12_must_2 : decode cX12_must 2 = .ok (.invokevirtual 168, 3) := by decide +kernel
theorem dX12_must_5 : decode cX12_must 5 = .ok (.ifCond .ne 7, 3) := by decide +kernel
theorem dX12_must_8 : decode cX12_must 8 = .ok (.aload_n 0, 1) := by decide +kernel
theorem dX12_must_9 : decode cX12_must 9 = .ok (.invokevirtual 171, 3) := by decide +kernel
theorem dX12_must_12 : decode cX12_must 12 = .ok (.return_, 1) := by decide +kernel
theorem dX12_leaf_0 : decode cX12_leaf 0 = .ok (.aload_n 0, 1) := by decide +kernel
theorem dX12_leaf_1 : decode cX12_leaf 1 = .ok (.getfield 174, 3) := by decide +kernel
theorem dX12_leaf_4 : decode cX12_leaf 4 = .ok (.bipush 50, 2) := by decide +kernel
theorem dX12_leaf_6 : decode cX12_leaf 6 = .ok (.if_icmp .ne 7, 3) := by decide +kernel
theorem dX12_leaf_9 : decode cX12_leaf 9 = .ok (.aload_n 0, 1) := by decide +kernel
theorem dX12_leaf_10 : decode cX12_leaf 10 = .ok (.invokevirtual 171, 3) := by decide +kernel
theorem dX12_leaf_13 : decode cX12_leaf 13 = .ok (.aload_n 0, 1) := by decide +kernel
theorem dX12_leaf_14 : decode cX12_leaf 14 = .ok (.dup, 1) := by decide +kernel
theorem dX12_leaf_15 : decode cX12_leaf 15 = .ok (.getfield 174, 3) := by decide +kernel
theorem dX12_leaf_18 : decode cX12_leaf 18 = .ok (.iconst 1, 1) := by decide +kernel
theorem dX12_leaf_19 : decode cX12_leaf 19 = .ok (.iadd, 1) := by decide +kernel
theorem dX12_leaf_20 : decode cX12_leaf 20 = .ok (.putfield 174, 3) := by decide +kernel
theorem dX12_leaf_23 : decode cX12_leaf 23 = .ok (.aload_n 0, 1) := by decide +kernel
theorem dX12_leaf_24 : decode cX12_leaf 24 = .ok (.invokevirtual 161, 3) := by decide +kernel
theorem dX12_leaf_27 : decode cX12_leaf 27 = .ok (.ifCond .eq 13, 3) := by decide +kernel
theorem dX12_leaf_30 : decode cX12_leaf 30 = .ok (.aload_n 0, 1) := by decide +kernel
theorem dX12_leaf_31 : decode cX12_leaf 31 = .ok (.dup, 1) := by decide +kernel
theorem dX12_leaf_32 : decode cX12_leaf 32 = .ok (.getfield 165, 3) := by decide +kernel
theorem dX12_leaf_35 : decode cX12_leaf 35 = .ok (.iconst 1, 1) := by decide +kernel
theorem dX12_leaf_36 : decode cX12_leaf 36 = .ok (.iadd, 1) := by decide +kernel
theorem dX12_leaf_37 : decode cX12_leaf 37 = .ok (.putfield 165, 3) := by decide +kernel
theorem dX12_leaf_40 : decode cX12_leaf 40 = .ok (.return_, 1) := by decide +kernel
theorem dX12_mustNumber_0 : decode cX12_mustNumber 0 = .ok (.aload_n 0, 1) := by decide +kernel
theorem dX12_mustNumber_1 : decode cX12_mustNumber 1 = .ok (.invokevirtual 161, 3) := by decide +kernel
theorem dX12_mustNumber_4 : decode cX12_mustNumber 4 = .ok (.ifCond .eq 38, 3) := by decide +kernel
theorem dX12_mustNumber_7 : decode cX12_mustNumber 7 = .ok (.aload_n 0, 1) := by decide +kernel
theorem dX12_mustNumber_8 : decode cX12_mustNumber 8 = .ok (.getfield 50, 3) := by decide +kernel
theorem dX12_mustNumber_11 : decode cX12_mustNumber 11 = .ok (.aload_n 0, 1) := by decide +kernel
theorem dX12_mustNumber_12 : decode cX12_mustNumber 12 = .ok (.getfield 165, 3) := by decide +kernel
theorem dX12_mustNumber_15 : decode cX12_mustNumber 15 = .ok (.iaload, 1) := by decide +kernel
theorem dX12_mustNumber_16 : decode cX12_mustNumber 16 = .ok (.bipush 50, 2) := by decide +kernel
theorem dX12_mustNumber_18 : decode cX12_mustNumber 18 = .ok (.if_icmp .ne 20, 3) := by decide +kernel
theorem dX12_mustNumber_21 : decode cX12_mustNumber 21 = .ok (.aload_n 0, 1) := by decide +kernel
theorem dX12_mustNumber_22 : decode cX12_mustNumber 22 = .ok (.getfield 53, 3) := by decide +kernel
theorem dX12_mustNumber_25 : decode cX12_mustNumber 25 = .ok (.aload_n 0, 1) := by decide +kernel
theorem dX12_mustNumber_26 : decode cX12_mustNumber 26 = .ok (.getfield 165, 3) := by decide +kernel
theorem dX12_mustNumber_29 : decode cX12_mustNumber 29 = .ok (.iaload, 1) := by decide +kernel
theorem dX12_mustNumber_30 : decode cX12_mustNumber 30 = .ok (.iload_n 1, 1) := by decide +kernel
theorem dX12_mustNumber_31 : decode cX12_mustNumber 31 = .ok (.iload_n 2, 1) := by decide +kernel
theorem dX12_mustNumber_32 : decode cX12_mustNumber 32 = .ok (.invokestatic 96, 3) := by decide +kernel
theorem dX12_mustNumber_35 : decode cX12_mustNumber 35 = .ok (.ifCond .ne 7, 3) := by decide +kernel
theorem dX12_mustNumber_38 : decode cX12_mustNumber 38 = .ok (.aload_n 0, 1) := by decide +kernel
theorem dX12_mustNumber_39 : decode cX12_mustNumber 39 = .ok (.invokevirtual 171, 3) := by decide +kernel
theorem dX12_mustNumber_42 : decode cX12_mustNumber 42 = .ok (.aload_n 0, 1) := by decide +kernel
theorem dX12_mustNumber_43 : decode cX12_mustNumber 43 = .ok (.invokevirtual 161, 3) := by decide +kernel
theorem dX12_mustNumber_46 : decode cX12_mustNumber 46 = .ok (.ifCond .eq 13, 3) := by decide +kernel
theorem dX12_mustNumber_49 : decode cX12_mustNumber 49 = .ok (.aload_n 0, 1) := by decide +kernel
theorem dX12_mustNumber_50 : decode cX12_mustNumber 50 = .ok (.dup, 1) := by decide +kernel
theorem dX12_mustNumber_51 : decode cX12_mustNumber 51 = .ok (.getfield 165, 3) := by decide +kernel
theorem dX12_mustNumber_54 : decode cX12_mustNumber 54 = .ok (.iconst 1, 1) := by decide +kernel
theorem dX12_mustNumber_55 : decode cX12_mustNumber 55 = .ok (.iadd, 1) := by decide +kernel
theorem dX12_mustNumber_56 : decode cX12_mustNumber 56 = .ok (.putfield 165, 3) := by decide +kernel
theorem dX12_mustNumber_59 : decode cX12_mustNumber 59 = .ok (.return_, 1) := by decide +kernel
theorem dX12_readClause_0 : decode cX12_readClause 0 = .ok (.aload_n 0, 1) := by decide +kernel
theorem dX12_readClause_1 : decode cX12_readClause 1 = .ok (.iconst 1, 1) := by decide +kernel
theorem dX12_readClause_2 : decode cX12_readClause 2 = .ok (.invokevirtual 168, 3) := by decide +kernel
theorem dX12_readClause_5 : decode cX12_readClause 5 = .ok (.ifCond .ne 19, 3) := by decide +kernel
theorem dX12_readClause_8 : decode cX12_readClause 8 = .ok (.aload_n 0, 1) := by decide +kernel
theorem dX12_readClause_9 : decode cX12_readClause 9 = .ok (.iconst 2, 1) := by decide +kernel
theorem dX12_readClause_10 : decode cX12_readClause 10 = .ok (.invokevirtual 168, 3) := by decide +kernel
theorem dX12_readClause_13 : decode cX12_readClause 13 = .ok (.ifCond .ne 11, 3) := by decide +kernel
theorem dX12_readClause_16 : decode cX12_readClause 16 = .ok (.aload_n 0, 1) := by decide +kernel
theorem dX12_readClause_17 : decode cX12_readClause 17 = .ok (.iconst 3, 1) := by decide +kernel
theorem dX12_readClause_18 : decode cX12_readClause 18 = .ok (.invokevirtual 168, 3) := by decide +kernel
theorem dX12_readClause_21 : decode cX12_readClause 21 = .ok (.ifCond .eq 11, 3) := by decide +kernel
theorem dX12_readClause_24 : decode cX12_readClause 24 = .ok (.aload_n 0, 1) := by decide +kernel
theorem dX12_readClause_25 : decode cX12_readClause 25 = .ok (.iconst 0, 1) := by decide +kernel
theorem dX12_readClause_26 : decode cX12_readClause 26 = .ok (.invokevirtual 177, 3) := by decide +kernel
theorem dX12_readClause_29 : decode cX12_readClause 29 = .ok (.goto 8, 3) := by decide +kernel
theorem dX12_readClause_32 : decode cX12_readClause 32 = .ok (.aload_n 0, 1) := by decide +kernel
theorem dX12_readClause_33 : decode cX12_readClause 33 = .ok (.iconst 4, 1) := by decide +kernel
theorem dX12_readClause_34 : decode cX12_readClause 34 = .ok (.invokevirtual 181, 3) := by decide +kernel
theorem dX12_readClause_37 : decode cX12_readClause 37 = .ok (.aload_n 0, 1) := by decide +kernel
theorem dX12_readClause_38 : decode cX12_readClause 38 = .ok (.iconst 5, 1) := by decide +kernel
theorem dX12_readClause_39 : decode cX12_readClause 39 = .ok (.invokevirtual 168, 3) := by decide +kernel
theorem dX12_readClause_42 : decode cX12_readClause 42 = .ok (.ifCond .eq 8, 3) := by decide +kernel
theorem dX12_readClause_45 : decode cX12_readClause 45 = .ok (.aload_n 0, 1) := by decide +kernel
theorem dX12_readClause_46 : decode cX12_readClause 46 = .ok (.iconst 0, 1) := by decide +kernel
theorem dX12_readClause_47 : decode cX12_readClause 47 = .ok (.invokevirtual 184, 3) := by decide +kernel
theorem dX12_readClause_50 : decode cX12_readClause 50 = .ok (.return_, 1) := by decide +kernel
theorem dX12_readOrder_0 : decode cX12_readOrder 0 = .ok (.aload_n 0, 1) := by decide +kernel
theorem dX12_readOrder_1 : decode cX12_readOrder 1 = .ok (.bipush 23, 2) := by decide +kernel
theorem dX12_readOrder_3 : decode cX12_readOrder 3 = .ok (.invokevirtual 168, 3) := by decide +kernel
theorem dX12_readOrder_6 : decode cX12_readOrder 6 = .ok (.ifCond .eq 22, 3) := by decide +kernel
theorem dX12_readOrder_9 : decode cX12_readOrder 9 = .ok (.aload_n 0, 1) := by decide +kernel
theorem dX12_readOrder_10 : decode cX12_readOrder 10 = .ok (.iconst 0, 1) := by decide +kernel
theorem dX12_readOrder_11 : decode cX12_readOrder 11 = .ok (.invokevirtual 177, 3) := by decide +kernel
theorem dX12_readOrder_14 : decode cX12_readOrder 14 = .ok (.aload_n 0, 1) := by decide +kernel
theorem dX12_readOrder_15 : decode cX12_readOrder 15 = .ok (.bipush 24, 2) := by decide +kernel
theorem dX12_readOrder_17 : decode cX12_readOrder 17 = .ok (.invokevirtual 181, 3) := by decide +kernel
theorem dX12_readOrder_20 : decode cX12_readOrder 20 = .ok (.aload_n 0, 1) := by decide +kernel
theorem dX12_readOrder_21 : decode cX12_readOrder 21 = .ok (.iconst 0, 1) := by decide +kernel
theorem dX12_readOrder_22 : decode cX12_readOrder 22 = .ok (.invokevirtual 177, 3) := by decide +kernel
theorem dX12_readOrder_25 : decode cX12_readOrder 25 = .ok (.goto 35, 3) := by decide +kernel
theorem dX12_readOrder_28 : decode cX12_readOrder 28 = .ok (.aload_n 0, 1) := by decide +kernel
theorem dX12_readOrder_29 : decode cX12_readOrder 29 = .ok (.bipush 25, 2) := by decide +kernel
theorem dX12_readOrder_31 : decode cX12_readOrder 31 = .ok (.invokevirtual 168, 3) := by decide +kernel
theorem dX12_readOrder_34 : decode cX12_readOrder 34 = .ok (.ifCond .ne 12, 3) := by decide +kernel
theorem dX12_readOrder_37 : decode cX12_readOrder 37 = .ok (.aload_n 0, 1) := by decide +kernel
theorem dX12_readOrder_38 : decode cX12_readOrder 38 = .ok (.bipush 26, 2) := by decide +kernel
theorem dX12_readOrder_40 : decode cX12_readOrder 40 = .ok (.invokevirtual 168, 3) := by decide +kernel
theorem dX12_readOrder_43 : decode cX12_readOrder 43 = .ok (.ifCond .eq 11, 3) := by decide +kernel
theorem dX12_readOrder_46 : decode cX12_readOrder 46 = .ok (.aload_n 0, 1) := by decide +kernel
theorem dX12_readOrder_47 : decode cX12_readOrder 47 = .ok (.iconst 0, 1) := by decide +kernel
theorem dX12_readOrder_48 : decode cX12_readOrder 48 = .ok (.invokevirtual 177, 3) := by decide +kernel
theorem dX12_readOrder_51 : decode cX12_readOrder 51 = .ok (.goto 9, 3) := by decide +kernel
theorem dX12_readOrder_54 : decode cX12_readOrder 54 = .ok (.aload_n 0, 1) := by decide +kernel
theorem dX12_readOrder_55 : decode cX12_readOrder 55 = .ok (.bipush 27, 2) := by decide +kernel
theorem dX12_readOrder_57 : decode cX12_readOrder 57 = .ok (.invokevirtual 181, 3) := by decide +kernel
theorem dX12_readOrder_60 : decode cX12_readOrder 60 = .ok (.aload_n 0, 1) := by decide +kernel
theorem dX12_readOrder_61 : decode cX12_readOrder 61 = .ok (.bipush 28, 2) := by decide +kernel
theorem dX12_readOrder_63 : decode cX12_readOrder 63 = .ok (.invokevirtual 168, 3) := by decide +kernel
theorem dX12_readOrder_66 : decode cX12_readOrder 66 = .ok (.ifCond .eq 10, 3) := by decide +kernel
theorem dX12_readOrder_69 : decode cX12_readOrder 69 = .ok (.aload_n 0, 1) := by decide +kernel
theorem dX12_readOrder_70 : decode cX12_readOrder 70 = .ok (.iconst 1, 1) := by decide +kernel
theorem dX12_readOrder_71 : decode cX12_readOrder 71 = .ok (.bipush 20, 2) := by decide +kernel
theorem dX12_readOrder_73 : decode cX12_readOrder 73 = .ok (.invokevirtual 187, 3) := by decide +kernel
theorem dX12_readOrder_76 : decode cX12_readOrder 76 = .ok (.aload_n 0, 1) := by decide +kernel
theorem dX12_readOrder_77 : decode cX12_readOrder 77 = .ok (.iconst 5, 1) := by decide +kernel
theorem dX12_readOrder_78 : decode cX12_readOrder 78 = .ok (.invokevirtual 168, 3) := by decide +kernel
theorem dX12_readOrder_81 : decode cX12_readOrder 81 = .ok (.ifCond .eq 8, 3) := by decide +kernel
theorem dX12_readOrder_84 : decode cX12_readOrder 84 = .ok (.aload_n 0, 1) := by decide +kernel
theorem dX12_readOrder_85 : decode cX12_readOrder 85 = .ok (.iconst 0, 1) := by decide +kernel
theorem dX12_readOrder_86 : decode cX12_readOrder 86 = .ok (.invokevirtual 184, 3) := by decide +kernel
theorem dX12_readOrder_89 : decode cX12_readOrder 89 = .ok (.return_, 1) := by decide +kernel
theorem dX12_readOne_0 : decode cX12_readOne 0 = .ok (.aload_n 0, 1) := by decide +kernel
theorem dX12_readOne_1 : decode cX12_readOne 1 = .ok (.getfield 191, 3) := by decide +kernel
theorem dX12_readOne_4 : decode cX12_readOne 4 = .ok (.ifCond .eq 10, 3) := by decide +kernel
theorem dX12_readOne_7 : decode cX12_readOne 7 = .ok (.aload_n 0, 1) := by decide +kernel
theorem dX12_readOne_8 : decode cX12_readOne 8 = .ok (.invokevirtual 195, 3) := by decide +kernel
theorem dX12_readOne_11 : decode cX12_readOne 11 = .ok (.goto 7, 3) := by decide +kernel
theorem dX12_readOne_14 : decode cX12_readOne 14 = .ok (.aload_n 0, 1) := by decide +kernel
theorem dX12_readOne_15 : decode cX12_readOne 15 = .ok (.invokevirtual 198, 3) := by decide +kernel
theorem dX12_readOne_18 : decode cX12_readOne 18 = .ok (.return_, 1) := by decide +kernel
theorem dX12_readTest_0 : decode cX12_readTest 0 = .ok (.aload_n 0, 1) := by decide +kernel
theorem dX12_readTest_1 : decode cX12_readTest 1 = .ok (.iload_n 1, 1) := by decide +kernel
theorem dX12_readTest_2 : decode cX12_readTest 2 = .ok (.invokevirtual 201, 3) := by decide +kernel
theorem dX12_readTest_5 : decode cX12_readTest 5 = .ok (.aload_n 0, 1) := by decide +kernel
theorem dX12_readTest_6 : decode cX12_readTest 6 = .ok (.bipush 6, 2) := by decide +kernel
theorem dX12_readTest_8 : decode cX12_readTest 8 = .ok (.invokevirtual 168, 3) := by decide +kernel
theorem dX12_readTest_11 : decode cX12_readTest 11 = .ok (.ifCond .eq 11, 3) := by decide +kernel
theorem dX12_readTest_14 : decode cX12_readTest 14 = .ok (.aload_n 0, 1) := by decide +kernel
theorem dX12_readTest_15 : decode cX12_readTest 15 = .ok (.iload_n 1, 1) := by decide +kernel
theorem dX12_readTest_16 : decode cX12_readTest 16 = .ok (.invokevirtual 201, 3) := by decide +kernel
theorem dX12_readTest_19 : decode cX12_readTest 19 = .ok (.goto (-14), 3) := by decide +kernel
theorem dX12_readTest_22 : decode cX12_readTest 22 = .ok (.return_, 1) := by decide +kernel
theorem dX12_readBoth_0 : decode cX12_readBoth 0 = .ok (.aload_n 0, 1) := by decide +kernel
theorem dX12_readBoth_1 : decode cX12_readBoth 1 = .ok (.iload_n 1, 1) := by decide +kernel
theorem dX12_readBoth_2 : decode cX12_readBoth 2 = .ok (.invokevirtual 204, 3) := by decide +kernel
theorem dX12_readBoth_5 : decode cX12_readBoth 5 = .ok (.aload_n 0, 1) := by decide +kernel
theorem dX12_readBoth_6 : decode cX12_readBoth 6 = .ok (.bipush 7, 2) := by decide +kernel
theorem dX12_readBoth_8 : decode cX12_readBoth 8 = .ok (.invokevirtual 168, 3) := by decide +kernel
theorem dX12_readBoth_11 : decode cX12_readBoth 11 = .ok (.ifCond .eq 11, 3) := by decide +kernel
theorem dX12_readBoth_14 : decode cX12_readBoth 14 = .ok (.aload_n 0, 1) := by decide +kernel
theorem dX12_readBoth_15 : decode cX12_readBoth 15 = .ok (.iload_n 1, 1) := by decide +kernel
theorem dX12_readBoth_16 : decode cX12_readBoth 16 = .ok (.invokevirtual 204, 3) := by decide +kernel
theorem dX12_readBoth_19 : decode cX12_readBoth 19 = .ok (.goto (-14), 3) := by decide +kernel
theorem dX12_readBoth_22 : decode cX12_readBoth 22 = .ok (.return_, 1) := by decide +kernel
theorem dX12_readPlain_0 : decode cX12_readPlain 0 = .ok (.iconst 1, 1) := by decide +kernel
theorem dX12_readPlain_1 : decode cX12_readPlain 1 = .ok (.istore_n 2, 1) := by decide +kernel
theorem dX12_readPlain_2 : decode cX12_readPlain 2 = .ok (.iload_n 2, 1) := by decide +kernel
theorem dX12_readPlain_3 : decode cX12_readPlain 3 = .ok (.ifCond .eq 13, 3) := by decide +kernel
theorem dX12_readPlain_6 : decode cX12_readPlain 6 = .ok (.aload_n 0, 1) := by decide +kernel
theorem dX12_readPlain_7 : decode cX12_readPlain 7 = .ok (.bipush 8, 2) := by decide +kernel
theorem dX12_readPlain_9 : decode cX12_readPlain 9 = .ok (.invokevirtual 168, 3) := by decide +kernel
theorem dX12_readPlain_12 : decode cX12_readPlain 12 = .ok (.istore_n 2, 1) := by decide +kernel
theorem dX12_readPlain_13 : decode cX12_readPlain 13 = .ok (.goto (-11), 3) := by decide +kernel
theorem dX12_readPlain_16 : decode cX12_readPlain 16 = .ok (.aload_n 0, 1) := by decide +kernel
theorem dX12_readPlain_17 : decode cX12_readPlain 17 = .ok (.invokevirtual 161, 3) := by decide +kernel
theorem dX12_readPlain_20 : decode cX12_readPlain 20 = .ok (.ifCond .ne 4, 3) := by decide +kernel
theorem dX12_readPlain_23 : decode cX12_readPlain 23 = .ok (.return_, 1) := by decide +kernel
theorem dX12_readPlain_24 : decode cX12_readPlain 24 = .ok (.aload_n 0, 1) := by decide +kernel
theorem dX12_readPlain_25 : decode cX12_readPlain 25 = .ok (.getfield 50, 3) := by decide +kernel
theorem dX12_readPlain_28 : decode cX12_readPlain 28 = .ok (.aload_n 0, 1) := by decide +kernel
theorem dX12_readPlain_29 : decode cX12_readPlain 29 = .ok (.getfield 165, 3) := by decide +kernel
theorem dX12_readPlain_32 : decode cX12_readPlain 32 = .ok (.iaload, 1) := by decide +kernel
theorem dX12_readPlain_33 : decode cX12_readPlain 33 = .ok (.istore_n 3, 1) := by decide +kernel
theorem dX12_readPlain_34 : decode cX12_readPlain 34 = .ok (.iload_n 3, 1) := by decide +kernel
theorem dX12_readPlain_35 : decode cX12_readPlain 35 = .ok (.bipush 40, 2) := by decide +kernel
theorem dX12_readPlain_37 : decode cX12_readPlain 37 = .ok (.invokestatic 207, 3) := by decide +kernel
theorem dX12_readPlain_40 : decode cX12_readPlain 40 = .ok (.if_icmp .ne 50, 3) := by decide +kernel
theorem dX12_readPlain_43 : decode cX12_readPlain 43 = .ok (.iload_n 1, 1) := by decide +kernel
theorem dX12_readPlain_44 : decode cX12_readPlain 44 = .ok (.bipush 8, 2) := by decide +kernel
theorem dX12_readPlain_46 : decode cX12_readPlain 46 = .ok (.if_icmp .ne 7, 3) := by decide +kernel
theorem dX12_readPlain_49 : decode cX12_readPlain 49 = .ok (.aload_n 0, 1) := by decide +kernel
theorem dX12_readPlain_50 : decode cX12_readPlain 50 = .ok (.invokevirtual 171, 3) := by decide +kernel
theorem dX12_readPlain_53 : decode cX12_readPlain 53 = .ok (.aload_n 0, 1) := by decide +kernel
theorem dX12_readPlain_54 : decode cX12_readPlain 54 = .ok (.invokevirtual 161, 3) := by decide +kernel
theorem dX12_readPlain_57 : decode cX12_readPlain 57 = .ok (.ifCond .ne 4, 3) := by decide +kernel
theorem dX12_readPlain_60 : decode cX12_readPlain 60 = .ok (.return_, 1) := by decide +kernel
theorem dX12_readPlain_61 : decode cX12_readPlain 61 = .ok (.aload_n 0, 1) := by decide +kernel
theorem dX12_readPlain_62 : decode cX12_readPlain 62 = .ok (.dup, 1) := by decide +kernel
theorem dX12_readPlain_63 : decode cX12_readPlain 63 = .ok (.getfield 165, 3) := by decide +kernel
theorem dX12_readPlain_66 : decode cX12_readPlain 66 = .ok (.iconst 1, 1) := by decide +kernel
theorem dX12_readPlain_67 : decode cX12_readPlain 67 = .ok (.iadd, 1) := by decide +kernel
theorem dX12_readPlain_68 : decode cX12_readPlain 68 = .ok (.putfield 165, 3) := by decide +kernel
theorem dX12_readPlain_71 : decode cX12_readPlain 71 = .ok (.aload_n 0, 1) := by decide +kernel
theorem dX12_readPlain_72 : decode cX12_readPlain 72 = .ok (.iload_n 1, 1) := by decide +kernel
theorem dX12_readPlain_73 : decode cX12_readPlain 73 = .ok (.iconst 1, 1) := by decide +kernel
theorem dX12_readPlain_74 : decode cX12_readPlain 74 = .ok (.iadd, 1) := by decide +kernel
theorem dX12_readPlain_75 : decode cX12_readPlain 75 = .ok (.invokevirtual 184, 3) := by decide +kernel
theorem dX12_readPlain_78 : decode cX12_readPlain 78 = .ok (.aload_n 0, 1) := by decide +kernel
theorem dX12_readPlain_79 : decode cX12_readPlain 79 = .ok (.bipush 41, 2) := by decide +kernel
theorem dX12_readPlain_81 : decode cX12_readPlain 81 = .ok (.invokestatic 207, 3) := by decide +kernel
theorem dX12_readPlain_84 : decode cX12_readPlain 84 = .ok (.invokevirtual 181, 3) := by decide +kernel
theorem dX12_readPlain_87 : decode cX12_readPlain 87 = .ok (.goto 46, 3) := by decide +kernel
theorem dX12_readPlain_90 : decode cX12_readPlain 90 = .ok (.aload_n 0, 1) := by decide +kernel
theorem dX12_readPlain_91 : decode cX12_readPlain 91 = .ok (.iload_n 1, 1) := by decide +kernel
theorem dX12_readPlain_92 : decode cX12_readPlain 92 = .ok (.invokevirtual 177, 3) := by decide +kernel
theorem dX12_readPlain_95 : decode cX12_readPlain 95 = .ok (.aload_n 0, 1) := by decide +kernel
theorem dX12_readPlain_96 : decode cX12_readPlain 96 = .ok (.bipush 60, 2) := by decide +kernel
theorem dX12_readPlain_98 : decode cX12_readPlain 98 = .ok (.invokestatic 207, 3) := by decide +kernel
theorem dX12_readPlain_101 : decode cX12_readPlain 101 = .ok (.invokevirtual 168, 3) := by decide +kernel
theorem dX12_readPlain_104 : decode cX12_readPlain 104 = .ok (.ifCond .ne 24, 3) := by decide +kernel
theorem dX12_readPlain_107 : decode cX12_readPlain 107 = .ok (.aload_n 0, 1) := by decide +kernel
theorem dX12_readPlain_108 : decode cX12_readPlain 108 = .ok (.bipush 62, 2) := by decide +kernel
theorem dX12_readPlain_110 : decode cX12_readPlain 110 = .ok (.invokestatic 207, 3) := by decide +kernel
theorem dX12_readPlain_113 : decode cX12_readPlain 113 = .ok (.invokevirtual 168, 3) := by decide +kernel
theorem dX12_readPlain_116 : decode cX12_readPlain 116 = .ok (.ifCond .ne 12, 3) := by decide +kernel
theorem dX12_readPlain_119 : decode cX12_readPlain 119 = .ok (.aload_n 0, 1) := by decide +kernel
theorem dX12_readPlain_120 : decode cX12_readPlain 120 = .ok (.bipush 61, 2) := by decide +kernel
theorem dX12_readPlain_122 : decode cX12_readPlain 122 = .ok (.invokestatic 207, 3) := by decide +kernel
theorem dX12_readPlain_125 : decode cX12_readPlain 125 = .ok (.invokevirtual 181, 3) := by decide +kernel
theorem dX12_readPlain_128 : decode cX12_readPlain 128 = .ok (.aload_n 0, 1) := by decide +kernel
theorem dX12_readPlain_129 : decode cX12_readPlain 129 = .ok (.iload_n 1, 1) := by decide +kernel
theorem dX12_readPlain_130 : decode cX12_readPlain 130 = .ok (.invokevirtual 177, 3) := by decide +kernel
theorem dX12_readPlain_133 : decode cX12_readPlain 133 = .ok (.return_, 1) := by decide +kernel
theorem dX12_readSum_0 : decode cX12_readSum 0 = .ok (.aload_n 0, 1) := by decide +kernel
theorem dX12_readSum_1 : decode cX12_readSum 1 = .ok (.iload_n 1, 1) := by decide +kernel
theorem dX12_readSum_2 : decode cX12_readSum 2 = .ok (.invokevirtual 211, 3) := by decide +kernel
theorem dX12_readSum_5 : decode cX12_readSum 5 = .ok (.aload_n 0, 1) := by decide +kernel
theorem dX12_readSum_6 : decode cX12_readSum 6 = .ok (.bipush 43, 2) := by decide +kernel
theorem dX12_readSum_8 : decode cX12_readSum 8 = .ok (.invokestatic 207, 3) := by decide +kernel
theorem dX12_readSum_11 : decode cX12_readSum 11 = .ok (.invokevirtual 168, 3) := by decide +kernel
theorem dX12_readSum_14 : decode cX12_readSum 14 = .ok (.ifCond .ne 15, 3) := by decide +kernel
theorem dX12_readSum_17 : decode cX12_readSum 17 = .ok (.aload_n 0, 1) := by decide +kernel
theorem dX12_readSum_18 : decode cX12_readSum 18 = .ok (.bipush 45, 2) := by decide +kernel
theorem dX12_readSum_20 : decode cX12_readSum 20 = .ok (.invokestatic 207, 3) := by decide +kernel
theorem dX12_readSum_23 : decode cX12_readSum 23 = .ok (.invokevirtual 168, 3) := by decide +kernel
theorem dX12_readSum_26 : decode cX12_readSum 26 = .ok (.ifCond .eq 11, 3) := by decide +kernel
theorem dX12_readSum_29 : decode cX12_readSum 29 = .ok (.aload_n 0, 1) := by decide +kernel
theorem dX12_readSum_30 : decode cX12_readSum 30 = .ok (.iload_n 1, 1) := by decide +kernel
theorem dX12_readSum_31 : decode cX12_readSum 31 = .ok (.invokevirtual 211, 3) := by decide +kernel
theorem dX12_readSum_34 : decode cX12_readSum 34 = .ok (.goto (-29), 3) := by decide +kernel
theorem dX12_readSum_37 : decode cX12_readSum 37 = .ok (.return_, 1) := by decide +kernel
theorem dX12_readTerm_0 : decode cX12_readTerm 0 = .ok (.aload_n 0, 1) := by decide +kernel
theorem dX12_readTerm_1 : decode cX12_readTerm 1 = .ok (.iload_n 1, 1) := by decide +kernel
theorem dX12_readTerm_2 : decode cX12_readTerm 2 = .ok (.invokevirtual 214, 3) := by decide +kernel
theorem dX12_readTerm_5 : decode cX12_readTerm 5 = .ok (.aload_n 0, 1) := by decide +kernel
theorem dX12_readTerm_6 : decode cX12_readTerm 6 = .ok (.bipush 42, 2) := by decide +kernel
theorem dX12_readTerm_8 : decode cX12_readTerm 8 = .ok (.invokestatic 207, 3) := by decide +kernel
theorem dX12_readTerm_11 : decode cX12_readTerm 11 = .ok (.invokevirtual 168, 3) := by decide +kernel
theorem dX12_readTerm_14 : decode cX12_readTerm 14 = .ok (.ifCond .ne 27, 3) := by decide +kernel
theorem dX12_readTerm_17 : decode cX12_readTerm 17 = .ok (.aload_n 0, 1) := by decide +kernel
theorem dX12_readTerm_18 : decode cX12_readTerm 18 = .ok (.bipush 47, 2) := by decide +kernel
theorem dX12_readTerm_20 : decode cX12_readTerm 20 = .ok (.invokestatic 207, 3) := by decide +kernel
theorem dX12_readTerm_23 : decode cX12_readTerm 23 = .ok (.invokevirtual 168, 3) := by decide +kernel
theorem dX12_readTerm_26 : decode cX12_readTerm 26 = .ok (.ifCond .ne 15, 3) := by decide +kernel
theorem dX12_readTerm_29 : decode cX12_readTerm 29 = .ok (.aload_n 0, 1) := by decide +kernel
theorem dX12_readTerm_30 : decode cX12_readTerm 30 = .ok (.bipush 37, 2) := by decide +kernel
theorem dX12_readTerm_32 : decode cX12_readTerm 32 = .ok (.invokestatic 207, 3) := by decide +kernel
theorem dX12_readTerm_35 : decode cX12_readTerm 35 = .ok (.invokevirtual 168, 3) := by decide +kernel
theorem dX12_readTerm_38 : decode cX12_readTerm 38 = .ok (.ifCond .eq 11, 3) := by decide +kernel
theorem dX12_readTerm_41 : decode cX12_readTerm 41 = .ok (.aload_n 0, 1) := by decide +kernel
theorem dX12_readTerm_42 : decode cX12_readTerm 42 = .ok (.iload_n 1, 1) := by decide +kernel
theorem dX12_readTerm_43 : decode cX12_readTerm 43 = .ok (.invokevirtual 214, 3) := by decide +kernel
theorem dX12_readTerm_46 : decode cX12_readTerm 46 = .ok (.goto (-41), 3) := by decide +kernel
theorem dX12_readTerm_49 : decode cX12_readTerm 49 = .ok (.return_, 1) := by decide +kernel
theorem dX12_readPart_0 : decode cX12_readPart 0 = .ok (.aload_n 0, 1) := by decide +kernel
theorem dX12_readPart_1 : decode cX12_readPart 1 = .ok (.invokevirtual 161, 3) := by decide +kernel
theorem dX12_readPart_4 : decode cX12_readPart 4 = .ok (.ifCond .ne 4, 3) := by decide +kernel
theorem dX12_readPart_7 : decode cX12_readPart 7 = .ok (.return_, 1) := by decide +kernel
theorem dX12_readPart_8 : decode cX12_readPart 8 = .ok (.aload_n 0, 1) := by decide +kernel
theorem dX12_readPart_9 : decode cX12_readPart 9 = .ok (.getfield 50, 3) := by decide +kernel
theorem dX12_readPart_12 : decode cX12_readPart 12 = .ok (.aload_n 0, 1) := by decide +kernel
theorem dX12_readPart_13 : decode cX12_readPart 13 = .ok (.getfield 165, 3) := by decide +kernel
theorem dX12_readPart_16 : decode cX12_readPart 16 = .ok (.iaload, 1) := by decide +kernel
theorem dX12_readPart_17 : decode cX12_readPart 17 = .ok (.istore_n 2, 1) := by decide +kernel
theorem dX12_readPart_18 : decode cX12_readPart 18 = .ok (.iload_n 2, 1) := by decide +kernel
theorem dX12_readPart_19 : decode cX12_readPart 19 = .ok (.bipush 91, 2) := by decide +kernel
theorem dX12_readPart_21 : decode cX12_readPart 21 = .ok (.invokestatic 207, 3) := by decide +kernel
theorem dX12_readPart_24 : decode cX12_readPart 24 = .ok (.if_icmp .ne 50, 3) := by decide +kernel
theorem dX12_readPart_27 : decode cX12_readPart 27 = .ok (.iload_n 1, 1) := by decide +kernel
theorem dX12_readPart_28 : decode cX12_readPart 28 = .ok (.bipush 8, 2) := by decide +kernel
theorem dX12_readPart_30 : decode cX12_readPart 30 = .ok (.if_icmp .ne 7, 3) := by decide +kernel
theorem dX12_readPart_33 : decode cX12_readPart 33 = .ok (.aload_n 0, 1) := by decide +kernel
theorem dX12_readPart_34 : decode cX12_readPart 34 = .ok (.invokevirtual 171, 3) := by decide +kernel
theorem dX12_readPart_37 : decode cX12_readPart 37 = .ok (.aload_n 0, 1) := by decide +kernel
theorem dX12_readPart_38 : decode cX12_readPart 38 = .ok (.invokevirtual 161, 3) := by decide +kernel
theorem dX12_readPart_41 : decode cX12_readPart 41 = .ok (.ifCond .ne 4, 3) := by decide +kernel
theorem dX12_readPart_44 : decode cX12_readPart 44 = .ok (.return_, 1) := by decide +kernel
theorem dX12_readPart_45 : decode cX12_readPart 45 = .ok (.aload_n 0, 1) := by decide +kernel
theorem dX12_readPart_46 : decode cX12_readPart 46 = .ok (.dup, 1) := by decide +kernel
theorem dX12_readPart_47 : decode cX12_readPart 47 = .ok (.getfield 165, 3) := by decide +kernel
theorem dX12_readPart_50 : decode cX12_readPart 50 = .ok (.iconst 1, 1) := by decide +kernel
theorem dX12_readPart_51 : decode cX12_readPart 51 = .ok (.iadd, 1) := by decide +kernel
theorem dX12_readPart_52 : decode cX12_readPart 52 = .ok (.putfield 165, 3) := by decide +kernel
theorem dX12_readPart_55 : decode cX12_readPart 55 = .ok (.aload_n 0, 1) := by decide +kernel
theorem dX12_readPart_56 : decode cX12_readPart 56 = .ok (.iload_n 1, 1) := by decide +kernel
theorem dX12_readPart_57 : decode cX12_readPart 57 = .ok (.iconst 1, 1) := by decide +kernel
theorem dX12_readPart_58 : decode cX12_readPart 58 = .ok (.iadd, 1) := by decide +kernel
theorem dX12_readPart_59 : decode cX12_readPart 59 = .ok (.invokevirtual 177, 3) := by decide +kernel
theorem dX12_readPart_62 : decode cX12_readPart 62 = .ok (.aload_n 0, 1) := by decide +kernel
theorem dX12_readPart_63 : decode cX12_readPart 63 = .ok (.bipush 93, 2) := by decide +kernel
theorem dX12_readPart_65 : decode cX12_readPart 65 = .ok (.invokestatic 207, 3) := by decide +kernel
theorem dX12_readPart_68 : decode cX12_readPart 68 = .ok (.invokevirtual 181, 3) := by decide +kernel
theorem dX12_readPart_71 : decode cX12_readPart 71 = .ok (.goto 96, 3) := by decide +kernel
theorem dX12_readPart_74 : decode cX12_readPart 74 = .ok (.iload_n 2, 1) := by decide +kernel
theorem dX12_readPart_75 : decode cX12_readPart 75 = .ok (.bipush 50, 2) := by decide +kernel
theorem dX12_readPart_77 : decode cX12_readPart 77 = .ok (.if_icmp .ne 18, 3) := by decide +kernel
theorem dX12_readPart_80 : decode cX12_readPart 80 = .ok (.aload_n 0, 1) := by decide +kernel
theorem dX12_readPart_81 : decode cX12_readPart 81 = .ok (.getfield 53, 3) := by decide +kernel
theorem dX12_readPart_84 : decode cX12_readPart 84 = .ok (.aload_n 0, 1) := by decide +kernel
theorem dX12_readPart_85 : decode cX12_readPart 85 = .ok (.getfield 165, 3) := by decide +kernel
theorem dX12_readPart_88 : decode cX12_readPart 88 = .ok (.iaload, 1) := by decide +kernel
theorem dX12_readPart_89 : decode cX12_readPart 89 = .ok (.sipush 1000, 3) := by decide +kernel
theorem dX12_readPart_92 : decode cX12_readPart 92 = .ok (.if_icmp .le 19, 3) := by decide +kernel
theorem dX12_readPart_95 : decode cX12_readPart 95 = .ok (.iload_n 2, 1) := by decide +kernel
theorem dX12_readPart_96 : decode cX12_readPart 96 = .ok (.aload_n 0, 1) := by decide +kernel
theorem dX12_readPart_97 : decode cX12_readPart 97 = .ok (.getfield 217, 3) := by decide +kernel
theorem dX12_readPart_100 : decode cX12_readPart 100 = .ok (.if_icmp .lt 63, 3) := by decide +kernel
theorem dX12_readPart_103 : decode cX12_readPart 103 = .ok (.iload_n 2, 1) := by decide +kernel
theorem dX12_readPart_104 : decode cX12_readPart 104 = .ok (.aload_n 0, 1) := by decide +kernel
theorem dX12_readPart_105 : decode cX12_readPart 105 = .ok (.getfield 220, 3) := by decide +kernel
theorem dX12_readPart_108 : decode cX12_readPart 108 = .ok (.if_icmp .gt 55, 3) := by decide +kernel
theorem dX12_readPart_111 : decode cX12_readPart 111 = .ok (.aload_n 0, 1) := by decide +kernel
theorem dX12_readPart_112 : decode cX12_readPart 112 = .ok (.invokevirtual 223, 3) := by decide +kernel
theorem dX12_readPart_115 : decode cX12_readPart 115 = .ok (.aload_n 0, 1) := by decide +kernel
theorem dX12_readPart_116 : decode cX12_readPart 116 = .ok (.getfield 191, 3) := by decide +kernel
theorem dX12_readPart_119 : decode cX12_readPart 119 = .ok (.ifCond .eq 16, 3) := by decide +kernel
theorem dX12_readPart_122 : decode cX12_readPart 122 = .ok (.iload_n 2, 1) := by decide +kernel
theorem dX12_readPart_123 : decode cX12_readPart 123 = .ok (.bipush 16, 2) := by decide +kernel
theorem dX12_readPart_125 : decode cX12_readPart 125 = .ok (.if_icmp .ne 10, 3) := by decide +kernel
theorem dX12_readPart_128 : decode cX12_readPart 128 = .ok (.aload_n 0, 1) := by decide +kernel
theorem dX12_readPart_129 : decode cX12_readPart 129 = .ok (.iconst 0, 1) := by decide +kernel
theorem dX12_readPart_130 : decode cX12_readPart 130 = .ok (.bipush 9, 2) := by decide +kernel
theorem dX12_readPart_132 : decode cX12_readPart 132 = .ok (.invokevirtual 187, 3) := by decide +kernel
theorem dX12_readPart_135 : decode cX12_readPart 135 = .ok (.aload_n 0, 1) := by decide +kernel
theorem dX12_readPart_136 : decode cX12_readPart 136 = .ok (.getfield 191, 3) := by decide +kernel
theorem dX12_readPart_139 : decode cX12_readPart 139 = .ok (.ifCond .eq 28, 3) := by decide +kernel
theorem dX12_readPart_142 : decode cX12_readPart 142 = .ok (.iload_n 2, 1) := by decide +kernel
theorem dX12_readPart_143 : decode cX12_readPart 143 = .ok (.bipush 17, 2) := by decide +kernel
theorem dX12_readPart_145 : decode cX12_readPart 145 = .ok (.if_icmp .eq 9, 3) := by decide +kernel
theorem dX12_readPart_148 : decode cX12_readPart 148 = .ok (.iload_n 2, 1) := by decide +kernel
theorem dX12_readPart_149 : decode cX12_readPart 149 = .ok (.bipush 22, 2) := by decide +kernel
theorem dX12_readPart_151 : decode cX12_readPart 151 = .ok (.if_icmp .ne 16, 3) := by decide +kernel
theorem dX12_readPart_154 : decode cX12_readPart 154 = .ok (.aload_n 0, 1) := by decide +kernel
theorem dX12_readPart_155 : decode cX12_readPart 155 = .ok (.iconst 0, 1) := by decide +kernel
theorem dX12_readPart_156 : decode cX12_readPart 156 = .ok (.iconst 5, 1) := by decide +kernel
theorem dX12_readPart_157 : decode cX12_readPart 157 = .ok (.invokevirtual 187, 3) := by decide +kernel
theorem dX12_readPart_160 : decode cX12_readPart 160 = .ok (.goto 7, 3) := by decide +kernel
theorem dX12_readPart_163 : decode cX12_readPart 163 = .ok (.aload_n 0, 1) := by decide +kernel
theorem dX12_readPart_164 : decode cX12_readPart 164 = .ok (.invokevirtual 171, 3) := by decide +kernel
theorem dX12_readPart_167 : decode cX12_readPart 167 = .ok (.return_, 1) := by decide +kernel
theorem wt6_204 : Cond.methodLink RX12 161 yX12_fine ∈ kG := kt6 204 rfl rfl
theorem wt6_206 : Cond.instanceMethod yX12_fine ∈ kG := kt6 206 rfl rfl
theorem wp4_7 : Cond.selects RX12 yX12_fine yX12_fine ∈ kG := kp4 7 rfl rfl
theorem wt6_207 : Cond.code yX12_fine cX12_fine 1 (some .boolean) ∈ kG := kt6 207 rfl rfl
theorem wt5_179 : Cond.fieldLink RX12 165 "SunriseRoofModel" "token" "I" ∈ kG := kt5 179 rfl rfl
theorem wt6_200 : Cond.methodLink RX12 168 yX12_takes0 ∈ kG := kt6 200 rfl rfl
theorem wt6_202 : Cond.instanceMethod yX12_takes0 ∈ kG := kt6 202 rfl rfl
theorem wp4_6 : Cond.selects RX12 yX12_takes0 yX12_takes0 ∈ kG := kp4 6 rfl rfl
theorem wt6_203 : Cond.code yX12_takes0 cX12_takes0 3 (some .boolean) ∈ kG := kt6 203 rfl rfl
theorem wt6_223 : Cond.methodLink RX12 171 yX12_faults ∈ kG := kt6 223 rfl rfl
theorem wt6_225 : Cond.instanceMethod yX12_faults ∈ kG := kt6 225 rfl rfl
theorem wp4_11 : Cond.selects RX12 yX12_faults yX12_faults ∈ kG := kp4 11 rfl rfl
theorem wt6_226 : Cond.code yX12_faults cX12_faults 1 none ∈ kG := kt6 226 rfl rfl
theorem wt5_180 : Cond.fieldLink RX12 174 "SunriseRoofModel" "leaves" "I" ∈ kG := kt5 180 rfl rfl
theorem wt6_211 : Cond.code yX12_readSum cX12_readSum 2 none ∈ kG := kt6 211 rfl rfl
theorem wt6_215 : Cond.code yX12_readTerm cX12_readTerm 2 none ∈ kG := kt6 215 rfl rfl
theorem wt6_219 : Cond.code yX12_readPart cX12_readPart 3 none ∈ kG := kt6 219 rfl rfl
theorem wt7_2 : Cond.code yX12_readTest cX12_readTest 2 none ∈ kG := kt7 2 rfl rfl
theorem wt7_6 : Cond.code yX12_readBoth cX12_readBoth 2 none ∈ kG := kt7 6 rfl rfl
theorem wt7_10 : Cond.code yX12_readPlain cX12_readPlain 4 none ∈ kG := kt7 10 rfl rfl
theorem wt5_168 : Cond.fieldLink RX12 217 "SunriseRoofModel" "firstWord" "I" ∈ kG := kt5 168 rfl rfl
theorem wt5_169 : Cond.fieldLink RX12 220 "SunriseRoofModel" "lastWord" "I" ∈ kG := kt5 169 rfl rfl
theorem wt6_231 : Cond.methodLink RX12 223 yX12_leaf ∈ kG := kt6 231 rfl rfl
theorem wt6_233 : Cond.instanceMethod yX12_leaf ∈ kG := kt6 233 rfl rfl
theorem wp4_13 : Cond.selects RX12 yX12_leaf yX12_leaf ∈ kG := kp4 13 rfl rfl
theorem wt6_234 : Cond.code yX12_leaf cX12_leaf 1 none ∈ kG := kt6 234 rfl rfl
theorem wt5_170 : Cond.fieldLink RX12 191 "SunriseRoofModel" "isOrders" "Z" ∈ kG := kt5 170 rfl rfl
theorem wt6_208 : Cond.methodLink RX12 177 yX12_readSum ∈ kG := kt6 208 rfl rfl
theorem wt6_210 : Cond.instanceMethod yX12_readSum ∈ kG := kt6 210 rfl rfl
theorem wp4_8 : Cond.selects RX12 yX12_readSum yX12_readSum ∈ kG := kp4 8 rfl rfl
theorem wt6_227 : Cond.methodLink RX12 181 yX12_must ∈ kG := kt6 227 rfl rfl
theorem wt6_229 : Cond.instanceMethod yX12_must ∈ kG := kt6 229 rfl rfl
theorem wp4_12 : Cond.selects RX12 yX12_must yX12_must ∈ kG := kp4 12 rfl rfl
theorem wt6_230 : Cond.code yX12_must cX12_must 2 none ∈ kG := kt6 230 rfl rfl
theorem wt6_235 : Cond.methodLink RX12 187 yX12_mustNumber ∈ kG := kt6 235 rfl rfl
theorem wt6_237 : Cond.instanceMethod yX12_mustNumber ∈ kG := kt6 237 rfl rfl
theorem wp4_14 : Cond.selects RX12 yX12_mustNumber yX12_mustNumber ∈ kG := kp4 14 rfl rfl
theorem wt6_238 : Cond.code yX12_mustNumber cX12_mustNumber 3 none ∈ kG := kt6 238 rfl rfl
theorem wt6_216 : Cond.methodLink RX12 214 yX12_readPart ∈ kG := kt6 216 rfl rfl
theorem wt6_218 : Cond.instanceMethod yX12_readPart ∈ kG := kt6 218 rfl rfl
theorem wp4_10 : Cond.selects RX12 yX12_readPart yX12_readPart ∈ kG := kp4 10 rfl rfl
theorem wt6_212 : Cond.methodLink RX12 211 yX12_readTerm ∈ kG := kt6 212 rfl rfl
theorem wt6_214 : Cond.instanceMethod yX12_readTerm ∈ kG := kt6 214 rfl rfl
theorem wp4_9 : Cond.selects RX12 yX12_readTerm yX12_readTerm ∈ kG := kp4 9 rfl rfl
theorem wt6_239 : Cond.methodLink RX12 184 yX12_readTest ∈ kG := kt6 239 rfl rfl
theorem wt7_1 : Cond.instanceMethod yX12_readTest ∈ kG := kt7 1 rfl rfl
theorem wp4_15 : Cond.selects RX12 yX12_readTest yX12_readTest ∈ kG := kp4 15 rfl rfl
theorem wt7_7 : Cond.methodLink RX12 204 yX12_readPlain ∈ kG := kt7 7 rfl rfl
theorem wt7_9 : Cond.instanceMethod yX12_readPlain ∈ kG := kt7 9 rfl rfl
theorem wp5_1 : Cond.selects RX12 yX12_readPlain yX12_readPlain ∈ kG := kp5 1 rfl rfl
theorem wt7_3 : Cond.methodLink RX12 201 yX12_readBoth ∈ kG := kt7 3 rfl rfl
theorem wt7_5 : Cond.instanceMethod yX12_readBoth ∈ kG := kt7 5 rfl rfl
theorem wp5_0 : Cond.selects RX12 yX12_readBoth yX12_readBoth ∈ kG := kp5 0 rfl rfl
theorem wt7_11 : Cond.methodLink RX12 198 yX12_readClause ∈ kG := kt7 11 rfl rfl
theorem wt7_13 : Cond.instanceMethod yX12_readClause ∈ kG := kt7 13 rfl rfl
theorem wp5_2 : Cond.selects RX12 yX12_readClause yX12_readClause ∈ kG := kp5 2 rfl rfl
theorem wt7_14 : Cond.code yX12_readClause cX12_readClause 1 none ∈ kG := kt7 14 rfl rfl
theorem wt6_196 : Cond.methodLink RX12 195 yX12_readOrder ∈ kG := kt6 196 rfl rfl
theorem wt6_198 : Cond.instanceMethod yX12_readOrder ∈ kG := kt6 198 rfl rfl
theorem wp4_5 : Cond.selects RX12 yX12_readOrder yX12_readOrder ∈ kG := kp4 5 rfl rfl
theorem wt6_199 : Cond.code yX12_readOrder cX12_readOrder 1 none ∈ kG := kt6 199 rfl rfl
theorem kc_1000 : kb 1000 1000 1000 := ⟨by decide +kernel, by decide +kernel⟩
theorem kc_141 : kb 141 141 141 := ⟨by decide +kernel, by decide +kernel⟩
theorem kc_193 : kb 193 193 193 := ⟨by decide +kernel, by decide +kernel⟩
theorem kc_25 : kb 25 25 25 := ⟨by decide +kernel, by decide +kernel⟩
theorem kc_26 : kb 26 26 26 := ⟨by decide +kernel, by decide +kernel⟩
theorem kc_27 : kb 27 27 27 := ⟨by decide +kernel, by decide +kernel⟩
theorem kc_28 : kb 28 28 28 := ⟨by decide +kernel, by decide +kernel⟩
theorem kc_41 : kb 41 41 41 := ⟨by decide +kernel, by decide +kernel⟩
theorem kc_61 : kb 61 61 61 := ⟨by decide +kernel, by decide +kernel⟩
theorem kc_93 : kb 93 93 93 := ⟨by decide +kernel, by decide +kernel⟩
set_option maxHeartbeats 4000000 in
set_option maxRecDepth 100000 in
theorem q_faults  (l : Launch) {D : va_G} {K : Nat → ClassId} (o : Nat) (r : Nat → Nat) (f : Nat → Int32) (a : Nat → Nat → Int32) (g : Nat → Int64) (hI : mI f a)   (N i : Nat) (ob : Bool) (T : Nat → Int32) (hp0 : rS f a N ob) (hp1 : (f 19).toInt = (i : Int)) (hp2 : i ≤ N) (hp3 : rQ a N T) : kV l yX12_faults (Cond.code yX12_faults cX12_faults 1 none :: kG) (rmD 2 0 0) D (tysK K) [.ref o] (mW K o r f a g) (fun (u : Nat → Int32) => mI u a ∧ fE [21] f u ∧ ((f 21 = -1 → u 21 = a 17 i ∧ ¬ u 21 = -1) ∧ (¬ f 21 = -1 → u 21 = f 21))) (fun u => mW K o r u a g) 0 0 := by
  refine kV.of (cc := cX12_faults) (maxL := 1) (ret := none) (by decide) rfl (Nat.le_of_ble_eq_true rfl) ?_
  intro p e s m below meth c A hx hb hr hml hown hts hlocks hnm hK hP hD hS hA ls hl
  have hE : fE [21] f f := fE_rf
  have hg : ∀ w ∈ kG, w.before _ s = true := fun w h => hts w (List.mem_cons_of_mem _ h)
  have hown : s.vm.findClass RX12 = some m.cls := hown
  have hl : lv_has ls 1 [(0, .ref o)] := hl
  obtain ⟨c19, ec19⟩ : ∃ z : Int32, z = f 19 := ⟨_, rfl⟩
  have hg0 : c19.toInt = (i : Int) := by rw [ec19]; exact hp1
  have b1 : kb 0 c19 400 := kb_tok hp0 hp2 hg0
  by_cases h21 : f 21 = -1
  · refine lv_aload_n hx hb dX12_faults_0 rfl (lv_at hl 0 rfl) ?_
    refine kI.callV (As := []) (rest := []) ⟨hx, hb, hml, hown, hg⟩ (m_fine l o r f a g hI   ) (cwV 0 hg (kgV wt6_204 wt6_206 wp4_7 wt1_14 wt6_207) rfl rfl rfl (by decide +kernel) ⟨by decide, by decide⟩) hK hP hD hS hA mIs [] rfl (wr := []) rfl rfl rfl (fun i h => by cases h) 0 12 rfl rfl rfl hl.1 rfl (Nat.le_of_ble_eq_true rfl) dX12_faults_1 ⟨Nat.le_refl _, Nat.le_refl _⟩ (fun v3 u4 H locs hw2 hP hD hS => ?_)
    have hP : va_P D vwCl (mW K o r f a g) H := hP
    have hD : va_D A (mW K o r f a g) := hD
    refine k_top (z := 1) ((hw2.2).elim (fun q => q.1) (fun q => absurd h21 q.2)) ?_
    refine lv_if_eq (tgt := 20) hx hb dX12_faults_4 (by decide) (fun c5 => ?_) (fun c5 => ?_)
    · exact kb_dj c5 kc_1 kc_0 (by decide)
    · refine lv_aload_n hx hb dX12_faults_7 rfl (lv_at hl 0 rfl) ?_
      refine lv_aload_n hx hb dX12_faults_8 rfl (lv_at hl 0 rfl) ?_
      refine va_get (D := D) (ci := 12) (v := .ref (r 17)) (C := RX12) (T := TX12) (N := 48) hx hb hg inC12 hown hK hP 0 rfl rfl 17 (by decide) (hg _ wt5_177) (fun _ h9 => h9) rfl dX12_faults_9 ?_
      refine lv_aload_n hx hb dX12_faults_12 rfl (lv_at hl 0 rfl) ?_
      refine va_get (D := D) (ci := 12) (v := .int (f 19)) (C := RX12) (T := TX12) (N := 48) hx hb hg inC12 hown hK hP 0 rfl rfl 19 (by decide) (hg _ wt5_179) (fun _ h9 => h9) rfl dX12_faults_13 ?_
      refine k_top (z := c19) ec19.symm ?_
      refine va_iald hx hb hK hP 11 0 rfl rfl (kb_in b1 (by decide) (by decide)) dX12_faults_16 ?_
      refine lv_topi (fun t6 et6 => ?_)
      have b7 : kb 0 t6 400 := kb_eq et6 (aI_ld hI.2.1 17 0 401 b1 (by decide) (by decide) (by decide +kernel))
      refine va_put (D := D) (ci := 12) (v := .int t6) (ty := .int) (C := RX12) (T := TX12) (N := 48) hx hb hg inC12 tyX12 tyX12_ok nmX12 hown hK hP hD hS 0 rfl rfl 21 (by decide) (hg _ wt5_181) (fun _ h9 => h9) rfl (by decide +kernel) rfl rfl (Nat.le_of_ble_eq_true rfl) dX12_faults_17 (fun H locs hP hD hS => ?_)
      have hP : va_P D vwCl (mW K o r (upd f 21 t6) a g) H := hP
      have hD : va_D A (mW K o r (upd f 21 t6) a g) := hD
      refine k_gen (P := fun z => va_P D vwCl (mW K o r z a g) H ∧ va_D A (mW K o r z a g) ∧ (mI z a) ∧ (fE [21] f z)) (upd f 21 t6) ⟨hP, hD, (mI_f hI (fI_st hI.1 21 (kb_any _) (by decide) (by decide))), (fE_f hE (by decide))⟩ (fun f_8 ef_8 hq => ?_)
      obtain ⟨hP, hD, hI, hE⟩ := hq
      exact kV_ret hx hb hr hlocks hK hS dX12_faults_20 f_8 hP hD ⟨hI, hE, ⟨fun _ => ⟨((show f_8 21 = t6 from by rw [← ef_8]; rfl)).trans (et6.trans (congrArg (a 17) (cl_nat hg0))), by rw [(show f_8 21 = t6 from by rw [← ef_8]; rfl)]; exact kb_nm1 b7 (by decide)⟩, fun q => absurd h21 q⟩⟩
  · obtain ⟨c21, ec21⟩ : ∃ z : Int32, z = f 21 := ⟨_, rfl⟩
    have hn21 : ¬ c21 = -1 := by rw [ec21]; exact h21
    refine lv_aload_n hx hb dX12_faults_0 rfl (lv_at hl 0 rfl) ?_
    refine kI.callV (As := []) (rest := []) ⟨hx, hb, hml, hown, hg⟩ (m_fine l o r f a g hI   ) (cwV 0 hg (kgV wt6_204 wt6_206 wp4_7 wt1_14 wt6_207) rfl rfl rfl (by decide +kernel) ⟨by decide, by decide⟩) hK hP hD hS hA mIs [] rfl (wr := []) rfl rfl rfl (fun i h => by cases h) 0 12 rfl rfl rfl hl.1 rfl (Nat.le_of_ble_eq_true rfl) dX12_faults_1 ⟨Nat.le_refl _, Nat.le_refl _⟩ (fun v10 u11 H locs hw9 hP hD hS => ?_)
    have hP : va_P D vwCl (mW K o r f a g) H := hP
    have hD : va_D A (mW K o r f a g) := hD
    refine k_top (z := 0) ((hw9.2).elim (fun q => absurd q.2 (fun q => hn21 ((ec21.symm).symm.trans q))) (fun q => q.1)) ?_
    refine lv_if_eq (tgt := 20) hx hb dX12_faults_4 (by decide) (fun c12 => ?_) (fun c12 => ?_)
    · exact kV_ret hx hb hr hlocks hK hS dX12_faults_20 f hP hD ⟨hI, hE, ⟨fun q => absurd q h21, fun _ => (ec21.symm).trans ec21⟩⟩
    · exact kb_nsame c12 kc_0 kc_0
set_option maxHeartbeats 4000000 in
set_option maxRecDepth 100000 in
theorem q_takes0  (l : Launch) {D : va_G} {K : Nat → ClassId} (o : Nat) (r : Nat → Nat) (f : Nat → Int32) (a : Nat → Nat → Int32) (g : Nat → Int64) (hI : mI f a) (x : Int32) (bx : kb 1 x 355) (N i : Nat) (ob : Bool) (T : Nat → Int32) (hp0 : rS f a N ob) (hp1 : (f 19).toInt = (i : Int)) (hp2 : i ≤ N) (hp3 : rQ a N T) (hp4 : mpOk x = true) : kI l yX12_takes0 (Cond.code yX12_takes0 cX12_takes0 3 (some .boolean) :: kG) (rmD 2 0 0) D (tysK K) [.ref o, .int x] (mW K o r f a g) (fun v (u : Nat → Int32) => kb 0 v 1 ∧ mI u a ∧ fE [19] f u ∧ ((v = 1 ∧ f 21 = -1 ∧ T i = mpT x ∧ (u 19).toInt = ((i + 1 : Nat) : Int) ∧ i < N) ∨ (v = 0 ∧ (f 21 = -1 → ¬ T i = mpT x) ∧ (u 19).toInt = (i : Int)))) (fun u => mW K o r u a g) 0 0 := by
  refine kI.of (cc := cX12_takes0) (maxL := 3) (ret := (some .boolean)) (by decide) rfl (Nat.le_of_ble_eq_true rfl) ?_
  intro p e s m below meth c A hx hb hr hml hown hts hlocks hnm hK hP hD hS hA ls hl
  have hE : fE [19] f f := fE_rf
  have hg : ∀ w ∈ kG, w.before _ s = true := fun w h => hts w (List.mem_cons_of_mem _ h)
  have hown : s.vm.findClass RX12 = some m.cls := hown
  have hl : lv_has ls 3 [(0, .ref o), (1, .int x)] := hl
  obtain ⟨c19, ec19⟩ : ∃ z : Int32, z = f 19 := ⟨_, rfl⟩
  have hg0 : c19.toInt = (i : Int) := by rw [ec19]; exact hp1
  have b1 : kb 0 c19 400 := kb_tok hp0 hp2 hg0
  by_cases h21 : f 21 = -1
  · refine lv_aload_n hx hb dX12_takes0_0 rfl (lv_at hl 0 rfl) ?_
    refine kI.callV (As := []) (rest := []) ⟨hx, hb, hml, hown, hg⟩ (m_fine l o r f a g hI   ) (cwV 0 hg (kgV wt6_204 wt6_206 wp4_7 wt1_14 wt6_207) rfl rfl rfl (by decide +kernel) ⟨by decide, by decide⟩) hK hP hD hS hA mIs [] rfl (wr := []) rfl rfl rfl (fun i h => by cases h) 0 12 rfl rfl rfl hl.1 rfl (Nat.le_of_ble_eq_true rfl) dX12_takes0_1 ⟨Nat.le_refl _, Nat.le_refl _⟩ (fun v3 u4 H locs hw2 hP hD hS => ?_)
    have hP : va_P D vwCl (mW K o r f a g) H := hP
    have hD : va_D A (mW K o r f a g) := hD
    refine k_top (z := 1) ((hw2.2).elim (fun q => q.1) (fun q => absurd h21 q.2)) ?_
    refine lv_if_eq (tgt := 24) hx hb dX12_takes0_4 (by decide) (fun c5 => ?_) (fun c5 => ?_)
    · exact kb_dj c5 kc_1 kc_0 (by decide)
    · refine lv_aload_n hx hb dX12_takes0_7 rfl (lv_at hl 0 rfl) ?_
      refine va_get (D := D) (ci := 12) (v := .ref (r 15)) (C := RX12) (T := TX12) (N := 48) hx hb hg inC12 hown hK hP 0 rfl rfl 15 (by decide) (hg _ wt5_175) (fun _ h9 => h9) rfl dX12_takes0_8 ?_
      refine lv_aload_n hx hb dX12_takes0_11 rfl (lv_at hl 0 rfl) ?_
      refine va_get (D := D) (ci := 12) (v := .int (f 19)) (C := RX12) (T := TX12) (N := 48) hx hb hg inC12 hown hK hP 0 rfl rfl 19 (by decide) (hg _ wt5_179) (fun _ h9 => h9) rfl dX12_takes0_12 ?_
      refine k_top (z := c19) ec19.symm ?_
      refine va_iald hx hb hK hP 9 0 rfl rfl (kb_in b1 (by decide) (by decide)) dX12_takes0_15 ?_
      refine lv_topi (fun t6 et6 => ?_)
      have ht7 : t6 = rC (a 15) N (i) := et6.trans (rC_at (rS_fE hE hp0 (by decide)) hp2 hg0)
      have tq8 : tOk t6 (a 16 c19.toNatClampNeg) (T (i)) := tOk_eq et6 (rQ_ld hp3 (rS_fE hE hp0 (by decide)) hp2 hg0)
      refine lv_iload_n hx hb dX12_takes0_16 rfl (lv_at hl 1 rfl) ?_
      refine lv_icmp_ne (tgt := 24) hx hb dX12_takes0_17 (by decide) (fun c9 => ?_) (fun c9 => ?_)
      · refine lv_iconst (v := 0) hx hb dX12_takes0_24 (by decide) ?_
        refine lv_istore_n (lv' := [(2, .int 0), (0, .ref o), (1, .int x)]) hx hb dX12_takes0_25 rfl hl (by decide) rfl (fun ls hl => ?_)
        refine lv_iload_n hx hb dX12_takes0_26 rfl (lv_at hl 0 rfl) ?_
        refine lv_if_eq (tgt := 40) hx hb dX12_takes0_27 (by decide) (fun c10 => ?_) (fun c10 => ?_)
        · refine lv_iload_n hx hb dX12_takes0_40 rfl (lv_at hl 0 rfl) ?_
          exact kI_ret (v := 0) hx hb hr hlocks (by decide +kernel) hK hS dX12_takes0_41 f hP hD ⟨(kb_w kc_0 (by decide) (by decide)), hI, hE, (Or.inr ⟨rfl, (fun _ q => c9 ((tk_iff tq8 hp4).mpr q)), (by rw [ec19.symm]; exact hg0)⟩)⟩
        · exact kb_nsame c10 kc_0 kc_0
      · have b11 : kb 1 t6 355 := kb_eq c9 bx
        refine lv_iconst (v := 1) hx hb dX12_takes0_20 (by decide) ?_
        refine lv_goto (tgt := 25) hx hb dX12_takes0_21 (by decide) ?_
        refine lv_istore_n (lv' := [(2, .int 1), (0, .ref o), (1, .int x)]) hx hb dX12_takes0_25 rfl hl (by decide) rfl (fun ls hl => ?_)
        refine lv_iload_n hx hb dX12_takes0_26 rfl (lv_at hl 0 rfl) ?_
        refine lv_if_eq (tgt := 40) hx hb dX12_takes0_27 (by decide) (fun c12 => ?_) (fun c12 => ?_)
        · exact kb_dj c12 kc_1 kc_0 (by decide)
        · have b13 : kb 0 c19 399 := kb_tok1 hp0 (rC_lt (ne_0 (ht7.symm.trans c9) (mz_ne hp4))) hg0
          refine lv_aload_n hx hb dX12_takes0_30 rfl (lv_at hl 1 rfl) ?_
          refine lv_dup hx hb dX12_takes0_31 rfl ?_
          refine va_get (D := D) (ci := 12) (v := .int (f 19)) (C := RX12) (T := TX12) (N := 48) hx hb hg inC12 hown hK hP 0 rfl rfl 19 (by decide) (hg _ wt5_179) (fun _ h9 => h9) rfl dX12_takes0_32 ?_
          refine k_top (z := c19) ec19.symm ?_
          refine lv_iconst (v := 1) hx hb dX12_takes0_35 (by decide) ?_
          refine lv_iadd hx hb dX12_takes0_36 ?_
          refine lv_topi (fun t14 et14 => ?_)
          have b15 : kb 1 t14 400 := kb_eq et14 (kb_add b13 kc_1 (by decide) (by decide))
          have qt14 : t14.toInt = c19.toInt + 1 := by rw [et14]; exact kt_addc b13 kc_1 (by decide) (by decide)
          have hg16 : t14.toInt = ((i + 1 : Nat) : Int) := by rw [qt14, hg0]; omega
          refine va_put (D := D) (ci := 12) (v := .int t14) (ty := .int) (C := RX12) (T := TX12) (N := 48) hx hb hg inC12 tyX12 tyX12_ok nmX12 hown hK hP hD hS 0 rfl rfl 19 (by decide) (hg _ wt5_179) (fun _ h9 => h9) rfl (by decide +kernel) rfl rfl (Nat.le_of_ble_eq_true rfl) dX12_takes0_37 (fun H locs hP hD hS => ?_)
          have hP : va_P D vwCl (mW K o r (upd f 19 t14) a g) H := hP
          have hD : va_D A (mW K o r (upd f 19 t14) a g) := hD
          refine k_gen (P := fun z => va_P D vwCl (mW K o r z a g) H ∧ va_D A (mW K o r z a g) ∧ (mI z a) ∧ (fE [19] f z)) (upd f 19 t14) ⟨hP, hD, (mI_f hI (fI_st hI.1 19 b15 (by decide) (by decide))), (fE_f hE (by decide))⟩ (fun f_17 ef_17 hq => ?_)
          obtain ⟨hP, hD, hI, hE⟩ := hq
          refine lv_iload_n hx hb dX12_takes0_40 rfl (lv_at hl 0 rfl) ?_
          exact kI_ret (v := 1) hx hb hr hlocks (by decide +kernel) hK hS dX12_takes0_41 f_17 hP hD ⟨(kb_w kc_1 (by decide) (by decide)), hI, hE, (Or.inl ⟨rfl, h21, (tk_iff tq8 hp4).mp c9, (by rw [(show f_17 19 = t14 from by rw [← ef_17]; rfl)]; exact hg16), rC_lt (ne_0 (ht7.symm.trans c9) (mz_ne hp4))⟩)⟩
  · obtain ⟨c21, ec21⟩ : ∃ z : Int32, z = f 21 := ⟨_, rfl⟩
    have hn21 : ¬ c21 = -1 := by rw [ec21]; exact h21
    refine lv_aload_n hx hb dX12_takes0_0 rfl (lv_at hl 0 rfl) ?_
    refine kI.callV (As := []) (rest := []) ⟨hx, hb, hml, hown, hg⟩ (m_fine l o r f a g hI   ) (cwV 0 hg (kgV wt6_204 wt6_206 wp4_7 wt1_14 wt6_207) rfl rfl rfl (by decide +kernel) ⟨by decide, by decide⟩) hK hP hD hS hA mIs [] rfl (wr := []) rfl rfl rfl (fun i h => by cases h) 0 12 rfl rfl rfl hl.1 rfl (Nat.le_of_ble_eq_true rfl) dX12_takes0_1 ⟨Nat.le_refl _, Nat.le_refl _⟩ (fun v19 u20 H locs hw18 hP hD hS => ?_)
    have hP : va_P D vwCl (mW K o r f a g) H := hP
    have hD : va_D A (mW K o r f a g) := hD
    refine k_top (z := 0) ((hw18.2).elim (fun q => absurd q.2 (fun q => hn21 ((ec21.symm).symm.trans q))) (fun q => q.1)) ?_
    refine lv_if_eq (tgt := 24) hx hb dX12_takes0_4 (by decide) (fun c21 => ?_) (fun c21 => ?_)
    · refine lv_iconst (v := 0) hx hb dX12_takes0_24 (by decide) ?_
      refine lv_istore_n (lv' := [(2, .int 0), (0, .ref o), (1, .int x)]) hx hb dX12_takes0_25 rfl hl (by decide) rfl (fun ls hl => ?_)
      refine lv_iload_n hx hb dX12_takes0_26 rfl (lv_at hl 0 rfl) ?_
      refine lv_if_eq (tgt := 40) hx hb dX12_takes0_27 (by decide) (fun c22 => ?_) (fun c22 => ?_)
      · refine lv_iload_n hx hb dX12_takes0_40 rfl (lv_at hl 0 rfl) ?_
        exact kI_ret (v := 0) hx hb hr hlocks (by decide +kernel) hK hS dX12_takes0_41 f hP hD ⟨(kb_w kc_0 (by decide) (by decide)), hI, hE, (Or.inr ⟨rfl, (fun q => absurd q h21), (by rw [ec19.symm]; exact hg0)⟩)⟩
      · exact kb_nsame c22 kc_0 kc_0
    · exact kb_nsame c21 kc_0 kc_0
set_option maxHeartbeats 4000000 in
set_option maxRecDepth 100000 in
theorem q_must  (l : Launch) {D : va_G} {K : Nat → ClassId} (o : Nat) (r : Nat → Nat) (f : Nat → Int32) (a : Nat → Nat → Int32) (g : Nat → Int64) (hI : mI f a) (x : Int32) (bx : kb 1 x 355) (N i : Nat) (ob : Bool) (T : Nat → Int32) (hp0 : rS f a N ob) (hp1 : (f 19).toInt = (i : Int)) (hp2 : i ≤ N) (hp3 : rQ a N T) (hp4 : mpOk x = true) : kV l yX12_must (Cond.code yX12_must cX12_must 2 none :: kG) (rmD 3 0 0) D (tysK K) [.ref o, .int x] (mW K o r f a g) (fun (u : Nat → Int32) => mI u a ∧ fE [19, 21] f u ∧ ((f 21 = -1 ∧ u 21 = -1 ∧ T i = mpT x ∧ (u 19).toInt = ((i + 1 : Nat) : Int) ∧ i < N) ∨ (f 21 = -1 ∧ (u 21 = a 17 i ∧ ¬ u 21 = -1) ∧ ¬ T i = mpT x ∧ (u 19).toInt = (i : Int)) ∨ (¬ f 21 = -1 ∧ u 21 = f 21 ∧ (u 19).toInt = (i : Int)))) (fun u => mW K o r u a g) 0 0 := by
  refine kV.of (cc := cX12_must) (maxL := 2) (ret := none) (by decide) rfl (Nat.le_of_ble_eq_true rfl) ?_
  intro p e s m below meth c A hx hb hr hml hown hts hlocks hnm hK hP hD hS hA ls hl
  have hE : fE [19, 21] f f := fE_rf
  have hg : ∀ w ∈ kG, w.before _ s = true := fun w h => hts w (List.mem_cons_of_mem _ h)
  have hown : s.vm.findClass RX12 = some m.cls := hown
  have hl : lv_has ls 2 [(0, .ref o), (1, .int x)] := hl
  obtain ⟨c19, ec19⟩ : ∃ z : Int32, z = f 19 := ⟨_, rfl⟩
  have hg0 : c19.toInt = (i : Int) := by rw [ec19]; exact hp1
  have b1 : kb 0 c19 400 := kb_tok hp0 hp2 hg0
  by_cases h21 : f 21 = -1
  · refine lv_aload_n hx hb dX12_must_0 rfl (lv_at hl 0 rfl) ?_
    refine lv_iload_n hx hb dX12_must_1 rfl (lv_at hl 1 rfl) ?_
    refine kI.callV (As := [.int x]) (rest := []) ⟨hx, hb, hml, hown, hg⟩ (q_takes0 l o r f a g hI x bx N (i) ob T (rS_fE hE hp0 (by decide)) (by rw [ec19.symm]; exact hg0) hp2 hp3 hp4) (cwV 1 hg (kgV wt6_200 wt6_202 wp4_6 wt1_14 wt6_203) rfl rfl rfl (by decide +kernel) ⟨by decide, by decide⟩) hK hP hD hS hA mIs [] rfl (wr := []) rfl rfl rfl (fun i h => by cases h) 0 12 rfl rfl rfl hl.1 rfl (Nat.le_of_ble_eq_true rfl) dX12_must_2 ⟨Nat.le_refl _, Nat.le_refl _⟩ (fun v3 u4 H locs hw2 hP hD hS => ?_)
    have hP : va_P D vwCl (mW K o r u4 a g) H := hP
    have hD : va_D A (mW K o r u4 a g) := hD
    have hI : mI u4 a := hw2.2.1
    have eE5 : fE [19] f u4 := hw2.2.2.1
    have hE : fE [19, 21] f u4 := fE_tr hE (fE_w (by decide) eE5)
    rcases hw2.2.2.2 with ⟨hvk6, hbk6, htk6, hpk6, hlk6⟩ | ⟨hvk6, hnk6, hpk6⟩
    · refine k_top (z := 1) hvk6 ?_
      obtain ⟨gv7, egv7⟩ : ∃ z : Int32, z = u4 19 := ⟨_, rfl⟩
      have hg8 : gv7.toInt = ((i + 1 : Nat) : Int) := by rw [egv7]; exact hpk6
      have b9 : kb 0 gv7 400 := kb_tok (rS_fE hE hp0 (by decide)) hlk6 hg8
      have hTk6 : T (i) = mpT x := htk6
      refine lv_if_ne (tgt := 12) hx hb dX12_must_5 (by decide) (fun c10 => ?_) (fun c10 => ?_)
      · exact kV_ret hx hb hr hlocks hK hS dX12_must_12 u4 hP hD ⟨hI, hE, (Or.inl ⟨h21, ((eE5 21 (by decide)).trans h21), hTk6, (by rw [egv7.symm]; exact hg8), hlk6⟩)⟩
      · exact kb_dj c10 kc_1 kc_0 (by decide)
    · refine k_top (z := 0) hvk6 ?_
      obtain ⟨gv11, egv11⟩ : ∃ z : Int32, z = u4 19 := ⟨_, rfl⟩
      have hg12 : gv11.toInt = ((i : Nat) : Int) := by rw [egv11]; exact hpk6
      have b13 : kb 0 gv11 400 := kb_tok (rS_fE hE hp0 (by decide)) hp2 hg12
      have hTk6 : ¬ T (i) = mpT x := (hnk6 h21)
      refine lv_if_ne (tgt := 12) hx hb dX12_must_5 (by decide) (fun c14 => ?_) (fun c14 => ?_)
      · exact kb_nsame c14 kc_0 kc_0
      · refine lv_aload_n hx hb dX12_must_8 rfl (lv_at hl 0 rfl) ?_
        refine kV.callV (As := []) (rest := []) ⟨hx, hb, hml, hown, hg⟩ (q_faults l o r u4 a g hI   N (i) ob T (rS_fE hE hp0 (by decide)) (by rw [egv11.symm]; exact hg12) hp2 hp3) (cwV 0 hg (kgV wt6_223 wt6_225 wp4_11 wt1_14 wt6_226) rfl rfl rfl (by decide +kernel) ⟨by decide, by decide⟩) hK hP hD hS hA mIs [] rfl (wr := []) rfl rfl rfl (fun i h => by cases h) 0 12 rfl rfl rfl hl.1 rfl (Nat.le_of_ble_eq_true rfl) dX12_must_9 ⟨Nat.le_refl _, Nat.le_refl _⟩ (fun u17 H locs hw15 hP hD hS => ?_)
        have hP : va_P D vwCl (mW K o r u17 a g) H := hP
        have hD : va_D A (mW K o r u17 a g) := hD
        have hI : mI u17 a := hw15.1
        have eE18 : fE [21] u4 u17 := hw15.2.1
        have hE : fE [19, 21] f u17 := fE_tr hE (fE_w (by decide) eE18)
        obtain ⟨z19, ez19⟩ : ∃ z : Int32, z = u17 21 := ⟨_, rfl⟩
        have haz19 : z19 = a 17 (i) := by rw [ez19]; exact (hw15.2.2.1 ((eE5 21 (by decide)).trans h21)).1
        have hnz19 : ¬ z19 = -1 := by rw [ez19]; exact (hw15.2.2.1 ((eE5 21 (by decide)).trans h21)).2
        exact kV_ret hx hb hr hlocks hK hS dX12_must_12 u17 hP hD ⟨hI, hE, (Or.inr (Or.inl ⟨h21, ⟨(ez19.symm).trans haz19, (fun q => hnz19 ((ez19.symm).symm.trans q))⟩, hTk6, (by rw [((eE18 19 (by decide)).trans egv11.symm)]; exact hg12)⟩))⟩
  · obtain ⟨c21, ec21⟩ : ∃ z : Int32, z = f 21 := ⟨_, rfl⟩
    have hn21 : ¬ c21 = -1 := by rw [ec21]; exact h21
    refine lv_aload_n hx hb dX12_must_0 rfl (lv_at hl 0 rfl) ?_
    refine lv_iload_n hx hb dX12_must_1 rfl (lv_at hl 1 rfl) ?_
    refine kI.callV (As := [.int x]) (rest := []) ⟨hx, hb, hml, hown, hg⟩ (q_takes0 l o r f a g hI x bx N (i) ob T (rS_fE hE hp0 (by decide)) (by rw [ec19.symm]; exact hg0) hp2 hp3 hp4) (cwV 1 hg (kgV wt6_200 wt6_202 wp4_6 wt1_14 wt6_203) rfl rfl rfl (by decide +kernel) ⟨by decide, by decide⟩) hK hP hD hS hA mIs [] rfl (wr := []) rfl rfl rfl (fun i h => by cases h) 0 12 rfl rfl rfl hl.1 rfl (Nat.le_of_ble_eq_true rfl) dX12_must_2 ⟨Nat.le_refl _, Nat.le_refl _⟩ (fun v21 u22 H locs hw20 hP hD hS => ?_)
    have hP : va_P D vwCl (mW K o r u22 a g) H := hP
    have hD : va_D A (mW K o r u22 a g) := hD
    have hI : mI u22 a := hw20.2.1
    have eE23 : fE [19] f u22 := hw20.2.2.1
    have hE : fE [19, 21] f u22 := fE_tr hE (fE_w (by decide) eE23)
    obtain ⟨hvk24, hnk24, hpk24⟩ := (hw20.2.2.2).elim (fun q => absurd q.2.1 (fun q => hn21 ((ec21.symm).symm.trans q))) (fun q => q)
    refine k_top (z := 0) hvk24 ?_
    obtain ⟨gv25, egv25⟩ : ∃ z : Int32, z = u22 19 := ⟨_, rfl⟩
    have hg26 : gv25.toInt = ((i : Nat) : Int) := by rw [egv25]; exact hpk24
    have b27 : kb 0 gv25 400 := kb_tok (rS_fE hE hp0 (by decide)) hp2 hg26
    refine lv_if_ne (tgt := 12) hx hb dX12_must_5 (by decide) (fun c28 => ?_) (fun c28 => ?_)
    · exact kb_nsame c28 kc_0 kc_0
    · refine lv_aload_n hx hb dX12_must_8 rfl (lv_at hl 0 rfl) ?_
      refine kV.callV (As := []) (rest := []) ⟨hx, hb, hml, hown, hg⟩ (q_faults l o r u22 a g hI   N (i) ob T (rS_fE hE hp0 (by decide)) (by rw [egv25.symm]; exact hg26) hp2 hp3) (cwV 0 hg (kgV wt6_223 wt6_225 wp4_11 wt1_14 wt6_226) rfl rfl rfl (by decide +kernel) ⟨by decide, by decide⟩) hK hP hD hS hA mIs [] rfl (wr := []) rfl rfl rfl (fun i h => by cases h) 0 12 rfl rfl rfl hl.1 rfl (Nat.le_of_ble_eq_true rfl) dX12_must_9 ⟨Nat.le_refl _, Nat.le_refl _⟩ (fun u31 H locs hw29 hP hD hS => ?_)
      have hP : va_P D vwCl (mW K o r u31 a g) H := hP
      have hD : va_D A (mW K o r u31 a g) := hD
      have hI : mI u31 a := hw29.1
      have eE32 : fE [21] u22 u31 := hw29.2.1
      have hE : fE [19, 21] f u31 := fE_tr hE (fE_w (by decide) eE32)
      exact kV_ret hx hb hr hlocks hK hS dX12_must_12 u31 hP hD ⟨hI, hE, (Or.inr (Or.inr ⟨h21, (((hw29.2.2.2 (fun q => hn21 ((((eE23 21 (by decide)).trans ec21.symm)).symm.trans q))).trans ((eE23 21 (by decide)).trans ec21.symm))).trans ec21, (by rw [((eE32 19 (by decide)).trans egv25.symm)]; exact hg26)⟩))⟩
set_option maxHeartbeats 4000000 in
set_option maxRecDepth 100000 in
theorem q_mustNumber  (l : Launch) {D : va_G} {K : Nat → ClassId} (o : Nat) (r : Nat → Nat) (f : Nat → Int32) (a : Nat → Nat → Int32) (g : Nat → Int64) (hI : mI f a) (lo : Int32) (hi : Int32) (blo : kb 0 lo 20) (bhi : kb 0 hi 20) (N i : Nat) (ob : Bool) (T : Nat → Int32) (hp0 : rS f a N ob) (hp1 : (f 19).toInt = (i : Int)) (hp2 : i ≤ N) (hp3 : rQ a N T) : kV l yX12_mustNumber (Cond.code yX12_mustNumber cX12_mustNumber 3 none :: kG) (rmD 3 0 0) D (tysK K) [.ref o, .int lo, .int hi] (mW K o r f a g) (fun (u : Nat → Int32) => mI u a ∧ fE [19, 21] f u ∧ ((f 21 = -1 ∧ u 21 = -1 ∧ pInr (T i) lo.toInt hi.toInt = true ∧ (u 19).toInt = ((i + 1 : Nat) : Int) ∧ i < N) ∨ (f 21 = -1 ∧ (u 21 = a 17 i ∧ ¬ u 21 = -1) ∧ pInr (T i) lo.toInt hi.toInt = false ∧ (u 19).toInt = (i : Int)) ∨ (¬ f 21 = -1 ∧ u 21 = f 21 ∧ (u 19).toInt = (i : Int)))) (fun u => mW K o r u a g) 0 0 := by
  refine kV.of (cc := cX12_mustNumber) (maxL := 3) (ret := none) (by decide) rfl (Nat.le_of_ble_eq_true rfl) ?_
  intro p e s m below meth c A hx hb hr hml hown hts hlocks hnm hK hP hD hS hA ls hl
  have hE : fE [19, 21] f f := fE_rf
  have hg : ∀ w ∈ kG, w.before _ s = true := fun w h => hts w (List.mem_cons_of_mem _ h)
  have hown : s.vm.findClass RX12 = some m.cls := hown
  have hl : lv_has ls 3 [(0, .ref o), (1, .int lo), (2, .int hi)] := hl
  obtain ⟨c19, ec19⟩ : ∃ z : Int32, z = f 19 := ⟨_, rfl⟩
  have hg0 : c19.toInt = (i : Int) := by rw [ec19]; exact hp1
  have b1 : kb 0 c19 400 := kb_tok hp0 hp2 hg0
  by_cases h21 : f 21 = -1
  · refine lv_aload_n hx hb dX12_mustNumber_0 rfl (lv_at hl 0 rfl) ?_
    refine kI.callV (As := []) (rest := []) ⟨hx, hb, hml, hown, hg⟩ (m_fine l o r f a g hI   ) (cwV 0 hg (kgV wt6_204 wt6_206 wp4_7 wt1_14 wt6_207) rfl rfl rfl (by decide +kernel) ⟨by decide, by decide⟩) hK hP hD hS hA mIs [] rfl (wr := []) rfl rfl rfl (fun i h => by cases h) 0 12 rfl rfl rfl hl.1 rfl (Nat.le_of_ble_eq_true rfl) dX12_mustNumber_1 ⟨Nat.le_refl _, Nat.le_refl _⟩ (fun v3 u4 H locs hw2 hP hD hS => ?_)
    have hP : va_P D vwCl (mW K o r f a g) H := hP
    have hD : va_D A (mW K o r f a g) := hD
    refine k_top (z := 1) ((hw2.2).elim (fun q => q.1) (fun q => absurd h21 q.2)) ?_
    refine lv_if_eq (tgt := 42) hx hb dX12_mustNumber_4 (by decide) (fun c5 => ?_) (fun c5 => ?_)
    · exact kb_dj c5 kc_1 kc_0 (by decide)
    · refine lv_aload_n hx hb dX12_mustNumber_7 rfl (lv_at hl 0 rfl) ?_
      refine va_get (D := D) (ci := 12) (v := .ref (r 15)) (C := RX12) (T := TX12) (N := 48) hx hb hg inC12 hown hK hP 0 rfl rfl 15 (by decide) (hg _ wt5_175) (fun _ h9 => h9) rfl dX12_mustNumber_8 ?_
      refine lv_aload_n hx hb dX12_mustNumber_11 rfl (lv_at hl 0 rfl) ?_
      refine va_get (D := D) (ci := 12) (v := .int (f 19)) (C := RX12) (T := TX12) (N := 48) hx hb hg inC12 hown hK hP 0 rfl rfl 19 (by decide) (hg _ wt5_179) (fun _ h9 => h9) rfl dX12_mustNumber_12 ?_
      refine k_top (z := c19) ec19.symm ?_
      refine va_iald hx hb hK hP 9 0 rfl rfl (kb_in b1 (by decide) (by decide)) dX12_mustNumber_15 ?_
      refine lv_topi (fun t6 et6 => ?_)
      have ht7 : t6 = rC (a 15) N (i) := et6.trans (rC_at (rS_fE hE hp0 (by decide)) hp2 hg0)
      have tq8 : tOk t6 (a 16 c19.toNatClampNeg) (T (i)) := tOk_eq et6 (rQ_ld hp3 (rS_fE hE hp0 (by decide)) hp2 hg0)
      refine lv_bipush (v := 50) hx hb dX12_mustNumber_16 (by decide) ?_
      refine lv_icmp_ne (tgt := 38) hx hb dX12_mustNumber_18 (by decide) (fun c9 => ?_) (fun c9 => ?_)
      · refine lv_aload_n hx hb dX12_mustNumber_38 rfl (lv_at hl 0 rfl) ?_
        refine kV.callV (As := []) (rest := []) ⟨hx, hb, hml, hown, hg⟩ (q_faults l o r f a g hI   N (i) ob T (rS_fE hE hp0 (by decide)) (by rw [ec19.symm]; exact hg0) hp2 hp3) (cwV 0 hg (kgV wt6_223 wt6_225 wp4_11 wt1_14 wt6_226) rfl rfl rfl (by decide +kernel) ⟨by decide, by decide⟩) hK hP hD hS hA mIs [] rfl (wr := []) rfl rfl rfl (fun i h => by cases h) 0 12 rfl rfl rfl hl.1 rfl (Nat.le_of_ble_eq_true rfl) dX12_mustNumber_39 ⟨Nat.le_refl _, Nat.le_refl _⟩ (fun u12 H locs hw10 hP hD hS => ?_)
        have hP : va_P D vwCl (mW K o r u12 a g) H := hP
        have hD : va_D A (mW K o r u12 a g) := hD
        have hI : mI u12 a := hw10.1
        have eE13 : fE [21] f u12 := hw10.2.1
        have hE : fE [19, 21] f u12 := fE_tr hE (fE_w (by decide) eE13)
        obtain ⟨z14, ez14⟩ : ∃ z : Int32, z = u12 21 := ⟨_, rfl⟩
        have haz14 : z14 = a 17 (i) := by rw [ez14]; exact (hw10.2.2.1 h21).1
        have hnz14 : ¬ z14 = -1 := by rw [ez14]; exact (hw10.2.2.1 h21).2
        refine lv_aload_n hx hb dX12_mustNumber_42 rfl (lv_at hl 0 rfl) ?_
        refine kI.callV (As := []) (rest := []) ⟨hx, hb, hml, hown, hg⟩ (m_fine l o r u12 a g hI   ) (cwV 0 hg (kgV wt6_204 wt6_206 wp4_7 wt1_14 wt6_207) rfl rfl rfl (by decide +kernel) ⟨by decide, by decide⟩) hK hP hD hS hA mIs [] rfl (wr := []) rfl rfl rfl (fun i h => by cases h) 0 12 rfl rfl rfl hl.1 rfl (Nat.le_of_ble_eq_true rfl) dX12_mustNumber_43 ⟨Nat.le_refl _, Nat.le_refl _⟩ (fun v16 u17 H locs hw15 hP hD hS => ?_)
        have hP : va_P D vwCl (mW K o r u12 a g) H := hP
        have hD : va_D A (mW K o r u12 a g) := hD
        refine k_top (z := 0) ((hw15.2).elim (fun q => absurd q.2 (fun q => hnz14 ((ez14.symm).symm.trans q))) (fun q => q.1)) ?_
        refine lv_if_eq (tgt := 59) hx hb dX12_mustNumber_46 (by decide) (fun c18 => ?_) (fun c18 => ?_)
        · exact kV_ret hx hb hr hlocks hK hS dX12_mustNumber_59 u12 hP hD ⟨hI, hE, (Or.inr (Or.inl ⟨h21, ⟨(ez14.symm).trans haz14, (fun q => hnz14 ((ez14.symm).symm.trans q))⟩, (pn_n tq8 (fun q => c9 q.1) (bhi).2), (by rw [((eE13 19 (by decide)).trans ec19.symm)]; exact hg0)⟩))⟩
        · exact kb_nsame c18 kc_0 kc_0
      · have b19 : kb 50 t6 50 := kb_eq c9 kc_50
        refine lv_aload_n hx hb dX12_mustNumber_21 rfl (lv_at hl 0 rfl) ?_
        refine va_get (D := D) (ci := 12) (v := .ref (r 16)) (C := RX12) (T := TX12) (N := 48) hx hb hg inC12 hown hK hP 0 rfl rfl 16 (by decide) (hg _ wt5_176) (fun _ h9 => h9) rfl dX12_mustNumber_22 ?_
        refine lv_aload_n hx hb dX12_mustNumber_25 rfl (lv_at hl 0 rfl) ?_
        refine va_get (D := D) (ci := 12) (v := .int (f 19)) (C := RX12) (T := TX12) (N := 48) hx hb hg inC12 hown hK hP 0 rfl rfl 19 (by decide) (hg _ wt5_179) (fun _ h9 => h9) rfl dX12_mustNumber_26 ?_
        refine k_top (z := c19) ec19.symm ?_
        refine va_iald hx hb hK hP 10 0 rfl rfl (kb_in b1 (by decide) (by decide)) dX12_mustNumber_29 ?_
        refine lv_topi (fun t20 et20 => ?_)
        refine lv_iload_n hx hb dX12_mustNumber_30 rfl (lv_at hl 1 rfl) ?_
        refine lv_iload_n hx hb dX12_mustNumber_31 rfl (lv_at hl 2 rfl) ?_
        refine kN.callS (As := [.int t20, .int lo, .int hi]) (rest := []) ⟨hx, hb, hml, hown, hg⟩ (m_lies l t20 lo hi ) (va_cwS 3 hg (kgS wt6_69 wt6_70 wt1_14 wt6_71) rfl rfl rfl (by decide +kernel) ⟨by decide, by decide⟩) hP hS rfl hl.1 rfl (Nat.le_of_ble_eq_true rfl) dX12_mustNumber_32 ⟨Nat.le_refl _, Nat.le_refl _⟩ (fun v22 H locs hw21 hP hS => ?_)
        refine lv_if_ne (tgt := 42) hx hb dX12_mustNumber_35 (by decide) (fun c24 => ?_) (fun c24 => ?_)
        · have b25 : kb 1 v22 1 := kr_nel c24 hw21.1 kc_0 (by decide)
          have h26 := mLies_ne (hw21.2 ▸ c24)
          have b27 : kb 0 t20 2147483647 := kr_le2 h26.1 blo (kb_any t20)
          have b28 : kb 0 t20 20 := kr_le1 h26.2 b27 bhi
          refine lv_aload_n hx hb dX12_mustNumber_42 rfl (lv_at hl 0 rfl) ?_
          refine kI.callV (As := []) (rest := []) ⟨hx, hb, hml, hown, hg⟩ (m_fine l o r f a g hI   ) (cwV 0 hg (kgV wt6_204 wt6_206 wp4_7 wt1_14 wt6_207) rfl rfl rfl (by decide +kernel) ⟨by decide, by decide⟩) hK hP hD hS hA mIs [] rfl (wr := []) rfl rfl rfl (fun i h => by cases h) 0 12 rfl rfl rfl hl.1 rfl (Nat.le_of_ble_eq_true rfl) dX12_mustNumber_43 ⟨Nat.le_refl _, Nat.le_refl _⟩ (fun v30 u31 H locs hw29 hP hD hS => ?_)
          have hP : va_P D vwCl (mW K o r f a g) H := hP
          have hD : va_D A (mW K o r f a g) := hD
          refine k_top (z := 1) ((hw29.2).elim (fun q => q.1) (fun q => absurd h21 q.2)) ?_
          refine lv_if_eq (tgt := 59) hx hb dX12_mustNumber_46 (by decide) (fun c32 => ?_) (fun c32 => ?_)
          · exact kb_dj c32 kc_1 kc_0 (by decide)
          · have b33 : kb 0 c19 399 := kb_tok1 hp0 (rC_lt (ne_0 (ht7.symm.trans c9) (by decide +kernel))) hg0
            refine lv_aload_n hx hb dX12_mustNumber_49 rfl (lv_at hl 0 rfl) ?_
            refine lv_dup hx hb dX12_mustNumber_50 rfl ?_
            refine va_get (D := D) (ci := 12) (v := .int (f 19)) (C := RX12) (T := TX12) (N := 48) hx hb hg inC12 hown hK hP 0 rfl rfl 19 (by decide) (hg _ wt5_179) (fun _ h9 => h9) rfl dX12_mustNumber_51 ?_
            refine k_top (z := c19) ec19.symm ?_
            refine lv_iconst (v := 1) hx hb dX12_mustNumber_54 (by decide) ?_
            refine lv_iadd hx hb dX12_mustNumber_55 ?_
            refine lv_topi (fun t34 et34 => ?_)
            have b35 : kb 1 t34 400 := kb_eq et34 (kb_add b33 kc_1 (by decide) (by decide))
            have qt34 : t34.toInt = c19.toInt + 1 := by rw [et34]; exact kt_addc b33 kc_1 (by decide) (by decide)
            have hg36 : t34.toInt = ((i + 1 : Nat) : Int) := by rw [qt34, hg0]; omega
            refine va_put (D := D) (ci := 12) (v := .int t34) (ty := .int) (C := RX12) (T := TX12) (N := 48) hx hb hg inC12 tyX12 tyX12_ok nmX12 hown hK hP hD hS 0 rfl rfl 19 (by decide) (hg _ wt5_179) (fun _ h9 => h9) rfl (by decide +kernel) rfl rfl (Nat.le_of_ble_eq_true rfl) dX12_mustNumber_56 (fun H locs hP hD hS => ?_)
            have hP : va_P D vwCl (mW K o r (upd f 19 t34) a g) H := hP
            have hD : va_D A (mW K o r (upd f 19 t34) a g) := hD
            refine k_gen (P := fun z => va_P D vwCl (mW K o r z a g) H ∧ va_D A (mW K o r z a g) ∧ (mI z a) ∧ (fE [19, 21] f z)) (upd f 19 t34) ⟨hP, hD, (mI_f hI (fI_st hI.1 19 b35 (by decide) (by decide))), (fE_f hE (by decide))⟩ (fun f_37 ef_37 hq => ?_)
            obtain ⟨hP, hD, hI, hE⟩ := hq
            exact kV_ret hx hb hr hlocks hK hS dX12_mustNumber_59 f_37 hP hD ⟨hI, hE, (Or.inl ⟨h21, ((show f_37 21 = f 21 from by rw [← ef_37]; rfl).trans h21), (pn_y (tOk_eq2 rfl et20 tq8) c9 (mLies_ne (hw21.2 ▸ c24)) (bhi).2), (by rw [(show f_37 19 = t34 from by rw [← ef_37]; rfl)]; exact hg36), (rC_lt (ne_0 (ht7.symm.trans c9) (by decide +kernel)))⟩)⟩
        · have b38 : kb 0 v22 0 := kb_eq c24 kc_0
          refine lv_aload_n hx hb dX12_mustNumber_38 rfl (lv_at hl 0 rfl) ?_
          refine kV.callV (As := []) (rest := []) ⟨hx, hb, hml, hown, hg⟩ (q_faults l o r f a g hI   N (i) ob T (rS_fE hE hp0 (by decide)) (by rw [ec19.symm]; exact hg0) hp2 hp3) (cwV 0 hg (kgV wt6_223 wt6_225 wp4_11 wt1_14 wt6_226) rfl rfl rfl (by decide +kernel) ⟨by decide, by decide⟩) hK hP hD hS hA mIs [] rfl (wr := []) rfl rfl rfl (fun i h => by cases h) 0 12 rfl rfl rfl hl.1 rfl (Nat.le_of_ble_eq_true rfl) dX12_mustNumber_39 ⟨Nat.le_refl _, Nat.le_refl _⟩ (fun u41 H locs hw39 hP hD hS => ?_)
          have hP : va_P D vwCl (mW K o r u41 a g) H := hP
          have hD : va_D A (mW K o r u41 a g) := hD
          have hI : mI u41 a := hw39.1
          have eE42 : fE [21] f u41 := hw39.2.1
          have hE : fE [19, 21] f u41 := fE_tr hE (fE_w (by decide) eE42)
          obtain ⟨z43, ez43⟩ : ∃ z : Int32, z = u41 21 := ⟨_, rfl⟩
          have haz43 : z43 = a 17 (i) := by rw [ez43]; exact (hw39.2.2.1 h21).1
          have hnz43 : ¬ z43 = -1 := by rw [ez43]; exact (hw39.2.2.1 h21).2
          refine lv_aload_n hx hb dX12_mustNumber_42 rfl (lv_at hl 0 rfl) ?_
          refine kI.callV (As := []) (rest := []) ⟨hx, hb, hml, hown, hg⟩ (m_fine l o r u41 a g hI   ) (cwV 0 hg (kgV wt6_204 wt6_206 wp4_7 wt1_14 wt6_207) rfl rfl rfl (by decide +kernel) ⟨by decide, by decide⟩) hK hP hD hS hA mIs [] rfl (wr := []) rfl rfl rfl (fun i h => by cases h) 0 12 rfl rfl rfl hl.1 rfl (Nat.le_of_ble_eq_true rfl) dX12_mustNumber_43 ⟨Nat.le_refl _, Nat.le_refl _⟩ (fun v45 u46 H locs hw44 hP hD hS => ?_)
          have hP : va_P D vwCl (mW K o r u41 a g) H := hP
          have hD : va_D A (mW K o r u41 a g) := hD
          refine k_top (z := 0) ((hw44.2).elim (fun q => absurd q.2 (fun q => hnz43 ((ez43.symm).symm.trans q))) (fun q => q.1)) ?_
          refine lv_if_eq (tgt := 59) hx hb dX12_mustNumber_46 (by decide) (fun c47 => ?_) (fun c47 => ?_)
          · exact kV_ret hx hb hr hlocks hK hS dX12_mustNumber_59 u41 hP hD ⟨hI, hE, (Or.inr (Or.inl ⟨h21, ⟨(ez43.symm).trans haz43, (fun q => hnz43 ((ez43.symm).symm.trans q))⟩, (pn_n (tOk_eq2 rfl et20 tq8) (fun q => mLies_z (hw21.2.symm.trans c24) rfl rfl q.2) (bhi).2), (by rw [((eE42 19 (by decide)).trans ec19.symm)]; exact hg0)⟩))⟩
          · exact kb_nsame c47 kc_0 kc_0
  · obtain ⟨c21, ec21⟩ : ∃ z : Int32, z = f 21 := ⟨_, rfl⟩
    have hn21 : ¬ c21 = -1 := by rw [ec21]; exact h21
    refine lv_aload_n hx hb dX12_mustNumber_0 rfl (lv_at hl 0 rfl) ?_
    refine kI.callV (As := []) (rest := []) ⟨hx, hb, hml, hown, hg⟩ (m_fine l o r f a g hI   ) (cwV 0 hg (kgV wt6_204 wt6_206 wp4_7 wt1_14 wt6_207) rfl rfl rfl (by decide +kernel) ⟨by decide, by decide⟩) hK hP hD hS hA mIs [] rfl (wr := []) rfl rfl rfl (fun i h => by cases h) 0 12 rfl rfl rfl hl.1 rfl (Nat.le_of_ble_eq_true rfl) dX12_mustNumber_1 ⟨Nat.le_refl _, Nat.le_refl _⟩ (fun v49 u50 H locs hw48 hP hD hS => ?_)
    have hP : va_P D vwCl (mW K o r f a g) H := hP
    have hD : va_D A (mW K o r f a g) := hD
    refine k_top (z := 0) ((hw48.2).elim (fun q => absurd q.2 (fun q => hn21 ((ec21.symm).symm.trans q))) (fun q => q.1)) ?_
    refine lv_if_eq (tgt := 42) hx hb dX12_mustNumber_4 (by decide) (fun c51 => ?_) (fun c51 => ?_)
    · refine lv_aload_n hx hb dX12_mustNumber_42 rfl (lv_at hl 0 rfl) ?_
      refine kI.callV (As := []) (rest := []) ⟨hx, hb, hml, hown, hg⟩ (m_fine l o r f a g hI   ) (cwV 0 hg (kgV wt6_204 wt6_206 wp4_7 wt1_14 wt6_207) rfl rfl rfl (by decide +kernel) ⟨by decide, by decide⟩) hK hP hD hS hA mIs [] rfl (wr := []) rfl rfl rfl (fun i h => by cases h) 0 12 rfl rfl rfl hl.1 rfl (Nat.le_of_ble_eq_true rfl) dX12_mustNumber_43 ⟨Nat.le_refl _, Nat.le_refl _⟩ (fun v53 u54 H locs hw52 hP hD hS => ?_)
      have hP : va_P D vwCl (mW K o r f a g) H := hP
      have hD : va_D A (mW K o r f a g) := hD
      refine k_top (z := 0) ((hw52.2).elim (fun q => absurd q.2 (fun q => hn21 ((ec21.symm).symm.trans q))) (fun q => q.1)) ?_
      refine lv_if_eq (tgt := 59) hx hb dX12_mustNumber_46 (by decide) (fun c55 => ?_) (fun c55 => ?_)
      · exact kV_ret hx hb hr hlocks hK hS dX12_mustNumber_59 f hP hD ⟨hI, hE, (Or.inr (Or.inr ⟨h21, (ec21.symm).trans ec21, (by rw [ec19.symm]; exact hg0)⟩))⟩
      · exact kb_nsame c55 kc_0 kc_0
    · exact kb_nsame c51 kc_0 kc_0
set_option maxHeartbeats 4000000 in
set_option maxRecDepth 100000 in
theorem q_leaf  (l : Launch) {D : va_G} {K : Nat → ClassId} (o : Nat) (r : Nat → Nat) (f : Nat → Int32) (a : Nat → Nat → Int32) (g : Nat → Int64) (hI : mI f a)   (N i n : Nat) (ob : Bool) (T : Nat → Int32) (hp0 : rS f a N ob) (hp1 : (f 19).toInt = (i : Int)) (hp2 : i ≤ N) (hp3 : rQ a N T) (hp4 : f 21 = -1) (hp5 : i < N) (hp6 : (f 20).toInt = (n : Int)) (hp7 : n ≤ 50) : kV l yX12_leaf (Cond.code yX12_leaf cX12_leaf 1 none :: kG) (rmD 3 0 0) D (tysK K) [.ref o] (mW K o r f a g) (fun (u : Nat → Int32) => mI u a ∧ fE [19, 20, 21] f u ∧ ((n = 50 ∧ (u 21 = a 17 i ∧ ¬ u 21 = -1) ∧ (u 19).toInt = (i : Int)) ∨ (¬ n = 50 ∧ u 21 = -1 ∧ (u 19).toInt = ((i + 1 : Nat) : Int) ∧ (u 20).toInt = ((n + 1 : Nat) : Int)))) (fun u => mW K o r u a g) 0 0 := by
  refine kV.of (cc := cX12_leaf) (maxL := 1) (ret := none) (by decide) rfl (Nat.le_of_ble_eq_true rfl) ?_
  intro p e s m below meth c A hx hb hr hml hown hts hlocks hnm hK hP hD hS hA ls hl
  have hE : fE [19, 20, 21] f f := fE_rf
  have hg : ∀ w ∈ kG, w.before _ s = true := fun w h => hts w (List.mem_cons_of_mem _ h)
  have hown : s.vm.findClass RX12 = some m.cls := hown
  have hl : lv_has ls 1 [(0, .ref o)] := hl
  obtain ⟨c19, ec19⟩ : ∃ z : Int32, z = f 19 := ⟨_, rfl⟩
  have hg0 : c19.toInt = (i : Int) := by rw [ec19]; exact hp1
  have b1 : kb 0 c19 400 := kb_tok hp0 hp2 hg0
  have h21 := hp4
  obtain ⟨c20, ec20⟩ : ∃ z : Int32, z = f 20 := ⟨_, rfl⟩
  have hn20 : c20.toInt = (n : Int) := by rw [ec20]; exact hp6
  have b2 : kb 0 c20 50 := ⟨by omega, by have w1 := hp7; omega⟩
  refine lv_aload_n hx hb dX12_leaf_0 rfl (lv_at hl 0 rfl) ?_
  refine va_get (D := D) (ci := 12) (v := .int (f 20)) (C := RX12) (T := TX12) (N := 48) hx hb hg inC12 hown hK hP 0 rfl rfl 20 (by decide) (hg _ wt5_180) (fun _ h9 => h9) rfl dX12_leaf_1 ?_
  refine k_top (z := c20) ec20.symm ?_
  refine lv_bipush (v := 50) hx hb dX12_leaf_4 (by decide) ?_
  refine lv_icmp_ne (tgt := 13) hx hb dX12_leaf_6 (by decide) (fun c3 => ?_) (fun c3 => ?_)
  · have b4 : kb 0 c20 49 := kr_neh c3 b2 kc_50 (by decide)
    refine lv_aload_n hx hb dX12_leaf_13 rfl (lv_at hl 0 rfl) ?_
    refine lv_dup hx hb dX12_leaf_14 rfl ?_
    refine va_get (D := D) (ci := 12) (v := .int (f 20)) (C := RX12) (T := TX12) (N := 48) hx hb hg inC12 hown hK hP 0 rfl rfl 20 (by decide) (hg _ wt5_180) (fun _ h9 => h9) rfl dX12_leaf_15 ?_
    refine k_top (z := c20) ec20.symm ?_
    refine lv_iconst (v := 1) hx hb dX12_leaf_18 (by decide) ?_
    refine lv_iadd hx hb dX12_leaf_19 ?_
    refine lv_topi (fun t5 et5 => ?_)
    have b6 : kb 1 t5 50 := kb_eq et5 (kb_add b4 kc_1 (by decide) (by decide))
    have qt5 : t5.toInt = c20.toInt + 1 := by rw [et5]; exact kt_addc b4 kc_1 (by decide) (by decide)
    refine va_put (D := D) (ci := 12) (v := .int t5) (ty := .int) (C := RX12) (T := TX12) (N := 48) hx hb hg inC12 tyX12 tyX12_ok nmX12 hown hK hP hD hS 0 rfl rfl 20 (by decide) (hg _ wt5_180) (fun _ h9 => h9) rfl (by decide +kernel) rfl rfl (Nat.le_of_ble_eq_true rfl) dX12_leaf_20 (fun H locs hP hD hS => ?_)
    have hP : va_P D vwCl (mW K o r (upd f 20 t5) a g) H := hP
    have hD : va_D A (mW K o r (upd f 20 t5) a g) := hD
    refine k_gen (P := fun z => va_P D vwCl (mW K o r z a g) H ∧ va_D A (mW K o r z a g) ∧ (mI z a) ∧ (fE [19, 20, 21] f z)) (upd f 20 t5) ⟨hP, hD, (mI_f hI (fI_st hI.1 20 (kb_any _) (by decide) (by decide))), (fE_f hE (by decide))⟩ (fun f_7 ef_7 hq => ?_)
    obtain ⟨hP, hD, hI, hE⟩ := hq
    refine lv_aload_n hx hb dX12_leaf_23 rfl (lv_at hl 0 rfl) ?_
    refine kI.callV (As := []) (rest := []) ⟨hx, hb, hml, hown, hg⟩ (m_fine l o r f_7 a g hI   ) (cwV 0 hg (kgV wt6_204 wt6_206 wp4_7 wt1_14 wt6_207) rfl rfl rfl (by decide +kernel) ⟨by decide, by decide⟩) hK hP hD hS hA mIs [] rfl (wr := []) rfl rfl rfl (fun i h => by cases h) 0 12 rfl rfl rfl hl.1 rfl (Nat.le_of_ble_eq_true rfl) dX12_leaf_24 ⟨Nat.le_refl _, Nat.le_refl _⟩ (fun v9 u10 H locs hw8 hP hD hS => ?_)
    have hP : va_P D vwCl (mW K o r f_7 a g) H := hP
    have hD : va_D A (mW K o r f_7 a g) := hD
    refine k_top (z := 1) ((hw8.2).elim (fun q => q.1) (fun q => absurd ((show f_7 21 = f 21 from by rw [← ef_7]; rfl).trans h21) q.2)) ?_
    refine lv_if_eq (tgt := 40) hx hb dX12_leaf_27 (by decide) (fun c11 => ?_) (fun c11 => ?_)
    · exact kb_dj c11 kc_1 kc_0 (by decide)
    · have b12 : kb 0 c19 399 := kb_tok1 hp0 hp5 hg0
      refine lv_aload_n hx hb dX12_leaf_30 rfl (lv_at hl 0 rfl) ?_
      refine lv_dup hx hb dX12_leaf_31 rfl ?_
      refine va_get (D := D) (ci := 12) (v := .int (f_7 19)) (C := RX12) (T := TX12) (N := 48) hx hb hg inC12 hown hK hP 0 rfl rfl 19 (by decide) (hg _ wt5_179) (fun _ h9 => h9) rfl dX12_leaf_32 ?_
      refine k_top (z := c19) ((show f_7 19 = f 19 from by rw [← ef_7]; rfl).trans ec19.symm) ?_
      refine lv_iconst (v := 1) hx hb dX12_leaf_35 (by decide) ?_
      refine lv_iadd hx hb dX12_leaf_36 ?_
      refine lv_topi (fun t13 et13 => ?_)
      have b14 : kb 1 t13 400 := kb_eq et13 (kb_add b12 kc_1 (by decide) (by decide))
      have qt13 : t13.toInt = c19.toInt + 1 := by rw [et13]; exact kt_addc b12 kc_1 (by decide) (by decide)
      have hg15 : t13.toInt = ((i + 1 : Nat) : Int) := by rw [qt13, hg0]; omega
      refine va_put (D := D) (ci := 12) (v := .int t13) (ty := .int) (C := RX12) (T := TX12) (N := 48) hx hb hg inC12 tyX12 tyX12_ok nmX12 hown hK hP hD hS 0 rfl rfl 19 (by decide) (hg _ wt5_179) (fun _ h9 => h9) rfl (by decide +kernel) rfl rfl (Nat.le_of_ble_eq_true rfl) dX12_leaf_37 (fun H locs hP hD hS => ?_)
      have hP : va_P D vwCl (mW K o r (upd f_7 19 t13) a g) H := hP
      have hD : va_D A (mW K o r (upd f_7 19 t13) a g) := hD
      refine k_gen (P := fun z => va_P D vwCl (mW K o r z a g) H ∧ va_D A (mW K o r z a g) ∧ (mI z a) ∧ (fE [19, 20, 21] f z)) (upd f_7 19 t13) ⟨hP, hD, (mI_f hI (fI_st hI.1 19 b14 (by decide) (by decide))), (fE_f hE (by decide))⟩ (fun f_16 ef_16 hq => ?_)
      obtain ⟨hP, hD, hI, hE⟩ := hq
      exact kV_ret hx hb hr hlocks hK hS dX12_leaf_40 f_16 hP hD ⟨hI, hE, (Or.inr ⟨fun q => c3 (Int32.toInt_inj.mp (by have w2 := i50; omega)), ((show f_16 21 = f_7 21 from by rw [← ef_16]; rfl).trans ((show f_7 21 = f 21 from by rw [← ef_7]; rfl).trans h21)), (by rw [(show f_16 19 = t13 from by rw [← ef_16]; rfl)]; exact hg15), by rw [((show f_16 20 = f_7 20 from by rw [← ef_16]; rfl).trans (show f_7 20 = t5 from by rw [← ef_7]; rfl))]; have w1 := qt5; omega⟩)⟩
  · have b17 : kb 50 c20 50 := kb_eq c3 kc_50
    refine lv_aload_n hx hb dX12_leaf_9 rfl (lv_at hl 0 rfl) ?_
    refine kV.callV (As := []) (rest := []) ⟨hx, hb, hml, hown, hg⟩ (q_faults l o r f a g hI   N (i) ob T (rS_fE hE hp0 (by decide)) (by rw [ec19.symm]; exact hg0) hp2 hp3) (cwV 0 hg (kgV wt6_223 wt6_225 wp4_11 wt1_14 wt6_226) rfl rfl rfl (by decide +kernel) ⟨by decide, by decide⟩) hK hP hD hS hA mIs [] rfl (wr := []) rfl rfl rfl (fun i h => by cases h) 0 12 rfl rfl rfl hl.1 rfl (Nat.le_of_ble_eq_true rfl) dX12_leaf_10 ⟨Nat.le_refl _, Nat.le_refl _⟩ (fun u20 H locs hw18 hP hD hS => ?_)
    have hP : va_P D vwCl (mW K o r u20 a g) H := hP
    have hD : va_D A (mW K o r u20 a g) := hD
    have hI : mI u20 a := hw18.1
    have eE21 : fE [21] f u20 := hw18.2.1
    have hE : fE [19, 20, 21] f u20 := fE_tr hE (fE_w (by decide) eE21)
    obtain ⟨z22, ez22⟩ : ∃ z : Int32, z = u20 21 := ⟨_, rfl⟩
    have haz22 : z22 = a 17 (i) := by rw [ez22]; exact (hw18.2.2.1 h21).1
    have hnz22 : ¬ z22 = -1 := by rw [ez22]; exact (hw18.2.2.1 h21).2
    refine lv_aload_n hx hb dX12_leaf_13 rfl (lv_at hl 0 rfl) ?_
    refine lv_dup hx hb dX12_leaf_14 rfl ?_
    refine va_get (D := D) (ci := 12) (v := .int (u20 20)) (C := RX12) (T := TX12) (N := 48) hx hb hg inC12 hown hK hP 0 rfl rfl 20 (by decide) (hg _ wt5_180) (fun _ h9 => h9) rfl dX12_leaf_15 ?_
    refine k_top (z := c20) ((eE21 20 (by decide)).trans ec20.symm) ?_
    refine lv_iconst (v := 1) hx hb dX12_leaf_18 (by decide) ?_
    refine lv_iadd hx hb dX12_leaf_19 ?_
    refine lv_topi (fun t23 et23 => ?_)
    have b24 : kb 51 t23 51 := kb_eq et23 (kb_add b17 kc_1 (by decide) (by decide))
    have qt23 : t23.toInt = c20.toInt + 1 := by rw [et23]; exact kt_addc b17 kc_1 (by decide) (by decide)
    refine va_put (D := D) (ci := 12) (v := .int t23) (ty := .int) (C := RX12) (T := TX12) (N := 48) hx hb hg inC12 tyX12 tyX12_ok nmX12 hown hK hP hD hS 0 rfl rfl 20 (by decide) (hg _ wt5_180) (fun _ h9 => h9) rfl (by decide +kernel) rfl rfl (Nat.le_of_ble_eq_true rfl) dX12_leaf_20 (fun H locs hP hD hS => ?_)
    have hP : va_P D vwCl (mW K o r (upd u20 20 t23) a g) H := hP
    have hD : va_D A (mW K o r (upd u20 20 t23) a g) := hD
    refine k_gen (P := fun z => va_P D vwCl (mW K o r z a g) H ∧ va_D A (mW K o r z a g) ∧ (mI z a) ∧ (fE [19, 20, 21] f z)) (upd u20 20 t23) ⟨hP, hD, (mI_f hI (fI_st hI.1 20 (kb_any _) (by decide) (by decide))), (fE_f hE (by decide))⟩ (fun f_25 ef_25 hq => ?_)
    obtain ⟨hP, hD, hI, hE⟩ := hq
    refine lv_aload_n hx hb dX12_leaf_23 rfl (lv_at hl 0 rfl) ?_
    refine kI.callV (As := []) (rest := []) ⟨hx, hb, hml, hown, hg⟩ (m_fine l o r f_25 a g hI   ) (cwV 0 hg (kgV wt6_204 wt6_206 wp4_7 wt1_14 wt6_207) rfl rfl rfl (by decide +kernel) ⟨by decide, by decide⟩) hK hP hD hS hA mIs [] rfl (wr := []) rfl rfl rfl (fun i h => by cases h) 0 12 rfl rfl rfl hl.1 rfl (Nat.le_of_ble_eq_true rfl) dX12_leaf_24 ⟨Nat.le_refl _, Nat.le_refl _⟩ (fun v27 u28 H locs hw26 hP hD hS => ?_)
    have hP : va_P D vwCl (mW K o r f_25 a g) H := hP
    have hD : va_D A (mW K o r f_25 a g) := hD
    refine k_top (z := 0) ((hw26.2).elim (fun q => absurd q.2 (fun q => hnz22 ((((show f_25 21 = u20 21 from by rw [← ef_25]; rfl).trans ez22.symm)).symm.trans q))) (fun q => q.1)) ?_
    refine lv_if_eq (tgt := 40) hx hb dX12_leaf_27 (by decide) (fun c29 => ?_) (fun c29 => ?_)
    · exact kV_ret hx hb hr hlocks hK hS dX12_leaf_40 f_25 hP hD ⟨hI, hE, (Or.inl ⟨by have w1 := congrArg Int32.toInt c3; have w2 := i50; omega, ⟨(((show f_25 21 = u20 21 from by rw [← ef_25]; rfl).trans ez22.symm)).trans haz22, (fun q => hnz22 ((((show f_25 21 = u20 21 from by rw [← ef_25]; rfl).trans ez22.symm)).symm.trans q))⟩, (by rw [((show f_25 19 = u20 19 from by rw [← ef_25]; rfl).trans ((eE21 19 (by decide)).trans ec19.symm))]; exact hg0)⟩)⟩
    · exact kb_nsame c29 kc_0 kc_0
set_option maxHeartbeats 4000000 in
def dRSum (d : Nat) : Prop := ∀ (l : Launch) {D : va_G} {K : Nat → ClassId} (o : Nat) (r : Nat → Nat) (f : Nat → Int32) (a : Nat → Nat → Int32) (g : Nat → Int64) (hI : mI f a) (dp : Int32) (bdp : kb 0 dp 8) (N i n : Nat) (ob : Bool) (T : Nat → Int32) (hp0 : rS f a N ob) (hp1 : (f 19).toInt = (i : Int)) (hp2 : i ≤ N) (hp3 : rQ a N T) (hp4 : f 21 = -1 → (f 20).toInt = (n : Int) ∧ n ≤ 50) (hp5 : dp.toInt + (d : Int) = 8), kV l yX12_readSum (Cond.code yX12_readSum cX12_readSum 2 none :: kG) (rmD (3 * d + 8) 0 0) D (tysK K) [.ref o, .int dp] (mW K o r f a g) (fun (u : Nat → Int32) => mI u a ∧ fE [19, 20, 21] f u ∧ (∃ i2 n2 : Nat, (u 19).toInt = (i2 : Int) ∧ i ≤ i2 ∧ i2 ≤ N ∧ ((f 21 = -1 ∧ u 21 = -1 ∧ ((u 20).toInt = (n2 : Int) ∧ n2 ≤ 50) ∧ pG ob T d 0 i n (true, i2, n2)) ∨ (f 21 = -1 ∧ (u 21 = a 17 i2 ∧ ¬ u 21 = -1) ∧ pG ob T d 0 i n (false, i2, 0)) ∨ (¬ f 21 = -1 ∧ u 21 = f 21 ∧ i2 = i)))) (fun u => mW K o r u a g) 0 0
set_option maxHeartbeats 4000000 in
def dRTerm (d : Nat) : Prop := ∀ (l : Launch) {D : va_G} {K : Nat → ClassId} (o : Nat) (r : Nat → Nat) (f : Nat → Int32) (a : Nat → Nat → Int32) (g : Nat → Int64) (hI : mI f a) (dp : Int32) (bdp : kb 0 dp 8) (N i n : Nat) (ob : Bool) (T : Nat → Int32) (hp0 : rS f a N ob) (hp1 : (f 19).toInt = (i : Int)) (hp2 : i ≤ N) (hp3 : rQ a N T) (hp4 : f 21 = -1 → (f 20).toInt = (n : Int) ∧ n ≤ 50) (hp5 : dp.toInt + (d : Int) = 8), kV l yX12_readTerm (Cond.code yX12_readTerm cX12_readTerm 2 none :: kG) (rmD (3 * d + 7) 0 0) D (tysK K) [.ref o, .int dp] (mW K o r f a g) (fun (u : Nat → Int32) => mI u a ∧ fE [19, 20, 21] f u ∧ (∃ i2 n2 : Nat, (u 19).toInt = (i2 : Int) ∧ i ≤ i2 ∧ i2 ≤ N ∧ ((f 21 = -1 ∧ u 21 = -1 ∧ ((u 20).toInt = (n2 : Int) ∧ n2 ≤ 50) ∧ pG ob T d 1 i n (true, i2, n2)) ∨ (f 21 = -1 ∧ (u 21 = a 17 i2 ∧ ¬ u 21 = -1) ∧ pG ob T d 1 i n (false, i2, 0)) ∨ (¬ f 21 = -1 ∧ u 21 = f 21 ∧ i2 = i)))) (fun u => mW K o r u a g) 0 0
set_option maxHeartbeats 4000000 in
def dRPart (d : Nat) : Prop := ∀ (l : Launch) {D : va_G} {K : Nat → ClassId} (o : Nat) (r : Nat → Nat) (f : Nat → Int32) (a : Nat → Nat → Int32) (g : Nat → Int64) (hI : mI f a) (dp : Int32) (bdp : kb 0 dp 8) (N i n : Nat) (ob : Bool) (T : Nat → Int32) (hp0 : rS f a N ob) (hp1 : (f 19).toInt = (i : Int)) (hp2 : i ≤ N) (hp3 : rQ a N T) (hp4 : f 21 = -1 → (f 20).toInt = (n : Int) ∧ n ≤ 50) (hp5 : dp.toInt + (d : Int) = 8), kV l yX12_readPart (Cond.code yX12_readPart cX12_readPart 3 none :: kG) (rmD (3 * d + 6) 0 0) D (tysK K) [.ref o, .int dp] (mW K o r f a g) (fun (u : Nat → Int32) => mI u a ∧ fE [19, 20, 21] f u ∧ (∃ i2 n2 : Nat, (u 19).toInt = (i2 : Int) ∧ i ≤ i2 ∧ i2 ≤ N ∧ ((f 21 = -1 ∧ u 21 = -1 ∧ ((u 20).toInt = (n2 : Int) ∧ n2 ≤ 50) ∧ pG ob T d 2 i n (true, i2, n2)) ∨ (f 21 = -1 ∧ (u 21 = a 17 i2 ∧ ¬ u 21 = -1) ∧ pG ob T d 2 i n (false, i2, 0)) ∨ (¬ f 21 = -1 ∧ u 21 = f 21 ∧ i2 = i)))) (fun u => mW K o r u a g) 0 0
set_option maxHeartbeats 4000000 in
def dRTest (d : Nat) : Prop := ∀ (l : Launch) {D : va_G} {K : Nat → ClassId} (o : Nat) (r : Nat → Nat) (f : Nat → Int32) (a : Nat → Nat → Int32) (g : Nat → Int64) (hI : mI f a) (dp : Int32) (bdp : kb 0 dp 8) (N i n : Nat) (ob : Bool) (T : Nat → Int32) (hp0 : rS f a N ob) (hp1 : (f 19).toInt = (i : Int)) (hp2 : i ≤ N) (hp3 : rQ a N T) (hp4 : f 21 = -1 → (f 20).toInt = (n : Int) ∧ n ≤ 50) (hp5 : dp.toInt + (d : Int) = 8), kV l yX12_readTest (Cond.code yX12_readTest cX12_readTest 2 none :: kG) (rmD (4 * d + 15) 0 0) D (tysK K) [.ref o, .int dp] (mW K o r f a g) (fun (u : Nat → Int32) => mI u a ∧ fE [19, 20, 21] f u ∧ (∃ i2 n2 : Nat, (u 19).toInt = (i2 : Int) ∧ i ≤ i2 ∧ i2 ≤ N ∧ ((f 21 = -1 ∧ u 21 = -1 ∧ ((u 20).toInt = (n2 : Int) ∧ n2 ≤ 50) ∧ pG ob T d 3 i n (true, i2, n2)) ∨ (f 21 = -1 ∧ (u 21 = a 17 i2 ∧ ¬ u 21 = -1) ∧ pG ob T d 3 i n (false, i2, 0)) ∨ (¬ f 21 = -1 ∧ u 21 = f 21 ∧ i2 = i)))) (fun u => mW K o r u a g) 0 0
set_option maxHeartbeats 4000000 in
def dRBoth (d : Nat) : Prop := ∀ (l : Launch) {D : va_G} {K : Nat → ClassId} (o : Nat) (r : Nat → Nat) (f : Nat → Int32) (a : Nat → Nat → Int32) (g : Nat → Int64) (hI : mI f a) (dp : Int32) (bdp : kb 0 dp 8) (N i n : Nat) (ob : Bool) (T : Nat → Int32) (hp0 : rS f a N ob) (hp1 : (f 19).toInt = (i : Int)) (hp2 : i ≤ N) (hp3 : rQ a N T) (hp4 : f 21 = -1 → (f 20).toInt = (n : Int) ∧ n ≤ 50) (hp5 : dp.toInt + (d : Int) = 8), kV l yX12_readBoth (Cond.code yX12_readBoth cX12_readBoth 2 none :: kG) (rmD (4 * d + 14) 0 0) D (tysK K) [.ref o, .int dp] (mW K o r f a g) (fun (u : Nat → Int32) => mI u a ∧ fE [19, 20, 21] f u ∧ (∃ i2 n2 : Nat, (u 19).toInt = (i2 : Int) ∧ i ≤ i2 ∧ i2 ≤ N ∧ ((f 21 = -1 ∧ u 21 = -1 ∧ ((u 20).toInt = (n2 : Int) ∧ n2 ≤ 50) ∧ pG ob T d 4 i n (true, i2, n2)) ∨ (f 21 = -1 ∧ (u 21 = a 17 i2 ∧ ¬ u 21 = -1) ∧ pG ob T d 4 i n (false, i2, 0)) ∨ (¬ f 21 = -1 ∧ u 21 = f 21 ∧ i2 = i)))) (fun u => mW K o r u a g) 0 0
set_option maxHeartbeats 4000000 in
def dRPlain (d : Nat) : Prop := ∀ (l : Launch) {D : va_G} {K : Nat → ClassId} (o : Nat) (r : Nat → Nat) (f : Nat → Int32) (a : Nat → Nat → Int32) (g : Nat → Int64) (hI : mI f a) (dp : Int32) (bdp : kb 0 dp 8) (N i n : Nat) (ob : Bool) (T : Nat → Int32) (hp0 : rS f a N ob) (hp1 : (f 19).toInt = (i : Int)) (hp2 : i ≤ N) (hp3 : rQ a N T) (hp4 : f 21 = -1 → (f 20).toInt = (n : Int) ∧ n ≤ 50) (hp5 : dp.toInt + (d : Int) = 8), kV l yX12_readPlain (Cond.code yX12_readPlain cX12_readPlain 4 none :: kG) (rmD (4 * d + 13) 0 0) D (tysK K) [.ref o, .int dp] (mW K o r f a g) (fun (u : Nat → Int32) => mI u a ∧ fE [19, 20, 21] f u ∧ (∃ i2 n2 : Nat, (u 19).toInt = (i2 : Int) ∧ i ≤ i2 ∧ i2 ≤ N ∧ ((f 21 = -1 ∧ u 21 = -1 ∧ ((u 20).toInt = (n2 : Int) ∧ n2 ≤ 50) ∧ pG ob T d 5 i n (true, i2, n2)) ∨ (f 21 = -1 ∧ (u 21 = a 17 i2 ∧ ¬ u 21 = -1) ∧ pG ob T d 5 i n (false, i2, 0)) ∨ (¬ f 21 = -1 ∧ u 21 = f 21 ∧ i2 = i)))) (fun u => mW K o r u a g) 0 0
set_option maxHeartbeats 4000000 in
set_option maxRecDepth 100000 in
theorem q_readPart (d : Nat) (ih : ∀ ee, d = ee + 1 → dRSum ee) (l : Launch) {D : va_G} {K : Nat → ClassId} (o : Nat) (r : Nat → Nat) (f : Nat → Int32) (a : Nat → Nat → Int32) (g : Nat → Int64) (hI : mI f a) (dp : Int32) (bdp : kb 0 dp 8) (N i n : Nat) (ob : Bool) (T : Nat → Int32) (hp0 : rS f a N ob) (hp1 : (f 19).toInt = (i : Int)) (hp2 : i ≤ N) (hp3 : rQ a N T) (hp4 : f 21 = -1 → (f 20).toInt = (n : Int) ∧ n ≤ 50) (hp5 : dp.toInt + (d : Int) = 8) : kV l yX12_readPart (Cond.code yX12_readPart cX12_readPart 3 none :: kG) (rmD (3 * d + 6) 0 0) D (tysK K) [.ref o, .int dp] (mW K o r f a g) (fun (u : Nat → Int32) => mI u a ∧ fE [19, 20, 21] f u ∧ (∃ i2 n2 : Nat, (u 19).toInt = (i2 : Int) ∧ i ≤ i2 ∧ i2 ≤ N ∧ ((f 21 = -1 ∧ u 21 = -1 ∧ ((u 20).toInt = (n2 : Int) ∧ n2 ≤ 50) ∧ pG ob T d 2 i n (true, i2, n2)) ∨ (f 21 = -1 ∧ (u 21 = a 17 i2 ∧ ¬ u 21 = -1) ∧ pG ob T d 2 i n (false, i2, 0)) ∨ (¬ f 21 = -1 ∧ u 21 = f 21 ∧ i2 = i)))) (fun u => mW K o r u a g) 0 0 := by
  refine kV.of (cc := cX12_readPart) (maxL := 3) (ret := none) (by decide) rfl (Nat.le_of_ble_eq_true rfl) ?_
  intro p e s m below meth c A hx hb hr hml hown hts hlocks hnm hK hP hD hS hA ls hl
  have hE : fE [19, 20, 21] f f := fE_rf
  have hg : ∀ w ∈ kG, w.before _ s = true := fun w h => hts w (List.mem_cons_of_mem _ h)
  have hown : s.vm.findClass RX12 = some m.cls := hown
  have hl : lv_has ls 3 [(0, .ref o), (1, .int dp)] := hl
  obtain ⟨c19, ec19⟩ : ∃ z : Int32, z = f 19 := ⟨_, rfl⟩
  have hg0 : c19.toInt = (i : Int) := by rw [ec19]; exact hp1
  have b1 : kb 0 c19 400 := kb_tok hp0 hp2 hg0
  cases ob
  · by_cases h21 : f 21 = -1
    · obtain ⟨c20, ec20⟩ : ∃ z : Int32, z = f 20 := ⟨_, rfl⟩
      have hn20 : c20.toInt = (n : Int) := by rw [ec20]; exact (hp4 h21).1
      have hl50 : n ≤ 50 := (hp4 h21).2
      have b2 : kb 0 c20 50 := ⟨by omega, by omega⟩
      refine lv_aload_n hx hb dX12_readPart_0 rfl (lv_at hl 0 rfl) ?_
      refine kI.callV (As := []) (rest := []) ⟨hx, hb, hml, hown, hg⟩ (m_fine l o r f a g hI   ) (cwV 0 hg (kgV wt6_204 wt6_206 wp4_7 wt1_14 wt6_207) rfl rfl rfl (by decide +kernel) ⟨by dsimp only [rmD]; omega, by dsimp only [rmD]; omega⟩) hK hP hD hS hA mIs [] rfl (wr := []) rfl rfl rfl (fun i h => by cases h) 0 12 rfl rfl rfl hl.1 rfl (Nat.le_of_ble_eq_true rfl) dX12_readPart_1 ⟨Nat.le_refl _, Nat.le_refl _⟩ (fun v4 u5 H locs hw3 hP hD hS => ?_)
      have hP : va_P D vwCl (mW K o r f a g) H := hP
      have hD : va_D A (mW K o r f a g) := hD
      refine k_top (z := 1) ((hw3.2).elim (fun q => q.1) (fun q => absurd h21 q.2)) ?_
      refine lv_if_ne (tgt := 8) hx hb dX12_readPart_4 (by decide) (fun c6 => ?_) (fun c6 => ?_)
      · refine lv_aload_n hx hb dX12_readPart_8 rfl (lv_at hl 0 rfl) ?_
        refine va_get (D := D) (ci := 12) (v := .ref (r 15)) (C := RX12) (T := TX12) (N := 48) hx hb hg inC12 hown hK hP 0 rfl rfl 15 (by decide) (hg _ wt5_175) (fun _ h9 => h9) rfl dX12_readPart_9 ?_
        refine lv_aload_n hx hb dX12_readPart_12 rfl (lv_at hl 0 rfl) ?_
        refine va_get (D := D) (ci := 12) (v := .int (f 19)) (C := RX12) (T := TX12) (N := 48) hx hb hg inC12 hown hK hP 0 rfl rfl 19 (by decide) (hg _ wt5_179) (fun _ h9 => h9) rfl dX12_readPart_13 ?_
        refine k_top (z := c19) ec19.symm ?_
        refine va_iald hx hb hK hP 9 0 rfl rfl (kb_in b1 (by decide) (by decide)) dX12_readPart_16 ?_
        refine lv_topi (fun t7 et7 => ?_)
        have ht8 : t7 = rC (a 15) N (i) := et7.trans (rC_at (rS_fE hE hp0 (by decide)) hp2 hg0)
        have tq9 : tOk t7 (a 16 c19.toNatClampNeg) (T (i)) := tOk_eq et7 (rQ_ld hp3 (rS_fE hE hp0 (by decide)) hp2 hg0)
        refine lv_istore_n (lv' := [(2, .int t7), (0, .ref o), (1, .int dp)]) hx hb dX12_readPart_17 rfl hl (by decide) rfl (fun ls hl => ?_)
        refine lv_iload_n hx hb dX12_readPart_18 rfl (lv_at hl 0 rfl) ?_
        refine lv_bipush (v := 91) hx hb dX12_readPart_19 (by decide) ?_
        refine kN.callS (As := [.int 91]) (rest := [.int t7]) ⟨hx, hb, hml, hown, hg⟩ (m_sign l 91 (kb_w kc_91 (by decide) (by decide))) (va_cwS 1 hg (kgS wt6_220 wt6_221 wt1_14 wt6_222) rfl rfl rfl (by decide +kernel) ⟨by dsimp only [rmD]; omega, by dsimp only [rmD]; omega⟩) hP hS rfl hl.1 rfl (Nat.le_of_ble_eq_true rfl) dX12_readPart_21 ⟨Nat.le_refl _, Nat.le_refl _⟩ (fun v11 H locs hw10 hP hS => ?_)
        refine k_top (z := 191) (Int32.toInt_inj.mp (hw10.2.trans (by decide +kernel))) ?_
        refine lv_icmp_ne (tgt := 74) hx hb dX12_readPart_24 (by decide) (fun c13 => ?_) (fun c13 => ?_)
        · refine lv_iload_n hx hb dX12_readPart_74 rfl (lv_at hl 0 rfl) ?_
          refine lv_bipush (v := 50) hx hb dX12_readPart_75 (by decide) ?_
          refine lv_icmp_ne (tgt := 95) hx hb dX12_readPart_77 (by decide) (fun c14 => ?_) (fun c14 => ?_)
          · refine lv_iload_n hx hb dX12_readPart_95 rfl (lv_at hl 0 rfl) ?_
            refine lv_aload_n hx hb dX12_readPart_96 rfl (lv_at hl 1 rfl) ?_
            refine va_get (D := D) (ci := 12) (v := .int (f 8)) (C := RX12) (T := TX12) (N := 48) hx hb hg inC12 hown hK hP 0 rfl rfl 8 (by decide) (hg _ wt5_168) (fun _ h9 => h9) rfl dX12_readPart_97 ?_
            refine k_top (z := 9) hp0.2.2.2.2.1 ?_
            refine lv_icmp_lt (tgt := 163) hx hb dX12_readPart_100 (by decide) (fun c15 => ?_) (fun c15 => ?_)
            · have h16 := (kc_lt c15)
              have b17 : kb (-2147483648) t7 8 := kr_lt1 h16 (kb_any t7) kc_9 (by decide)
              refine lv_aload_n hx hb dX12_readPart_163 rfl (lv_at hl 1 rfl) ?_
              refine kV.callV (As := []) (rest := []) ⟨hx, hb, hml, hown, hg⟩ (q_faults l o r f a g hI   N (i) false T (rS_fE hE hp0 (by decide)) (by rw [ec19.symm]; exact hg0) hp2 hp3) (cwV 0 hg (kgV wt6_223 wt6_225 wp4_11 wt1_14 wt6_226) rfl rfl rfl (by decide +kernel) ⟨by dsimp only [rmD]; omega, by dsimp only [rmD]; omega⟩) hK hP hD hS hA mIs [] rfl (wr := []) rfl rfl rfl (fun i h => by cases h) 0 12 rfl rfl rfl hl.1 rfl (Nat.le_of_ble_eq_true rfl) dX12_readPart_164 ⟨Nat.le_refl _, Nat.le_refl _⟩ (fun u20 H locs hw18 hP hD hS => ?_)
              have hP : va_P D vwCl (mW K o r u20 a g) H := hP
              have hD : va_D A (mW K o r u20 a g) := hD
              have hI : mI u20 a := hw18.1
              have eE21 : fE [21] f u20 := hw18.2.1
              have hE : fE [19, 20, 21] f u20 := fE_tr hE (fE_w (by decide) eE21)
              obtain ⟨z22, ez22⟩ : ∃ z : Int32, z = u20 21 := ⟨_, rfl⟩
              have haz22 : z22 = a 17 (i) := by rw [ez22]; exact (hw18.2.2.1 h21).1
              have hnz22 : ¬ z22 = -1 := by rw [ez22]; exact (hw18.2.2.1 h21).2
              exact kV_ret hx hb hr hlocks hK hS dX12_readPart_167 u20 hP hD ⟨hI, hE, ⟨i, 0, (by rw [((eE21 19 (by decide)).trans ec19.symm)]; exact hg0), (Nat.le_refl i), hp2, Or.inr (Or.inl ⟨h21, ⟨(ez22.symm).trans haz22, (fun q => hnz22 ((ez22.symm).symm.trans q))⟩, (pi_2x (fun q => c13 ((tk_iff tq9 (by decide +kernel)).mpr (q.trans (by decide +kernel)))) (lf_f (o := false) tq9 (fun q => c14 q.1) (fun q => by have w1 : 9 ≤ (t7).toInt := q.1; have w2 := (b17).2; omega)))⟩)⟩⟩
            · have h23 := (kc_nlt c15)
              have b24 : kb 9 t7 2147483647 := kr_le2 h23 kc_9 (kb_any t7)
              refine lv_iload_n hx hb dX12_readPart_103 rfl (lv_at hl 0 rfl) ?_
              refine lv_aload_n hx hb dX12_readPart_104 rfl (lv_at hl 1 rfl) ?_
              refine va_get (D := D) (ci := 12) (v := .int (f 9)) (C := RX12) (T := TX12) (N := 48) hx hb hg inC12 hown hK hP 0 rfl rfl 9 (by decide) (hg _ wt5_169) (fun _ h9 => h9) rfl dX12_readPart_105 ?_
              refine k_top (z := 18) hp0.2.2.2.2.2 ?_
              refine lv_icmp_gt (tgt := 163) hx hb dX12_readPart_108 (by decide) (fun c25 => ?_) (fun c25 => ?_)
              · have h26 := (kc_lt c25)
                have b27 : kb 19 t7 2147483647 := kr_lt2 h26 kc_18 b24 (by decide)
                refine lv_aload_n hx hb dX12_readPart_163 rfl (lv_at hl 1 rfl) ?_
                refine kV.callV (As := []) (rest := []) ⟨hx, hb, hml, hown, hg⟩ (q_faults l o r f a g hI   N (i) false T (rS_fE hE hp0 (by decide)) (by rw [ec19.symm]; exact hg0) hp2 hp3) (cwV 0 hg (kgV wt6_223 wt6_225 wp4_11 wt1_14 wt6_226) rfl rfl rfl (by decide +kernel) ⟨by dsimp only [rmD]; omega, by dsimp only [rmD]; omega⟩) hK hP hD hS hA mIs [] rfl (wr := []) rfl rfl rfl (fun i h => by cases h) 0 12 rfl rfl rfl hl.1 rfl (Nat.le_of_ble_eq_true rfl) dX12_readPart_164 ⟨Nat.le_refl _, Nat.le_refl _⟩ (fun u30 H locs hw28 hP hD hS => ?_)
                have hP : va_P D vwCl (mW K o r u30 a g) H := hP
                have hD : va_D A (mW K o r u30 a g) := hD
                have hI : mI u30 a := hw28.1
                have eE31 : fE [21] f u30 := hw28.2.1
                have hE : fE [19, 20, 21] f u30 := fE_tr hE (fE_w (by decide) eE31)
                obtain ⟨z32, ez32⟩ : ∃ z : Int32, z = u30 21 := ⟨_, rfl⟩
                have haz32 : z32 = a 17 (i) := by rw [ez32]; exact (hw28.2.2.1 h21).1
                have hnz32 : ¬ z32 = -1 := by rw [ez32]; exact (hw28.2.2.1 h21).2
                exact kV_ret hx hb hr hlocks hK hS dX12_readPart_167 u30 hP hD ⟨hI, hE, ⟨i, 0, (by rw [((eE31 19 (by decide)).trans ec19.symm)]; exact hg0), (Nat.le_refl i), hp2, Or.inr (Or.inl ⟨h21, ⟨(ez32.symm).trans haz32, (fun q => hnz32 ((ez32.symm).symm.trans q))⟩, (pi_2x (fun q => c13 ((tk_iff tq9 (by decide +kernel)).mpr (q.trans (by decide +kernel)))) (lf_f (o := false) tq9 (fun q => c14 q.1) (fun q => by have w1 : (t7).toInt ≤ 18 := q.2; have w2 := (b27).1; omega)))⟩)⟩⟩
              · have h33 := (kc_nlt c25)
                have b34 : kb 9 t7 18 := kr_le1 h33 b24 kc_18
                refine lv_aload_n hx hb dX12_readPart_111 rfl (lv_at hl 1 rfl) ?_
                refine kV.callV (As := []) (rest := []) ⟨hx, hb, hml, hown, hg⟩ (q_leaf l o r f a g hI   N (i) (n) false T (rS_fE hE hp0 (by decide)) (by rw [ec19.symm]; exact hg0) hp2 hp3 h21 (rC_lt (kb_nz (kb_eq ht8.symm b34) (by decide))) (by rw [ec20.symm]; exact hn20) hl50) (cwV 0 hg (kgV wt6_231 wt6_233 wp4_13 wt1_14 wt6_234) rfl rfl rfl (by decide +kernel) ⟨by dsimp only [rmD]; omega, by dsimp only [rmD]; omega⟩) hK hP hD hS hA mIs [] rfl (wr := []) rfl rfl rfl (fun i h => by cases h) 0 12 rfl rfl rfl hl.1 rfl (Nat.le_of_ble_eq_true rfl) dX12_readPart_112 ⟨Nat.le_refl _, Nat.le_refl _⟩ (fun u37 H locs hw35 hP hD hS => ?_)
                have hP : va_P D vwCl (mW K o r u37 a g) H := hP
                have hD : va_D A (mW K o r u37 a g) := hD
                have hI : mI u37 a := hw35.1
                have eE38 : fE [19, 20, 21] f u37 := hw35.2.1
                have hE : fE [19, 20, 21] f u37 := fE_tr hE eE38
                rcases hw35.2.2 with ⟨hmk39, hbk39, hpk39⟩ | ⟨hmk39, h2k39, hpk39, h3k39⟩
                · obtain ⟨z40, ez40⟩ : ∃ z : Int32, z = u37 21 := ⟨_, rfl⟩
                  have haz40 : z40 = a 17 (i) := by rw [ez40]; exact hbk39.1
                  have hnz40 : ¬ z40 = -1 := by rw [ez40]; exact hbk39.2
                  obtain ⟨gv41, egv41⟩ : ∃ z : Int32, z = u37 19 := ⟨_, rfl⟩
                  have hg42 : gv41.toInt = ((i : Nat) : Int) := by rw [egv41]; exact hpk39
                  have b43 : kb 0 gv41 400 := kb_tok (rS_fE hE hp0 (by decide)) hp2 hg42
                  refine lv_aload_n hx hb dX12_readPart_115 rfl (lv_at hl 1 rfl) ?_
                  refine va_get (D := D) (ci := 12) (v := .int (u37 10)) (C := RX12) (T := TX12) (N := 48) hx hb hg inC12 hown hK hP 0 rfl rfl 10 (by decide) (hg _ wt5_170) (fun _ h9 => h9) rfl dX12_readPart_116 ?_
                  refine k_top (z := 0) ((eE38 10 (by decide)).trans hp0.2.2.2.1) ?_
                  refine lv_if_eq (tgt := 135) hx hb dX12_readPart_119 (by decide) (fun c44 => ?_) (fun c44 => ?_)
                  · refine lv_aload_n hx hb dX12_readPart_135 rfl (lv_at hl 1 rfl) ?_
                    refine va_get (D := D) (ci := 12) (v := .int (u37 10)) (C := RX12) (T := TX12) (N := 48) hx hb hg inC12 hown hK hP 0 rfl rfl 10 (by decide) (hg _ wt5_170) (fun _ h9 => h9) rfl dX12_readPart_136 ?_
                    refine k_top (z := 0) ((eE38 10 (by decide)).trans hp0.2.2.2.1) ?_
                    refine lv_if_eq (tgt := 167) hx hb dX12_readPart_139 (by decide) (fun c45 => ?_) (fun c45 => ?_)
                    · exact kV_ret hx hb hr hlocks hK hS dX12_readPart_167 u37 hP hD ⟨hI, hE, ⟨i, 0, (by rw [egv41.symm]; exact hg42), (Nat.le_refl i), hp2, Or.inr (Or.inl ⟨h21, ⟨(ez40.symm).trans haz40, (fun q => hnz40 ((ez40.symm).symm.trans q))⟩, (pi_2m (fun q => c13 ((tk_iff tq9 (by decide +kernel)).mpr (q.trans (by decide +kernel)))) (lf_l tq9 b34).1 hmk39)⟩)⟩⟩
                    · exact kb_nsame c45 kc_0 kc_0
                  · exact kb_nsame c44 kc_0 kc_0
                · obtain ⟨gv46, egv46⟩ : ∃ z : Int32, z = u37 19 := ⟨_, rfl⟩
                  have hg47 : gv46.toInt = ((i + 1 : Nat) : Int) := by rw [egv46]; exact hpk39
                  have b48 : kb 0 gv46 400 := kb_tok (rS_fE hE hp0 (by decide)) (rC_lt (kb_nz (kb_eq ht8.symm b34) (by decide))) hg47
                  obtain ⟨z49, ez49⟩ : ∃ z : Int32, z = u37 20 := ⟨_, rfl⟩
                  have hzz49 : z49.toInt = ((n + 1 : Nat) : Int) := by rw [ez49]; exact h3k39
                  have hyz49 : n + 1 ≤ 50 := by have w1 := hl50; omega
                  refine lv_aload_n hx hb dX12_readPart_115 rfl (lv_at hl 1 rfl) ?_
                  refine va_get (D := D) (ci := 12) (v := .int (u37 10)) (C := RX12) (T := TX12) (N := 48) hx hb hg inC12 hown hK hP 0 rfl rfl 10 (by decide) (hg _ wt5_170) (fun _ h9 => h9) rfl dX12_readPart_116 ?_
                  refine k_top (z := 0) ((eE38 10 (by decide)).trans hp0.2.2.2.1) ?_
                  refine lv_if_eq (tgt := 135) hx hb dX12_readPart_119 (by decide) (fun c50 => ?_) (fun c50 => ?_)
                  · refine lv_aload_n hx hb dX12_readPart_135 rfl (lv_at hl 1 rfl) ?_
                    refine va_get (D := D) (ci := 12) (v := .int (u37 10)) (C := RX12) (T := TX12) (N := 48) hx hb hg inC12 hown hK hP 0 rfl rfl 10 (by decide) (hg _ wt5_170) (fun _ h9 => h9) rfl dX12_readPart_136 ?_
                    refine k_top (z := 0) ((eE38 10 (by decide)).trans hp0.2.2.2.1) ?_
                    refine lv_if_eq (tgt := 167) hx hb dX12_readPart_139 (by decide) (fun c51 => ?_) (fun c51 => ?_)
                    · exact kV_ret hx hb hr hlocks hK hS dX12_readPart_167 u37 hP hD ⟨hI, hE, ⟨i + 1, n + 1, (by rw [egv46.symm]; exact hg47), (Nat.le_succ_of_le (Nat.le_refl i)), (rC_lt (kb_nz (kb_eq ht8.symm b34) (by decide))), Or.inl ⟨h21, h2k39, ⟨(by rw [ez49.symm]; exact hzz49), hyz49⟩, (pi_2l (fun q => c13 ((tk_iff tq9 (by decide +kernel)).mpr (q.trans (by decide +kernel)))) (lf_l tq9 b34).1 hmk39 (lf_l tq9 b34).2)⟩⟩⟩
                    · exact kb_nsame c51 kc_0 kc_0
                  · exact kb_nsame c50 kc_0 kc_0
          · have b52 : kb 50 t7 50 := kb_eq c14 kc_50
            refine lv_aload_n hx hb dX12_readPart_80 rfl (lv_at hl 1 rfl) ?_
            refine va_get (D := D) (ci := 12) (v := .ref (r 16)) (C := RX12) (T := TX12) (N := 48) hx hb hg inC12 hown hK hP 0 rfl rfl 16 (by decide) (hg _ wt5_176) (fun _ h9 => h9) rfl dX12_readPart_81 ?_
            refine lv_aload_n hx hb dX12_readPart_84 rfl (lv_at hl 1 rfl) ?_
            refine va_get (D := D) (ci := 12) (v := .int (f 19)) (C := RX12) (T := TX12) (N := 48) hx hb hg inC12 hown hK hP 0 rfl rfl 19 (by decide) (hg _ wt5_179) (fun _ h9 => h9) rfl dX12_readPart_85 ?_
            refine k_top (z := c19) ec19.symm ?_
            refine va_iald hx hb hK hP 10 0 rfl rfl (kb_in b1 (by decide) (by decide)) dX12_readPart_88 ?_
            refine lv_topi (fun t53 et53 => ?_)
            refine lv_sipush (v := 1000) hx hb dX12_readPart_89 (by decide) ?_
            refine lv_icmp_le (tgt := 111) hx hb dX12_readPart_92 (by decide) (fun c54 => ?_) (fun c54 => ?_)
            · have h55 := (kc_le c54)
              have b56 : kb (-2147483648) t53 1000 := kr_le1 h55 (kb_any t53) kc_1000
              refine lv_aload_n hx hb dX12_readPart_111 rfl (lv_at hl 1 rfl) ?_
              refine kV.callV (As := []) (rest := []) ⟨hx, hb, hml, hown, hg⟩ (q_leaf l o r f a g hI   N (i) (n) false T (rS_fE hE hp0 (by decide)) (by rw [ec19.symm]; exact hg0) hp2 hp3 h21 (rC_lt (kb_nz (kb_eq ht8.symm b52) (by decide))) (by rw [ec20.symm]; exact hn20) hl50) (cwV 0 hg (kgV wt6_231 wt6_233 wp4_13 wt1_14 wt6_234) rfl rfl rfl (by decide +kernel) ⟨by dsimp only [rmD]; omega, by dsimp only [rmD]; omega⟩) hK hP hD hS hA mIs [] rfl (wr := []) rfl rfl rfl (fun i h => by cases h) 0 12 rfl rfl rfl hl.1 rfl (Nat.le_of_ble_eq_true rfl) dX12_readPart_112 ⟨Nat.le_refl _, Nat.le_refl _⟩ (fun u59 H locs hw57 hP hD hS => ?_)
              have hP : va_P D vwCl (mW K o r u59 a g) H := hP
              have hD : va_D A (mW K o r u59 a g) := hD
              have hI : mI u59 a := hw57.1
              have eE60 : fE [19, 20, 21] f u59 := hw57.2.1
              have hE : fE [19, 20, 21] f u59 := fE_tr hE eE60
              rcases hw57.2.2 with ⟨hmk61, hbk61, hpk61⟩ | ⟨hmk61, h2k61, hpk61, h3k61⟩
              · obtain ⟨z62, ez62⟩ : ∃ z : Int32, z = u59 21 := ⟨_, rfl⟩
                have haz62 : z62 = a 17 (i) := by rw [ez62]; exact hbk61.1
                have hnz62 : ¬ z62 = -1 := by rw [ez62]; exact hbk61.2
                obtain ⟨gv63, egv63⟩ : ∃ z : Int32, z = u59 19 := ⟨_, rfl⟩
                have hg64 : gv63.toInt = ((i : Nat) : Int) := by rw [egv63]; exact hpk61
                have b65 : kb 0 gv63 400 := kb_tok (rS_fE hE hp0 (by decide)) hp2 hg64
                refine lv_aload_n hx hb dX12_readPart_115 rfl (lv_at hl 1 rfl) ?_
                refine va_get (D := D) (ci := 12) (v := .int (u59 10)) (C := RX12) (T := TX12) (N := 48) hx hb hg inC12 hown hK hP 0 rfl rfl 10 (by decide) (hg _ wt5_170) (fun _ h9 => h9) rfl dX12_readPart_116 ?_
                refine k_top (z := 0) ((eE60 10 (by decide)).trans hp0.2.2.2.1) ?_
                refine lv_if_eq (tgt := 135) hx hb dX12_readPart_119 (by decide) (fun c66 => ?_) (fun c66 => ?_)
                · refine lv_aload_n hx hb dX12_readPart_135 rfl (lv_at hl 1 rfl) ?_
                  refine va_get (D := D) (ci := 12) (v := .int (u59 10)) (C := RX12) (T := TX12) (N := 48) hx hb hg inC12 hown hK hP 0 rfl rfl 10 (by decide) (hg _ wt5_170) (fun _ h9 => h9) rfl dX12_readPart_136 ?_
                  refine k_top (z := 0) ((eE60 10 (by decide)).trans hp0.2.2.2.1) ?_
                  refine lv_if_eq (tgt := 167) hx hb dX12_readPart_139 (by decide) (fun c67 => ?_) (fun c67 => ?_)
                  · exact kV_ret hx hb hr hlocks hK hS dX12_readPart_167 u59 hP hD ⟨hI, hE, ⟨i, 0, (by rw [egv63.symm]; exact hg64), (Nat.le_refl i), hp2, Or.inr (Or.inl ⟨h21, ⟨(ez62.symm).trans haz62, (fun q => hnz62 ((ez62.symm).symm.trans q))⟩, (pi_2m (fun q => c13 ((tk_iff tq9 (by decide +kernel)).mpr (q.trans (by decide +kernel)))) (lf_n (o := false) (tOk_eq2 rfl et53 tq9) c14 (b56).2).1 hmk61)⟩)⟩⟩
                  · exact kb_nsame c67 kc_0 kc_0
                · exact kb_nsame c66 kc_0 kc_0
              · obtain ⟨gv68, egv68⟩ : ∃ z : Int32, z = u59 19 := ⟨_, rfl⟩
                have hg69 : gv68.toInt = ((i + 1 : Nat) : Int) := by rw [egv68]; exact hpk61
                have b70 : kb 0 gv68 400 := kb_tok (rS_fE hE hp0 (by decide)) (rC_lt (kb_nz (kb_eq ht8.symm b52) (by decide))) hg69
                obtain ⟨z71, ez71⟩ : ∃ z : Int32, z = u59 20 := ⟨_, rfl⟩
                have hzz71 : z71.toInt = ((n + 1 : Nat) : Int) := by rw [ez71]; exact h3k61
                have hyz71 : n + 1 ≤ 50 := by have w1 := hl50; omega
                refine lv_aload_n hx hb dX12_readPart_115 rfl (lv_at hl 1 rfl) ?_
                refine va_get (D := D) (ci := 12) (v := .int (u59 10)) (C := RX12) (T := TX12) (N := 48) hx hb hg inC12 hown hK hP 0 rfl rfl 10 (by decide) (hg _ wt5_170) (fun _ h9 => h9) rfl dX12_readPart_116 ?_
                refine k_top (z := 0) ((eE60 10 (by decide)).trans hp0.2.2.2.1) ?_
                refine lv_if_eq (tgt := 135) hx hb dX12_readPart_119 (by decide) (fun c72 => ?_) (fun c72 => ?_)
                · refine lv_aload_n hx hb dX12_readPart_135 rfl (lv_at hl 1 rfl) ?_
                  refine va_get (D := D) (ci := 12) (v := .int (u59 10)) (C := RX12) (T := TX12) (N := 48) hx hb hg inC12 hown hK hP 0 rfl rfl 10 (by decide) (hg _ wt5_170) (fun _ h9 => h9) rfl dX12_readPart_136 ?_
                  refine k_top (z := 0) ((eE60 10 (by decide)).trans hp0.2.2.2.1) ?_
                  refine lv_if_eq (tgt := 167) hx hb dX12_readPart_139 (by decide) (fun c73 => ?_) (fun c73 => ?_)
                  · exact kV_ret hx hb hr hlocks hK hS dX12_readPart_167 u59 hP hD ⟨hI, hE, ⟨i + 1, n + 1, (by rw [egv68.symm]; exact hg69), (Nat.le_succ_of_le (Nat.le_refl i)), (rC_lt (kb_nz (kb_eq ht8.symm b52) (by decide))), Or.inl ⟨h21, h2k61, ⟨(by rw [ez71.symm]; exact hzz71), hyz71⟩, (pi_2l (fun q => c13 ((tk_iff tq9 (by decide +kernel)).mpr (q.trans (by decide +kernel)))) (lf_n (o := false) (tOk_eq2 rfl et53 tq9) c14 (b56).2).1 hmk61 (lf_n (o := false) (tOk_eq2 rfl et53 tq9) c14 (b56).2).2)⟩⟩⟩
                  · exact kb_nsame c73 kc_0 kc_0
                · exact kb_nsame c72 kc_0 kc_0
            · have h74 := (kc_nle c54)
              have b75 : kb 1001 t53 2147483647 := kr_lt2 h74 kc_1000 (kb_any t53) (by decide)
              refine lv_iload_n hx hb dX12_readPart_95 rfl (lv_at hl 0 rfl) ?_
              refine lv_aload_n hx hb dX12_readPart_96 rfl (lv_at hl 1 rfl) ?_
              refine va_get (D := D) (ci := 12) (v := .int (f 8)) (C := RX12) (T := TX12) (N := 48) hx hb hg inC12 hown hK hP 0 rfl rfl 8 (by decide) (hg _ wt5_168) (fun _ h9 => h9) rfl dX12_readPart_97 ?_
              refine k_top (z := 9) hp0.2.2.2.2.1 ?_
              refine lv_icmp_lt (tgt := 163) hx hb dX12_readPart_100 (by decide) (fun c76 => ?_) (fun c76 => ?_)
              · have h77 := (kc_lt c76)
                exact kb_no (kr_lt1 h77 b52 kc_9 (H := 8) (by decide)) (by decide)
              · have h78 := (kc_nlt c76)
                refine lv_iload_n hx hb dX12_readPart_103 rfl (lv_at hl 0 rfl) ?_
                refine lv_aload_n hx hb dX12_readPart_104 rfl (lv_at hl 1 rfl) ?_
                refine va_get (D := D) (ci := 12) (v := .int (f 9)) (C := RX12) (T := TX12) (N := 48) hx hb hg inC12 hown hK hP 0 rfl rfl 9 (by decide) (hg _ wt5_169) (fun _ h9 => h9) rfl dX12_readPart_105 ?_
                refine k_top (z := 18) hp0.2.2.2.2.2 ?_
                refine lv_icmp_gt (tgt := 163) hx hb dX12_readPart_108 (by decide) (fun c79 => ?_) (fun c79 => ?_)
                · have h80 := (kc_lt c79)
                  refine lv_aload_n hx hb dX12_readPart_163 rfl (lv_at hl 1 rfl) ?_
                  refine kV.callV (As := []) (rest := []) ⟨hx, hb, hml, hown, hg⟩ (q_faults l o r f a g hI   N (i) false T (rS_fE hE hp0 (by decide)) (by rw [ec19.symm]; exact hg0) hp2 hp3) (cwV 0 hg (kgV wt6_223 wt6_225 wp4_11 wt1_14 wt6_226) rfl rfl rfl (by decide +kernel) ⟨by dsimp only [rmD]; omega, by dsimp only [rmD]; omega⟩) hK hP hD hS hA mIs [] rfl (wr := []) rfl rfl rfl (fun i h => by cases h) 0 12 rfl rfl rfl hl.1 rfl (Nat.le_of_ble_eq_true rfl) dX12_readPart_164 ⟨Nat.le_refl _, Nat.le_refl _⟩ (fun u83 H locs hw81 hP hD hS => ?_)
                  have hP : va_P D vwCl (mW K o r u83 a g) H := hP
                  have hD : va_D A (mW K o r u83 a g) := hD
                  have hI : mI u83 a := hw81.1
                  have eE84 : fE [21] f u83 := hw81.2.1
                  have hE : fE [19, 20, 21] f u83 := fE_tr hE (fE_w (by decide) eE84)
                  obtain ⟨z85, ez85⟩ : ∃ z : Int32, z = u83 21 := ⟨_, rfl⟩
                  have haz85 : z85 = a 17 (i) := by rw [ez85]; exact (hw81.2.2.1 h21).1
                  have hnz85 : ¬ z85 = -1 := by rw [ez85]; exact (hw81.2.2.1 h21).2
                  exact kV_ret hx hb hr hlocks hK hS dX12_readPart_167 u83 hP hD ⟨hI, hE, ⟨i, 0, (by rw [((eE84 19 (by decide)).trans ec19.symm)]; exact hg0), (Nat.le_refl i), hp2, Or.inr (Or.inl ⟨h21, ⟨(ez85.symm).trans haz85, (fun q => hnz85 ((ez85.symm).symm.trans q))⟩, (pi_2x (fun q => c13 ((tk_iff tq9 (by decide +kernel)).mpr (q.trans (by decide +kernel)))) (lf_f (o := false) (tOk_eq2 rfl et53 tq9) (fun q => by have w1 := q.2; have w2 := (b75).1; omega) (fun q => by have w1 := congrArg Int32.toInt c14; have w2 := i50; have w3 : (t7).toInt ≤ 18 := q.2; omega)))⟩)⟩⟩
                · have h86 := (kc_nlt c79)
                  exact kb_no (kr_le1 h86 b52 kc_18) (by decide)
        · have b87 : kb 191 t7 191 := kb_eq c13 kc_191
          refine lv_iload_n hx hb dX12_readPart_27 rfl (lv_at hl 2 rfl) ?_
          refine lv_bipush (v := 8) hx hb dX12_readPart_28 (by decide) ?_
          refine lv_icmp_ne (tgt := 37) hx hb dX12_readPart_30 (by decide) (fun c88 => ?_) (fun c88 => ?_)
          · have b89 : kb 0 dp 7 := kr_neh c88 bdp kc_8 (by decide)
            refine lv_aload_n hx hb dX12_readPart_37 rfl (lv_at hl 1 rfl) ?_
            refine kI.callV (As := []) (rest := []) ⟨hx, hb, hml, hown, hg⟩ (m_fine l o r f a g hI   ) (cwV 0 hg (kgV wt6_204 wt6_206 wp4_7 wt1_14 wt6_207) rfl rfl rfl (by decide +kernel) ⟨by dsimp only [rmD]; omega, by dsimp only [rmD]; omega⟩) hK hP hD hS hA mIs [] rfl (wr := []) rfl rfl rfl (fun i h => by cases h) 0 12 rfl rfl rfl hl.1 rfl (Nat.le_of_ble_eq_true rfl) dX12_readPart_38 ⟨Nat.le_refl _, Nat.le_refl _⟩ (fun v91 u92 H locs hw90 hP hD hS => ?_)
            have hP : va_P D vwCl (mW K o r f a g) H := hP
            have hD : va_D A (mW K o r f a g) := hD
            refine k_top (z := 1) ((hw90.2).elim (fun q => q.1) (fun q => absurd h21 q.2)) ?_
            refine lv_if_ne (tgt := 45) hx hb dX12_readPart_41 (by decide) (fun c93 => ?_) (fun c93 => ?_)
            · have b94 : kb 0 c19 399 := kb_tok1 (rS_fE hE hp0 (by decide)) (rC_lt (ne_0 (ht8.symm.trans c13) (by decide +kernel))) hg0
              obtain ⟨ee, hd⟩ : ∃ ee, d = ee + 1 := ⟨d - 1, by have w1 := hp5; have w2 := (b89).2; omega⟩
              refine lv_aload_n hx hb dX12_readPart_45 rfl (lv_at hl 1 rfl) ?_
              refine lv_dup hx hb dX12_readPart_46 rfl ?_
              refine va_get (D := D) (ci := 12) (v := .int (f 19)) (C := RX12) (T := TX12) (N := 48) hx hb hg inC12 hown hK hP 0 rfl rfl 19 (by decide) (hg _ wt5_179) (fun _ h9 => h9) rfl dX12_readPart_47 ?_
              refine k_top (z := c19) ec19.symm ?_
              refine lv_iconst (v := 1) hx hb dX12_readPart_50 (by decide) ?_
              refine lv_iadd hx hb dX12_readPart_51 ?_
              refine lv_topi (fun t95 et95 => ?_)
              have b96 : kb 1 t95 400 := kb_eq et95 (kb_add b94 kc_1 (by decide) (by decide))
              have qt95 : t95.toInt = c19.toInt + 1 := by rw [et95]; exact kt_addc b94 kc_1 (by decide) (by decide)
              have hg97 : t95.toInt = ((i + 1 : Nat) : Int) := by rw [qt95, hg0]; omega
              refine va_put (D := D) (ci := 12) (v := .int t95) (ty := .int) (C := RX12) (T := TX12) (N := 48) hx hb hg inC12 tyX12 tyX12_ok nmX12 hown hK hP hD hS 0 rfl rfl 19 (by decide) (hg _ wt5_179) (fun _ h9 => h9) rfl (by decide +kernel) rfl rfl (Nat.le_of_ble_eq_true rfl) dX12_readPart_52 (fun H locs hP hD hS => ?_)
              have hP : va_P D vwCl (mW K o r (upd f 19 t95) a g) H := hP
              have hD : va_D A (mW K o r (upd f 19 t95) a g) := hD
              refine k_gen (P := fun z => va_P D vwCl (mW K o r z a g) H ∧ va_D A (mW K o r z a g) ∧ (mI z a) ∧ (fE [19, 20, 21] f z)) (upd f 19 t95) ⟨hP, hD, (mI_f hI (fI_st hI.1 19 b96 (by decide) (by decide))), (fE_f hE (by decide))⟩ (fun f_98 ef_98 hq => ?_)
              obtain ⟨hP, hD, hI, hE⟩ := hq
              refine lv_aload_n hx hb dX12_readPart_55 rfl (lv_at hl 1 rfl) ?_
              refine lv_iload_n hx hb dX12_readPart_56 rfl (lv_at hl 2 rfl) ?_
              refine lv_iconst (v := 1) hx hb dX12_readPart_57 (by decide) ?_
              refine lv_iadd hx hb dX12_readPart_58 ?_
              refine lv_topi (fun t99 et99 => ?_)
              have b100 : kb 1 t99 8 := kb_eq et99 (kb_add b89 kc_1 (by decide) (by decide))
              have qt99 : t99.toInt = dp.toInt + 1 := by rw [et99]; exact kt_addc b89 kc_1 (by decide) (by decide)
              refine kV.callV (As := [.int t99]) (rest := []) ⟨hx, hb, hml, hown, hg⟩ ((ih ee hd) l o r f_98 a g hI t99 (kb_w b100 (by decide) (by decide)) N (i + 1) (n) false T (rS_fE hE hp0 (by decide)) (by rw [(show f_98 19 = t95 from by rw [← ef_98]; rfl)]; exact hg97) (rC_lt (ne_0 (ht8.symm.trans c13) (by decide +kernel))) hp3 (fun _ => ⟨(by rw [((show f_98 20 = f 20 from by rw [← ef_98]; rfl).trans ec20.symm)]; exact hn20), hl50⟩) (by have w1 := hp5; have w2 := qt99; omega)) (cwV 1 hg (kgV wt6_208 wt6_210 wp4_8 wt1_14 wt6_211) rfl rfl rfl (by decide +kernel) ⟨by dsimp only [rmD]; omega, by dsimp only [rmD]; omega⟩) hK hP hD hS hA mIs [] rfl (wr := []) rfl rfl rfl (fun i h => by cases h) 0 12 rfl rfl rfl hl.1 rfl (Nat.le_of_ble_eq_true rfl) dX12_readPart_59 ⟨Nat.le_refl _, Nat.le_refl _⟩ (fun u103 H locs hw101 hP hD hS => ?_)
              have hP : va_P D vwCl (mW K o r u103 a g) H := hP
              have hD : va_D A (mW K o r u103 a g) := hD
              have hI : mI u103 a := hw101.1
              have eE104 : fE [19, 20, 21] f_98 u103 := hw101.2.1
              have hE : fE [19, 20, 21] f u103 := fE_tr hE eE104
              obtain ⟨ik105, nk105, hgk105, hlek105, hNk105, hck105⟩ := hw101.2.2
              rcases hck105 with ⟨-, h2k105, h3k105, hGk105⟩ | ⟨-, hbk105, hGk105⟩ | hdk105
              · obtain ⟨gv106, egv106⟩ : ∃ z : Int32, z = u103 19 := ⟨_, rfl⟩
                have hg107 : gv106.toInt = ((ik105 : Nat) : Int) := by rw [egv106]; exact hgk105
                have b108 : kb 0 gv106 400 := kb_tok (rS_fE hE hp0 (by decide)) hNk105 hg107
                obtain ⟨z109, ez109⟩ : ∃ z : Int32, z = u103 20 := ⟨_, rfl⟩
                have hzz109 : z109.toInt = (nk105 : Int) := by rw [ez109]; exact h3k105.1
                refine lv_aload_n hx hb dX12_readPart_62 rfl (lv_at hl 1 rfl) ?_
                refine lv_bipush (v := 93) hx hb dX12_readPart_63 (by decide) ?_
                refine kN.callS (As := [.int 93]) (rest := [.ref o]) ⟨hx, hb, hml, hown, hg⟩ (m_sign l 93 (kb_w kc_93 (by decide) (by decide))) (va_cwS 1 hg (kgS wt6_220 wt6_221 wt1_14 wt6_222) rfl rfl rfl (by decide +kernel) ⟨by dsimp only [rmD]; omega, by dsimp only [rmD]; omega⟩) hP hS rfl hl.1 rfl (Nat.le_of_ble_eq_true rfl) dX12_readPart_65 ⟨Nat.le_refl _, Nat.le_refl _⟩ (fun v111 H locs hw110 hP hS => ?_)
                refine k_top (z := 193) (Int32.toInt_inj.mp (hw110.2.trans (by decide +kernel))) ?_
                refine kV.callV (As := [.int 193]) (rest := []) ⟨hx, hb, hml, hown, hg⟩ (q_must l o r u103 a g hI 193 (kb_w kc_193 (by decide) (by decide)) N (ik105) false T (rS_fE hE hp0 (by decide)) (by rw [egv106.symm]; exact hg107) hNk105 hp3 (by decide +kernel)) (cwV 1 hg (kgV wt6_227 wt6_229 wp4_12 wt1_14 wt6_230) rfl rfl rfl (by decide +kernel) ⟨by dsimp only [rmD]; omega, by dsimp only [rmD]; omega⟩) hK hP hD hS hA mIs [] rfl (wr := []) rfl rfl rfl (fun i h => by cases h) 0 12 rfl rfl rfl hl.1 rfl (Nat.le_of_ble_eq_true rfl) dX12_readPart_68 ⟨Nat.le_refl _, Nat.le_refl _⟩ (fun u115 H locs hw113 hP hD hS => ?_)
                have hP : va_P D vwCl (mW K o r u115 a g) H := hP
                have hD : va_D A (mW K o r u115 a g) := hD
                have hI : mI u115 a := hw113.1
                have eE116 : fE [19, 21] u103 u115 := hw113.2.1
                have hE : fE [19, 20, 21] f u115 := fE_tr hE (fE_w (by decide) eE116)
                rcases hw113.2.2 with ⟨-, h2k117, hGk117, hpk117, hlk117⟩ | ⟨-, hbk117, hGk117, hpk117⟩ | hdk117
                · obtain ⟨gv118, egv118⟩ : ∃ z : Int32, z = u115 19 := ⟨_, rfl⟩
                  have hg119 : gv118.toInt = ((ik105 + 1 : Nat) : Int) := by rw [egv118]; exact hpk117
                  have b120 : kb 0 gv118 400 := kb_tok (rS_fE hE hp0 (by decide)) hlk117 hg119
                  have hm121 : T (ik105) = 3093 := hGk117.trans (by decide +kernel)
                  refine lv_goto (tgt := 167) hx hb dX12_readPart_71 (by decide) ?_
                  exact kV_ret hx hb hr hlocks hK hS dX12_readPart_167 u115 hP hD ⟨hI, hE, ⟨ik105 + 1, nk105, (by rw [egv118.symm]; exact hg119), (Nat.le_succ_of_le (Nat.le_trans (Nat.le_succ_of_le (Nat.le_refl i)) hlek105)), hlk117, Or.inl ⟨h21, h2k117, ⟨(by rw [((eE116 20 (by decide)).trans ez109.symm)]; exact hzz109), h3k105.2⟩, (pi_2a (((tk_iff tq9 (by decide +kernel)).mp c13).trans (by decide +kernel)) hd hGk105 hm121)⟩⟩⟩
                · obtain ⟨z122, ez122⟩ : ∃ z : Int32, z = u115 21 := ⟨_, rfl⟩
                  have haz122 : z122 = a 17 (ik105) := by rw [ez122]; exact hbk117.1
                  have hnz122 : ¬ z122 = -1 := by rw [ez122]; exact hbk117.2
                  obtain ⟨gv123, egv123⟩ : ∃ z : Int32, z = u115 19 := ⟨_, rfl⟩
                  have hg124 : gv123.toInt = ((ik105 : Nat) : Int) := by rw [egv123]; exact hpk117
                  have b125 : kb 0 gv123 400 := kb_tok (rS_fE hE hp0 (by decide)) hNk105 hg124
                  have hm126 : ¬ T (ik105) = 3093 := fun q => hGk117 (q.trans (by decide +kernel))
                  refine lv_goto (tgt := 167) hx hb dX12_readPart_71 (by decide) ?_
                  exact kV_ret hx hb hr hlocks hK hS dX12_readPart_167 u115 hP hD ⟨hI, hE, ⟨ik105, 0, (by rw [egv123.symm]; exact hg124), (Nat.le_trans (Nat.le_succ_of_le (Nat.le_refl i)) hlek105), hNk105, Or.inr (Or.inl ⟨h21, ⟨(ez122.symm).trans haz122, (fun q => hnz122 ((ez122.symm).symm.trans q))⟩, (pi_2b (((tk_iff tq9 (by decide +kernel)).mp c13).trans (by decide +kernel)) hd hGk105 hm126)⟩)⟩⟩
                · exact absurd h2k105 hdk117.1
              · obtain ⟨gv127, egv127⟩ : ∃ z : Int32, z = u103 19 := ⟨_, rfl⟩
                have hg128 : gv127.toInt = ((ik105 : Nat) : Int) := by rw [egv127]; exact hgk105
                have b129 : kb 0 gv127 400 := kb_tok (rS_fE hE hp0 (by decide)) hNk105 hg128
                obtain ⟨z130, ez130⟩ : ∃ z : Int32, z = u103 21 := ⟨_, rfl⟩
                have haz130 : z130 = a 17 (ik105) := by rw [ez130]; exact hbk105.1
                have hnz130 : ¬ z130 = -1 := by rw [ez130]; exact hbk105.2
                refine lv_aload_n hx hb dX12_readPart_62 rfl (lv_at hl 1 rfl) ?_
                refine lv_bipush (v := 93) hx hb dX12_readPart_63 (by decide) ?_
                refine kN.callS (As := [.int 93]) (rest := [.ref o]) ⟨hx, hb, hml, hown, hg⟩ (m_sign l 93 (kb_w kc_93 (by decide) (by decide))) (va_cwS 1 hg (kgS wt6_220 wt6_221 wt1_14 wt6_222) rfl rfl rfl (by decide +kernel) ⟨by dsimp only [rmD]; omega, by dsimp only [rmD]; omega⟩) hP hS rfl hl.1 rfl (Nat.le_of_ble_eq_true rfl) dX12_readPart_65 ⟨Nat.le_refl _, Nat.le_refl _⟩ (fun v132 H locs hw131 hP hS => ?_)
                refine k_top (z := 193) (Int32.toInt_inj.mp (hw131.2.trans (by decide +kernel))) ?_
                refine kV.callV (As := [.int 193]) (rest := []) ⟨hx, hb, hml, hown, hg⟩ (q_must l o r u103 a g hI 193 (kb_w kc_193 (by decide) (by decide)) N (ik105) false T (rS_fE hE hp0 (by decide)) (by rw [egv127.symm]; exact hg128) hNk105 hp3 (by decide +kernel)) (cwV 1 hg (kgV wt6_227 wt6_229 wp4_12 wt1_14 wt6_230) rfl rfl rfl (by decide +kernel) ⟨by dsimp only [rmD]; omega, by dsimp only [rmD]; omega⟩) hK hP hD hS hA mIs [] rfl (wr := []) rfl rfl rfl (fun i h => by cases h) 0 12 rfl rfl rfl hl.1 rfl (Nat.le_of_ble_eq_true rfl) dX12_readPart_68 ⟨Nat.le_refl _, Nat.le_refl _⟩ (fun u136 H locs hw134 hP hD hS => ?_)
                have hP : va_P D vwCl (mW K o r u136 a g) H := hP
                have hD : va_D A (mW K o r u136 a g) := hD
                have hI : mI u136 a := hw134.1
                have eE137 : fE [19, 21] u103 u136 := hw134.2.1
                have hE : fE [19, 20, 21] f u136 := fE_tr hE (fE_w (by decide) eE137)
                have hdk138 := (hw134.2.2).elim (fun q => absurd q.1 (fun q => hnz130 ((ez130.symm).symm.trans q))) (fun q => q.elim (fun q => absurd q.1 (fun q => hnz130 ((ez130.symm).symm.trans q))) (fun q => q))
                obtain ⟨gv139, egv139⟩ : ∃ z : Int32, z = u136 19 := ⟨_, rfl⟩
                have hg140 : gv139.toInt = ((ik105 : Nat) : Int) := by rw [egv139]; exact hdk138.2.2
                have b141 : kb 0 gv139 400 := kb_tok (rS_fE hE hp0 (by decide)) hNk105 hg140
                refine lv_goto (tgt := 167) hx hb dX12_readPart_71 (by decide) ?_
                exact kV_ret hx hb hr hlocks hK hS dX12_readPart_167 u136 hP hD ⟨hI, hE, ⟨ik105, 0, (by rw [egv139.symm]; exact hg140), (Nat.le_trans (Nat.le_succ_of_le (Nat.le_refl i)) hlek105), hNk105, Or.inr (Or.inl ⟨h21, ⟨((hdk138.2.1.trans ez130.symm)).trans haz130, (fun q => hnz130 (((hdk138.2.1.trans ez130.symm)).symm.trans q))⟩, (pi_2f (((tk_iff tq9 (by decide +kernel)).mp c13).trans (by decide +kernel)) hd hGk105)⟩)⟩⟩
              · exact absurd ((show f_98 21 = f 21 from by rw [← ef_98]; rfl).trans h21) hdk105.1
            · exact kb_dj c93 kc_1 kc_0 (by decide)
          · have b142 : kb 8 dp 8 := kb_eq c88 kc_8
            refine lv_aload_n hx hb dX12_readPart_33 rfl (lv_at hl 1 rfl) ?_
            refine kV.callV (As := []) (rest := []) ⟨hx, hb, hml, hown, hg⟩ (q_faults l o r f a g hI   N (i) false T (rS_fE hE hp0 (by decide)) (by rw [ec19.symm]; exact hg0) hp2 hp3) (cwV 0 hg (kgV wt6_223 wt6_225 wp4_11 wt1_14 wt6_226) rfl rfl rfl (by decide +kernel) ⟨by dsimp only [rmD]; omega, by dsimp only [rmD]; omega⟩) hK hP hD hS hA mIs [] rfl (wr := []) rfl rfl rfl (fun i h => by cases h) 0 12 rfl rfl rfl hl.1 rfl (Nat.le_of_ble_eq_true rfl) dX12_readPart_34 ⟨Nat.le_refl _, Nat.le_refl _⟩ (fun u145 H locs hw143 hP hD hS => ?_)
            have hP : va_P D vwCl (mW K o r u145 a g) H := hP
            have hD : va_D A (mW K o r u145 a g) := hD
            have hI : mI u145 a := hw143.1
            have eE146 : fE [21] f u145 := hw143.2.1
            have hE : fE [19, 20, 21] f u145 := fE_tr hE (fE_w (by decide) eE146)
            obtain ⟨z147, ez147⟩ : ∃ z : Int32, z = u145 21 := ⟨_, rfl⟩
            have haz147 : z147 = a 17 (i) := by rw [ez147]; exact (hw143.2.2.1 h21).1
            have hnz147 : ¬ z147 = -1 := by rw [ez147]; exact (hw143.2.2.1 h21).2
            refine lv_aload_n hx hb dX12_readPart_37 rfl (lv_at hl 1 rfl) ?_
            refine kI.callV (As := []) (rest := []) ⟨hx, hb, hml, hown, hg⟩ (m_fine l o r u145 a g hI   ) (cwV 0 hg (kgV wt6_204 wt6_206 wp4_7 wt1_14 wt6_207) rfl rfl rfl (by decide +kernel) ⟨by dsimp only [rmD]; omega, by dsimp only [rmD]; omega⟩) hK hP hD hS hA mIs [] rfl (wr := []) rfl rfl rfl (fun i h => by cases h) 0 12 rfl rfl rfl hl.1 rfl (Nat.le_of_ble_eq_true rfl) dX12_readPart_38 ⟨Nat.le_refl _, Nat.le_refl _⟩ (fun v149 u150 H locs hw148 hP hD hS => ?_)
            have hP : va_P D vwCl (mW K o r u145 a g) H := hP
            have hD : va_D A (mW K o r u145 a g) := hD
            refine k_top (z := 0) ((hw148.2).elim (fun q => absurd q.2 (fun q => hnz147 ((ez147.symm).symm.trans q))) (fun q => q.1)) ?_
            refine lv_if_ne (tgt := 45) hx hb dX12_readPart_41 (by decide) (fun c151 => ?_) (fun c151 => ?_)
            · exact kb_nsame c151 kc_0 kc_0
            · exact kV_ret hx hb hr hlocks hK hS dX12_readPart_44 u145 hP hD ⟨hI, hE, ⟨i, 0, (by rw [((eE146 19 (by decide)).trans ec19.symm)]; exact hg0), (Nat.le_refl i), hp2, Or.inr (Or.inl ⟨h21, ⟨(ez147.symm).trans haz147, (fun q => hnz147 ((ez147.symm).symm.trans q))⟩, (pi_2z (((tk_iff tq9 (by decide +kernel)).mp c13).trans (by decide +kernel)) (by have w1 := hp5; have w2 := congrArg Int32.toInt c88; have w3 : (8 : Int32).toInt = 8 := (by decide +kernel); omega))⟩)⟩⟩
      · exact kb_dj c6 kc_1 kc_0 (by decide)
    · obtain ⟨c21, ec21⟩ : ∃ z : Int32, z = f 21 := ⟨_, rfl⟩
      have hn21 : ¬ c21 = -1 := by rw [ec21]; exact h21
      refine lv_aload_n hx hb dX12_readPart_0 rfl (lv_at hl 0 rfl) ?_
      refine kI.callV (As := []) (rest := []) ⟨hx, hb, hml, hown, hg⟩ (m_fine l o r f a g hI   ) (cwV 0 hg (kgV wt6_204 wt6_206 wp4_7 wt1_14 wt6_207) rfl rfl rfl (by decide +kernel) ⟨by dsimp only [rmD]; omega, by dsimp only [rmD]; omega⟩) hK hP hD hS hA mIs [] rfl (wr := []) rfl rfl rfl (fun i h => by cases h) 0 12 rfl rfl rfl hl.1 rfl (Nat.le_of_ble_eq_true rfl) dX12_readPart_1 ⟨Nat.le_refl _, Nat.le_refl _⟩ (fun v153 u154 H locs hw152 hP hD hS => ?_)
      have hP : va_P D vwCl (mW K o r f a g) H := hP
      have hD : va_D A (mW K o r f a g) := hD
      refine k_top (z := 0) ((hw152.2).elim (fun q => absurd q.2 (fun q => hn21 ((ec21.symm).symm.trans q))) (fun q => q.1)) ?_
      refine lv_if_ne (tgt := 8) hx hb dX12_readPart_4 (by decide) (fun c155 => ?_) (fun c155 => ?_)
      · exact kb_nsame c155 kc_0 kc_0
      · exact kV_ret hx hb hr hlocks hK hS dX12_readPart_7 f hP hD ⟨hI, hE, ⟨i, 0, (by rw [ec19.symm]; exact hg0), (Nat.le_refl i), hp2, Or.inr (Or.inr ⟨h21, (ec21.symm).trans ec21, rfl⟩)⟩⟩
  · by_cases h21 : f 21 = -1
    · obtain ⟨c20, ec20⟩ : ∃ z : Int32, z = f 20 := ⟨_, rfl⟩
      have hn20 : c20.toInt = (n : Int) := by rw [ec20]; exact (hp4 h21).1
      have hl50 : n ≤ 50 := (hp4 h21).2
      have b156 : kb 0 c20 50 := ⟨by omega, by omega⟩
      refine lv_aload_n hx hb dX12_readPart_0 rfl (lv_at hl 0 rfl) ?_
      refine kI.callV (As := []) (rest := []) ⟨hx, hb, hml, hown, hg⟩ (m_fine l o r f a g hI   ) (cwV 0 hg (kgV wt6_204 wt6_206 wp4_7 wt1_14 wt6_207) rfl rfl rfl (by decide +kernel) ⟨by dsimp only [rmD]; omega, by dsimp only [rmD]; omega⟩) hK hP hD hS hA mIs [] rfl (wr := []) rfl rfl rfl (fun i h => by cases h) 0 12 rfl rfl rfl hl.1 rfl (Nat.le_of_ble_eq_true rfl) dX12_readPart_1 ⟨Nat.le_refl _, Nat.le_refl _⟩ (fun v158 u159 H locs hw157 hP hD hS => ?_)
      have hP : va_P D vwCl (mW K o r f a g) H := hP
      have hD : va_D A (mW K o r f a g) := hD
      refine k_top (z := 1) ((hw157.2).elim (fun q => q.1) (fun q => absurd h21 q.2)) ?_
      refine lv_if_ne (tgt := 8) hx hb dX12_readPart_4 (by decide) (fun c160 => ?_) (fun c160 => ?_)
      · refine lv_aload_n hx hb dX12_readPart_8 rfl (lv_at hl 0 rfl) ?_
        refine va_get (D := D) (ci := 12) (v := .ref (r 15)) (C := RX12) (T := TX12) (N := 48) hx hb hg inC12 hown hK hP 0 rfl rfl 15 (by decide) (hg _ wt5_175) (fun _ h9 => h9) rfl dX12_readPart_9 ?_
        refine lv_aload_n hx hb dX12_readPart_12 rfl (lv_at hl 0 rfl) ?_
        refine va_get (D := D) (ci := 12) (v := .int (f 19)) (C := RX12) (T := TX12) (N := 48) hx hb hg inC12 hown hK hP 0 rfl rfl 19 (by decide) (hg _ wt5_179) (fun _ h9 => h9) rfl dX12_readPart_13 ?_
        refine k_top (z := c19) ec19.symm ?_
        refine va_iald hx hb hK hP 9 0 rfl rfl (kb_in b1 (by decide) (by decide)) dX12_readPart_16 ?_
        refine lv_topi (fun t161 et161 => ?_)
        have ht162 : t161 = rC (a 15) N (i) := et161.trans (rC_at (rS_fE hE hp0 (by decide)) hp2 hg0)
        have tq163 : tOk t161 (a 16 c19.toNatClampNeg) (T (i)) := tOk_eq et161 (rQ_ld hp3 (rS_fE hE hp0 (by decide)) hp2 hg0)
        refine lv_istore_n (lv' := [(2, .int t161), (0, .ref o), (1, .int dp)]) hx hb dX12_readPart_17 rfl hl (by decide) rfl (fun ls hl => ?_)
        refine lv_iload_n hx hb dX12_readPart_18 rfl (lv_at hl 0 rfl) ?_
        refine lv_bipush (v := 91) hx hb dX12_readPart_19 (by decide) ?_
        refine kN.callS (As := [.int 91]) (rest := [.int t161]) ⟨hx, hb, hml, hown, hg⟩ (m_sign l 91 (kb_w kc_91 (by decide) (by decide))) (va_cwS 1 hg (kgS wt6_220 wt6_221 wt1_14 wt6_222) rfl rfl rfl (by decide +kernel) ⟨by dsimp only [rmD]; omega, by dsimp only [rmD]; omega⟩) hP hS rfl hl.1 rfl (Nat.le_of_ble_eq_true rfl) dX12_readPart_21 ⟨Nat.le_refl _, Nat.le_refl _⟩ (fun v165 H locs hw164 hP hS => ?_)
        refine k_top (z := 191) (Int32.toInt_inj.mp (hw164.2.trans (by decide +kernel))) ?_
        refine lv_icmp_ne (tgt := 74) hx hb dX12_readPart_24 (by decide) (fun c167 => ?_) (fun c167 => ?_)
        · refine lv_iload_n hx hb dX12_readPart_74 rfl (lv_at hl 0 rfl) ?_
          refine lv_bipush (v := 50) hx hb dX12_readPart_75 (by decide) ?_
          refine lv_icmp_ne (tgt := 95) hx hb dX12_readPart_77 (by decide) (fun c168 => ?_) (fun c168 => ?_)
          · refine lv_iload_n hx hb dX12_readPart_95 rfl (lv_at hl 0 rfl) ?_
            refine lv_aload_n hx hb dX12_readPart_96 rfl (lv_at hl 1 rfl) ?_
            refine va_get (D := D) (ci := 12) (v := .int (f 8)) (C := RX12) (T := TX12) (N := 48) hx hb hg inC12 hown hK hP 0 rfl rfl 8 (by decide) (hg _ wt5_168) (fun _ h9 => h9) rfl dX12_readPart_97 ?_
            refine k_top (z := 16) hp0.2.2.2.2.1 ?_
            refine lv_icmp_lt (tgt := 163) hx hb dX12_readPart_100 (by decide) (fun c169 => ?_) (fun c169 => ?_)
            · have h170 := (kc_lt c169)
              have b171 : kb (-2147483648) t161 15 := kr_lt1 h170 (kb_any t161) kc_16 (by decide)
              refine lv_aload_n hx hb dX12_readPart_163 rfl (lv_at hl 1 rfl) ?_
              refine kV.callV (As := []) (rest := []) ⟨hx, hb, hml, hown, hg⟩ (q_faults l o r f a g hI   N (i) true T (rS_fE hE hp0 (by decide)) (by rw [ec19.symm]; exact hg0) hp2 hp3) (cwV 0 hg (kgV wt6_223 wt6_225 wp4_11 wt1_14 wt6_226) rfl rfl rfl (by decide +kernel) ⟨by dsimp only [rmD]; omega, by dsimp only [rmD]; omega⟩) hK hP hD hS hA mIs [] rfl (wr := []) rfl rfl rfl (fun i h => by cases h) 0 12 rfl rfl rfl hl.1 rfl (Nat.le_of_ble_eq_true rfl) dX12_readPart_164 ⟨Nat.le_refl _, Nat.le_refl _⟩ (fun u174 H locs hw172 hP hD hS => ?_)
              have hP : va_P D vwCl (mW K o r u174 a g) H := hP
              have hD : va_D A (mW K o r u174 a g) := hD
              have hI : mI u174 a := hw172.1
              have eE175 : fE [21] f u174 := hw172.2.1
              have hE : fE [19, 20, 21] f u174 := fE_tr hE (fE_w (by decide) eE175)
              obtain ⟨z176, ez176⟩ : ∃ z : Int32, z = u174 21 := ⟨_, rfl⟩
              have haz176 : z176 = a 17 (i) := by rw [ez176]; exact (hw172.2.2.1 h21).1
              have hnz176 : ¬ z176 = -1 := by rw [ez176]; exact (hw172.2.2.1 h21).2
              exact kV_ret hx hb hr hlocks hK hS dX12_readPart_167 u174 hP hD ⟨hI, hE, ⟨i, 0, (by rw [((eE175 19 (by decide)).trans ec19.symm)]; exact hg0), (Nat.le_refl i), hp2, Or.inr (Or.inl ⟨h21, ⟨(ez176.symm).trans haz176, (fun q => hnz176 ((ez176.symm).symm.trans q))⟩, (pi_2x (fun q => c167 ((tk_iff tq163 (by decide +kernel)).mpr (q.trans (by decide +kernel)))) (lf_f (o := true) tq163 (fun q => c168 q.1) (fun q => by have w1 : 16 ≤ (t161).toInt := q.1; have w2 := (b171).2; omega)))⟩)⟩⟩
            · have h177 := (kc_nlt c169)
              have b178 : kb 16 t161 2147483647 := kr_le2 h177 kc_16 (kb_any t161)
              refine lv_iload_n hx hb dX12_readPart_103 rfl (lv_at hl 0 rfl) ?_
              refine lv_aload_n hx hb dX12_readPart_104 rfl (lv_at hl 1 rfl) ?_
              refine va_get (D := D) (ci := 12) (v := .int (f 9)) (C := RX12) (T := TX12) (N := 48) hx hb hg inC12 hown hK hP 0 rfl rfl 9 (by decide) (hg _ wt5_169) (fun _ h9 => h9) rfl dX12_readPart_105 ?_
              refine k_top (z := 22) hp0.2.2.2.2.2 ?_
              refine lv_icmp_gt (tgt := 163) hx hb dX12_readPart_108 (by decide) (fun c179 => ?_) (fun c179 => ?_)
              · have h180 := (kc_lt c179)
                have b181 : kb 23 t161 2147483647 := kr_lt2 h180 kc_22 b178 (by decide)
                refine lv_aload_n hx hb dX12_readPart_163 rfl (lv_at hl 1 rfl) ?_
                refine kV.callV (As := []) (rest := []) ⟨hx, hb, hml, hown, hg⟩ (q_faults l o r f a g hI   N (i) true T (rS_fE hE hp0 (by decide)) (by rw [ec19.symm]; exact hg0) hp2 hp3) (cwV 0 hg (kgV wt6_223 wt6_225 wp4_11 wt1_14 wt6_226) rfl rfl rfl (by decide +kernel) ⟨by dsimp only [rmD]; omega, by dsimp only [rmD]; omega⟩) hK hP hD hS hA mIs [] rfl (wr := []) rfl rfl rfl (fun i h => by cases h) 0 12 rfl rfl rfl hl.1 rfl (Nat.le_of_ble_eq_true rfl) dX12_readPart_164 ⟨Nat.le_refl _, Nat.le_refl _⟩ (fun u184 H locs hw182 hP hD hS => ?_)
                have hP : va_P D vwCl (mW K o r u184 a g) H := hP
                have hD : va_D A (mW K o r u184 a g) := hD
                have hI : mI u184 a := hw182.1
                have eE185 : fE [21] f u184 := hw182.2.1
                have hE : fE [19, 20, 21] f u184 := fE_tr hE (fE_w (by decide) eE185)
                obtain ⟨z186, ez186⟩ : ∃ z : Int32, z = u184 21 := ⟨_, rfl⟩
                have haz186 : z186 = a 17 (i) := by rw [ez186]; exact (hw182.2.2.1 h21).1
                have hnz186 : ¬ z186 = -1 := by rw [ez186]; exact (hw182.2.2.1 h21).2
                exact kV_ret hx hb hr hlocks hK hS dX12_readPart_167 u184 hP hD ⟨hI, hE, ⟨i, 0, (by rw [((eE185 19 (by decide)).trans ec19.symm)]; exact hg0), (Nat.le_refl i), hp2, Or.inr (Or.inl ⟨h21, ⟨(ez186.symm).trans haz186, (fun q => hnz186 ((ez186.symm).symm.trans q))⟩, (pi_2x (fun q => c167 ((tk_iff tq163 (by decide +kernel)).mpr (q.trans (by decide +kernel)))) (lf_f (o := true) tq163 (fun q => c168 q.1) (fun q => by have w1 : (t161).toInt ≤ 22 := q.2; have w2 := (b181).1; omega)))⟩)⟩⟩
              · have h187 := (kc_nlt c179)
                have b188 : kb 16 t161 22 := kr_le1 h187 b178 kc_22
                refine lv_aload_n hx hb dX12_readPart_111 rfl (lv_at hl 1 rfl) ?_
                refine kV.callV (As := []) (rest := []) ⟨hx, hb, hml, hown, hg⟩ (q_leaf l o r f a g hI   N (i) (n) true T (rS_fE hE hp0 (by decide)) (by rw [ec19.symm]; exact hg0) hp2 hp3 h21 (rC_lt (kb_nz (kb_eq ht162.symm b188) (by decide))) (by rw [ec20.symm]; exact hn20) hl50) (cwV 0 hg (kgV wt6_231 wt6_233 wp4_13 wt1_14 wt6_234) rfl rfl rfl (by decide +kernel) ⟨by dsimp only [rmD]; omega, by dsimp only [rmD]; omega⟩) hK hP hD hS hA mIs [] rfl (wr := []) rfl rfl rfl (fun i h => by cases h) 0 12 rfl rfl rfl hl.1 rfl (Nat.le_of_ble_eq_true rfl) dX12_readPart_112 ⟨Nat.le_refl _, Nat.le_refl _⟩ (fun u191 H locs hw189 hP hD hS => ?_)
                have hP : va_P D vwCl (mW K o r u191 a g) H := hP
                have hD : va_D A (mW K o r u191 a g) := hD
                have hI : mI u191 a := hw189.1
                have eE192 : fE [19, 20, 21] f u191 := hw189.2.1
                have hE : fE [19, 20, 21] f u191 := fE_tr hE eE192
                rcases hw189.2.2 with ⟨hmk193, hbk193, hpk193⟩ | ⟨hmk193, h2k193, hpk193, h3k193⟩
                · obtain ⟨z194, ez194⟩ : ∃ z : Int32, z = u191 21 := ⟨_, rfl⟩
                  have haz194 : z194 = a 17 (i) := by rw [ez194]; exact hbk193.1
                  have hnz194 : ¬ z194 = -1 := by rw [ez194]; exact hbk193.2
                  obtain ⟨gv195, egv195⟩ : ∃ z : Int32, z = u191 19 := ⟨_, rfl⟩
                  have hg196 : gv195.toInt = ((i : Nat) : Int) := by rw [egv195]; exact hpk193
                  have b197 : kb 0 gv195 400 := kb_tok (rS_fE hE hp0 (by decide)) hp2 hg196
                  refine lv_aload_n hx hb dX12_readPart_115 rfl (lv_at hl 1 rfl) ?_
                  refine va_get (D := D) (ci := 12) (v := .int (u191 10)) (C := RX12) (T := TX12) (N := 48) hx hb hg inC12 hown hK hP 0 rfl rfl 10 (by decide) (hg _ wt5_170) (fun _ h9 => h9) rfl dX12_readPart_116 ?_
                  refine k_top (z := 1) ((eE192 10 (by decide)).trans hp0.2.2.2.1) ?_
                  refine lv_if_eq (tgt := 135) hx hb dX12_readPart_119 (by decide) (fun c198 => ?_) (fun c198 => ?_)
                  · exact kb_dj c198 kc_1 kc_0 (by decide)
                  · refine lv_iload_n hx hb dX12_readPart_122 rfl (lv_at hl 0 rfl) ?_
                    refine lv_bipush (v := 16) hx hb dX12_readPart_123 (by decide) ?_
                    refine lv_icmp_ne (tgt := 135) hx hb dX12_readPart_125 (by decide) (fun c199 => ?_) (fun c199 => ?_)
                    · have b200 : kb 17 t161 22 := kr_nel c199 b188 kc_16 (by decide)
                      refine lv_aload_n hx hb dX12_readPart_135 rfl (lv_at hl 1 rfl) ?_
                      refine va_get (D := D) (ci := 12) (v := .int (u191 10)) (C := RX12) (T := TX12) (N := 48) hx hb hg inC12 hown hK hP 0 rfl rfl 10 (by decide) (hg _ wt5_170) (fun _ h9 => h9) rfl dX12_readPart_136 ?_
                      refine k_top (z := 1) ((eE192 10 (by decide)).trans hp0.2.2.2.1) ?_
                      refine lv_if_eq (tgt := 167) hx hb dX12_readPart_139 (by decide) (fun c201 => ?_) (fun c201 => ?_)
                      · exact kb_dj c201 kc_1 kc_0 (by decide)
                      · refine lv_iload_n hx hb dX12_readPart_142 rfl (lv_at hl 0 rfl) ?_
                        refine lv_bipush (v := 17) hx hb dX12_readPart_143 (by decide) ?_
                        refine lv_icmp_eq (tgt := 154) hx hb dX12_readPart_145 (by decide) (fun c202 => ?_) (fun c202 => ?_)
                        · have b203 : kb 17 t161 17 := kb_eq c202 kc_17
                          refine lv_aload_n hx hb dX12_readPart_154 rfl (lv_at hl 1 rfl) ?_
                          refine lv_iconst (v := 0) hx hb dX12_readPart_155 (by decide) ?_
                          refine lv_iconst (v := 5) hx hb dX12_readPart_156 (by decide) ?_
                          refine kV.callV (As := [.int 0, .int 5]) (rest := []) ⟨hx, hb, hml, hown, hg⟩ (q_mustNumber l o r u191 a g hI 0 5 (kb_w kc_0 (by decide) (by decide)) (kb_w kc_5 (by decide) (by decide)) N (i) true T (rS_fE hE hp0 (by decide)) (by rw [egv195.symm]; exact hg196) hp2 hp3) (cwV 2 hg (kgV wt6_235 wt6_237 wp4_14 wt1_14 wt6_238) rfl rfl rfl (by decide +kernel) ⟨by dsimp only [rmD]; omega, by dsimp only [rmD]; omega⟩) hK hP hD hS hA mIs [] rfl (wr := []) rfl rfl rfl (fun i h => by cases h) 0 12 rfl rfl rfl hl.1 rfl (Nat.le_of_ble_eq_true rfl) dX12_readPart_157 ⟨Nat.le_refl _, Nat.le_refl _⟩ (fun u206 H locs hw204 hP hD hS => ?_)
                          have hP : va_P D vwCl (mW K o r u206 a g) H := hP
                          have hD : va_D A (mW K o r u206 a g) := hD
                          have hI : mI u206 a := hw204.1
                          have eE207 : fE [19, 21] u191 u206 := hw204.2.1
                          have hE : fE [19, 20, 21] f u206 := fE_tr hE (fE_w (by decide) eE207)
                          have hdk208 := (hw204.2.2).elim (fun q => absurd q.1 (fun q => hnz194 ((ez194.symm).symm.trans q))) (fun q => q.elim (fun q => absurd q.1 (fun q => hnz194 ((ez194.symm).symm.trans q))) (fun q => q))
                          obtain ⟨gv209, egv209⟩ : ∃ z : Int32, z = u206 19 := ⟨_, rfl⟩
                          have hg210 : gv209.toInt = ((i : Nat) : Int) := by rw [egv209]; exact hdk208.2.2
                          have b211 : kb 0 gv209 400 := kb_tok (rS_fE hE hp0 (by decide)) hp2 hg210
                          refine lv_goto (tgt := 167) hx hb dX12_readPart_160 (by decide) ?_
                          exact kV_ret hx hb hr hlocks hK hS dX12_readPart_167 u206 hP hD ⟨hI, hE, ⟨i, 0, (by rw [egv209.symm]; exact hg210), (Nat.le_refl i), hp2, Or.inr (Or.inl ⟨h21, ⟨((hdk208.2.1.trans ez194.symm)).trans haz194, (fun q => hnz194 (((hdk208.2.1.trans ez194.symm)).symm.trans q))⟩, (pi_2m (fun q => c167 ((tk_iff tq163 (by decide +kernel)).mpr (q.trans (by decide +kernel)))) (lf_o tq163 (kb_w b203 (by decide) (by decide))) hmk193)⟩)⟩⟩
                        · have b212 : kb 18 t161 22 := kr_nel c202 b200 kc_17 (by decide)
                          refine lv_iload_n hx hb dX12_readPart_148 rfl (lv_at hl 0 rfl) ?_
                          refine lv_bipush (v := 22) hx hb dX12_readPart_149 (by decide) ?_
                          refine lv_icmp_ne (tgt := 167) hx hb dX12_readPart_151 (by decide) (fun c213 => ?_) (fun c213 => ?_)
                          · have b214 : kb 18 t161 21 := kr_neh c213 b212 kc_22 (by decide)
                            exact kV_ret hx hb hr hlocks hK hS dX12_readPart_167 u191 hP hD ⟨hI, hE, ⟨i, 0, (by rw [egv195.symm]; exact hg196), (Nat.le_refl i), hp2, Or.inr (Or.inl ⟨h21, ⟨(ez194.symm).trans haz194, (fun q => hnz194 ((ez194.symm).symm.trans q))⟩, (pi_2m (fun q => c167 ((tk_iff tq163 (by decide +kernel)).mpr (q.trans (by decide +kernel)))) (lf_o tq163 (kb_w b214 (by decide) (by decide))) hmk193)⟩)⟩⟩
                          · have b215 : kb 22 t161 22 := kb_eq c213 kc_22
                            refine lv_aload_n hx hb dX12_readPart_154 rfl (lv_at hl 1 rfl) ?_
                            refine lv_iconst (v := 0) hx hb dX12_readPart_155 (by decide) ?_
                            refine lv_iconst (v := 5) hx hb dX12_readPart_156 (by decide) ?_
                            refine kV.callV (As := [.int 0, .int 5]) (rest := []) ⟨hx, hb, hml, hown, hg⟩ (q_mustNumber l o r u191 a g hI 0 5 (kb_w kc_0 (by decide) (by decide)) (kb_w kc_5 (by decide) (by decide)) N (i) true T (rS_fE hE hp0 (by decide)) (by rw [egv195.symm]; exact hg196) hp2 hp3) (cwV 2 hg (kgV wt6_235 wt6_237 wp4_14 wt1_14 wt6_238) rfl rfl rfl (by decide +kernel) ⟨by dsimp only [rmD]; omega, by dsimp only [rmD]; omega⟩) hK hP hD hS hA mIs [] rfl (wr := []) rfl rfl rfl (fun i h => by cases h) 0 12 rfl rfl rfl hl.1 rfl (Nat.le_of_ble_eq_true rfl) dX12_readPart_157 ⟨Nat.le_refl _, Nat.le_refl _⟩ (fun u218 H locs hw216 hP hD hS => ?_)
                            have hP : va_P D vwCl (mW K o r u218 a g) H := hP
                            have hD : va_D A (mW K o r u218 a g) := hD
                            have hI : mI u218 a := hw216.1
                            have eE219 : fE [19, 21] u191 u218 := hw216.2.1
                            have hE : fE [19, 20, 21] f u218 := fE_tr hE (fE_w (by decide) eE219)
                            have hdk220 := (hw216.2.2).elim (fun q => absurd q.1 (fun q => hnz194 ((ez194.symm).symm.trans q))) (fun q => q.elim (fun q => absurd q.1 (fun q => hnz194 ((ez194.symm).symm.trans q))) (fun q => q))
                            obtain ⟨gv221, egv221⟩ : ∃ z : Int32, z = u218 19 := ⟨_, rfl⟩
                            have hg222 : gv221.toInt = ((i : Nat) : Int) := by rw [egv221]; exact hdk220.2.2
                            have b223 : kb 0 gv221 400 := kb_tok (rS_fE hE hp0 (by decide)) hp2 hg222
                            refine lv_goto (tgt := 167) hx hb dX12_readPart_160 (by decide) ?_
                            exact kV_ret hx hb hr hlocks hK hS dX12_readPart_167 u218 hP hD ⟨hI, hE, ⟨i, 0, (by rw [egv221.symm]; exact hg222), (Nat.le_refl i), hp2, Or.inr (Or.inl ⟨h21, ⟨((hdk220.2.1.trans ez194.symm)).trans haz194, (fun q => hnz194 (((hdk220.2.1.trans ez194.symm)).symm.trans q))⟩, (pi_2m (fun q => c167 ((tk_iff tq163 (by decide +kernel)).mpr (q.trans (by decide +kernel)))) (lf_o tq163 (kb_w b215 (by decide) (by decide))) hmk193)⟩)⟩⟩
                    · have b224 : kb 16 t161 16 := kb_eq c199 kc_16
                      refine lv_aload_n hx hb dX12_readPart_128 rfl (lv_at hl 1 rfl) ?_
                      refine lv_iconst (v := 0) hx hb dX12_readPart_129 (by decide) ?_
                      refine lv_bipush (v := 9) hx hb dX12_readPart_130 (by decide) ?_
                      refine kV.callV (As := [.int 0, .int 9]) (rest := []) ⟨hx, hb, hml, hown, hg⟩ (q_mustNumber l o r u191 a g hI 0 9 (kb_w kc_0 (by decide) (by decide)) (kb_w kc_9 (by decide) (by decide)) N (i) true T (rS_fE hE hp0 (by decide)) (by rw [egv195.symm]; exact hg196) hp2 hp3) (cwV 2 hg (kgV wt6_235 wt6_237 wp4_14 wt1_14 wt6_238) rfl rfl rfl (by decide +kernel) ⟨by dsimp only [rmD]; omega, by dsimp only [rmD]; omega⟩) hK hP hD hS hA mIs [] rfl (wr := []) rfl rfl rfl (fun i h => by cases h) 0 12 rfl rfl rfl hl.1 rfl (Nat.le_of_ble_eq_true rfl) dX12_readPart_132 ⟨Nat.le_refl _, Nat.le_refl _⟩ (fun u227 H locs hw225 hP hD hS => ?_)
                      have hP : va_P D vwCl (mW K o r u227 a g) H := hP
                      have hD : va_D A (mW K o r u227 a g) := hD
                      have hI : mI u227 a := hw225.1
                      have eE228 : fE [19, 21] u191 u227 := hw225.2.1
                      have hE : fE [19, 20, 21] f u227 := fE_tr hE (fE_w (by decide) eE228)
                      have hdk229 := (hw225.2.2).elim (fun q => absurd q.1 (fun q => hnz194 ((ez194.symm).symm.trans q))) (fun q => q.elim (fun q => absurd q.1 (fun q => hnz194 ((ez194.symm).symm.trans q))) (fun q => q))
                      obtain ⟨gv230, egv230⟩ : ∃ z : Int32, z = u227 19 := ⟨_, rfl⟩
                      have hg231 : gv230.toInt = ((i : Nat) : Int) := by rw [egv230]; exact hdk229.2.2
                      have b232 : kb 0 gv230 400 := kb_tok (rS_fE hE hp0 (by decide)) hp2 hg231
                      refine lv_aload_n hx hb dX12_readPart_135 rfl (lv_at hl 1 rfl) ?_
                      refine va_get (D := D) (ci := 12) (v := .int (u227 10)) (C := RX12) (T := TX12) (N := 48) hx hb hg inC12 hown hK hP 0 rfl rfl 10 (by decide) (hg _ wt5_170) (fun _ h9 => h9) rfl dX12_readPart_136 ?_
                      refine k_top (z := 1) ((eE228 10 (by decide)).trans ((eE192 10 (by decide)).trans hp0.2.2.2.1)) ?_
                      refine lv_if_eq (tgt := 167) hx hb dX12_readPart_139 (by decide) (fun c233 => ?_) (fun c233 => ?_)
                      · exact kb_dj c233 kc_1 kc_0 (by decide)
                      · refine lv_iload_n hx hb dX12_readPart_142 rfl (lv_at hl 0 rfl) ?_
                        refine lv_bipush (v := 17) hx hb dX12_readPart_143 (by decide) ?_
                        refine lv_icmp_eq (tgt := 154) hx hb dX12_readPart_145 (by decide) (fun c234 => ?_) (fun c234 => ?_)
                        · exact kb_dj c234 b224 kc_17 (by decide)
                        · refine lv_iload_n hx hb dX12_readPart_148 rfl (lv_at hl 0 rfl) ?_
                          refine lv_bipush (v := 22) hx hb dX12_readPart_149 (by decide) ?_
                          refine lv_icmp_ne (tgt := 167) hx hb dX12_readPart_151 (by decide) (fun c235 => ?_) (fun c235 => ?_)
                          · exact kV_ret hx hb hr hlocks hK hS dX12_readPart_167 u227 hP hD ⟨hI, hE, ⟨i, 0, (by rw [egv230.symm]; exact hg231), (Nat.le_refl i), hp2, Or.inr (Or.inl ⟨h21, ⟨((hdk229.2.1.trans ez194.symm)).trans haz194, (fun q => hnz194 (((hdk229.2.1.trans ez194.symm)).symm.trans q))⟩, (pi_2m (fun q => c167 ((tk_iff tq163 (by decide +kernel)).mpr (q.trans (by decide +kernel)))) (lf_o tq163 (kb_w b224 (by decide) (by decide))) hmk193)⟩)⟩⟩
                          · exact kb_dj c235 b224 kc_22 (by decide)
                · obtain ⟨gv236, egv236⟩ : ∃ z : Int32, z = u191 19 := ⟨_, rfl⟩
                  have hg237 : gv236.toInt = ((i + 1 : Nat) : Int) := by rw [egv236]; exact hpk193
                  have b238 : kb 0 gv236 400 := kb_tok (rS_fE hE hp0 (by decide)) (rC_lt (kb_nz (kb_eq ht162.symm b188) (by decide))) hg237
                  obtain ⟨z239, ez239⟩ : ∃ z : Int32, z = u191 20 := ⟨_, rfl⟩
                  have hzz239 : z239.toInt = ((n + 1 : Nat) : Int) := by rw [ez239]; exact h3k193
                  have hyz239 : n + 1 ≤ 50 := by have w1 := hl50; omega
                  refine lv_aload_n hx hb dX12_readPart_115 rfl (lv_at hl 1 rfl) ?_
                  refine va_get (D := D) (ci := 12) (v := .int (u191 10)) (C := RX12) (T := TX12) (N := 48) hx hb hg inC12 hown hK hP 0 rfl rfl 10 (by decide) (hg _ wt5_170) (fun _ h9 => h9) rfl dX12_readPart_116 ?_
                  refine k_top (z := 1) ((eE192 10 (by decide)).trans hp0.2.2.2.1) ?_
                  refine lv_if_eq (tgt := 135) hx hb dX12_readPart_119 (by decide) (fun c240 => ?_) (fun c240 => ?_)
                  · exact kb_dj c240 kc_1 kc_0 (by decide)
                  · refine lv_iload_n hx hb dX12_readPart_122 rfl (lv_at hl 0 rfl) ?_
                    refine lv_bipush (v := 16) hx hb dX12_readPart_123 (by decide) ?_
                    refine lv_icmp_ne (tgt := 135) hx hb dX12_readPart_125 (by decide) (fun c241 => ?_) (fun c241 => ?_)
                    · have b242 : kb 17 t161 22 := kr_nel c241 b188 kc_16 (by decide)
                      refine lv_aload_n hx hb dX12_readPart_135 rfl (lv_at hl 1 rfl) ?_
                      refine va_get (D := D) (ci := 12) (v := .int (u191 10)) (C := RX12) (T := TX12) (N := 48) hx hb hg inC12 hown hK hP 0 rfl rfl 10 (by decide) (hg _ wt5_170) (fun _ h9 => h9) rfl dX12_readPart_136 ?_
                      refine k_top (z := 1) ((eE192 10 (by decide)).trans hp0.2.2.2.1) ?_
                      refine lv_if_eq (tgt := 167) hx hb dX12_readPart_139 (by decide) (fun c243 => ?_) (fun c243 => ?_)
                      · exact kb_dj c243 kc_1 kc_0 (by decide)
                      · refine lv_iload_n hx hb dX12_readPart_142 rfl (lv_at hl 0 rfl) ?_
                        refine lv_bipush (v := 17) hx hb dX12_readPart_143 (by decide) ?_
                        refine lv_icmp_eq (tgt := 154) hx hb dX12_readPart_145 (by decide) (fun c244 => ?_) (fun c244 => ?_)
                        · have b245 : kb 17 t161 17 := kb_eq c244 kc_17
                          refine lv_aload_n hx hb dX12_readPart_154 rfl (lv_at hl 1 rfl) ?_
                          refine lv_iconst (v := 0) hx hb dX12_readPart_155 (by decide) ?_
                          refine lv_iconst (v := 5) hx hb dX12_readPart_156 (by decide) ?_
                          refine kV.callV (As := [.int 0, .int 5]) (rest := []) ⟨hx, hb, hml, hown, hg⟩ (q_mustNumber l o r u191 a g hI 0 5 (kb_w kc_0 (by decide) (by decide)) (kb_w kc_5 (by decide) (by decide)) N (i + 1) true T (rS_fE hE hp0 (by decide)) (by rw [egv236.symm]; exact hg237) (rC_lt (kb_nz (kb_eq ht162.symm b188) (by decide))) hp3) (cwV 2 hg (kgV wt6_235 wt6_237 wp4_14 wt1_14 wt6_238) rfl rfl rfl (by decide +kernel) ⟨by dsimp only [rmD]; omega, by dsimp only [rmD]; omega⟩) hK hP hD hS hA mIs [] rfl (wr := []) rfl rfl rfl (fun i h => by cases h) 0 12 rfl rfl rfl hl.1 rfl (Nat.le_of_ble_eq_true rfl) dX12_readPart_157 ⟨Nat.le_refl _, Nat.le_refl _⟩ (fun u248 H locs hw246 hP hD hS => ?_)
                          have hP : va_P D vwCl (mW K o r u248 a g) H := hP
                          have hD : va_D A (mW K o r u248 a g) := hD
                          have hI : mI u248 a := hw246.1
                          have eE249 : fE [19, 21] u191 u248 := hw246.2.1
                          have hE : fE [19, 20, 21] f u248 := fE_tr hE (fE_w (by decide) eE249)
                          rcases hw246.2.2 with ⟨-, h2k250, hGk250, hpk250, hlk250⟩ | ⟨-, hbk250, hGk250, hpk250⟩ | hdk250
                          · obtain ⟨gv251, egv251⟩ : ∃ z : Int32, z = u248 19 := ⟨_, rfl⟩
                            have hg252 : gv251.toInt = ((i + 1 + 1 : Nat) : Int) := by rw [egv251]; exact hpk250
                            have b253 : kb 0 gv251 400 := kb_tok (rS_fE hE hp0 (by decide)) hlk250 hg252
                            have hm254 : pInr (T (i + 1)) 0 5 = true := by have w1 := hGk250; rw [show (0 : Int32).toInt = 0 from by decide +kernel, show (5 : Int32).toInt = 5 from by decide +kernel] at w1; exact w1
                            refine lv_goto (tgt := 167) hx hb dX12_readPart_160 (by decide) ?_
                            exact kV_ret hx hb hr hlocks hK hS dX12_readPart_167 u248 hP hD ⟨hI, hE, ⟨i + 1 + 1, n + 1, (by rw [egv251.symm]; exact hg252), (Nat.le_succ_of_le (Nat.le_succ_of_le (Nat.le_refl i))), hlk250, Or.inl ⟨h21, h2k250, ⟨(by rw [((eE249 20 (by decide)).trans ez239.symm)]; exact hzz239), hyz239⟩, (pi_2p (fun q => c167 ((tk_iff tq163 (by decide +kernel)).mpr (q.trans (by decide +kernel)))) (lf_o tq163 (kb_w b245 (by decide) (by decide))) hmk193 (by rw [((tk_iff tq163 (by decide +kernel)).mp c244).trans (by decide +kernel : mpT 17 = 2010)]; decide +kernel) (by rw [((tk_iff tq163 (by decide +kernel)).mp c244).trans (by decide +kernel : mpT 17 = 2010), if_neg (by decide +kernel)]; exact hm254))⟩⟩⟩
                          · obtain ⟨z255, ez255⟩ : ∃ z : Int32, z = u248 21 := ⟨_, rfl⟩
                            have haz255 : z255 = a 17 (i + 1) := by rw [ez255]; exact hbk250.1
                            have hnz255 : ¬ z255 = -1 := by rw [ez255]; exact hbk250.2
                            obtain ⟨gv256, egv256⟩ : ∃ z : Int32, z = u248 19 := ⟨_, rfl⟩
                            have hg257 : gv256.toInt = ((i + 1 : Nat) : Int) := by rw [egv256]; exact hpk250
                            have b258 : kb 0 gv256 400 := kb_tok (rS_fE hE hp0 (by decide)) (rC_lt (kb_nz (kb_eq ht162.symm b188) (by decide))) hg257
                            have hm259 : pInr (T (i + 1)) 0 5 = false := by have w1 := hGk250; rw [show (0 : Int32).toInt = 0 from by decide +kernel, show (5 : Int32).toInt = 5 from by decide +kernel] at w1; exact w1
                            refine lv_goto (tgt := 167) hx hb dX12_readPart_160 (by decide) ?_
                            exact kV_ret hx hb hr hlocks hK hS dX12_readPart_167 u248 hP hD ⟨hI, hE, ⟨i + 1, 0, (by rw [egv256.symm]; exact hg257), (Nat.le_succ_of_le (Nat.le_refl i)), (rC_lt (kb_nz (kb_eq ht162.symm b188) (by decide))), Or.inr (Or.inl ⟨h21, ⟨(ez255.symm).trans haz255, (fun q => hnz255 ((ez255.symm).symm.trans q))⟩, (pi_2q (fun q => c167 ((tk_iff tq163 (by decide +kernel)).mpr (q.trans (by decide +kernel)))) (lf_o tq163 (kb_w b245 (by decide) (by decide))) hmk193 (by rw [((tk_iff tq163 (by decide +kernel)).mp c244).trans (by decide +kernel : mpT 17 = 2010)]; decide +kernel) (by rw [((tk_iff tq163 (by decide +kernel)).mp c244).trans (by decide +kernel : mpT 17 = 2010), if_neg (by decide +kernel)]; exact hm259))⟩)⟩⟩
                          · exact absurd h2k193 hdk250.1
                        · have b260 : kb 18 t161 22 := kr_nel c244 b242 kc_17 (by decide)
                          refine lv_iload_n hx hb dX12_readPart_148 rfl (lv_at hl 0 rfl) ?_
                          refine lv_bipush (v := 22) hx hb dX12_readPart_149 (by decide) ?_
                          refine lv_icmp_ne (tgt := 167) hx hb dX12_readPart_151 (by decide) (fun c261 => ?_) (fun c261 => ?_)
                          · have b262 : kb 18 t161 21 := kr_neh c261 b260 kc_22 (by decide)
                            exact kV_ret hx hb hr hlocks hK hS dX12_readPart_167 u191 hP hD ⟨hI, hE, ⟨i + 1, n + 1, (by rw [egv236.symm]; exact hg237), (Nat.le_succ_of_le (Nat.le_refl i)), (rC_lt (kb_nz (kb_eq ht162.symm b188) (by decide))), Or.inl ⟨h21, h2k193, ⟨(by rw [ez239.symm]; exact hzz239), hyz239⟩, (pi_2l (fun q => c167 ((tk_iff tq163 (by decide +kernel)).mpr (q.trans (by decide +kernel)))) (lf_o tq163 (kb_w b262 (by decide) (by decide))) hmk193 (lf_on tq163 (kb_w b262 (by decide) (by decide)) c241 c244 c261))⟩⟩⟩
                          · have b263 : kb 22 t161 22 := kb_eq c261 kc_22
                            refine lv_aload_n hx hb dX12_readPart_154 rfl (lv_at hl 1 rfl) ?_
                            refine lv_iconst (v := 0) hx hb dX12_readPart_155 (by decide) ?_
                            refine lv_iconst (v := 5) hx hb dX12_readPart_156 (by decide) ?_
                            refine kV.callV (As := [.int 0, .int 5]) (rest := []) ⟨hx, hb, hml, hown, hg⟩ (q_mustNumber l o r u191 a g hI 0 5 (kb_w kc_0 (by decide) (by decide)) (kb_w kc_5 (by decide) (by decide)) N (i + 1) true T (rS_fE hE hp0 (by decide)) (by rw [egv236.symm]; exact hg237) (rC_lt (kb_nz (kb_eq ht162.symm b188) (by decide))) hp3) (cwV 2 hg (kgV wt6_235 wt6_237 wp4_14 wt1_14 wt6_238) rfl rfl rfl (by decide +kernel) ⟨by dsimp only [rmD]; omega, by dsimp only [rmD]; omega⟩) hK hP hD hS hA mIs [] rfl (wr := []) rfl rfl rfl (fun i h => by cases h) 0 12 rfl rfl rfl hl.1 rfl (Nat.le_of_ble_eq_true rfl) dX12_readPart_157 ⟨Nat.le_refl _, Nat.le_refl _⟩ (fun u266 H locs hw264 hP hD hS => ?_)
                            have hP : va_P D vwCl (mW K o r u266 a g) H := hP
                            have hD : va_D A (mW K o r u266 a g) := hD
                            have hI : mI u266 a := hw264.1
                            have eE267 : fE [19, 21] u191 u266 := hw264.2.1
                            have hE : fE [19, 20, 21] f u266 := fE_tr hE (fE_w (by decide) eE267)
                            rcases hw264.2.2 with ⟨-, h2k268, hGk268, hpk268, hlk268⟩ | ⟨-, hbk268, hGk268, hpk268⟩ | hdk268
                            · obtain ⟨gv269, egv269⟩ : ∃ z : Int32, z = u266 19 := ⟨_, rfl⟩
                              have hg270 : gv269.toInt = ((i + 1 + 1 : Nat) : Int) := by rw [egv269]; exact hpk268
                              have b271 : kb 0 gv269 400 := kb_tok (rS_fE hE hp0 (by decide)) hlk268 hg270
                              have hm272 : pInr (T (i + 1)) 0 5 = true := by have w1 := hGk268; rw [show (0 : Int32).toInt = 0 from by decide +kernel, show (5 : Int32).toInt = 5 from by decide +kernel] at w1; exact w1
                              refine lv_goto (tgt := 167) hx hb dX12_readPart_160 (by decide) ?_
                              exact kV_ret hx hb hr hlocks hK hS dX12_readPart_167 u266 hP hD ⟨hI, hE, ⟨i + 1 + 1, n + 1, (by rw [egv269.symm]; exact hg270), (Nat.le_succ_of_le (Nat.le_succ_of_le (Nat.le_refl i))), hlk268, Or.inl ⟨h21, h2k268, ⟨(by rw [((eE267 20 (by decide)).trans ez239.symm)]; exact hzz239), hyz239⟩, (pi_2p (fun q => c167 ((tk_iff tq163 (by decide +kernel)).mpr (q.trans (by decide +kernel)))) (lf_o tq163 (kb_w b263 (by decide) (by decide))) hmk193 (by rw [((tk_iff tq163 (by decide +kernel)).mp c261).trans (by decide +kernel : mpT 22 = 2027)]; decide +kernel) (by rw [((tk_iff tq163 (by decide +kernel)).mp c261).trans (by decide +kernel : mpT 22 = 2027), if_neg (by decide +kernel)]; exact hm272))⟩⟩⟩
                            · obtain ⟨z273, ez273⟩ : ∃ z : Int32, z = u266 21 := ⟨_, rfl⟩
                              have haz273 : z273 = a 17 (i + 1) := by rw [ez273]; exact hbk268.1
                              have hnz273 : ¬ z273 = -1 := by rw [ez273]; exact hbk268.2
                              obtain ⟨gv274, egv274⟩ : ∃ z : Int32, z = u266 19 := ⟨_, rfl⟩
                              have hg275 : gv274.toInt = ((i + 1 : Nat) : Int) := by rw [egv274]; exact hpk268
                              have b276 : kb 0 gv274 400 := kb_tok (rS_fE hE hp0 (by decide)) (rC_lt (kb_nz (kb_eq ht162.symm b188) (by decide))) hg275
                              have hm277 : pInr (T (i + 1)) 0 5 = false := by have w1 := hGk268; rw [show (0 : Int32).toInt = 0 from by decide +kernel, show (5 : Int32).toInt = 5 from by decide +kernel] at w1; exact w1
                              refine lv_goto (tgt := 167) hx hb dX12_readPart_160 (by decide) ?_
                              exact kV_ret hx hb hr hlocks hK hS dX12_readPart_167 u266 hP hD ⟨hI, hE, ⟨i + 1, 0, (by rw [egv274.symm]; exact hg275), (Nat.le_succ_of_le (Nat.le_refl i)), (rC_lt (kb_nz (kb_eq ht162.symm b188) (by decide))), Or.inr (Or.inl ⟨h21, ⟨(ez273.symm).trans haz273, (fun q => hnz273 ((ez273.symm).symm.trans q))⟩, (pi_2q (fun q => c167 ((tk_iff tq163 (by decide +kernel)).mpr (q.trans (by decide +kernel)))) (lf_o tq163 (kb_w b263 (by decide) (by decide))) hmk193 (by rw [((tk_iff tq163 (by decide +kernel)).mp c261).trans (by decide +kernel : mpT 22 = 2027)]; decide +kernel) (by rw [((tk_iff tq163 (by decide +kernel)).mp c261).trans (by decide +kernel : mpT 22 = 2027), if_neg (by decide +kernel)]; exact hm277))⟩)⟩⟩
                            · exact absurd h2k193 hdk268.1
                    · have b278 : kb 16 t161 16 := kb_eq c241 kc_16
                      refine lv_aload_n hx hb dX12_readPart_128 rfl (lv_at hl 1 rfl) ?_
                      refine lv_iconst (v := 0) hx hb dX12_readPart_129 (by decide) ?_
                      refine lv_bipush (v := 9) hx hb dX12_readPart_130 (by decide) ?_
                      refine kV.callV (As := [.int 0, .int 9]) (rest := []) ⟨hx, hb, hml, hown, hg⟩ (q_mustNumber l o r u191 a g hI 0 9 (kb_w kc_0 (by decide) (by decide)) (kb_w kc_9 (by decide) (by decide)) N (i + 1) true T (rS_fE hE hp0 (by decide)) (by rw [egv236.symm]; exact hg237) (rC_lt (kb_nz (kb_eq ht162.symm b188) (by decide))) hp3) (cwV 2 hg (kgV wt6_235 wt6_237 wp4_14 wt1_14 wt6_238) rfl rfl rfl (by decide +kernel) ⟨by dsimp only [rmD]; omega, by dsimp only [rmD]; omega⟩) hK hP hD hS hA mIs [] rfl (wr := []) rfl rfl rfl (fun i h => by cases h) 0 12 rfl rfl rfl hl.1 rfl (Nat.le_of_ble_eq_true rfl) dX12_readPart_132 ⟨Nat.le_refl _, Nat.le_refl _⟩ (fun u281 H locs hw279 hP hD hS => ?_)
                      have hP : va_P D vwCl (mW K o r u281 a g) H := hP
                      have hD : va_D A (mW K o r u281 a g) := hD
                      have hI : mI u281 a := hw279.1
                      have eE282 : fE [19, 21] u191 u281 := hw279.2.1
                      have hE : fE [19, 20, 21] f u281 := fE_tr hE (fE_w (by decide) eE282)
                      rcases hw279.2.2 with ⟨-, h2k283, hGk283, hpk283, hlk283⟩ | ⟨-, hbk283, hGk283, hpk283⟩ | hdk283
                      · obtain ⟨gv284, egv284⟩ : ∃ z : Int32, z = u281 19 := ⟨_, rfl⟩
                        have hg285 : gv284.toInt = ((i + 1 + 1 : Nat) : Int) := by rw [egv284]; exact hpk283
                        have b286 : kb 0 gv284 400 := kb_tok (rS_fE hE hp0 (by decide)) hlk283 hg285
                        have hm287 : pInr (T (i + 1)) 0 9 = true := by have w1 := hGk283; rw [show (0 : Int32).toInt = 0 from by decide +kernel, show (9 : Int32).toInt = 9 from by decide +kernel] at w1; exact w1
                        refine lv_aload_n hx hb dX12_readPart_135 rfl (lv_at hl 1 rfl) ?_
                        refine va_get (D := D) (ci := 12) (v := .int (u281 10)) (C := RX12) (T := TX12) (N := 48) hx hb hg inC12 hown hK hP 0 rfl rfl 10 (by decide) (hg _ wt5_170) (fun _ h9 => h9) rfl dX12_readPart_136 ?_
                        refine k_top (z := 1) ((eE282 10 (by decide)).trans ((eE192 10 (by decide)).trans hp0.2.2.2.1)) ?_
                        refine lv_if_eq (tgt := 167) hx hb dX12_readPart_139 (by decide) (fun c288 => ?_) (fun c288 => ?_)
                        · exact kb_dj c288 kc_1 kc_0 (by decide)
                        · refine lv_iload_n hx hb dX12_readPart_142 rfl (lv_at hl 0 rfl) ?_
                          refine lv_bipush (v := 17) hx hb dX12_readPart_143 (by decide) ?_
                          refine lv_icmp_eq (tgt := 154) hx hb dX12_readPart_145 (by decide) (fun c289 => ?_) (fun c289 => ?_)
                          · exact kb_dj c289 b278 kc_17 (by decide)
                          · refine lv_iload_n hx hb dX12_readPart_148 rfl (lv_at hl 0 rfl) ?_
                            refine lv_bipush (v := 22) hx hb dX12_readPart_149 (by decide) ?_
                            refine lv_icmp_ne (tgt := 167) hx hb dX12_readPart_151 (by decide) (fun c290 => ?_) (fun c290 => ?_)
                            · exact kV_ret hx hb hr hlocks hK hS dX12_readPart_167 u281 hP hD ⟨hI, hE, ⟨i + 1 + 1, n + 1, (by rw [egv284.symm]; exact hg285), (Nat.le_succ_of_le (Nat.le_succ_of_le (Nat.le_refl i))), hlk283, Or.inl ⟨h21, h2k283, ⟨(by rw [((eE282 20 (by decide)).trans ez239.symm)]; exact hzz239), hyz239⟩, (pi_2p (fun q => c167 ((tk_iff tq163 (by decide +kernel)).mpr (q.trans (by decide +kernel)))) (lf_o tq163 (kb_w b278 (by decide) (by decide))) hmk193 (by rw [((tk_iff tq163 (by decide +kernel)).mp c241).trans (by decide +kernel : mpT 16 = 2014)]; decide +kernel) (by rw [((tk_iff tq163 (by decide +kernel)).mp c241).trans (by decide +kernel : mpT 16 = 2014), if_pos rfl]; exact hm287))⟩⟩⟩
                            · exact kb_dj c290 b278 kc_22 (by decide)
                      · obtain ⟨z291, ez291⟩ : ∃ z : Int32, z = u281 21 := ⟨_, rfl⟩
                        have haz291 : z291 = a 17 (i + 1) := by rw [ez291]; exact hbk283.1
                        have hnz291 : ¬ z291 = -1 := by rw [ez291]; exact hbk283.2
                        obtain ⟨gv292, egv292⟩ : ∃ z : Int32, z = u281 19 := ⟨_, rfl⟩
                        have hg293 : gv292.toInt = ((i + 1 : Nat) : Int) := by rw [egv292]; exact hpk283
                        have b294 : kb 0 gv292 400 := kb_tok (rS_fE hE hp0 (by decide)) (rC_lt (kb_nz (kb_eq ht162.symm b188) (by decide))) hg293
                        have hm295 : pInr (T (i + 1)) 0 9 = false := by have w1 := hGk283; rw [show (0 : Int32).toInt = 0 from by decide +kernel, show (9 : Int32).toInt = 9 from by decide +kernel] at w1; exact w1
                        refine lv_aload_n hx hb dX12_readPart_135 rfl (lv_at hl 1 rfl) ?_
                        refine va_get (D := D) (ci := 12) (v := .int (u281 10)) (C := RX12) (T := TX12) (N := 48) hx hb hg inC12 hown hK hP 0 rfl rfl 10 (by decide) (hg _ wt5_170) (fun _ h9 => h9) rfl dX12_readPart_136 ?_
                        refine k_top (z := 1) ((eE282 10 (by decide)).trans ((eE192 10 (by decide)).trans hp0.2.2.2.1)) ?_
                        refine lv_if_eq (tgt := 167) hx hb dX12_readPart_139 (by decide) (fun c296 => ?_) (fun c296 => ?_)
                        · exact kb_dj c296 kc_1 kc_0 (by decide)
                        · refine lv_iload_n hx hb dX12_readPart_142 rfl (lv_at hl 0 rfl) ?_
                          refine lv_bipush (v := 17) hx hb dX12_readPart_143 (by decide) ?_
                          refine lv_icmp_eq (tgt := 154) hx hb dX12_readPart_145 (by decide) (fun c297 => ?_) (fun c297 => ?_)
                          · exact kb_dj c297 b278 kc_17 (by decide)
                          · refine lv_iload_n hx hb dX12_readPart_148 rfl (lv_at hl 0 rfl) ?_
                            refine lv_bipush (v := 22) hx hb dX12_readPart_149 (by decide) ?_
                            refine lv_icmp_ne (tgt := 167) hx hb dX12_readPart_151 (by decide) (fun c298 => ?_) (fun c298 => ?_)
                            · exact kV_ret hx hb hr hlocks hK hS dX12_readPart_167 u281 hP hD ⟨hI, hE, ⟨i + 1, 0, (by rw [egv292.symm]; exact hg293), (Nat.le_succ_of_le (Nat.le_refl i)), (rC_lt (kb_nz (kb_eq ht162.symm b188) (by decide))), Or.inr (Or.inl ⟨h21, ⟨(ez291.symm).trans haz291, (fun q => hnz291 ((ez291.symm).symm.trans q))⟩, (pi_2q (fun q => c167 ((tk_iff tq163 (by decide +kernel)).mpr (q.trans (by decide +kernel)))) (lf_o tq163 (kb_w b278 (by decide) (by decide))) hmk193 (by rw [((tk_iff tq163 (by decide +kernel)).mp c241).trans (by decide +kernel : mpT 16 = 2014)]; decide +kernel) (by rw [((tk_iff tq163 (by decide +kernel)).mp c241).trans (by decide +kernel : mpT 16 = 2014), if_pos rfl]; exact hm295))⟩)⟩⟩
                            · exact kb_dj c298 b278 kc_22 (by decide)
                      · exact absurd h2k193 hdk283.1
          · have b299 : kb 50 t161 50 := kb_eq c168 kc_50
            refine lv_aload_n hx hb dX12_readPart_80 rfl (lv_at hl 1 rfl) ?_
            refine va_get (D := D) (ci := 12) (v := .ref (r 16)) (C := RX12) (T := TX12) (N := 48) hx hb hg inC12 hown hK hP 0 rfl rfl 16 (by decide) (hg _ wt5_176) (fun _ h9 => h9) rfl dX12_readPart_81 ?_
            refine lv_aload_n hx hb dX12_readPart_84 rfl (lv_at hl 1 rfl) ?_
            refine va_get (D := D) (ci := 12) (v := .int (f 19)) (C := RX12) (T := TX12) (N := 48) hx hb hg inC12 hown hK hP 0 rfl rfl 19 (by decide) (hg _ wt5_179) (fun _ h9 => h9) rfl dX12_readPart_85 ?_
            refine k_top (z := c19) ec19.symm ?_
            refine va_iald hx hb hK hP 10 0 rfl rfl (kb_in b1 (by decide) (by decide)) dX12_readPart_88 ?_
            refine lv_topi (fun t300 et300 => ?_)
            refine lv_sipush (v := 1000) hx hb dX12_readPart_89 (by decide) ?_
            refine lv_icmp_le (tgt := 111) hx hb dX12_readPart_92 (by decide) (fun c301 => ?_) (fun c301 => ?_)
            · have h302 := (kc_le c301)
              have b303 : kb (-2147483648) t300 1000 := kr_le1 h302 (kb_any t300) kc_1000
              refine lv_aload_n hx hb dX12_readPart_111 rfl (lv_at hl 1 rfl) ?_
              refine kV.callV (As := []) (rest := []) ⟨hx, hb, hml, hown, hg⟩ (q_leaf l o r f a g hI   N (i) (n) true T (rS_fE hE hp0 (by decide)) (by rw [ec19.symm]; exact hg0) hp2 hp3 h21 (rC_lt (kb_nz (kb_eq ht162.symm b299) (by decide))) (by rw [ec20.symm]; exact hn20) hl50) (cwV 0 hg (kgV wt6_231 wt6_233 wp4_13 wt1_14 wt6_234) rfl rfl rfl (by decide +kernel) ⟨by dsimp only [rmD]; omega, by dsimp only [rmD]; omega⟩) hK hP hD hS hA mIs [] rfl (wr := []) rfl rfl rfl (fun i h => by cases h) 0 12 rfl rfl rfl hl.1 rfl (Nat.le_of_ble_eq_true rfl) dX12_readPart_112 ⟨Nat.le_refl _, Nat.le_refl _⟩ (fun u306 H locs hw304 hP hD hS => ?_)
              have hP : va_P D vwCl (mW K o r u306 a g) H := hP
              have hD : va_D A (mW K o r u306 a g) := hD
              have hI : mI u306 a := hw304.1
              have eE307 : fE [19, 20, 21] f u306 := hw304.2.1
              have hE : fE [19, 20, 21] f u306 := fE_tr hE eE307
              rcases hw304.2.2 with ⟨hmk308, hbk308, hpk308⟩ | ⟨hmk308, h2k308, hpk308, h3k308⟩
              · obtain ⟨z309, ez309⟩ : ∃ z : Int32, z = u306 21 := ⟨_, rfl⟩
                have haz309 : z309 = a 17 (i) := by rw [ez309]; exact hbk308.1
                have hnz309 : ¬ z309 = -1 := by rw [ez309]; exact hbk308.2
                obtain ⟨gv310, egv310⟩ : ∃ z : Int32, z = u306 19 := ⟨_, rfl⟩
                have hg311 : gv310.toInt = ((i : Nat) : Int) := by rw [egv310]; exact hpk308
                have b312 : kb 0 gv310 400 := kb_tok (rS_fE hE hp0 (by decide)) hp2 hg311
                refine lv_aload_n hx hb dX12_readPart_115 rfl (lv_at hl 1 rfl) ?_
                refine va_get (D := D) (ci := 12) (v := .int (u306 10)) (C := RX12) (T := TX12) (N := 48) hx hb hg inC12 hown hK hP 0 rfl rfl 10 (by decide) (hg _ wt5_170) (fun _ h9 => h9) rfl dX12_readPart_116 ?_
                refine k_top (z := 1) ((eE307 10 (by decide)).trans hp0.2.2.2.1) ?_
                refine lv_if_eq (tgt := 135) hx hb dX12_readPart_119 (by decide) (fun c313 => ?_) (fun c313 => ?_)
                · exact kb_dj c313 kc_1 kc_0 (by decide)
                · refine lv_iload_n hx hb dX12_readPart_122 rfl (lv_at hl 0 rfl) ?_
                  refine lv_bipush (v := 16) hx hb dX12_readPart_123 (by decide) ?_
                  refine lv_icmp_ne (tgt := 135) hx hb dX12_readPart_125 (by decide) (fun c314 => ?_) (fun c314 => ?_)
                  · refine lv_aload_n hx hb dX12_readPart_135 rfl (lv_at hl 1 rfl) ?_
                    refine va_get (D := D) (ci := 12) (v := .int (u306 10)) (C := RX12) (T := TX12) (N := 48) hx hb hg inC12 hown hK hP 0 rfl rfl 10 (by decide) (hg _ wt5_170) (fun _ h9 => h9) rfl dX12_readPart_136 ?_
                    refine k_top (z := 1) ((eE307 10 (by decide)).trans hp0.2.2.2.1) ?_
                    refine lv_if_eq (tgt := 167) hx hb dX12_readPart_139 (by decide) (fun c315 => ?_) (fun c315 => ?_)
                    · exact kb_dj c315 kc_1 kc_0 (by decide)
                    · refine lv_iload_n hx hb dX12_readPart_142 rfl (lv_at hl 0 rfl) ?_
                      refine lv_bipush (v := 17) hx hb dX12_readPart_143 (by decide) ?_
                      refine lv_icmp_eq (tgt := 154) hx hb dX12_readPart_145 (by decide) (fun c316 => ?_) (fun c316 => ?_)
                      · exact kb_dj c316 b299 kc_17 (by decide)
                      · refine lv_iload_n hx hb dX12_readPart_148 rfl (lv_at hl 0 rfl) ?_
                        refine lv_bipush (v := 22) hx hb dX12_readPart_149 (by decide) ?_
                        refine lv_icmp_ne (tgt := 167) hx hb dX12_readPart_151 (by decide) (fun c317 => ?_) (fun c317 => ?_)
                        · exact kV_ret hx hb hr hlocks hK hS dX12_readPart_167 u306 hP hD ⟨hI, hE, ⟨i, 0, (by rw [egv310.symm]; exact hg311), (Nat.le_refl i), hp2, Or.inr (Or.inl ⟨h21, ⟨(ez309.symm).trans haz309, (fun q => hnz309 ((ez309.symm).symm.trans q))⟩, (pi_2m (fun q => c167 ((tk_iff tq163 (by decide +kernel)).mpr (q.trans (by decide +kernel)))) (lf_n (o := true) (tOk_eq2 rfl et300 tq163) c168 (b303).2).1 hmk308)⟩)⟩⟩
                        · exact kb_dj c317 b299 kc_22 (by decide)
                  · exact kb_dj c314 b299 kc_16 (by decide)
              · obtain ⟨gv318, egv318⟩ : ∃ z : Int32, z = u306 19 := ⟨_, rfl⟩
                have hg319 : gv318.toInt = ((i + 1 : Nat) : Int) := by rw [egv318]; exact hpk308
                have b320 : kb 0 gv318 400 := kb_tok (rS_fE hE hp0 (by decide)) (rC_lt (kb_nz (kb_eq ht162.symm b299) (by decide))) hg319
                obtain ⟨z321, ez321⟩ : ∃ z : Int32, z = u306 20 := ⟨_, rfl⟩
                have hzz321 : z321.toInt = ((n + 1 : Nat) : Int) := by rw [ez321]; exact h3k308
                have hyz321 : n + 1 ≤ 50 := by have w1 := hl50; omega
                refine lv_aload_n hx hb dX12_readPart_115 rfl (lv_at hl 1 rfl) ?_
                refine va_get (D := D) (ci := 12) (v := .int (u306 10)) (C := RX12) (T := TX12) (N := 48) hx hb hg inC12 hown hK hP 0 rfl rfl 10 (by decide) (hg _ wt5_170) (fun _ h9 => h9) rfl dX12_readPart_116 ?_
                refine k_top (z := 1) ((eE307 10 (by decide)).trans hp0.2.2.2.1) ?_
                refine lv_if_eq (tgt := 135) hx hb dX12_readPart_119 (by decide) (fun c322 => ?_) (fun c322 => ?_)
                · exact kb_dj c322 kc_1 kc_0 (by decide)
                · refine lv_iload_n hx hb dX12_readPart_122 rfl (lv_at hl 0 rfl) ?_
                  refine lv_bipush (v := 16) hx hb dX12_readPart_123 (by decide) ?_
                  refine lv_icmp_ne (tgt := 135) hx hb dX12_readPart_125 (by decide) (fun c323 => ?_) (fun c323 => ?_)
                  · refine lv_aload_n hx hb dX12_readPart_135 rfl (lv_at hl 1 rfl) ?_
                    refine va_get (D := D) (ci := 12) (v := .int (u306 10)) (C := RX12) (T := TX12) (N := 48) hx hb hg inC12 hown hK hP 0 rfl rfl 10 (by decide) (hg _ wt5_170) (fun _ h9 => h9) rfl dX12_readPart_136 ?_
                    refine k_top (z := 1) ((eE307 10 (by decide)).trans hp0.2.2.2.1) ?_
                    refine lv_if_eq (tgt := 167) hx hb dX12_readPart_139 (by decide) (fun c324 => ?_) (fun c324 => ?_)
                    · exact kb_dj c324 kc_1 kc_0 (by decide)
                    · refine lv_iload_n hx hb dX12_readPart_142 rfl (lv_at hl 0 rfl) ?_
                      refine lv_bipush (v := 17) hx hb dX12_readPart_143 (by decide) ?_
                      refine lv_icmp_eq (tgt := 154) hx hb dX12_readPart_145 (by decide) (fun c325 => ?_) (fun c325 => ?_)
                      · exact kb_dj c325 b299 kc_17 (by decide)
                      · refine lv_iload_n hx hb dX12_readPart_148 rfl (lv_at hl 0 rfl) ?_
                        refine lv_bipush (v := 22) hx hb dX12_readPart_149 (by decide) ?_
                        refine lv_icmp_ne (tgt := 167) hx hb dX12_readPart_151 (by decide) (fun c326 => ?_) (fun c326 => ?_)
                        · exact kV_ret hx hb hr hlocks hK hS dX12_readPart_167 u306 hP hD ⟨hI, hE, ⟨i + 1, n + 1, (by rw [egv318.symm]; exact hg319), (Nat.le_succ_of_le (Nat.le_refl i)), (rC_lt (kb_nz (kb_eq ht162.symm b299) (by decide))), Or.inl ⟨h21, h2k308, ⟨(by rw [ez321.symm]; exact hzz321), hyz321⟩, (pi_2l (fun q => c167 ((tk_iff tq163 (by decide +kernel)).mpr (q.trans (by decide +kernel)))) (lf_n (o := true) (tOk_eq2 rfl et300 tq163) c168 (b303).2).1 hmk308 (lf_n (o := true) (tOk_eq2 rfl et300 tq163) c168 (b303).2).2)⟩⟩⟩
                        · exact kb_dj c326 b299 kc_22 (by decide)
                  · exact kb_dj c323 b299 kc_16 (by decide)
            · have h327 := (kc_nle c301)
              have b328 : kb 1001 t300 2147483647 := kr_lt2 h327 kc_1000 (kb_any t300) (by decide)
              refine lv_iload_n hx hb dX12_readPart_95 rfl (lv_at hl 0 rfl) ?_
              refine lv_aload_n hx hb dX12_readPart_96 rfl (lv_at hl 1 rfl) ?_
              refine va_get (D := D) (ci := 12) (v := .int (f 8)) (C := RX12) (T := TX12) (N := 48) hx hb hg inC12 hown hK hP 0 rfl rfl 8 (by decide) (hg _ wt5_168) (fun _ h9 => h9) rfl dX12_readPart_97 ?_
              refine k_top (z := 16) hp0.2.2.2.2.1 ?_
              refine lv_icmp_lt (tgt := 163) hx hb dX12_readPart_100 (by decide) (fun c329 => ?_) (fun c329 => ?_)
              · have h330 := (kc_lt c329)
                exact kb_no (kr_lt1 h330 b299 kc_16 (H := 15) (by decide)) (by decide)
              · have h331 := (kc_nlt c329)
                refine lv_iload_n hx hb dX12_readPart_103 rfl (lv_at hl 0 rfl) ?_
                refine lv_aload_n hx hb dX12_readPart_104 rfl (lv_at hl 1 rfl) ?_
                refine va_get (D := D) (ci := 12) (v := .int (f 9)) (C := RX12) (T := TX12) (N := 48) hx hb hg inC12 hown hK hP 0 rfl rfl 9 (by decide) (hg _ wt5_169) (fun _ h9 => h9) rfl dX12_readPart_105 ?_
                refine k_top (z := 22) hp0.2.2.2.2.2 ?_
                refine lv_icmp_gt (tgt := 163) hx hb dX12_readPart_108 (by decide) (fun c332 => ?_) (fun c332 => ?_)
                · have h333 := (kc_lt c332)
                  refine lv_aload_n hx hb dX12_readPart_163 rfl (lv_at hl 1 rfl) ?_
                  refine kV.callV (As := []) (rest := []) ⟨hx, hb, hml, hown, hg⟩ (q_faults l o r f a g hI   N (i) true T (rS_fE hE hp0 (by decide)) (by rw [ec19.symm]; exact hg0) hp2 hp3) (cwV 0 hg (kgV wt6_223 wt6_225 wp4_11 wt1_14 wt6_226) rfl rfl rfl (by decide +kernel) ⟨by dsimp only [rmD]; omega, by dsimp only [rmD]; omega⟩) hK hP hD hS hA mIs [] rfl (wr := []) rfl rfl rfl (fun i h => by cases h) 0 12 rfl rfl rfl hl.1 rfl (Nat.le_of_ble_eq_true rfl) dX12_readPart_164 ⟨Nat.le_refl _, Nat.le_refl _⟩ (fun u336 H locs hw334 hP hD hS => ?_)
                  have hP : va_P D vwCl (mW K o r u336 a g) H := hP
                  have hD : va_D A (mW K o r u336 a g) := hD
                  have hI : mI u336 a := hw334.1
                  have eE337 : fE [21] f u336 := hw334.2.1
                  have hE : fE [19, 20, 21] f u336 := fE_tr hE (fE_w (by decide) eE337)
                  obtain ⟨z338, ez338⟩ : ∃ z : Int32, z = u336 21 := ⟨_, rfl⟩
                  have haz338 : z338 = a 17 (i) := by rw [ez338]; exact (hw334.2.2.1 h21).1
                  have hnz338 : ¬ z338 = -1 := by rw [ez338]; exact (hw334.2.2.1 h21).2
                  exact kV_ret hx hb hr hlocks hK hS dX12_readPart_167 u336 hP hD ⟨hI, hE, ⟨i, 0, (by rw [((eE337 19 (by decide)).trans ec19.symm)]; exact hg0), (Nat.le_refl i), hp2, Or.inr (Or.inl ⟨h21, ⟨(ez338.symm).trans haz338, (fun q => hnz338 ((ez338.symm).symm.trans q))⟩, (pi_2x (fun q => c167 ((tk_iff tq163 (by decide +kernel)).mpr (q.trans (by decide +kernel)))) (lf_f (o := true) (tOk_eq2 rfl et300 tq163) (fun q => by have w1 := q.2; have w2 := (b328).1; omega) (fun q => by have w1 := congrArg Int32.toInt c168; have w2 := i50; have w3 : (t161).toInt ≤ 22 := q.2; omega)))⟩)⟩⟩
                · have h339 := (kc_nlt c332)
                  exact kb_no (kr_le1 h339 b299 kc_22) (by decide)
        · have b340 : kb 191 t161 191 := kb_eq c167 kc_191
          refine lv_iload_n hx hb dX12_readPart_27 rfl (lv_at hl 2 rfl) ?_
          refine lv_bipush (v := 8) hx hb dX12_readPart_28 (by decide) ?_
          refine lv_icmp_ne (tgt := 37) hx hb dX12_readPart_30 (by decide) (fun c341 => ?_) (fun c341 => ?_)
          · have b342 : kb 0 dp 7 := kr_neh c341 bdp kc_8 (by decide)
            refine lv_aload_n hx hb dX12_readPart_37 rfl (lv_at hl 1 rfl) ?_
            refine kI.callV (As := []) (rest := []) ⟨hx, hb, hml, hown, hg⟩ (m_fine l o r f a g hI   ) (cwV 0 hg (kgV wt6_204 wt6_206 wp4_7 wt1_14 wt6_207) rfl rfl rfl (by decide +kernel) ⟨by dsimp only [rmD]; omega, by dsimp only [rmD]; omega⟩) hK hP hD hS hA mIs [] rfl (wr := []) rfl rfl rfl (fun i h => by cases h) 0 12 rfl rfl rfl hl.1 rfl (Nat.le_of_ble_eq_true rfl) dX12_readPart_38 ⟨Nat.le_refl _, Nat.le_refl _⟩ (fun v344 u345 H locs hw343 hP hD hS => ?_)
            have hP : va_P D vwCl (mW K o r f a g) H := hP
            have hD : va_D A (mW K o r f a g) := hD
            refine k_top (z := 1) ((hw343.2).elim (fun q => q.1) (fun q => absurd h21 q.2)) ?_
            refine lv_if_ne (tgt := 45) hx hb dX12_readPart_41 (by decide) (fun c346 => ?_) (fun c346 => ?_)
            · have b347 : kb 0 c19 399 := kb_tok1 (rS_fE hE hp0 (by decide)) (rC_lt (ne_0 (ht162.symm.trans c167) (by decide +kernel))) hg0
              obtain ⟨ee, hd⟩ : ∃ ee, d = ee + 1 := ⟨d - 1, by have w1 := hp5; have w2 := (b342).2; omega⟩
              refine lv_aload_n hx hb dX12_readPart_45 rfl (lv_at hl 1 rfl) ?_
              refine lv_dup hx hb dX12_readPart_46 rfl ?_
              refine va_get (D := D) (ci := 12) (v := .int (f 19)) (C := RX12) (T := TX12) (N := 48) hx hb hg inC12 hown hK hP 0 rfl rfl 19 (by decide) (hg _ wt5_179) (fun _ h9 => h9) rfl dX12_readPart_47 ?_
              refine k_top (z := c19) ec19.symm ?_
              refine lv_iconst (v := 1) hx hb dX12_readPart_50 (by decide) ?_
              refine lv_iadd hx hb dX12_readPart_51 ?_
              refine lv_topi (fun t348 et348 => ?_)
              have b349 : kb 1 t348 400 := kb_eq et348 (kb_add b347 kc_1 (by decide) (by decide))
              have qt348 : t348.toInt = c19.toInt + 1 := by rw [et348]; exact kt_addc b347 kc_1 (by decide) (by decide)
              have hg350 : t348.toInt = ((i + 1 : Nat) : Int) := by rw [qt348, hg0]; omega
              refine va_put (D := D) (ci := 12) (v := .int t348) (ty := .int) (C := RX12) (T := TX12) (N := 48) hx hb hg inC12 tyX12 tyX12_ok nmX12 hown hK hP hD hS 0 rfl rfl 19 (by decide) (hg _ wt5_179) (fun _ h9 => h9) rfl (by decide +kernel) rfl rfl (Nat.le_of_ble_eq_true rfl) dX12_readPart_52 (fun H locs hP hD hS => ?_)
              have hP : va_P D vwCl (mW K o r (upd f 19 t348) a g) H := hP
              have hD : va_D A (mW K o r (upd f 19 t348) a g) := hD
              refine k_gen (P := fun z => va_P D vwCl (mW K o r z a g) H ∧ va_D A (mW K o r z a g) ∧ (mI z a) ∧ (fE [19, 20, 21] f z)) (upd f 19 t348) ⟨hP, hD, (mI_f hI (fI_st hI.1 19 b349 (by decide) (by decide))), (fE_f hE (by decide))⟩ (fun f_351 ef_351 hq => ?_)
              obtain ⟨hP, hD, hI, hE⟩ := hq
              refine lv_aload_n hx hb dX12_readPart_55 rfl (lv_at hl 1 rfl) ?_
              refine lv_iload_n hx hb dX12_readPart_56 rfl (lv_at hl 2 rfl) ?_
              refine lv_iconst (v := 1) hx hb dX12_readPart_57 (by decide) ?_
              refine lv_iadd hx hb dX12_readPart_58 ?_
              refine lv_topi (fun t352 et352 => ?_)
              have b353 : kb 1 t352 8 := kb_eq et352 (kb_add b342 kc_1 (by decide) (by decide))
              have qt352 : t352.toInt = dp.toInt + 1 := by rw [et352]; exact kt_addc b342 kc_1 (by decide) (by decide)
              refine kV.callV (As := [.int t352]) (rest := []) ⟨hx, hb, hml, hown, hg⟩ ((ih ee hd) l o r f_351 a g hI t352 (kb_w b353 (by decide) (by decide)) N (i + 1) (n) true T (rS_fE hE hp0 (by decide)) (by rw [(show f_351 19 = t348 from by rw [← ef_351]; rfl)]; exact hg350) (rC_lt (ne_0 (ht162.symm.trans c167) (by decide +kernel))) hp3 (fun _ => ⟨(by rw [((show f_351 20 = f 20 from by rw [← ef_351]; rfl).trans ec20.symm)]; exact hn20), hl50⟩) (by have w1 := hp5; have w2 := qt352; omega)) (cwV 1 hg (kgV wt6_208 wt6_210 wp4_8 wt1_14 wt6_211) rfl rfl rfl (by decide +kernel) ⟨by dsimp only [rmD]; omega, by dsimp only [rmD]; omega⟩) hK hP hD hS hA mIs [] rfl (wr := []) rfl rfl rfl (fun i h => by cases h) 0 12 rfl rfl rfl hl.1 rfl (Nat.le_of_ble_eq_true rfl) dX12_readPart_59 ⟨Nat.le_refl _, Nat.le_refl _⟩ (fun u356 H locs hw354 hP hD hS => ?_)
              have hP : va_P D vwCl (mW K o r u356 a g) H := hP
              have hD : va_D A (mW K o r u356 a g) := hD
              have hI : mI u356 a := hw354.1
              have eE357 : fE [19, 20, 21] f_351 u356 := hw354.2.1
              have hE : fE [19, 20, 21] f u356 := fE_tr hE eE357
              obtain ⟨ik358, nk358, hgk358, hlek358, hNk358, hck358⟩ := hw354.2.2
              rcases hck358 with ⟨-, h2k358, h3k358, hGk358⟩ | ⟨-, hbk358, hGk358⟩ | hdk358
              · obtain ⟨gv359, egv359⟩ : ∃ z : Int32, z = u356 19 := ⟨_, rfl⟩
                have hg360 : gv359.toInt = ((ik358 : Nat) : Int) := by rw [egv359]; exact hgk358
                have b361 : kb 0 gv359 400 := kb_tok (rS_fE hE hp0 (by decide)) hNk358 hg360
                obtain ⟨z362, ez362⟩ : ∃ z : Int32, z = u356 20 := ⟨_, rfl⟩
                have hzz362 : z362.toInt = (nk358 : Int) := by rw [ez362]; exact h3k358.1
                refine lv_aload_n hx hb dX12_readPart_62 rfl (lv_at hl 1 rfl) ?_
                refine lv_bipush (v := 93) hx hb dX12_readPart_63 (by decide) ?_
                refine kN.callS (As := [.int 93]) (rest := [.ref o]) ⟨hx, hb, hml, hown, hg⟩ (m_sign l 93 (kb_w kc_93 (by decide) (by decide))) (va_cwS 1 hg (kgS wt6_220 wt6_221 wt1_14 wt6_222) rfl rfl rfl (by decide +kernel) ⟨by dsimp only [rmD]; omega, by dsimp only [rmD]; omega⟩) hP hS rfl hl.1 rfl (Nat.le_of_ble_eq_true rfl) dX12_readPart_65 ⟨Nat.le_refl _, Nat.le_refl _⟩ (fun v364 H locs hw363 hP hS => ?_)
                refine k_top (z := 193) (Int32.toInt_inj.mp (hw363.2.trans (by decide +kernel))) ?_
                refine kV.callV (As := [.int 193]) (rest := []) ⟨hx, hb, hml, hown, hg⟩ (q_must l o r u356 a g hI 193 (kb_w kc_193 (by decide) (by decide)) N (ik358) true T (rS_fE hE hp0 (by decide)) (by rw [egv359.symm]; exact hg360) hNk358 hp3 (by decide +kernel)) (cwV 1 hg (kgV wt6_227 wt6_229 wp4_12 wt1_14 wt6_230) rfl rfl rfl (by decide +kernel) ⟨by dsimp only [rmD]; omega, by dsimp only [rmD]; omega⟩) hK hP hD hS hA mIs [] rfl (wr := []) rfl rfl rfl (fun i h => by cases h) 0 12 rfl rfl rfl hl.1 rfl (Nat.le_of_ble_eq_true rfl) dX12_readPart_68 ⟨Nat.le_refl _, Nat.le_refl _⟩ (fun u368 H locs hw366 hP hD hS => ?_)
                have hP : va_P D vwCl (mW K o r u368 a g) H := hP
                have hD : va_D A (mW K o r u368 a g) := hD
                have hI : mI u368 a := hw366.1
                have eE369 : fE [19, 21] u356 u368 := hw366.2.1
                have hE : fE [19, 20, 21] f u368 := fE_tr hE (fE_w (by decide) eE369)
                rcases hw366.2.2 with ⟨-, h2k370, hGk370, hpk370, hlk370⟩ | ⟨-, hbk370, hGk370, hpk370⟩ | hdk370
                · obtain ⟨gv371, egv371⟩ : ∃ z : Int32, z = u368 19 := ⟨_, rfl⟩
                  have hg372 : gv371.toInt = ((ik358 + 1 : Nat) : Int) := by rw [egv371]; exact hpk370
                  have b373 : kb 0 gv371 400 := kb_tok (rS_fE hE hp0 (by decide)) hlk370 hg372
                  have hm374 : T (ik358) = 3093 := hGk370.trans (by decide +kernel)
                  refine lv_goto (tgt := 167) hx hb dX12_readPart_71 (by decide) ?_
                  exact kV_ret hx hb hr hlocks hK hS dX12_readPart_167 u368 hP hD ⟨hI, hE, ⟨ik358 + 1, nk358, (by rw [egv371.symm]; exact hg372), (Nat.le_succ_of_le (Nat.le_trans (Nat.le_succ_of_le (Nat.le_refl i)) hlek358)), hlk370, Or.inl ⟨h21, h2k370, ⟨(by rw [((eE369 20 (by decide)).trans ez362.symm)]; exact hzz362), h3k358.2⟩, (pi_2a (((tk_iff tq163 (by decide +kernel)).mp c167).trans (by decide +kernel)) hd hGk358 hm374)⟩⟩⟩
                · obtain ⟨z375, ez375⟩ : ∃ z : Int32, z = u368 21 := ⟨_, rfl⟩
                  have haz375 : z375 = a 17 (ik358) := by rw [ez375]; exact hbk370.1
                  have hnz375 : ¬ z375 = -1 := by rw [ez375]; exact hbk370.2
                  obtain ⟨gv376, egv376⟩ : ∃ z : Int32, z = u368 19 := ⟨_, rfl⟩
                  have hg377 : gv376.toInt = ((ik358 : Nat) : Int) := by rw [egv376]; exact hpk370
                  have b378 : kb 0 gv376 400 := kb_tok (rS_fE hE hp0 (by decide)) hNk358 hg377
                  have hm379 : ¬ T (ik358) = 3093 := fun q => hGk370 (q.trans (by decide +kernel))
                  refine lv_goto (tgt := 167) hx hb dX12_readPart_71 (by decide) ?_
                  exact kV_ret hx hb hr hlocks hK hS dX12_readPart_167 u368 hP hD ⟨hI, hE, ⟨ik358, 0, (by rw [egv376.symm]; exact hg377), (Nat.le_trans (Nat.le_succ_of_le (Nat.le_refl i)) hlek358), hNk358, Or.inr (Or.inl ⟨h21, ⟨(ez375.symm).trans haz375, (fun q => hnz375 ((ez375.symm).symm.trans q))⟩, (pi_2b (((tk_iff tq163 (by decide +kernel)).mp c167).trans (by decide +kernel)) hd hGk358 hm379)⟩)⟩⟩
                · exact absurd h2k358 hdk370.1
              · obtain ⟨gv380, egv380⟩ : ∃ z : Int32, z = u356 19 := ⟨_, rfl⟩
                have hg381 : gv380.toInt = ((ik358 : Nat) : Int) := by rw [egv380]; exact hgk358
                have b382 : kb 0 gv380 400 := kb_tok (rS_fE hE hp0 (by decide)) hNk358 hg381
                obtain ⟨z383, ez383⟩ : ∃ z : Int32, z = u356 21 := ⟨_, rfl⟩
                have haz383 : z383 = a 17 (ik358) := by rw [ez383]; exact hbk358.1
                have hnz383 : ¬ z383 = -1 := by rw [ez383]; exact hbk358.2
                refine lv_aload_n hx hb dX12_readPart_62 rfl (lv_at hl 1 rfl) ?_
                refine lv_bipush (v := 93) hx hb dX12_readPart_63 (by decide) ?_
                refine kN.callS (As := [.int 93]) (rest := [.ref o]) ⟨hx, hb, hml, hown, hg⟩ (m_sign l 93 (kb_w kc_93 (by decide) (by decide))) (va_cwS 1 hg (kgS wt6_220 wt6_221 wt1_14 wt6_222) rfl rfl rfl (by decide +kernel) ⟨by dsimp only [rmD]; omega, by dsimp only [rmD]; omega⟩) hP hS rfl hl.1 rfl (Nat.le_of_ble_eq_true rfl) dX12_readPart_65 ⟨Nat.le_refl _, Nat.le_refl _⟩ (fun v385 H locs hw384 hP hS => ?_)
                refine k_top (z := 193) (Int32.toInt_inj.mp (hw384.2.trans (by decide +kernel))) ?_
                refine kV.callV (As := [.int 193]) (rest := []) ⟨hx, hb, hml, hown, hg⟩ (q_must l o r u356 a g hI 193 (kb_w kc_193 (by decide) (by decide)) N (ik358) true T (rS_fE hE hp0 (by decide)) (by rw [egv380.symm]; exact hg381) hNk358 hp3 (by decide +kernel)) (cwV 1 hg (kgV wt6_227 wt6_229 wp4_12 wt1_14 wt6_230) rfl rfl rfl (by decide +kernel) ⟨by dsimp only [rmD]; omega, by dsimp only [rmD]; omega⟩) hK hP hD hS hA mIs [] rfl (wr := []) rfl rfl rfl (fun i h => by cases h) 0 12 rfl rfl rfl hl.1 rfl (Nat.le_of_ble_eq_true rfl) dX12_readPart_68 ⟨Nat.le_refl _, Nat.le_refl _⟩ (fun u389 H locs hw387 hP hD hS => ?_)
                have hP : va_P D vwCl (mW K o r u389 a g) H := hP
                have hD : va_D A (mW K o r u389 a g) := hD
                have hI : mI u389 a := hw387.1
                have eE390 : fE [19, 21] u356 u389 := hw387.2.1
                have hE : fE [19, 20, 21] f u389 := fE_tr hE (fE_w (by decide) eE390)
                have hdk391 := (hw387.2.2).elim (fun q => absurd q.1 (fun q => hnz383 ((ez383.symm).symm.trans q))) (fun q => q.elim (fun q => absurd q.1 (fun q => hnz383 ((ez383.symm).symm.trans q))) (fun q => q))
                obtain ⟨gv392, egv392⟩ : ∃ z : Int32, z = u389 19 := ⟨_, rfl⟩
                have hg393 : gv392.toInt = ((ik358 : Nat) : Int) := by rw [egv392]; exact hdk391.2.2
                have b394 : kb 0 gv392 400 := kb_tok (rS_fE hE hp0 (by decide)) hNk358 hg393
                refine lv_goto (tgt := 167) hx hb dX12_readPart_71 (by decide) ?_
                exact kV_ret hx hb hr hlocks hK hS dX12_readPart_167 u389 hP hD ⟨hI, hE, ⟨ik358, 0, (by rw [egv392.symm]; exact hg393), (Nat.le_trans (Nat.le_succ_of_le (Nat.le_refl i)) hlek358), hNk358, Or.inr (Or.inl ⟨h21, ⟨((hdk391.2.1.trans ez383.symm)).trans haz383, (fun q => hnz383 (((hdk391.2.1.trans ez383.symm)).symm.trans q))⟩, (pi_2f (((tk_iff tq163 (by decide +kernel)).mp c167).trans (by decide +kernel)) hd hGk358)⟩)⟩⟩
              · exact absurd ((show f_351 21 = f 21 from by rw [← ef_351]; rfl).trans h21) hdk358.1
            · exact kb_dj c346 kc_1 kc_0 (by decide)
          · have b395 : kb 8 dp 8 := kb_eq c341 kc_8
            refine lv_aload_n hx hb dX12_readPart_33 rfl (lv_at hl 1 rfl) ?_
            refine kV.callV (As := []) (rest := []) ⟨hx, hb, hml, hown, hg⟩ (q_faults l o r f a g hI   N (i) true T (rS_fE hE hp0 (by decide)) (by rw [ec19.symm]; exact hg0) hp2 hp3) (cwV 0 hg (kgV wt6_223 wt6_225 wp4_11 wt1_14 wt6_226) rfl rfl rfl (by decide +kernel) ⟨by dsimp only [rmD]; omega, by dsimp only [rmD]; omega⟩) hK hP hD hS hA mIs [] rfl (wr := []) rfl rfl rfl (fun i h => by cases h) 0 12 rfl rfl rfl hl.1 rfl (Nat.le_of_ble_eq_true rfl) dX12_readPart_34 ⟨Nat.le_refl _, Nat.le_refl _⟩ (fun u398 H locs hw396 hP hD hS => ?_)
            have hP : va_P D vwCl (mW K o r u398 a g) H := hP
            have hD : va_D A (mW K o r u398 a g) := hD
            have hI : mI u398 a := hw396.1
            have eE399 : fE [21] f u398 := hw396.2.1
            have hE : fE [19, 20, 21] f u398 := fE_tr hE (fE_w (by decide) eE399)
            obtain ⟨z400, ez400⟩ : ∃ z : Int32, z = u398 21 := ⟨_, rfl⟩
            have haz400 : z400 = a 17 (i) := by rw [ez400]; exact (hw396.2.2.1 h21).1
            have hnz400 : ¬ z400 = -1 := by rw [ez400]; exact (hw396.2.2.1 h21).2
            refine lv_aload_n hx hb dX12_readPart_37 rfl (lv_at hl 1 rfl) ?_
            refine kI.callV (As := []) (rest := []) ⟨hx, hb, hml, hown, hg⟩ (m_fine l o r u398 a g hI   ) (cwV 0 hg (kgV wt6_204 wt6_206 wp4_7 wt1_14 wt6_207) rfl rfl rfl (by decide +kernel) ⟨by dsimp only [rmD]; omega, by dsimp only [rmD]; omega⟩) hK hP hD hS hA mIs [] rfl (wr := []) rfl rfl rfl (fun i h => by cases h) 0 12 rfl rfl rfl hl.1 rfl (Nat.le_of_ble_eq_true rfl) dX12_readPart_38 ⟨Nat.le_refl _, Nat.le_refl _⟩ (fun v402 u403 H locs hw401 hP hD hS => ?_)
            have hP : va_P D vwCl (mW K o r u398 a g) H := hP
            have hD : va_D A (mW K o r u398 a g) := hD
            refine k_top (z := 0) ((hw401.2).elim (fun q => absurd q.2 (fun q => hnz400 ((ez400.symm).symm.trans q))) (fun q => q.1)) ?_
            refine lv_if_ne (tgt := 45) hx hb dX12_readPart_41 (by decide) (fun c404 => ?_) (fun c404 => ?_)
            · exact kb_nsame c404 kc_0 kc_0
            · exact kV_ret hx hb hr hlocks hK hS dX12_readPart_44 u398 hP hD ⟨hI, hE, ⟨i, 0, (by rw [((eE399 19 (by decide)).trans ec19.symm)]; exact hg0), (Nat.le_refl i), hp2, Or.inr (Or.inl ⟨h21, ⟨(ez400.symm).trans haz400, (fun q => hnz400 ((ez400.symm).symm.trans q))⟩, (pi_2z (((tk_iff tq163 (by decide +kernel)).mp c167).trans (by decide +kernel)) (by have w1 := hp5; have w2 := congrArg Int32.toInt c341; have w3 : (8 : Int32).toInt = 8 := (by decide +kernel); omega))⟩)⟩⟩
      · exact kb_dj c160 kc_1 kc_0 (by decide)
    · obtain ⟨c21, ec21⟩ : ∃ z : Int32, z = f 21 := ⟨_, rfl⟩
      have hn21 : ¬ c21 = -1 := by rw [ec21]; exact h21
      refine lv_aload_n hx hb dX12_readPart_0 rfl (lv_at hl 0 rfl) ?_
      refine kI.callV (As := []) (rest := []) ⟨hx, hb, hml, hown, hg⟩ (m_fine l o r f a g hI   ) (cwV 0 hg (kgV wt6_204 wt6_206 wp4_7 wt1_14 wt6_207) rfl rfl rfl (by decide +kernel) ⟨by dsimp only [rmD]; omega, by dsimp only [rmD]; omega⟩) hK hP hD hS hA mIs [] rfl (wr := []) rfl rfl rfl (fun i h => by cases h) 0 12 rfl rfl rfl hl.1 rfl (Nat.le_of_ble_eq_true rfl) dX12_readPart_1 ⟨Nat.le_refl _, Nat.le_refl _⟩ (fun v406 u407 H locs hw405 hP hD hS => ?_)
      have hP : va_P D vwCl (mW K o r f a g) H := hP
      have hD : va_D A (mW K o r f a g) := hD
      refine k_top (z := 0) ((hw405.2).elim (fun q => absurd q.2 (fun q => hn21 ((ec21.symm).symm.trans q))) (fun q => q.1)) ?_
      refine lv_if_ne (tgt := 8) hx hb dX12_readPart_4 (by decide) (fun c408 => ?_) (fun c408 => ?_)
      · exact kb_nsame c408 kc_0 kc_0
      · exact kV_ret hx hb hr hlocks hK hS dX12_readPart_7 f hP hD ⟨hI, hE, ⟨i, 0, (by rw [ec19.symm]; exact hg0), (Nat.le_refl i), hp2, Or.inr (Or.inr ⟨h21, (ec21.symm).trans ec21, rfl⟩)⟩⟩
set_option maxHeartbeats 4000000 in
set_option maxRecDepth 100000 in
theorem q_readTerm (d : Nat) (hpart : dRPart d) (l : Launch) {D : va_G} {K : Nat → ClassId} (o : Nat) (r : Nat → Nat) (f : Nat → Int32) (a : Nat → Nat → Int32) (g : Nat → Int64) (hI : mI f a) (dp : Int32) (bdp : kb 0 dp 8) (N i n : Nat) (ob : Bool) (T : Nat → Int32) (hp0 : rS f a N ob) (hp1 : (f 19).toInt = (i : Int)) (hp2 : i ≤ N) (hp3 : rQ a N T) (hp4 : f 21 = -1 → (f 20).toInt = (n : Int) ∧ n ≤ 50) (hp5 : dp.toInt + (d : Int) = 8) : kV l yX12_readTerm (Cond.code yX12_readTerm cX12_readTerm 2 none :: kG) (rmD (3 * d + 7) 0 0) D (tysK K) [.ref o, .int dp] (mW K o r f a g) (fun (u : Nat → Int32) => mI u a ∧ fE [19, 20, 21] f u ∧ (∃ i2 n2 : Nat, (u 19).toInt = (i2 : Int) ∧ i ≤ i2 ∧ i2 ≤ N ∧ ((f 21 = -1 ∧ u 21 = -1 ∧ ((u 20).toInt = (n2 : Int) ∧ n2 ≤ 50) ∧ pG ob T d 1 i n (true, i2, n2)) ∨ (f 21 = -1 ∧ (u 21 = a 17 i2 ∧ ¬ u 21 = -1) ∧ pG ob T d 1 i n (false, i2, 0)) ∨ (¬ f 21 = -1 ∧ u 21 = f 21 ∧ i2 = i)))) (fun u => mW K o r u a g) 0 0 := by
  refine kV.of (cc := cX12_readTerm) (maxL := 2) (ret := none) (by decide) rfl (Nat.le_of_ble_eq_true rfl) ?_
  intro p e s m below meth c A hx hb hr hml hown hts hlocks hnm hK hP hD hS hA ls hl
  have hE : fE [19, 20, 21] f f := fE_rf
  have hg : ∀ w ∈ kG, w.before _ s = true := fun w h => hts w (List.mem_cons_of_mem _ h)
  have hown : s.vm.findClass RX12 = some m.cls := hown
  have hl : lv_has ls 2 [(0, .ref o), (1, .int dp)] := hl
  obtain ⟨c19, ec19⟩ : ∃ z : Int32, z = f 19 := ⟨_, rfl⟩
  have hg0 : c19.toInt = (i : Int) := by rw [ec19]; exact hp1
  have b1 : kb 0 c19 400 := kb_tok hp0 hp2 hg0
  by_cases h21 : f 21 = -1
  · obtain ⟨c20, ec20⟩ : ∃ z : Int32, z = f 20 := ⟨_, rfl⟩
    have hn20 : c20.toInt = (n : Int) := by rw [ec20]; exact (hp4 h21).1
    have hl50 : n ≤ 50 := (hp4 h21).2
    have b2 : kb 0 c20 50 := ⟨by omega, by omega⟩
    refine lv_aload_n hx hb dX12_readTerm_0 rfl (lv_at hl 0 rfl) ?_
    refine lv_iload_n hx hb dX12_readTerm_1 rfl (lv_at hl 1 rfl) ?_
    refine kV.callV (As := [.int dp]) (rest := []) ⟨hx, hb, hml, hown, hg⟩ (hpart l o r f a g hI dp bdp N (i) (n) ob T (rS_fE hE hp0 (by decide)) (by rw [ec19.symm]; exact hg0) hp2 hp3 (fun _ => ⟨(by rw [ec20.symm]; exact hn20), hl50⟩) hp5) (cwV 1 hg (kgV wt6_216 wt6_218 wp4_10 wt1_14 wt6_219) rfl rfl rfl (by decide +kernel) ⟨by dsimp only [rmD]; omega, by dsimp only [rmD]; omega⟩) hK hP hD hS hA mIs [] rfl (wr := []) rfl rfl rfl (fun i h => by cases h) 0 12 rfl rfl rfl hl.1 rfl (Nat.le_of_ble_eq_true rfl) dX12_readTerm_2 ⟨Nat.le_refl _, Nat.le_refl _⟩ (fun u5 H locs hw3 hP hD hS => ?_)
    have hP : va_P D vwCl (mW K o r u5 a g) H := hP
    have hD : va_D A (mW K o r u5 a g) := hD
    have hI : mI u5 a := hw3.1
    have eE6 : fE [19, 20, 21] f u5 := hw3.2.1
    have hE : fE [19, 20, 21] f u5 := fE_tr hE eE6
    obtain ⟨ik7, nk7, hgk7, hlek7, hNk7, hck7⟩ := hw3.2.2
    rcases hck7 with ⟨-, h2k7, h3k7, hGk7⟩ | ⟨-, hbk7, hGk7⟩ | hdk7
    · obtain ⟨gv8, egv8⟩ : ∃ z : Int32, z = u5 19 := ⟨_, rfl⟩
      have hg9 : gv8.toInt = ((ik7 : Nat) : Int) := by rw [egv8]; exact hgk7
      have b10 : kb 0 gv8 400 := kb_tok (rS_fE hE hp0 (by decide)) hNk7 hg9
      obtain ⟨z11, ez11⟩ : ∃ z : Int32, z = u5 20 := ⟨_, rfl⟩
      have hzz11 : z11.toInt = (nk7 : Int) := by rw [ez11]; exact h3k7.1
      have lp13 : ∀ (n14 : Nat) (i7 : Nat) (n7 : Nat) (F12 : Nat → Int32) (H : Heap) (locs : List Loc) (ls : Array Slot), ((N : Int) < (i7 : Int) + (n14 : Int)) → (mI F12 a) → (fE [19, 20, 21] f F12) → ((F12 19).toInt = (i7 : Int)) → (i ≤ i7 ∧ i7 ≤ N) → ((F12 21 = -1 ∧ ((F12 20).toInt = (n7 : Int) ∧ n7 ≤ 50) ∧ ∀ r, pG ob T d 7 i7 n7 r → pG ob T d 1 i n r) ∨ ((F12 21 = a 17 i7 ∧ ¬ F12 21 = -1) ∧ pG ob T d 1 i n (false, i7, 0))) → va_P D vwCl (mW K o r F12 a g) H → va_D A (mW K o r F12 a g) → va_S A s.heap H locs → lv_has ls 2 [(0, .ref o), (1, .int dp)] → W p l e (rmD (3 * d + 7) 0 0) s m ([.ref o, .int dp] : List Value).toArray below meth c H locs 0 0 (kQv D (tysK K) (fun (u : Nat → Int32) => mI u a ∧ fE [19, 20, 21] f u ∧ (∃ i2 n2 : Nat, (u 19).toInt = (i2 : Int) ∧ i ≤ i2 ∧ i2 ≤ N ∧ ((f 21 = -1 ∧ u 21 = -1 ∧ ((u 20).toInt = (n2 : Int) ∧ n2 ≤ 50) ∧ pG ob T d 1 i n (true, i2, n2)) ∨ (f 21 = -1 ∧ (u 21 = a 17 i2 ∧ ¬ u 21 = -1) ∧ pG ob T d 1 i n (false, i2, 0)) ∨ (¬ f 21 = -1 ∧ u 21 = f 21 ∧ i2 = i)))) (fun u => mW K o r u a g) A below ([.ref o, .int dp] : List Value).toArray s 0 0) (F0 m 5 ls []) := by
        intro n14
        induction n14 with
        | zero =>
          intro i7 n7 F12  H locs ls  hmlp13 hI hE hvlp13_0 hvlp13_1 hvlp13_2 hP hD hS hl
          exact (by have w1 := hmlp13; have w2 := hvlp13_1.2; omega : False).elim
        | succ n14 ihlp13 =>
          intro i7 n7 F12  H locs ls  hmlp13 hI hE hvlp13_0 hvlp13_1 hvlp13_2 hP hD hS hl
          obtain ⟨gv15, egv15⟩ : ∃ z : Int32, z = F12 19 := ⟨_, rfl⟩
          have hg16 : gv15.toInt = ((i7 : Nat) : Int) := by rw [egv15]; exact hvlp13_0
          have b17 : kb 0 gv15 400 := kb_tok (rS_fE hE hp0 (by decide)) hvlp13_1.2 hg16
          rcases hvlp13_2 with ⟨h2x, h3x, xc⟩ | ⟨hbd, xb⟩
          · obtain ⟨z18, ez18⟩ : ∃ z : Int32, z = F12 20 := ⟨_, rfl⟩
            have hzz18 : z18.toInt = (n7 : Int) := by rw [ez18]; exact h3x.1
            refine lv_aload_n hx hb dX12_readTerm_5 rfl (lv_at hl 0 rfl) ?_
            refine lv_bipush (v := 42) hx hb dX12_readTerm_6 (by decide) ?_
            refine kN.callS (As := [.int 42]) (rest := [.ref o]) ⟨hx, hb, hml, hown, hg⟩ (m_sign l 42 (kb_w kc_42 (by decide) (by decide))) (va_cwS 1 hg (kgS wt6_220 wt6_221 wt1_14 wt6_222) rfl rfl rfl (by decide +kernel) ⟨by dsimp only [rmD]; omega, by dsimp only [rmD]; omega⟩) hP hS rfl hl.1 rfl (Nat.le_of_ble_eq_true rfl) dX12_readTerm_8 ⟨Nat.le_refl _, Nat.le_refl _⟩ (fun v20 H locs hw19 hP hS => ?_)
            refine k_top (z := 142) (Int32.toInt_inj.mp (hw19.2.trans (by decide +kernel))) ?_
            refine kI.callV (As := [.int 142]) (rest := []) ⟨hx, hb, hml, hown, hg⟩ (q_takes0 l o r F12 a g hI 142 (kb_w kc_142 (by decide) (by decide)) N (i7) ob T (rS_fE hE hp0 (by decide)) (by rw [egv15.symm]; exact hg16) hvlp13_1.2 hp3 (by decide +kernel)) (cwV 1 hg (kgV wt6_200 wt6_202 wp4_6 wt1_14 wt6_203) rfl rfl rfl (by decide +kernel) ⟨by dsimp only [rmD]; omega, by dsimp only [rmD]; omega⟩) hK hP hD hS hA mIs [] rfl (wr := []) rfl rfl rfl (fun i h => by cases h) 0 12 rfl rfl rfl hl.1 rfl (Nat.le_of_ble_eq_true rfl) dX12_readTerm_11 ⟨Nat.le_refl _, Nat.le_refl _⟩ (fun v23 u24 H locs hw22 hP hD hS => ?_)
            have hP : va_P D vwCl (mW K o r u24 a g) H := hP
            have hD : va_D A (mW K o r u24 a g) := hD
            have hI : mI u24 a := hw22.2.1
            have eE25 : fE [19] F12 u24 := hw22.2.2.1
            have hE : fE [19, 20, 21] f u24 := fE_tr hE (fE_w (by decide) eE25)
            rcases hw22.2.2.2 with ⟨hvk26, hbk26, htk26, hpk26, hlk26⟩ | ⟨hvk26, hnk26, hpk26⟩
            · refine k_top (z := 1) hvk26 ?_
              obtain ⟨gv27, egv27⟩ : ∃ z : Int32, z = u24 19 := ⟨_, rfl⟩
              have hg28 : gv27.toInt = ((i7 + 1 : Nat) : Int) := by rw [egv27]; exact hpk26
              have b29 : kb 0 gv27 400 := kb_tok (rS_fE hE hp0 (by decide)) hlk26 hg28
              have hTk26 : T (i7) = 3042 := htk26.trans (by decide +kernel)
              refine lv_if_ne (tgt := 41) hx hb dX12_readTerm_14 (by decide) (fun c30 => ?_) (fun c30 => ?_)
              · refine lv_aload_n hx hb dX12_readTerm_41 rfl (lv_at hl 0 rfl) ?_
                refine lv_iload_n hx hb dX12_readTerm_42 rfl (lv_at hl 1 rfl) ?_
                refine kV.callV (As := [.int dp]) (rest := []) ⟨hx, hb, hml, hown, hg⟩ (hpart l o r u24 a g hI dp bdp N (i7 + 1) (n7) ob T (rS_fE hE hp0 (by decide)) (by rw [egv27.symm]; exact hg28) hlk26 hp3 (fun _ => ⟨(by rw [((eE25 20 (by decide)).trans ez18.symm)]; exact hzz18), h3x.2⟩) hp5) (cwV 1 hg (kgV wt6_216 wt6_218 wp4_10 wt1_14 wt6_219) rfl rfl rfl (by decide +kernel) ⟨by dsimp only [rmD]; omega, by dsimp only [rmD]; omega⟩) hK hP hD hS hA mIs [] rfl (wr := []) rfl rfl rfl (fun i h => by cases h) 0 12 rfl rfl rfl hl.1 rfl (Nat.le_of_ble_eq_true rfl) dX12_readTerm_43 ⟨Nat.le_refl _, Nat.le_refl _⟩ (fun u33 H locs hw31 hP hD hS => ?_)
                have hP : va_P D vwCl (mW K o r u33 a g) H := hP
                have hD : va_D A (mW K o r u33 a g) := hD
                have hI : mI u33 a := hw31.1
                have eE34 : fE [19, 20, 21] u24 u33 := hw31.2.1
                have hE : fE [19, 20, 21] f u33 := fE_tr hE eE34
                obtain ⟨ik35, nk35, hgk35, hlek35, hNk35, hck35⟩ := hw31.2.2
                rcases hck35 with ⟨-, h2k35, h3k35, hGk35⟩ | ⟨-, hbk35, hGk35⟩ | hdk35
                · obtain ⟨gv36, egv36⟩ : ∃ z : Int32, z = u33 19 := ⟨_, rfl⟩
                  have hg37 : gv36.toInt = ((ik35 : Nat) : Int) := by rw [egv36]; exact hgk35
                  have b38 : kb 0 gv36 400 := kb_tok (rS_fE hE hp0 (by decide)) hNk35 hg37
                  obtain ⟨z39, ez39⟩ : ∃ z : Int32, z = u33 20 := ⟨_, rfl⟩
                  have hzz39 : z39.toInt = (nk35 : Int) := by rw [ez39]; exact h3k35.1
                  refine lv_goto (tgt := 5) hx hb dX12_readTerm_46 (by decide) ?_
                  exact ihlp13 (ik35) (nk35) u33 _ _ _  (by omega) hI hE (by rw [egv36.symm]; exact hg37) (⟨(Nat.le_trans (Nat.le_succ_of_le hvlp13_1.1) hlek35), hNk35⟩) (Or.inl ⟨h2k35, ⟨(by rw [ez39.symm]; exact hzz39), h3k35.2⟩, fun r h => xc r (pi_7y (Or.inl hTk26) (pi_1 hGk35 h))⟩) hP hD hS (lv_sub hl [0, 1] rfl)
                · obtain ⟨gv40, egv40⟩ : ∃ z : Int32, z = u33 19 := ⟨_, rfl⟩
                  have hg41 : gv40.toInt = ((ik35 : Nat) : Int) := by rw [egv40]; exact hgk35
                  have b42 : kb 0 gv40 400 := kb_tok (rS_fE hE hp0 (by decide)) hNk35 hg41
                  obtain ⟨z43, ez43⟩ : ∃ z : Int32, z = u33 21 := ⟨_, rfl⟩
                  have haz43 : z43 = a 17 (ik35) := by rw [ez43]; exact hbk35.1
                  have hnz43 : ¬ z43 = -1 := by rw [ez43]; exact hbk35.2
                  refine lv_goto (tgt := 5) hx hb dX12_readTerm_46 (by decide) ?_
                  exact ihlp13 (ik35) (0) u33 _ _ _  (by omega) hI hE (by rw [egv40.symm]; exact hg41) (⟨(Nat.le_trans (Nat.le_succ_of_le hvlp13_1.1) hlek35), hNk35⟩) (Or.inr ⟨⟨(ez43.symm).trans haz43, (fun q => hnz43 ((ez43.symm).symm.trans q))⟩, xc _ (pi_7y (Or.inl hTk26) (pi_1f hGk35))⟩) hP hD hS (lv_sub hl [0, 1] rfl)
                · exact absurd ((eE25 21 (by decide)).trans h2x) hdk35.1
              · exact kb_dj c30 kc_1 kc_0 (by decide)
            · refine k_top (z := 0) hvk26 ?_
              obtain ⟨gv44, egv44⟩ : ∃ z : Int32, z = u24 19 := ⟨_, rfl⟩
              have hg45 : gv44.toInt = ((i7 : Nat) : Int) := by rw [egv44]; exact hpk26
              have b46 : kb 0 gv44 400 := kb_tok (rS_fE hE hp0 (by decide)) hvlp13_1.2 hg45
              have hTk26 : ¬ T (i7) = 3042 := fun q => (hnk26 h2x) (q.trans (by decide +kernel))
              refine lv_if_ne (tgt := 41) hx hb dX12_readTerm_14 (by decide) (fun c47 => ?_) (fun c47 => ?_)
              · exact kb_nsame c47 kc_0 kc_0
              · refine lv_aload_n hx hb dX12_readTerm_17 rfl (lv_at hl 0 rfl) ?_
                refine lv_bipush (v := 47) hx hb dX12_readTerm_18 (by decide) ?_
                refine kN.callS (As := [.int 47]) (rest := [.ref o]) ⟨hx, hb, hml, hown, hg⟩ (m_sign l 47 (kb_w kc_47 (by decide) (by decide))) (va_cwS 1 hg (kgS wt6_220 wt6_221 wt1_14 wt6_222) rfl rfl rfl (by decide +kernel) ⟨by dsimp only [rmD]; omega, by dsimp only [rmD]; omega⟩) hP hS rfl hl.1 rfl (Nat.le_of_ble_eq_true rfl) dX12_readTerm_20 ⟨Nat.le_refl _, Nat.le_refl _⟩ (fun v49 H locs hw48 hP hS => ?_)
                refine k_top (z := 147) (Int32.toInt_inj.mp (hw48.2.trans (by decide +kernel))) ?_
                refine kI.callV (As := [.int 147]) (rest := []) ⟨hx, hb, hml, hown, hg⟩ (q_takes0 l o r u24 a g hI 147 (kb_w kc_147 (by decide) (by decide)) N (i7) ob T (rS_fE hE hp0 (by decide)) (by rw [egv44.symm]; exact hg45) hvlp13_1.2 hp3 (by decide +kernel)) (cwV 1 hg (kgV wt6_200 wt6_202 wp4_6 wt1_14 wt6_203) rfl rfl rfl (by decide +kernel) ⟨by dsimp only [rmD]; omega, by dsimp only [rmD]; omega⟩) hK hP hD hS hA mIs [] rfl (wr := []) rfl rfl rfl (fun i h => by cases h) 0 12 rfl rfl rfl hl.1 rfl (Nat.le_of_ble_eq_true rfl) dX12_readTerm_23 ⟨Nat.le_refl _, Nat.le_refl _⟩ (fun v52 u53 H locs hw51 hP hD hS => ?_)
                have hP : va_P D vwCl (mW K o r u53 a g) H := hP
                have hD : va_D A (mW K o r u53 a g) := hD
                have hI : mI u53 a := hw51.2.1
                have eE54 : fE [19] u24 u53 := hw51.2.2.1
                have hE : fE [19, 20, 21] f u53 := fE_tr hE (fE_w (by decide) eE54)
                rcases hw51.2.2.2 with ⟨hvk55, hbk55, htk55, hpk55, hlk55⟩ | ⟨hvk55, hnk55, hpk55⟩
                · refine k_top (z := 1) hvk55 ?_
                  obtain ⟨gv56, egv56⟩ : ∃ z : Int32, z = u53 19 := ⟨_, rfl⟩
                  have hg57 : gv56.toInt = ((i7 + 1 : Nat) : Int) := by rw [egv56]; exact hpk55
                  have b58 : kb 0 gv56 400 := kb_tok (rS_fE hE hp0 (by decide)) hlk55 hg57
                  have hTk55 : T (i7) = 3047 := htk55.trans (by decide +kernel)
                  refine lv_if_ne (tgt := 41) hx hb dX12_readTerm_26 (by decide) (fun c59 => ?_) (fun c59 => ?_)
                  · refine lv_aload_n hx hb dX12_readTerm_41 rfl (lv_at hl 0 rfl) ?_
                    refine lv_iload_n hx hb dX12_readTerm_42 rfl (lv_at hl 1 rfl) ?_
                    refine kV.callV (As := [.int dp]) (rest := []) ⟨hx, hb, hml, hown, hg⟩ (hpart l o r u53 a g hI dp bdp N (i7 + 1) (n7) ob T (rS_fE hE hp0 (by decide)) (by rw [egv56.symm]; exact hg57) hlk55 hp3 (fun _ => ⟨(by rw [((eE54 20 (by decide)).trans ((eE25 20 (by decide)).trans ez18.symm))]; exact hzz18), h3x.2⟩) hp5) (cwV 1 hg (kgV wt6_216 wt6_218 wp4_10 wt1_14 wt6_219) rfl rfl rfl (by decide +kernel) ⟨by dsimp only [rmD]; omega, by dsimp only [rmD]; omega⟩) hK hP hD hS hA mIs [] rfl (wr := []) rfl rfl rfl (fun i h => by cases h) 0 12 rfl rfl rfl hl.1 rfl (Nat.le_of_ble_eq_true rfl) dX12_readTerm_43 ⟨Nat.le_refl _, Nat.le_refl _⟩ (fun u62 H locs hw60 hP hD hS => ?_)
                    have hP : va_P D vwCl (mW K o r u62 a g) H := hP
                    have hD : va_D A (mW K o r u62 a g) := hD
                    have hI : mI u62 a := hw60.1
                    have eE63 : fE [19, 20, 21] u53 u62 := hw60.2.1
                    have hE : fE [19, 20, 21] f u62 := fE_tr hE eE63
                    obtain ⟨ik64, nk64, hgk64, hlek64, hNk64, hck64⟩ := hw60.2.2
                    rcases hck64 with ⟨-, h2k64, h3k64, hGk64⟩ | ⟨-, hbk64, hGk64⟩ | hdk64
                    · obtain ⟨gv65, egv65⟩ : ∃ z : Int32, z = u62 19 := ⟨_, rfl⟩
                      have hg66 : gv65.toInt = ((ik64 : Nat) : Int) := by rw [egv65]; exact hgk64
                      have b67 : kb 0 gv65 400 := kb_tok (rS_fE hE hp0 (by decide)) hNk64 hg66
                      obtain ⟨z68, ez68⟩ : ∃ z : Int32, z = u62 20 := ⟨_, rfl⟩
                      have hzz68 : z68.toInt = (nk64 : Int) := by rw [ez68]; exact h3k64.1
                      refine lv_goto (tgt := 5) hx hb dX12_readTerm_46 (by decide) ?_
                      exact ihlp13 (ik64) (nk64) u62 _ _ _  (by omega) hI hE (by rw [egv65.symm]; exact hg66) (⟨(Nat.le_trans (Nat.le_succ_of_le hvlp13_1.1) hlek64), hNk64⟩) (Or.inl ⟨h2k64, ⟨(by rw [ez68.symm]; exact hzz68), h3k64.2⟩, fun r h => xc r (pi_7y (Or.inr (Or.inl hTk55)) (pi_1 hGk64 h))⟩) hP hD hS (lv_sub hl [0, 1] rfl)
                    · obtain ⟨gv69, egv69⟩ : ∃ z : Int32, z = u62 19 := ⟨_, rfl⟩
                      have hg70 : gv69.toInt = ((ik64 : Nat) : Int) := by rw [egv69]; exact hgk64
                      have b71 : kb 0 gv69 400 := kb_tok (rS_fE hE hp0 (by decide)) hNk64 hg70
                      obtain ⟨z72, ez72⟩ : ∃ z : Int32, z = u62 21 := ⟨_, rfl⟩
                      have haz72 : z72 = a 17 (ik64) := by rw [ez72]; exact hbk64.1
                      have hnz72 : ¬ z72 = -1 := by rw [ez72]; exact hbk64.2
                      refine lv_goto (tgt := 5) hx hb dX12_readTerm_46 (by decide) ?_
                      exact ihlp13 (ik64) (0) u62 _ _ _  (by omega) hI hE (by rw [egv69.symm]; exact hg70) (⟨(Nat.le_trans (Nat.le_succ_of_le hvlp13_1.1) hlek64), hNk64⟩) (Or.inr ⟨⟨(ez72.symm).trans haz72, (fun q => hnz72 ((ez72.symm).symm.trans q))⟩, xc _ (pi_7y (Or.inr (Or.inl hTk55)) (pi_1f hGk64))⟩) hP hD hS (lv_sub hl [0, 1] rfl)
                    · exact absurd ((eE54 21 (by decide)).trans ((eE25 21 (by decide)).trans h2x)) hdk64.1
                  · exact kb_dj c59 kc_1 kc_0 (by decide)
                · refine k_top (z := 0) hvk55 ?_
                  obtain ⟨gv73, egv73⟩ : ∃ z : Int32, z = u53 19 := ⟨_, rfl⟩
                  have hg74 : gv73.toInt = ((i7 : Nat) : Int) := by rw [egv73]; exact hpk55
                  have b75 : kb 0 gv73 400 := kb_tok (rS_fE hE hp0 (by decide)) hvlp13_1.2 hg74
                  have hTk55 : ¬ T (i7) = 3047 := fun q => (hnk55 ((eE25 21 (by decide)).trans h2x)) (q.trans (by decide +kernel))
                  refine lv_if_ne (tgt := 41) hx hb dX12_readTerm_26 (by decide) (fun c76 => ?_) (fun c76 => ?_)
                  · exact kb_nsame c76 kc_0 kc_0
                  · refine lv_aload_n hx hb dX12_readTerm_29 rfl (lv_at hl 0 rfl) ?_
                    refine lv_bipush (v := 37) hx hb dX12_readTerm_30 (by decide) ?_
                    refine kN.callS (As := [.int 37]) (rest := [.ref o]) ⟨hx, hb, hml, hown, hg⟩ (m_sign l 37 (kb_w kc_37 (by decide) (by decide))) (va_cwS 1 hg (kgS wt6_220 wt6_221 wt1_14 wt6_222) rfl rfl rfl (by decide +kernel) ⟨by dsimp only [rmD]; omega, by dsimp only [rmD]; omega⟩) hP hS rfl hl.1 rfl (Nat.le_of_ble_eq_true rfl) dX12_readTerm_32 ⟨Nat.le_refl _, Nat.le_refl _⟩ (fun v78 H locs hw77 hP hS => ?_)
                    refine k_top (z := 137) (Int32.toInt_inj.mp (hw77.2.trans (by decide +kernel))) ?_
                    refine kI.callV (As := [.int 137]) (rest := []) ⟨hx, hb, hml, hown, hg⟩ (q_takes0 l o r u53 a g hI 137 (kb_w kc_137 (by decide) (by decide)) N (i7) ob T (rS_fE hE hp0 (by decide)) (by rw [egv73.symm]; exact hg74) hvlp13_1.2 hp3 (by decide +kernel)) (cwV 1 hg (kgV wt6_200 wt6_202 wp4_6 wt1_14 wt6_203) rfl rfl rfl (by decide +kernel) ⟨by dsimp only [rmD]; omega, by dsimp only [rmD]; omega⟩) hK hP hD hS hA mIs [] rfl (wr := []) rfl rfl rfl (fun i h => by cases h) 0 12 rfl rfl rfl hl.1 rfl (Nat.le_of_ble_eq_true rfl) dX12_readTerm_35 ⟨Nat.le_refl _, Nat.le_refl _⟩ (fun v81 u82 H locs hw80 hP hD hS => ?_)
                    have hP : va_P D vwCl (mW K o r u82 a g) H := hP
                    have hD : va_D A (mW K o r u82 a g) := hD
                    have hI : mI u82 a := hw80.2.1
                    have eE83 : fE [19] u53 u82 := hw80.2.2.1
                    have hE : fE [19, 20, 21] f u82 := fE_tr hE (fE_w (by decide) eE83)
                    rcases hw80.2.2.2 with ⟨hvk84, hbk84, htk84, hpk84, hlk84⟩ | ⟨hvk84, hnk84, hpk84⟩
                    · refine k_top (z := 1) hvk84 ?_
                      obtain ⟨gv85, egv85⟩ : ∃ z : Int32, z = u82 19 := ⟨_, rfl⟩
                      have hg86 : gv85.toInt = ((i7 + 1 : Nat) : Int) := by rw [egv85]; exact hpk84
                      have b87 : kb 0 gv85 400 := kb_tok (rS_fE hE hp0 (by decide)) hlk84 hg86
                      have hTk84 : T (i7) = 3037 := htk84.trans (by decide +kernel)
                      refine lv_if_eq (tgt := 49) hx hb dX12_readTerm_38 (by decide) (fun c88 => ?_) (fun c88 => ?_)
                      · exact kb_dj c88 kc_1 kc_0 (by decide)
                      · refine lv_aload_n hx hb dX12_readTerm_41 rfl (lv_at hl 0 rfl) ?_
                        refine lv_iload_n hx hb dX12_readTerm_42 rfl (lv_at hl 1 rfl) ?_
                        refine kV.callV (As := [.int dp]) (rest := []) ⟨hx, hb, hml, hown, hg⟩ (hpart l o r u82 a g hI dp bdp N (i7 + 1) (n7) ob T (rS_fE hE hp0 (by decide)) (by rw [egv85.symm]; exact hg86) hlk84 hp3 (fun _ => ⟨(by rw [((eE83 20 (by decide)).trans ((eE54 20 (by decide)).trans ((eE25 20 (by decide)).trans ez18.symm)))]; exact hzz18), h3x.2⟩) hp5) (cwV 1 hg (kgV wt6_216 wt6_218 wp4_10 wt1_14 wt6_219) rfl rfl rfl (by decide +kernel) ⟨by dsimp only [rmD]; omega, by dsimp only [rmD]; omega⟩) hK hP hD hS hA mIs [] rfl (wr := []) rfl rfl rfl (fun i h => by cases h) 0 12 rfl rfl rfl hl.1 rfl (Nat.le_of_ble_eq_true rfl) dX12_readTerm_43 ⟨Nat.le_refl _, Nat.le_refl _⟩ (fun u91 H locs hw89 hP hD hS => ?_)
                        have hP : va_P D vwCl (mW K o r u91 a g) H := hP
                        have hD : va_D A (mW K o r u91 a g) := hD
                        have hI : mI u91 a := hw89.1
                        have eE92 : fE [19, 20, 21] u82 u91 := hw89.2.1
                        have hE : fE [19, 20, 21] f u91 := fE_tr hE eE92
                        obtain ⟨ik93, nk93, hgk93, hlek93, hNk93, hck93⟩ := hw89.2.2
                        rcases hck93 with ⟨-, h2k93, h3k93, hGk93⟩ | ⟨-, hbk93, hGk93⟩ | hdk93
                        · obtain ⟨gv94, egv94⟩ : ∃ z : Int32, z = u91 19 := ⟨_, rfl⟩
                          have hg95 : gv94.toInt = ((ik93 : Nat) : Int) := by rw [egv94]; exact hgk93
                          have b96 : kb 0 gv94 400 := kb_tok (rS_fE hE hp0 (by decide)) hNk93 hg95
                          obtain ⟨z97, ez97⟩ : ∃ z : Int32, z = u91 20 := ⟨_, rfl⟩
                          have hzz97 : z97.toInt = (nk93 : Int) := by rw [ez97]; exact h3k93.1
                          refine lv_goto (tgt := 5) hx hb dX12_readTerm_46 (by decide) ?_
                          exact ihlp13 (ik93) (nk93) u91 _ _ _  (by omega) hI hE (by rw [egv94.symm]; exact hg95) (⟨(Nat.le_trans (Nat.le_succ_of_le hvlp13_1.1) hlek93), hNk93⟩) (Or.inl ⟨h2k93, ⟨(by rw [ez97.symm]; exact hzz97), h3k93.2⟩, fun r h => xc r (pi_7y (Or.inr (Or.inr hTk84)) (pi_1 hGk93 h))⟩) hP hD hS (lv_sub hl [0, 1] rfl)
                        · obtain ⟨gv98, egv98⟩ : ∃ z : Int32, z = u91 19 := ⟨_, rfl⟩
                          have hg99 : gv98.toInt = ((ik93 : Nat) : Int) := by rw [egv98]; exact hgk93
                          have b100 : kb 0 gv98 400 := kb_tok (rS_fE hE hp0 (by decide)) hNk93 hg99
                          obtain ⟨z101, ez101⟩ : ∃ z : Int32, z = u91 21 := ⟨_, rfl⟩
                          have haz101 : z101 = a 17 (ik93) := by rw [ez101]; exact hbk93.1
                          have hnz101 : ¬ z101 = -1 := by rw [ez101]; exact hbk93.2
                          refine lv_goto (tgt := 5) hx hb dX12_readTerm_46 (by decide) ?_
                          exact ihlp13 (ik93) (0) u91 _ _ _  (by omega) hI hE (by rw [egv98.symm]; exact hg99) (⟨(Nat.le_trans (Nat.le_succ_of_le hvlp13_1.1) hlek93), hNk93⟩) (Or.inr ⟨⟨(ez101.symm).trans haz101, (fun q => hnz101 ((ez101.symm).symm.trans q))⟩, xc _ (pi_7y (Or.inr (Or.inr hTk84)) (pi_1f hGk93))⟩) hP hD hS (lv_sub hl [0, 1] rfl)
                        · exact absurd ((eE83 21 (by decide)).trans ((eE54 21 (by decide)).trans ((eE25 21 (by decide)).trans h2x))) hdk93.1
                    · refine k_top (z := 0) hvk84 ?_
                      obtain ⟨gv102, egv102⟩ : ∃ z : Int32, z = u82 19 := ⟨_, rfl⟩
                      have hg103 : gv102.toInt = ((i7 : Nat) : Int) := by rw [egv102]; exact hpk84
                      have b104 : kb 0 gv102 400 := kb_tok (rS_fE hE hp0 (by decide)) hvlp13_1.2 hg103
                      have hTk84 : ¬ T (i7) = 3037 := fun q => (hnk84 ((eE54 21 (by decide)).trans ((eE25 21 (by decide)).trans h2x))) (q.trans (by decide +kernel))
                      refine lv_if_eq (tgt := 49) hx hb dX12_readTerm_38 (by decide) (fun c105 => ?_) (fun c105 => ?_)
                      · exact kV_ret hx hb hr hlocks hK hS dX12_readTerm_49 u82 hP hD ⟨hI, hE, ⟨i7, n7, (by rw [egv102.symm]; exact hg103), hvlp13_1.1, hvlp13_1.2, Or.inl ⟨h21, ((eE83 21 (by decide)).trans ((eE54 21 (by decide)).trans ((eE25 21 (by decide)).trans h2x))), ⟨(by rw [((eE83 20 (by decide)).trans ((eE54 20 (by decide)).trans ((eE25 20 (by decide)).trans ez18.symm)))]; exact hzz18), h3x.2⟩, xc _ (pi_7n (fun q => q.elim hTk26 (fun q => q.elim hTk55 hTk84)))⟩⟩⟩
                      · exact kb_nsame c105 kc_0 kc_0
          · obtain ⟨z106, ez106⟩ : ∃ z : Int32, z = F12 21 := ⟨_, rfl⟩
            have haz106 : z106 = a 17 (i7) := by rw [ez106]; exact hbd.1
            have hnz106 : ¬ z106 = -1 := by rw [ez106]; exact hbd.2
            refine lv_aload_n hx hb dX12_readTerm_5 rfl (lv_at hl 0 rfl) ?_
            refine lv_bipush (v := 42) hx hb dX12_readTerm_6 (by decide) ?_
            refine kN.callS (As := [.int 42]) (rest := [.ref o]) ⟨hx, hb, hml, hown, hg⟩ (m_sign l 42 (kb_w kc_42 (by decide) (by decide))) (va_cwS 1 hg (kgS wt6_220 wt6_221 wt1_14 wt6_222) rfl rfl rfl (by decide +kernel) ⟨by dsimp only [rmD]; omega, by dsimp only [rmD]; omega⟩) hP hS rfl hl.1 rfl (Nat.le_of_ble_eq_true rfl) dX12_readTerm_8 ⟨Nat.le_refl _, Nat.le_refl _⟩ (fun v108 H locs hw107 hP hS => ?_)
            refine k_top (z := 142) (Int32.toInt_inj.mp (hw107.2.trans (by decide +kernel))) ?_
            refine kI.callV (As := [.int 142]) (rest := []) ⟨hx, hb, hml, hown, hg⟩ (q_takes0 l o r F12 a g hI 142 (kb_w kc_142 (by decide) (by decide)) N (i7) ob T (rS_fE hE hp0 (by decide)) (by rw [egv15.symm]; exact hg16) hvlp13_1.2 hp3 (by decide +kernel)) (cwV 1 hg (kgV wt6_200 wt6_202 wp4_6 wt1_14 wt6_203) rfl rfl rfl (by decide +kernel) ⟨by dsimp only [rmD]; omega, by dsimp only [rmD]; omega⟩) hK hP hD hS hA mIs [] rfl (wr := []) rfl rfl rfl (fun i h => by cases h) 0 12 rfl rfl rfl hl.1 rfl (Nat.le_of_ble_eq_true rfl) dX12_readTerm_11 ⟨Nat.le_refl _, Nat.le_refl _⟩ (fun v111 u112 H locs hw110 hP hD hS => ?_)
            have hP : va_P D vwCl (mW K o r u112 a g) H := hP
            have hD : va_D A (mW K o r u112 a g) := hD
            have hI : mI u112 a := hw110.2.1
            have eE113 : fE [19] F12 u112 := hw110.2.2.1
            have hE : fE [19, 20, 21] f u112 := fE_tr hE (fE_w (by decide) eE113)
            obtain ⟨hvk114, hnk114, hpk114⟩ := (hw110.2.2.2).elim (fun q => absurd q.2.1 (fun q => hnz106 ((ez106.symm).symm.trans q))) (fun q => q)
            refine k_top (z := 0) hvk114 ?_
            obtain ⟨gv115, egv115⟩ : ∃ z : Int32, z = u112 19 := ⟨_, rfl⟩
            have hg116 : gv115.toInt = ((i7 : Nat) : Int) := by rw [egv115]; exact hpk114
            have b117 : kb 0 gv115 400 := kb_tok (rS_fE hE hp0 (by decide)) hvlp13_1.2 hg116
            refine lv_if_ne (tgt := 41) hx hb dX12_readTerm_14 (by decide) (fun c118 => ?_) (fun c118 => ?_)
            · exact kb_nsame c118 kc_0 kc_0
            · refine lv_aload_n hx hb dX12_readTerm_17 rfl (lv_at hl 0 rfl) ?_
              refine lv_bipush (v := 47) hx hb dX12_readTerm_18 (by decide) ?_
              refine kN.callS (As := [.int 47]) (rest := [.ref o]) ⟨hx, hb, hml, hown, hg⟩ (m_sign l 47 (kb_w kc_47 (by decide) (by decide))) (va_cwS 1 hg (kgS wt6_220 wt6_221 wt1_14 wt6_222) rfl rfl rfl (by decide +kernel) ⟨by dsimp only [rmD]; omega, by dsimp only [rmD]; omega⟩) hP hS rfl hl.1 rfl (Nat.le_of_ble_eq_true rfl) dX12_readTerm_20 ⟨Nat.le_refl _, Nat.le_refl _⟩ (fun v120 H locs hw119 hP hS => ?_)
              refine k_top (z := 147) (Int32.toInt_inj.mp (hw119.2.trans (by decide +kernel))) ?_
              refine kI.callV (As := [.int 147]) (rest := []) ⟨hx, hb, hml, hown, hg⟩ (q_takes0 l o r u112 a g hI 147 (kb_w kc_147 (by decide) (by decide)) N (i7) ob T (rS_fE hE hp0 (by decide)) (by rw [egv115.symm]; exact hg116) hvlp13_1.2 hp3 (by decide +kernel)) (cwV 1 hg (kgV wt6_200 wt6_202 wp4_6 wt1_14 wt6_203) rfl rfl rfl (by decide +kernel) ⟨by dsimp only [rmD]; omega, by dsimp only [rmD]; omega⟩) hK hP hD hS hA mIs [] rfl (wr := []) rfl rfl rfl (fun i h => by cases h) 0 12 rfl rfl rfl hl.1 rfl (Nat.le_of_ble_eq_true rfl) dX12_readTerm_23 ⟨Nat.le_refl _, Nat.le_refl _⟩ (fun v123 u124 H locs hw122 hP hD hS => ?_)
              have hP : va_P D vwCl (mW K o r u124 a g) H := hP
              have hD : va_D A (mW K o r u124 a g) := hD
              have hI : mI u124 a := hw122.2.1
              have eE125 : fE [19] u112 u124 := hw122.2.2.1
              have hE : fE [19, 20, 21] f u124 := fE_tr hE (fE_w (by decide) eE125)
              obtain ⟨hvk126, hnk126, hpk126⟩ := (hw122.2.2.2).elim (fun q => absurd q.2.1 (fun q => hnz106 ((((eE113 21 (by decide)).trans ez106.symm)).symm.trans q))) (fun q => q)
              refine k_top (z := 0) hvk126 ?_
              obtain ⟨gv127, egv127⟩ : ∃ z : Int32, z = u124 19 := ⟨_, rfl⟩
              have hg128 : gv127.toInt = ((i7 : Nat) : Int) := by rw [egv127]; exact hpk126
              have b129 : kb 0 gv127 400 := kb_tok (rS_fE hE hp0 (by decide)) hvlp13_1.2 hg128
              refine lv_if_ne (tgt := 41) hx hb dX12_readTerm_26 (by decide) (fun c130 => ?_) (fun c130 => ?_)
              · exact kb_nsame c130 kc_0 kc_0
              · refine lv_aload_n hx hb dX12_readTerm_29 rfl (lv_at hl 0 rfl) ?_
                refine lv_bipush (v := 37) hx hb dX12_readTerm_30 (by decide) ?_
                refine kN.callS (As := [.int 37]) (rest := [.ref o]) ⟨hx, hb, hml, hown, hg⟩ (m_sign l 37 (kb_w kc_37 (by decide) (by decide))) (va_cwS 1 hg (kgS wt6_220 wt6_221 wt1_14 wt6_222) rfl rfl rfl (by decide +kernel) ⟨by dsimp only [rmD]; omega, by dsimp only [rmD]; omega⟩) hP hS rfl hl.1 rfl (Nat.le_of_ble_eq_true rfl) dX12_readTerm_32 ⟨Nat.le_refl _, Nat.le_refl _⟩ (fun v132 H locs hw131 hP hS => ?_)
                refine k_top (z := 137) (Int32.toInt_inj.mp (hw131.2.trans (by decide +kernel))) ?_
                refine kI.callV (As := [.int 137]) (rest := []) ⟨hx, hb, hml, hown, hg⟩ (q_takes0 l o r u124 a g hI 137 (kb_w kc_137 (by decide) (by decide)) N (i7) ob T (rS_fE hE hp0 (by decide)) (by rw [egv127.symm]; exact hg128) hvlp13_1.2 hp3 (by decide +kernel)) (cwV 1 hg (kgV wt6_200 wt6_202 wp4_6 wt1_14 wt6_203) rfl rfl rfl (by decide +kernel) ⟨by dsimp only [rmD]; omega, by dsimp only [rmD]; omega⟩) hK hP hD hS hA mIs [] rfl (wr := []) rfl rfl rfl (fun i h => by cases h) 0 12 rfl rfl rfl hl.1 rfl (Nat.le_of_ble_eq_true rfl) dX12_readTerm_35 ⟨Nat.le_refl _, Nat.le_refl _⟩ (fun v135 u136 H locs hw134 hP hD hS => ?_)
                have hP : va_P D vwCl (mW K o r u136 a g) H := hP
                have hD : va_D A (mW K o r u136 a g) := hD
                have hI : mI u136 a := hw134.2.1
                have eE137 : fE [19] u124 u136 := hw134.2.2.1
                have hE : fE [19, 20, 21] f u136 := fE_tr hE (fE_w (by decide) eE137)
                obtain ⟨hvk138, hnk138, hpk138⟩ := (hw134.2.2.2).elim (fun q => absurd q.2.1 (fun q => hnz106 ((((eE125 21 (by decide)).trans ((eE113 21 (by decide)).trans ez106.symm))).symm.trans q))) (fun q => q)
                refine k_top (z := 0) hvk138 ?_
                obtain ⟨gv139, egv139⟩ : ∃ z : Int32, z = u136 19 := ⟨_, rfl⟩
                have hg140 : gv139.toInt = ((i7 : Nat) : Int) := by rw [egv139]; exact hpk138
                have b141 : kb 0 gv139 400 := kb_tok (rS_fE hE hp0 (by decide)) hvlp13_1.2 hg140
                refine lv_if_eq (tgt := 49) hx hb dX12_readTerm_38 (by decide) (fun c142 => ?_) (fun c142 => ?_)
                · exact kV_ret hx hb hr hlocks hK hS dX12_readTerm_49 u136 hP hD ⟨hI, hE, ⟨i7, 0, (by rw [egv139.symm]; exact hg140), hvlp13_1.1, hvlp13_1.2, Or.inr (Or.inl ⟨h21, ⟨(((eE137 21 (by decide)).trans ((eE125 21 (by decide)).trans ((eE113 21 (by decide)).trans ez106.symm)))).trans haz106, (fun q => hnz106 ((((eE137 21 (by decide)).trans ((eE125 21 (by decide)).trans ((eE113 21 (by decide)).trans ez106.symm)))).symm.trans q))⟩, xb⟩)⟩⟩
                · exact kb_nsame c142 kc_0 kc_0
      exact lp13 (N + 1) (ik7) (nk7) u5 _ _ _  (by omega) hI hE (by rw [egv8.symm]; exact hg9) (⟨(Nat.le_trans (Nat.le_refl i) hlek7), hNk7⟩) (Or.inl ⟨h2k7, ⟨(by rw [ez11.symm]; exact hzz11), h3k7.2⟩, fun r h => pi_1 hGk7 h⟩) hP hD hS (lv_sub hl [0, 1] rfl)
    · obtain ⟨gv143, egv143⟩ : ∃ z : Int32, z = u5 19 := ⟨_, rfl⟩
      have hg144 : gv143.toInt = ((ik7 : Nat) : Int) := by rw [egv143]; exact hgk7
      have b145 : kb 0 gv143 400 := kb_tok (rS_fE hE hp0 (by decide)) hNk7 hg144
      obtain ⟨z146, ez146⟩ : ∃ z : Int32, z = u5 21 := ⟨_, rfl⟩
      have haz146 : z146 = a 17 (ik7) := by rw [ez146]; exact hbk7.1
      have hnz146 : ¬ z146 = -1 := by rw [ez146]; exact hbk7.2
      have lp148 : ∀ (n149 : Nat) (i7 : Nat) (n7 : Nat) (F147 : Nat → Int32) (H : Heap) (locs : List Loc) (ls : Array Slot), ((N : Int) < (i7 : Int) + (n149 : Int)) → (mI F147 a) → (fE [19, 20, 21] f F147) → ((F147 19).toInt = (i7 : Int)) → (i ≤ i7 ∧ i7 ≤ N) → (F147 21 = z146 ∧ i7 = ik7) → va_P D vwCl (mW K o r F147 a g) H → va_D A (mW K o r F147 a g) → va_S A s.heap H locs → lv_has ls 2 [(0, .ref o), (1, .int dp)] → W p l e (rmD (3 * d + 7) 0 0) s m ([.ref o, .int dp] : List Value).toArray below meth c H locs 0 0 (kQv D (tysK K) (fun (u : Nat → Int32) => mI u a ∧ fE [19, 20, 21] f u ∧ (∃ i2 n2 : Nat, (u 19).toInt = (i2 : Int) ∧ i ≤ i2 ∧ i2 ≤ N ∧ ((f 21 = -1 ∧ u 21 = -1 ∧ ((u 20).toInt = (n2 : Int) ∧ n2 ≤ 50) ∧ pG ob T d 1 i n (true, i2, n2)) ∨ (f 21 = -1 ∧ (u 21 = a 17 i2 ∧ ¬ u 21 = -1) ∧ pG ob T d 1 i n (false, i2, 0)) ∨ (¬ f 21 = -1 ∧ u 21 = f 21 ∧ i2 = i)))) (fun u => mW K o r u a g) A below ([.ref o, .int dp] : List Value).toArray s 0 0) (F0 m 5 ls []) := by
        intro n149
        induction n149 with
        | zero =>
          intro i7 n7 F147  H locs ls  hmlp148 hI hE hvlp148_0 hvlp148_1 hvlp148_2 hP hD hS hl
          exact (by have w1 := hmlp148; have w2 := hvlp148_1.2; omega : False).elim
        | succ n149 ihlp148 =>
          intro i7 n7 F147  H locs ls  hmlp148 hI hE hvlp148_0 hvlp148_1 hvlp148_2 hP hD hS hl
          obtain ⟨gv150, egv150⟩ : ∃ z : Int32, z = F147 19 := ⟨_, rfl⟩
          have hg151 : gv150.toInt = ((i7 : Nat) : Int) := by rw [egv150]; exact hvlp148_0
          have b152 : kb 0 gv150 400 := kb_tok (rS_fE hE hp0 (by decide)) hvlp148_1.2 hg151
          refine lv_aload_n hx hb dX12_readTerm_5 rfl (lv_at hl 0 rfl) ?_
          refine lv_bipush (v := 42) hx hb dX12_readTerm_6 (by decide) ?_
          refine kN.callS (As := [.int 42]) (rest := [.ref o]) ⟨hx, hb, hml, hown, hg⟩ (m_sign l 42 (kb_w kc_42 (by decide) (by decide))) (va_cwS 1 hg (kgS wt6_220 wt6_221 wt1_14 wt6_222) rfl rfl rfl (by decide +kernel) ⟨by dsimp only [rmD]; omega, by dsimp only [rmD]; omega⟩) hP hS rfl hl.1 rfl (Nat.le_of_ble_eq_true rfl) dX12_readTerm_8 ⟨Nat.le_refl _, Nat.le_refl _⟩ (fun v154 H locs hw153 hP hS => ?_)
          refine k_top (z := 142) (Int32.toInt_inj.mp (hw153.2.trans (by decide +kernel))) ?_
          refine kI.callV (As := [.int 142]) (rest := []) ⟨hx, hb, hml, hown, hg⟩ (q_takes0 l o r F147 a g hI 142 (kb_w kc_142 (by decide) (by decide)) N (i7) ob T (rS_fE hE hp0 (by decide)) (by rw [egv150.symm]; exact hg151) hvlp148_1.2 hp3 (by decide +kernel)) (cwV 1 hg (kgV wt6_200 wt6_202 wp4_6 wt1_14 wt6_203) rfl rfl rfl (by decide +kernel) ⟨by dsimp only [rmD]; omega, by dsimp only [rmD]; omega⟩) hK hP hD hS hA mIs [] rfl (wr := []) rfl rfl rfl (fun i h => by cases h) 0 12 rfl rfl rfl hl.1 rfl (Nat.le_of_ble_eq_true rfl) dX12_readTerm_11 ⟨Nat.le_refl _, Nat.le_refl _⟩ (fun v157 u158 H locs hw156 hP hD hS => ?_)
          have hP : va_P D vwCl (mW K o r u158 a g) H := hP
          have hD : va_D A (mW K o r u158 a g) := hD
          have hI : mI u158 a := hw156.2.1
          have eE159 : fE [19] F147 u158 := hw156.2.2.1
          have hE : fE [19, 20, 21] f u158 := fE_tr hE (fE_w (by decide) eE159)
          obtain ⟨hvk160, hnk160, hpk160⟩ := (hw156.2.2.2).elim (fun q => absurd q.2.1 (fun q => hnz146 ((hvlp148_2.1).symm.trans q))) (fun q => q)
          refine k_top (z := 0) hvk160 ?_
          obtain ⟨gv161, egv161⟩ : ∃ z : Int32, z = u158 19 := ⟨_, rfl⟩
          have hg162 : gv161.toInt = ((i7 : Nat) : Int) := by rw [egv161]; exact hpk160
          have b163 : kb 0 gv161 400 := kb_tok (rS_fE hE hp0 (by decide)) hvlp148_1.2 hg162
          refine lv_if_ne (tgt := 41) hx hb dX12_readTerm_14 (by decide) (fun c164 => ?_) (fun c164 => ?_)
          · exact kb_nsame c164 kc_0 kc_0
          · refine lv_aload_n hx hb dX12_readTerm_17 rfl (lv_at hl 0 rfl) ?_
            refine lv_bipush (v := 47) hx hb dX12_readTerm_18 (by decide) ?_
            refine kN.callS (As := [.int 47]) (rest := [.ref o]) ⟨hx, hb, hml, hown, hg⟩ (m_sign l 47 (kb_w kc_47 (by decide) (by decide))) (va_cwS 1 hg (kgS wt6_220 wt6_221 wt1_14 wt6_222) rfl rfl rfl (by decide +kernel) ⟨by dsimp only [rmD]; omega, by dsimp only [rmD]; omega⟩) hP hS rfl hl.1 rfl (Nat.le_of_ble_eq_true rfl) dX12_readTerm_20 ⟨Nat.le_refl _, Nat.le_refl _⟩ (fun v166 H locs hw165 hP hS => ?_)
            refine k_top (z := 147) (Int32.toInt_inj.mp (hw165.2.trans (by decide +kernel))) ?_
            refine kI.callV (As := [.int 147]) (rest := []) ⟨hx, hb, hml, hown, hg⟩ (q_takes0 l o r u158 a g hI 147 (kb_w kc_147 (by decide) (by decide)) N (i7) ob T (rS_fE hE hp0 (by decide)) (by rw [egv161.symm]; exact hg162) hvlp148_1.2 hp3 (by decide +kernel)) (cwV 1 hg (kgV wt6_200 wt6_202 wp4_6 wt1_14 wt6_203) rfl rfl rfl (by decide +kernel) ⟨by dsimp only [rmD]; omega, by dsimp only [rmD]; omega⟩) hK hP hD hS hA mIs [] rfl (wr := []) rfl rfl rfl (fun i h => by cases h) 0 12 rfl rfl rfl hl.1 rfl (Nat.le_of_ble_eq_true rfl) dX12_readTerm_23 ⟨Nat.le_refl _, Nat.le_refl _⟩ (fun v169 u170 H locs hw168 hP hD hS => ?_)
            have hP : va_P D vwCl (mW K o r u170 a g) H := hP
            have hD : va_D A (mW K o r u170 a g) := hD
            have hI : mI u170 a := hw168.2.1
            have eE171 : fE [19] u158 u170 := hw168.2.2.1
            have hE : fE [19, 20, 21] f u170 := fE_tr hE (fE_w (by decide) eE171)
            obtain ⟨hvk172, hnk172, hpk172⟩ := (hw168.2.2.2).elim (fun q => absurd q.2.1 (fun q => hnz146 ((((eE159 21 (by decide)).trans hvlp148_2.1)).symm.trans q))) (fun q => q)
            refine k_top (z := 0) hvk172 ?_
            obtain ⟨gv173, egv173⟩ : ∃ z : Int32, z = u170 19 := ⟨_, rfl⟩
            have hg174 : gv173.toInt = ((i7 : Nat) : Int) := by rw [egv173]; exact hpk172
            have b175 : kb 0 gv173 400 := kb_tok (rS_fE hE hp0 (by decide)) hvlp148_1.2 hg174
            refine lv_if_ne (tgt := 41) hx hb dX12_readTerm_26 (by decide) (fun c176 => ?_) (fun c176 => ?_)
            · exact kb_nsame c176 kc_0 kc_0
            · refine lv_aload_n hx hb dX12_readTerm_29 rfl (lv_at hl 0 rfl) ?_
              refine lv_bipush (v := 37) hx hb dX12_readTerm_30 (by decide) ?_
              refine kN.callS (As := [.int 37]) (rest := [.ref o]) ⟨hx, hb, hml, hown, hg⟩ (m_sign l 37 (kb_w kc_37 (by decide) (by decide))) (va_cwS 1 hg (kgS wt6_220 wt6_221 wt1_14 wt6_222) rfl rfl rfl (by decide +kernel) ⟨by dsimp only [rmD]; omega, by dsimp only [rmD]; omega⟩) hP hS rfl hl.1 rfl (Nat.le_of_ble_eq_true rfl) dX12_readTerm_32 ⟨Nat.le_refl _, Nat.le_refl _⟩ (fun v178 H locs hw177 hP hS => ?_)
              refine k_top (z := 137) (Int32.toInt_inj.mp (hw177.2.trans (by decide +kernel))) ?_
              refine kI.callV (As := [.int 137]) (rest := []) ⟨hx, hb, hml, hown, hg⟩ (q_takes0 l o r u170 a g hI 137 (kb_w kc_137 (by decide) (by decide)) N (i7) ob T (rS_fE hE hp0 (by decide)) (by rw [egv173.symm]; exact hg174) hvlp148_1.2 hp3 (by decide +kernel)) (cwV 1 hg (kgV wt6_200 wt6_202 wp4_6 wt1_14 wt6_203) rfl rfl rfl (by decide +kernel) ⟨by dsimp only [rmD]; omega, by dsimp only [rmD]; omega⟩) hK hP hD hS hA mIs [] rfl (wr := []) rfl rfl rfl (fun i h => by cases h) 0 12 rfl rfl rfl hl.1 rfl (Nat.le_of_ble_eq_true rfl) dX12_readTerm_35 ⟨Nat.le_refl _, Nat.le_refl _⟩ (fun v181 u182 H locs hw180 hP hD hS => ?_)
              have hP : va_P D vwCl (mW K o r u182 a g) H := hP
              have hD : va_D A (mW K o r u182 a g) := hD
              have hI : mI u182 a := hw180.2.1
              have eE183 : fE [19] u170 u182 := hw180.2.2.1
              have hE : fE [19, 20, 21] f u182 := fE_tr hE (fE_w (by decide) eE183)
              obtain ⟨hvk184, hnk184, hpk184⟩ := (hw180.2.2.2).elim (fun q => absurd q.2.1 (fun q => hnz146 ((((eE171 21 (by decide)).trans ((eE159 21 (by decide)).trans hvlp148_2.1))).symm.trans q))) (fun q => q)
              refine k_top (z := 0) hvk184 ?_
              obtain ⟨gv185, egv185⟩ : ∃ z : Int32, z = u182 19 := ⟨_, rfl⟩
              have hg186 : gv185.toInt = ((i7 : Nat) : Int) := by rw [egv185]; exact hpk184
              have b187 : kb 0 gv185 400 := kb_tok (rS_fE hE hp0 (by decide)) hvlp148_1.2 hg186
              refine lv_if_eq (tgt := 49) hx hb dX12_readTerm_38 (by decide) (fun c188 => ?_) (fun c188 => ?_)
              · exact kV_ret hx hb hr hlocks hK hS dX12_readTerm_49 u182 hP hD ⟨hI, hE, ⟨i7, 0, (by rw [egv185.symm]; exact hg186), hvlp148_1.1, hvlp148_1.2, Or.inr (Or.inl ⟨h21, ⟨(((eE183 21 (by decide)).trans ((eE171 21 (by decide)).trans ((eE159 21 (by decide)).trans hvlp148_2.1)))).trans (by rw [hvlp148_2.2]; exact haz146), (fun q => hnz146 ((((eE183 21 (by decide)).trans ((eE171 21 (by decide)).trans ((eE159 21 (by decide)).trans hvlp148_2.1)))).symm.trans q))⟩, (by rw [hvlp148_2.2]; exact pi_1f hGk7)⟩)⟩⟩
              · exact kb_nsame c188 kc_0 kc_0
      exact lp148 (N + 1) (ik7) (0) u5 _ _ _  (by omega) hI hE (by rw [egv143.symm]; exact hg144) (⟨(Nat.le_trans (Nat.le_refl i) hlek7), hNk7⟩) (⟨ez146.symm, rfl⟩) hP hD hS (lv_sub hl [0, 1] rfl)
    · exact absurd h21 hdk7.1
  · obtain ⟨c21, ec21⟩ : ∃ z : Int32, z = f 21 := ⟨_, rfl⟩
    have hn21 : ¬ c21 = -1 := by rw [ec21]; exact h21
    refine lv_aload_n hx hb dX12_readTerm_0 rfl (lv_at hl 0 rfl) ?_
    refine lv_iload_n hx hb dX12_readTerm_1 rfl (lv_at hl 1 rfl) ?_
    refine kV.callV (As := [.int dp]) (rest := []) ⟨hx, hb, hml, hown, hg⟩ (hpart l o r f a g hI dp bdp N (i) (0) ob T (rS_fE hE hp0 (by decide)) (by rw [ec19.symm]; exact hg0) hp2 hp3 (fun q => absurd q (fun q => hn21 ((ec21.symm).symm.trans q))) hp5) (cwV 1 hg (kgV wt6_216 wt6_218 wp4_10 wt1_14 wt6_219) rfl rfl rfl (by decide +kernel) ⟨by dsimp only [rmD]; omega, by dsimp only [rmD]; omega⟩) hK hP hD hS hA mIs [] rfl (wr := []) rfl rfl rfl (fun i h => by cases h) 0 12 rfl rfl rfl hl.1 rfl (Nat.le_of_ble_eq_true rfl) dX12_readTerm_2 ⟨Nat.le_refl _, Nat.le_refl _⟩ (fun u191 H locs hw189 hP hD hS => ?_)
    have hP : va_P D vwCl (mW K o r u191 a g) H := hP
    have hD : va_D A (mW K o r u191 a g) := hD
    have hI : mI u191 a := hw189.1
    have eE192 : fE [19, 20, 21] f u191 := hw189.2.1
    have hE : fE [19, 20, 21] f u191 := fE_tr hE eE192
    obtain ⟨ik193, nk193, hgk193, hlek193, hNk193, hck193⟩ := hw189.2.2
    have hdk193 := hck193.elim (fun q => absurd q.1 (fun q => hn21 ((ec21.symm).symm.trans q))) (fun q => q.elim (fun q => absurd q.1 (fun q => hn21 ((ec21.symm).symm.trans q))) (fun q => q))
    have hhk193 : (u191 19).toInt = ((i : Nat) : Int) := by rw [← hdk193.2.2]; exact hgk193
    obtain ⟨gv194, egv194⟩ : ∃ z : Int32, z = u191 19 := ⟨_, rfl⟩
    have hg195 : gv194.toInt = ((i : Nat) : Int) := by rw [egv194]; exact hhk193
    have b196 : kb 0 gv194 400 := kb_tok (rS_fE hE hp0 (by decide)) hp2 hg195
    have lp198 : ∀ (n199 : Nat) (i7 : Nat) (n7 : Nat) (F197 : Nat → Int32) (H : Heap) (locs : List Loc) (ls : Array Slot), ((N : Int) < (i7 : Int) + (n199 : Int)) → (mI F197 a) → (fE [19, 20, 21] f F197) → ((F197 19).toInt = (i7 : Int)) → (i ≤ i7 ∧ i7 ≤ N) → (F197 21 = c21 ∧ i7 = i) → va_P D vwCl (mW K o r F197 a g) H → va_D A (mW K o r F197 a g) → va_S A s.heap H locs → lv_has ls 2 [(0, .ref o), (1, .int dp)] → W p l e (rmD (3 * d + 7) 0 0) s m ([.ref o, .int dp] : List Value).toArray below meth c H locs 0 0 (kQv D (tysK K) (fun (u : Nat → Int32) => mI u a ∧ fE [19, 20, 21] f u ∧ (∃ i2 n2 : Nat, (u 19).toInt = (i2 : Int) ∧ i ≤ i2 ∧ i2 ≤ N ∧ ((f 21 = -1 ∧ u 21 = -1 ∧ ((u 20).toInt = (n2 : Int) ∧ n2 ≤ 50) ∧ pG ob T d 1 i n (true, i2, n2)) ∨ (f 21 = -1 ∧ (u 21 = a 17 i2 ∧ ¬ u 21 = -1) ∧ pG ob T d 1 i n (false, i2, 0)) ∨ (¬ f 21 = -1 ∧ u 21 = f 21 ∧ i2 = i)))) (fun u => mW K o r u a g) A below ([.ref o, .int dp] : List Value).toArray s 0 0) (F0 m 5 ls []) := by
      intro n199
      induction n199 with
      | zero =>
        intro i7 n7 F197  H locs ls  hmlp198 hI hE hvlp198_0 hvlp198_1 hvlp198_2 hP hD hS hl
        exact (by have w1 := hmlp198; have w2 := hvlp198_1.2; omega : False).elim
      | succ n199 ihlp198 =>
        intro i7 n7 F197  H locs ls  hmlp198 hI hE hvlp198_0 hvlp198_1 hvlp198_2 hP hD hS hl
        obtain ⟨gv200, egv200⟩ : ∃ z : Int32, z = F197 19 := ⟨_, rfl⟩
        have hg201 : gv200.toInt = ((i7 : Nat) : Int) := by rw [egv200]; exact hvlp198_0
        have b202 : kb 0 gv200 400 := kb_tok (rS_fE hE hp0 (by decide)) hvlp198_1.2 hg201
        refine lv_aload_n hx hb dX12_readTerm_5 rfl (lv_at hl 0 rfl) ?_
        refine lv_bipush (v := 42) hx hb dX12_readTerm_6 (by decide) ?_
        refine kN.callS (As := [.int 42]) (rest := [.ref o]) ⟨hx, hb, hml, hown, hg⟩ (m_sign l 42 (kb_w kc_42 (by decide) (by decide))) (va_cwS 1 hg (kgS wt6_220 wt6_221 wt1_14 wt6_222) rfl rfl rfl (by decide +kernel) ⟨by dsimp only [rmD]; omega, by dsimp only [rmD]; omega⟩) hP hS rfl hl.1 rfl (Nat.le_of_ble_eq_true rfl) dX12_readTerm_8 ⟨Nat.le_refl _, Nat.le_refl _⟩ (fun v204 H locs hw203 hP hS => ?_)
        refine k_top (z := 142) (Int32.toInt_inj.mp (hw203.2.trans (by decide +kernel))) ?_
        refine kI.callV (As := [.int 142]) (rest := []) ⟨hx, hb, hml, hown, hg⟩ (q_takes0 l o r F197 a g hI 142 (kb_w kc_142 (by decide) (by decide)) N (i7) ob T (rS_fE hE hp0 (by decide)) (by rw [egv200.symm]; exact hg201) hvlp198_1.2 hp3 (by decide +kernel)) (cwV 1 hg (kgV wt6_200 wt6_202 wp4_6 wt1_14 wt6_203) rfl rfl rfl (by decide +kernel) ⟨by dsimp only [rmD]; omega, by dsimp only [rmD]; omega⟩) hK hP hD hS hA mIs [] rfl (wr := []) rfl rfl rfl (fun i h => by cases h) 0 12 rfl rfl rfl hl.1 rfl (Nat.le_of_ble_eq_true rfl) dX12_readTerm_11 ⟨Nat.le_refl _, Nat.le_refl _⟩ (fun v207 u208 H locs hw206 hP hD hS => ?_)
        have hP : va_P D vwCl (mW K o r u208 a g) H := hP
        have hD : va_D A (mW K o r u208 a g) := hD
        have hI : mI u208 a := hw206.2.1
        have eE209 : fE [19] F197 u208 := hw206.2.2.1
        have hE : fE [19, 20, 21] f u208 := fE_tr hE (fE_w (by decide) eE209)
        obtain ⟨hvk210, hnk210, hpk210⟩ := (hw206.2.2.2).elim (fun q => absurd q.2.1 (fun q => hn21 ((hvlp198_2.1).symm.trans q))) (fun q => q)
        refine k_top (z := 0) hvk210 ?_
        obtain ⟨gv211, egv211⟩ : ∃ z : Int32, z = u208 19 := ⟨_, rfl⟩
        have hg212 : gv211.toInt = ((i7 : Nat) : Int) := by rw [egv211]; exact hpk210
        have b213 : kb 0 gv211 400 := kb_tok (rS_fE hE hp0 (by decide)) hvlp198_1.2 hg212
        refine lv_if_ne (tgt := 41) hx hb dX12_readTerm_14 (by decide) (fun c214 => ?_) (fun c214 => ?_)
        · exact kb_nsame c214 kc_0 kc_0
        · refine lv_aload_n hx hb dX12_readTerm_17 rfl (lv_at hl 0 rfl) ?_
          refine lv_bipush (v := 47) hx hb dX12_readTerm_18 (by decide) ?_
          refine kN.callS (As := [.int 47]) (rest := [.ref o]) ⟨hx, hb, hml, hown, hg⟩ (m_sign l 47 (kb_w kc_47 (by decide) (by decide))) (va_cwS 1 hg (kgS wt6_220 wt6_221 wt1_14 wt6_222) rfl rfl rfl (by decide +kernel) ⟨by dsimp only [rmD]; omega, by dsimp only [rmD]; omega⟩) hP hS rfl hl.1 rfl (Nat.le_of_ble_eq_true rfl) dX12_readTerm_20 ⟨Nat.le_refl _, Nat.le_refl _⟩ (fun v216 H locs hw215 hP hS => ?_)
          refine k_top (z := 147) (Int32.toInt_inj.mp (hw215.2.trans (by decide +kernel))) ?_
          refine kI.callV (As := [.int 147]) (rest := []) ⟨hx, hb, hml, hown, hg⟩ (q_takes0 l o r u208 a g hI 147 (kb_w kc_147 (by decide) (by decide)) N (i7) ob T (rS_fE hE hp0 (by decide)) (by rw [egv211.symm]; exact hg212) hvlp198_1.2 hp3 (by decide +kernel)) (cwV 1 hg (kgV wt6_200 wt6_202 wp4_6 wt1_14 wt6_203) rfl rfl rfl (by decide +kernel) ⟨by dsimp only [rmD]; omega, by dsimp only [rmD]; omega⟩) hK hP hD hS hA mIs [] rfl (wr := []) rfl rfl rfl (fun i h => by cases h) 0 12 rfl rfl rfl hl.1 rfl (Nat.le_of_ble_eq_true rfl) dX12_readTerm_23 ⟨Nat.le_refl _, Nat.le_refl _⟩ (fun v219 u220 H locs hw218 hP hD hS => ?_)
          have hP : va_P D vwCl (mW K o r u220 a g) H := hP
          have hD : va_D A (mW K o r u220 a g) := hD
          have hI : mI u220 a := hw218.2.1
          have eE221 : fE [19] u208 u220 := hw218.2.2.1
          have hE : fE [19, 20, 21] f u220 := fE_tr hE (fE_w (by decide) eE221)
          obtain ⟨hvk222, hnk222, hpk222⟩ := (hw218.2.2.2).elim (fun q => absurd q.2.1 (fun q => hn21 ((((eE209 21 (by decide)).trans hvlp198_2.1)).symm.trans q))) (fun q => q)
          refine k_top (z := 0) hvk222 ?_
          obtain ⟨gv223, egv223⟩ : ∃ z : Int32, z = u220 19 := ⟨_, rfl⟩
          have hg224 : gv223.toInt = ((i7 : Nat) : Int) := by rw [egv223]; exact hpk222
          have b225 : kb 0 gv223 400 := kb_tok (rS_fE hE hp0 (by decide)) hvlp198_1.2 hg224
          refine lv_if_ne (tgt := 41) hx hb dX12_readTerm_26 (by decide) (fun c226 => ?_) (fun c226 => ?_)
          · exact kb_nsame c226 kc_0 kc_0
          · refine lv_aload_n hx hb dX12_readTerm_29 rfl (lv_at hl 0 rfl) ?_
            refine lv_bipush (v := 37) hx hb dX12_readTerm_30 (by decide) ?_
            refine kN.callS (As := [.int 37]) (rest := [.ref o]) ⟨hx, hb, hml, hown, hg⟩ (m_sign l 37 (kb_w kc_37 (by decide) (by decide))) (va_cwS 1 hg (kgS wt6_220 wt6_221 wt1_14 wt6_222) rfl rfl rfl (by decide +kernel) ⟨by dsimp only [rmD]; omega, by dsimp only [rmD]; omega⟩) hP hS rfl hl.1 rfl (Nat.le_of_ble_eq_true rfl) dX12_readTerm_32 ⟨Nat.le_refl _, Nat.le_refl _⟩ (fun v228 H locs hw227 hP hS => ?_)
            refine k_top (z := 137) (Int32.toInt_inj.mp (hw227.2.trans (by decide +kernel))) ?_
            refine kI.callV (As := [.int 137]) (rest := []) ⟨hx, hb, hml, hown, hg⟩ (q_takes0 l o r u220 a g hI 137 (kb_w kc_137 (by decide) (by decide)) N (i7) ob T (rS_fE hE hp0 (by decide)) (by rw [egv223.symm]; exact hg224) hvlp198_1.2 hp3 (by decide +kernel)) (cwV 1 hg (kgV wt6_200 wt6_202 wp4_6 wt1_14 wt6_203) rfl rfl rfl (by decide +kernel) ⟨by dsimp only [rmD]; omega, by dsimp only [rmD]; omega⟩) hK hP hD hS hA mIs [] rfl (wr := []) rfl rfl rfl (fun i h => by cases h) 0 12 rfl rfl rfl hl.1 rfl (Nat.le_of_ble_eq_true rfl) dX12_readTerm_35 ⟨Nat.le_refl _, Nat.le_refl _⟩ (fun v231 u232 H locs hw230 hP hD hS => ?_)
            have hP : va_P D vwCl (mW K o r u232 a g) H := hP
            have hD : va_D A (mW K o r u232 a g) := hD
            have hI : mI u232 a := hw230.2.1
            have eE233 : fE [19] u220 u232 := hw230.2.2.1
            have hE : fE [19, 20, 21] f u232 := fE_tr hE (fE_w (by decide) eE233)
            obtain ⟨hvk234, hnk234, hpk234⟩ := (hw230.2.2.2).elim (fun q => absurd q.2.1 (fun q => hn21 ((((eE221 21 (by decide)).trans ((eE209 21 (by decide)).trans hvlp198_2.1))).symm.trans q))) (fun q => q)
            refine k_top (z := 0) hvk234 ?_
            obtain ⟨gv235, egv235⟩ : ∃ z : Int32, z = u232 19 := ⟨_, rfl⟩
            have hg236 : gv235.toInt = ((i7 : Nat) : Int) := by rw [egv235]; exact hpk234
            have b237 : kb 0 gv235 400 := kb_tok (rS_fE hE hp0 (by decide)) hvlp198_1.2 hg236
            refine lv_if_eq (tgt := 49) hx hb dX12_readTerm_38 (by decide) (fun c238 => ?_) (fun c238 => ?_)
            · exact kV_ret hx hb hr hlocks hK hS dX12_readTerm_49 u232 hP hD ⟨hI, hE, ⟨i7, 0, (by rw [egv235.symm]; exact hg236), hvlp198_1.1, hvlp198_1.2, Or.inr (Or.inr ⟨h21, (((eE233 21 (by decide)).trans ((eE221 21 (by decide)).trans ((eE209 21 (by decide)).trans hvlp198_2.1)))).trans ec21, hvlp198_2.2⟩)⟩⟩
            · exact kb_nsame c238 kc_0 kc_0
    exact lp198 (N + 1) (i) (0) u191 _ _ _  (by omega) hI hE (by rw [egv194.symm]; exact hg195) (⟨(Nat.le_refl i), hp2⟩) (⟨(hdk193.2.1.trans ec21.symm), rfl⟩) hP hD hS (lv_sub hl [0, 1] rfl)
set_option maxHeartbeats 4000000 in
set_option maxRecDepth 100000 in
theorem q_readSum (d : Nat) (hterm : dRTerm d) (l : Launch) {D : va_G} {K : Nat → ClassId} (o : Nat) (r : Nat → Nat) (f : Nat → Int32) (a : Nat → Nat → Int32) (g : Nat → Int64) (hI : mI f a) (dp : Int32) (bdp : kb 0 dp 8) (N i n : Nat) (ob : Bool) (T : Nat → Int32) (hp0 : rS f a N ob) (hp1 : (f 19).toInt = (i : Int)) (hp2 : i ≤ N) (hp3 : rQ a N T) (hp4 : f 21 = -1 → (f 20).toInt = (n : Int) ∧ n ≤ 50) (hp5 : dp.toInt + (d : Int) = 8) : kV l yX12_readSum (Cond.code yX12_readSum cX12_readSum 2 none :: kG) (rmD (3 * d + 8) 0 0) D (tysK K) [.ref o, .int dp] (mW K o r f a g) (fun (u : Nat → Int32) => mI u a ∧ fE [19, 20, 21] f u ∧ (∃ i2 n2 : Nat, (u 19).toInt = (i2 : Int) ∧ i ≤ i2 ∧ i2 ≤ N ∧ ((f 21 = -1 ∧ u 21 = -1 ∧ ((u 20).toInt = (n2 : Int) ∧ n2 ≤ 50) ∧ pG ob T d 0 i n (true, i2, n2)) ∨ (f 21 = -1 ∧ (u 21 = a 17 i2 ∧ ¬ u 21 = -1) ∧ pG ob T d 0 i n (false, i2, 0)) ∨ (¬ f 21 = -1 ∧ u 21 = f 21 ∧ i2 = i)))) (fun u => mW K o r u a g) 0 0 := by
  refine kV.of (cc := cX12_readSum) (maxL := 2) (ret := none) (by decide) rfl (Nat.le_of_ble_eq_true rfl) ?_
  intro p e s m below meth c A hx hb hr hml hown hts hlocks hnm hK hP hD hS hA ls hl
  have hE : fE [19, 20, 21] f f := fE_rf
  have hg : ∀ w ∈ kG, w.before _ s = true := fun w h => hts w (List.mem_cons_of_mem _ h)
  have hown : s.vm.findClass RX12 = some m.cls := hown
  have hl : lv_has ls 2 [(0, .ref o), (1, .int dp)] := hl
  obtain ⟨c19, ec19⟩ : ∃ z : Int32, z = f 19 := ⟨_, rfl⟩
  have hg0 : c19.toInt = (i : Int) := by rw [ec19]; exact hp1
  have b1 : kb 0 c19 400 := kb_tok hp0 hp2 hg0
  by_cases h21 : f 21 = -1
  · obtain ⟨c20, ec20⟩ : ∃ z : Int32, z = f 20 := ⟨_, rfl⟩
    have hn20 : c20.toInt = (n : Int) := by rw [ec20]; exact (hp4 h21).1
    have hl50 : n ≤ 50 := (hp4 h21).2
    have b2 : kb 0 c20 50 := ⟨by omega, by omega⟩
    refine lv_aload_n hx hb dX12_readSum_0 rfl (lv_at hl 0 rfl) ?_
    refine lv_iload_n hx hb dX12_readSum_1 rfl (lv_at hl 1 rfl) ?_
    refine kV.callV (As := [.int dp]) (rest := []) ⟨hx, hb, hml, hown, hg⟩ (hterm l o r f a g hI dp bdp N (i) (n) ob T (rS_fE hE hp0 (by decide)) (by rw [ec19.symm]; exact hg0) hp2 hp3 (fun _ => ⟨(by rw [ec20.symm]; exact hn20), hl50⟩) hp5) (cwV 1 hg (kgV wt6_212 wt6_214 wp4_9 wt1_14 wt6_215) rfl rfl rfl (by decide +kernel) ⟨by dsimp only [rmD]; omega, by dsimp only [rmD]; omega⟩) hK hP hD hS hA mIs [] rfl (wr := []) rfl rfl rfl (fun i h => by cases h) 0 12 rfl rfl rfl hl.1 rfl (Nat.le_of_ble_eq_true rfl) dX12_readSum_2 ⟨Nat.le_refl _, Nat.le_refl _⟩ (fun u5 H locs hw3 hP hD hS => ?_)
    have hP : va_P D vwCl (mW K o r u5 a g) H := hP
    have hD : va_D A (mW K o r u5 a g) := hD
    have hI : mI u5 a := hw3.1
    have eE6 : fE [19, 20, 21] f u5 := hw3.2.1
    have hE : fE [19, 20, 21] f u5 := fE_tr hE eE6
    obtain ⟨ik7, nk7, hgk7, hlek7, hNk7, hck7⟩ := hw3.2.2
    rcases hck7 with ⟨-, h2k7, h3k7, hGk7⟩ | ⟨-, hbk7, hGk7⟩ | hdk7
    · obtain ⟨gv8, egv8⟩ : ∃ z : Int32, z = u5 19 := ⟨_, rfl⟩
      have hg9 : gv8.toInt = ((ik7 : Nat) : Int) := by rw [egv8]; exact hgk7
      have b10 : kb 0 gv8 400 := kb_tok (rS_fE hE hp0 (by decide)) hNk7 hg9
      obtain ⟨z11, ez11⟩ : ∃ z : Int32, z = u5 20 := ⟨_, rfl⟩
      have hzz11 : z11.toInt = (nk7 : Int) := by rw [ez11]; exact h3k7.1
      have lp13 : ∀ (n14 : Nat) (i6 : Nat) (n6 : Nat) (F12 : Nat → Int32) (H : Heap) (locs : List Loc) (ls : Array Slot), ((N : Int) < (i6 : Int) + (n14 : Int)) → (mI F12 a) → (fE [19, 20, 21] f F12) → ((F12 19).toInt = (i6 : Int)) → (i ≤ i6 ∧ i6 ≤ N) → ((F12 21 = -1 ∧ ((F12 20).toInt = (n6 : Int) ∧ n6 ≤ 50) ∧ ∀ r, pG ob T d 6 i6 n6 r → pG ob T d 0 i n r) ∨ ((F12 21 = a 17 i6 ∧ ¬ F12 21 = -1) ∧ pG ob T d 0 i n (false, i6, 0))) → va_P D vwCl (mW K o r F12 a g) H → va_D A (mW K o r F12 a g) → va_S A s.heap H locs → lv_has ls 2 [(0, .ref o), (1, .int dp)] → W p l e (rmD (3 * d + 8) 0 0) s m ([.ref o, .int dp] : List Value).toArray below meth c H locs 0 0 (kQv D (tysK K) (fun (u : Nat → Int32) => mI u a ∧ fE [19, 20, 21] f u ∧ (∃ i2 n2 : Nat, (u 19).toInt = (i2 : Int) ∧ i ≤ i2 ∧ i2 ≤ N ∧ ((f 21 = -1 ∧ u 21 = -1 ∧ ((u 20).toInt = (n2 : Int) ∧ n2 ≤ 50) ∧ pG ob T d 0 i n (true, i2, n2)) ∨ (f 21 = -1 ∧ (u 21 = a 17 i2 ∧ ¬ u 21 = -1) ∧ pG ob T d 0 i n (false, i2, 0)) ∨ (¬ f 21 = -1 ∧ u 21 = f 21 ∧ i2 = i)))) (fun u => mW K o r u a g) A below ([.ref o, .int dp] : List Value).toArray s 0 0) (F0 m 5 ls []) := by
        intro n14
        induction n14 with
        | zero =>
          intro i6 n6 F12  H locs ls  hmlp13 hI hE hvlp13_0 hvlp13_1 hvlp13_2 hP hD hS hl
          exact (by have w1 := hmlp13; have w2 := hvlp13_1.2; omega : False).elim
        | succ n14 ihlp13 =>
          intro i6 n6 F12  H locs ls  hmlp13 hI hE hvlp13_0 hvlp13_1 hvlp13_2 hP hD hS hl
          obtain ⟨gv15, egv15⟩ : ∃ z : Int32, z = F12 19 := ⟨_, rfl⟩
          have hg16 : gv15.toInt = ((i6 : Nat) : Int) := by rw [egv15]; exact hvlp13_0
          have b17 : kb 0 gv15 400 := kb_tok (rS_fE hE hp0 (by decide)) hvlp13_1.2 hg16
          rcases hvlp13_2 with ⟨h2x, h3x, xc⟩ | ⟨hbd, xb⟩
          · obtain ⟨z18, ez18⟩ : ∃ z : Int32, z = F12 20 := ⟨_, rfl⟩
            have hzz18 : z18.toInt = (n6 : Int) := by rw [ez18]; exact h3x.1
            refine lv_aload_n hx hb dX12_readSum_5 rfl (lv_at hl 0 rfl) ?_
            refine lv_bipush (v := 43) hx hb dX12_readSum_6 (by decide) ?_
            refine kN.callS (As := [.int 43]) (rest := [.ref o]) ⟨hx, hb, hml, hown, hg⟩ (m_sign l 43 (kb_w kc_43 (by decide) (by decide))) (va_cwS 1 hg (kgS wt6_220 wt6_221 wt1_14 wt6_222) rfl rfl rfl (by decide +kernel) ⟨by dsimp only [rmD]; omega, by dsimp only [rmD]; omega⟩) hP hS rfl hl.1 rfl (Nat.le_of_ble_eq_true rfl) dX12_readSum_8 ⟨Nat.le_refl _, Nat.le_refl _⟩ (fun v20 H locs hw19 hP hS => ?_)
            refine k_top (z := 143) (Int32.toInt_inj.mp (hw19.2.trans (by decide +kernel))) ?_
            refine kI.callV (As := [.int 143]) (rest := []) ⟨hx, hb, hml, hown, hg⟩ (q_takes0 l o r F12 a g hI 143 (kb_w kc_143 (by decide) (by decide)) N (i6) ob T (rS_fE hE hp0 (by decide)) (by rw [egv15.symm]; exact hg16) hvlp13_1.2 hp3 (by decide +kernel)) (cwV 1 hg (kgV wt6_200 wt6_202 wp4_6 wt1_14 wt6_203) rfl rfl rfl (by decide +kernel) ⟨by dsimp only [rmD]; omega, by dsimp only [rmD]; omega⟩) hK hP hD hS hA mIs [] rfl (wr := []) rfl rfl rfl (fun i h => by cases h) 0 12 rfl rfl rfl hl.1 rfl (Nat.le_of_ble_eq_true rfl) dX12_readSum_11 ⟨Nat.le_refl _, Nat.le_refl _⟩ (fun v23 u24 H locs hw22 hP hD hS => ?_)
            have hP : va_P D vwCl (mW K o r u24 a g) H := hP
            have hD : va_D A (mW K o r u24 a g) := hD
            have hI : mI u24 a := hw22.2.1
            have eE25 : fE [19] F12 u24 := hw22.2.2.1
            have hE : fE [19, 20, 21] f u24 := fE_tr hE (fE_w (by decide) eE25)
            rcases hw22.2.2.2 with ⟨hvk26, hbk26, htk26, hpk26, hlk26⟩ | ⟨hvk26, hnk26, hpk26⟩
            · refine k_top (z := 1) hvk26 ?_
              obtain ⟨gv27, egv27⟩ : ∃ z : Int32, z = u24 19 := ⟨_, rfl⟩
              have hg28 : gv27.toInt = ((i6 + 1 : Nat) : Int) := by rw [egv27]; exact hpk26
              have b29 : kb 0 gv27 400 := kb_tok (rS_fE hE hp0 (by decide)) hlk26 hg28
              have hTk26 : T (i6) = 3043 := htk26.trans (by decide +kernel)
              refine lv_if_ne (tgt := 29) hx hb dX12_readSum_14 (by decide) (fun c30 => ?_) (fun c30 => ?_)
              · refine lv_aload_n hx hb dX12_readSum_29 rfl (lv_at hl 0 rfl) ?_
                refine lv_iload_n hx hb dX12_readSum_30 rfl (lv_at hl 1 rfl) ?_
                refine kV.callV (As := [.int dp]) (rest := []) ⟨hx, hb, hml, hown, hg⟩ (hterm l o r u24 a g hI dp bdp N (i6 + 1) (n6) ob T (rS_fE hE hp0 (by decide)) (by rw [egv27.symm]; exact hg28) hlk26 hp3 (fun _ => ⟨(by rw [((eE25 20 (by decide)).trans ez18.symm)]; exact hzz18), h3x.2⟩) hp5) (cwV 1 hg (kgV wt6_212 wt6_214 wp4_9 wt1_14 wt6_215) rfl rfl rfl (by decide +kernel) ⟨by dsimp only [rmD]; omega, by dsimp only [rmD]; omega⟩) hK hP hD hS hA mIs [] rfl (wr := []) rfl rfl rfl (fun i h => by cases h) 0 12 rfl rfl rfl hl.1 rfl (Nat.le_of_ble_eq_true rfl) dX12_readSum_31 ⟨Nat.le_refl _, Nat.le_refl _⟩ (fun u33 H locs hw31 hP hD hS => ?_)
                have hP : va_P D vwCl (mW K o r u33 a g) H := hP
                have hD : va_D A (mW K o r u33 a g) := hD
                have hI : mI u33 a := hw31.1
                have eE34 : fE [19, 20, 21] u24 u33 := hw31.2.1
                have hE : fE [19, 20, 21] f u33 := fE_tr hE eE34
                obtain ⟨ik35, nk35, hgk35, hlek35, hNk35, hck35⟩ := hw31.2.2
                rcases hck35 with ⟨-, h2k35, h3k35, hGk35⟩ | ⟨-, hbk35, hGk35⟩ | hdk35
                · obtain ⟨gv36, egv36⟩ : ∃ z : Int32, z = u33 19 := ⟨_, rfl⟩
                  have hg37 : gv36.toInt = ((ik35 : Nat) : Int) := by rw [egv36]; exact hgk35
                  have b38 : kb 0 gv36 400 := kb_tok (rS_fE hE hp0 (by decide)) hNk35 hg37
                  obtain ⟨z39, ez39⟩ : ∃ z : Int32, z = u33 20 := ⟨_, rfl⟩
                  have hzz39 : z39.toInt = (nk35 : Int) := by rw [ez39]; exact h3k35.1
                  refine lv_goto (tgt := 5) hx hb dX12_readSum_34 (by decide) ?_
                  exact ihlp13 (ik35) (nk35) u33 _ _ _  (by omega) hI hE (by rw [egv36.symm]; exact hg37) (⟨(Nat.le_trans (Nat.le_succ_of_le hvlp13_1.1) hlek35), hNk35⟩) (Or.inl ⟨h2k35, ⟨(by rw [ez39.symm]; exact hzz39), h3k35.2⟩, fun r h => xc r (pi_6y (Or.inl hTk26) (pi_0 hGk35 h))⟩) hP hD hS (lv_sub hl [0, 1] rfl)
                · obtain ⟨gv40, egv40⟩ : ∃ z : Int32, z = u33 19 := ⟨_, rfl⟩
                  have hg41 : gv40.toInt = ((ik35 : Nat) : Int) := by rw [egv40]; exact hgk35
                  have b42 : kb 0 gv40 400 := kb_tok (rS_fE hE hp0 (by decide)) hNk35 hg41
                  obtain ⟨z43, ez43⟩ : ∃ z : Int32, z = u33 21 := ⟨_, rfl⟩
                  have haz43 : z43 = a 17 (ik35) := by rw [ez43]; exact hbk35.1
                  have hnz43 : ¬ z43 = -1 := by rw [ez43]; exact hbk35.2
                  refine lv_goto (tgt := 5) hx hb dX12_readSum_34 (by decide) ?_
                  exact ihlp13 (ik35) (0) u33 _ _ _  (by omega) hI hE (by rw [egv40.symm]; exact hg41) (⟨(Nat.le_trans (Nat.le_succ_of_le hvlp13_1.1) hlek35), hNk35⟩) (Or.inr ⟨⟨(ez43.symm).trans haz43, (fun q => hnz43 ((ez43.symm).symm.trans q))⟩, xc _ (pi_6y (Or.inl hTk26) (pi_0f hGk35))⟩) hP hD hS (lv_sub hl [0, 1] rfl)
                · exact absurd ((eE25 21 (by decide)).trans h2x) hdk35.1
              · exact kb_dj c30 kc_1 kc_0 (by decide)
            · refine k_top (z := 0) hvk26 ?_
              obtain ⟨gv44, egv44⟩ : ∃ z : Int32, z = u24 19 := ⟨_, rfl⟩
              have hg45 : gv44.toInt = ((i6 : Nat) : Int) := by rw [egv44]; exact hpk26
              have b46 : kb 0 gv44 400 := kb_tok (rS_fE hE hp0 (by decide)) hvlp13_1.2 hg45
              have hTk26 : ¬ T (i6) = 3043 := fun q => (hnk26 h2x) (q.trans (by decide +kernel))
              refine lv_if_ne (tgt := 29) hx hb dX12_readSum_14 (by decide) (fun c47 => ?_) (fun c47 => ?_)
              · exact kb_nsame c47 kc_0 kc_0
              · refine lv_aload_n hx hb dX12_readSum_17 rfl (lv_at hl 0 rfl) ?_
                refine lv_bipush (v := 45) hx hb dX12_readSum_18 (by decide) ?_
                refine kN.callS (As := [.int 45]) (rest := [.ref o]) ⟨hx, hb, hml, hown, hg⟩ (m_sign l 45 (kb_w kc_45 (by decide) (by decide))) (va_cwS 1 hg (kgS wt6_220 wt6_221 wt1_14 wt6_222) rfl rfl rfl (by decide +kernel) ⟨by dsimp only [rmD]; omega, by dsimp only [rmD]; omega⟩) hP hS rfl hl.1 rfl (Nat.le_of_ble_eq_true rfl) dX12_readSum_20 ⟨Nat.le_refl _, Nat.le_refl _⟩ (fun v49 H locs hw48 hP hS => ?_)
                refine k_top (z := 145) (Int32.toInt_inj.mp (hw48.2.trans (by decide +kernel))) ?_
                refine kI.callV (As := [.int 145]) (rest := []) ⟨hx, hb, hml, hown, hg⟩ (q_takes0 l o r u24 a g hI 145 (kb_w kc_145 (by decide) (by decide)) N (i6) ob T (rS_fE hE hp0 (by decide)) (by rw [egv44.symm]; exact hg45) hvlp13_1.2 hp3 (by decide +kernel)) (cwV 1 hg (kgV wt6_200 wt6_202 wp4_6 wt1_14 wt6_203) rfl rfl rfl (by decide +kernel) ⟨by dsimp only [rmD]; omega, by dsimp only [rmD]; omega⟩) hK hP hD hS hA mIs [] rfl (wr := []) rfl rfl rfl (fun i h => by cases h) 0 12 rfl rfl rfl hl.1 rfl (Nat.le_of_ble_eq_true rfl) dX12_readSum_23 ⟨Nat.le_refl _, Nat.le_refl _⟩ (fun v52 u53 H locs hw51 hP hD hS => ?_)
                have hP : va_P D vwCl (mW K o r u53 a g) H := hP
                have hD : va_D A (mW K o r u53 a g) := hD
                have hI : mI u53 a := hw51.2.1
                have eE54 : fE [19] u24 u53 := hw51.2.2.1
                have hE : fE [19, 20, 21] f u53 := fE_tr hE (fE_w (by decide) eE54)
                rcases hw51.2.2.2 with ⟨hvk55, hbk55, htk55, hpk55, hlk55⟩ | ⟨hvk55, hnk55, hpk55⟩
                · refine k_top (z := 1) hvk55 ?_
                  obtain ⟨gv56, egv56⟩ : ∃ z : Int32, z = u53 19 := ⟨_, rfl⟩
                  have hg57 : gv56.toInt = ((i6 + 1 : Nat) : Int) := by rw [egv56]; exact hpk55
                  have b58 : kb 0 gv56 400 := kb_tok (rS_fE hE hp0 (by decide)) hlk55 hg57
                  have hTk55 : T (i6) = 3045 := htk55.trans (by decide +kernel)
                  refine lv_if_eq (tgt := 37) hx hb dX12_readSum_26 (by decide) (fun c59 => ?_) (fun c59 => ?_)
                  · exact kb_dj c59 kc_1 kc_0 (by decide)
                  · refine lv_aload_n hx hb dX12_readSum_29 rfl (lv_at hl 0 rfl) ?_
                    refine lv_iload_n hx hb dX12_readSum_30 rfl (lv_at hl 1 rfl) ?_
                    refine kV.callV (As := [.int dp]) (rest := []) ⟨hx, hb, hml, hown, hg⟩ (hterm l o r u53 a g hI dp bdp N (i6 + 1) (n6) ob T (rS_fE hE hp0 (by decide)) (by rw [egv56.symm]; exact hg57) hlk55 hp3 (fun _ => ⟨(by rw [((eE54 20 (by decide)).trans ((eE25 20 (by decide)).trans ez18.symm))]; exact hzz18), h3x.2⟩) hp5) (cwV 1 hg (kgV wt6_212 wt6_214 wp4_9 wt1_14 wt6_215) rfl rfl rfl (by decide +kernel) ⟨by dsimp only [rmD]; omega, by dsimp only [rmD]; omega⟩) hK hP hD hS hA mIs [] rfl (wr := []) rfl rfl rfl (fun i h => by cases h) 0 12 rfl rfl rfl hl.1 rfl (Nat.le_of_ble_eq_true rfl) dX12_readSum_31 ⟨Nat.le_refl _, Nat.le_refl _⟩ (fun u62 H locs hw60 hP hD hS => ?_)
                    have hP : va_P D vwCl (mW K o r u62 a g) H := hP
                    have hD : va_D A (mW K o r u62 a g) := hD
                    have hI : mI u62 a := hw60.1
                    have eE63 : fE [19, 20, 21] u53 u62 := hw60.2.1
                    have hE : fE [19, 20, 21] f u62 := fE_tr hE eE63
                    obtain ⟨ik64, nk64, hgk64, hlek64, hNk64, hck64⟩ := hw60.2.2
                    rcases hck64 with ⟨-, h2k64, h3k64, hGk64⟩ | ⟨-, hbk64, hGk64⟩ | hdk64
                    · obtain ⟨gv65, egv65⟩ : ∃ z : Int32, z = u62 19 := ⟨_, rfl⟩
                      have hg66 : gv65.toInt = ((ik64 : Nat) : Int) := by rw [egv65]; exact hgk64
                      have b67 : kb 0 gv65 400 := kb_tok (rS_fE hE hp0 (by decide)) hNk64 hg66
                      obtain ⟨z68, ez68⟩ : ∃ z : Int32, z = u62 20 := ⟨_, rfl⟩
                      have hzz68 : z68.toInt = (nk64 : Int) := by rw [ez68]; exact h3k64.1
                      refine lv_goto (tgt := 5) hx hb dX12_readSum_34 (by decide) ?_
                      exact ihlp13 (ik64) (nk64) u62 _ _ _  (by omega) hI hE (by rw [egv65.symm]; exact hg66) (⟨(Nat.le_trans (Nat.le_succ_of_le hvlp13_1.1) hlek64), hNk64⟩) (Or.inl ⟨h2k64, ⟨(by rw [ez68.symm]; exact hzz68), h3k64.2⟩, fun r h => xc r (pi_6y (Or.inr hTk55) (pi_0 hGk64 h))⟩) hP hD hS (lv_sub hl [0, 1] rfl)
                    · obtain ⟨gv69, egv69⟩ : ∃ z : Int32, z = u62 19 := ⟨_, rfl⟩
                      have hg70 : gv69.toInt = ((ik64 : Nat) : Int) := by rw [egv69]; exact hgk64
                      have b71 : kb 0 gv69 400 := kb_tok (rS_fE hE hp0 (by decide)) hNk64 hg70
                      obtain ⟨z72, ez72⟩ : ∃ z : Int32, z = u62 21 := ⟨_, rfl⟩
                      have haz72 : z72 = a 17 (ik64) := by rw [ez72]; exact hbk64.1
                      have hnz72 : ¬ z72 = -1 := by rw [ez72]; exact hbk64.2
                      refine lv_goto (tgt := 5) hx hb dX12_readSum_34 (by decide) ?_
                      exact ihlp13 (ik64) (0) u62 _ _ _  (by omega) hI hE (by rw [egv69.symm]; exact hg70) (⟨(Nat.le_trans (Nat.le_succ_of_le hvlp13_1.1) hlek64), hNk64⟩) (Or.inr ⟨⟨(ez72.symm).trans haz72, (fun q => hnz72 ((ez72.symm).symm.trans q))⟩, xc _ (pi_6y (Or.inr hTk55) (pi_0f hGk64))⟩) hP hD hS (lv_sub hl [0, 1] rfl)
                    · exact absurd ((eE54 21 (by decide)).trans ((eE25 21 (by decide)).trans h2x)) hdk64.1
                · refine k_top (z := 0) hvk55 ?_
                  obtain ⟨gv73, egv73⟩ : ∃ z : Int32, z = u53 19 := ⟨_, rfl⟩
                  have hg74 : gv73.toInt = ((i6 : Nat) : Int) := by rw [egv73]; exact hpk55
                  have b75 : kb 0 gv73 400 := kb_tok (rS_fE hE hp0 (by decide)) hvlp13_1.2 hg74
                  have hTk55 : ¬ T (i6) = 3045 := fun q => (hnk55 ((eE25 21 (by decide)).trans h2x)) (q.trans (by decide +kernel))
                  refine lv_if_eq (tgt := 37) hx hb dX12_readSum_26 (by decide) (fun c76 => ?_) (fun c76 => ?_)
                  · exact kV_ret hx hb hr hlocks hK hS dX12_readSum_37 u53 hP hD ⟨hI, hE, ⟨i6, n6, (by rw [egv73.symm]; exact hg74), hvlp13_1.1, hvlp13_1.2, Or.inl ⟨h21, ((eE54 21 (by decide)).trans ((eE25 21 (by decide)).trans h2x)), ⟨(by rw [((eE54 20 (by decide)).trans ((eE25 20 (by decide)).trans ez18.symm))]; exact hzz18), h3x.2⟩, xc _ (pi_6n (fun q => q.elim hTk26 hTk55))⟩⟩⟩
                  · exact kb_nsame c76 kc_0 kc_0
          · obtain ⟨z77, ez77⟩ : ∃ z : Int32, z = F12 21 := ⟨_, rfl⟩
            have haz77 : z77 = a 17 (i6) := by rw [ez77]; exact hbd.1
            have hnz77 : ¬ z77 = -1 := by rw [ez77]; exact hbd.2
            refine lv_aload_n hx hb dX12_readSum_5 rfl (lv_at hl 0 rfl) ?_
            refine lv_bipush (v := 43) hx hb dX12_readSum_6 (by decide) ?_
            refine kN.callS (As := [.int 43]) (rest := [.ref o]) ⟨hx, hb, hml, hown, hg⟩ (m_sign l 43 (kb_w kc_43 (by decide) (by decide))) (va_cwS 1 hg (kgS wt6_220 wt6_221 wt1_14 wt6_222) rfl rfl rfl (by decide +kernel) ⟨by dsimp only [rmD]; omega, by dsimp only [rmD]; omega⟩) hP hS rfl hl.1 rfl (Nat.le_of_ble_eq_true rfl) dX12_readSum_8 ⟨Nat.le_refl _, Nat.le_refl _⟩ (fun v79 H locs hw78 hP hS => ?_)
            refine k_top (z := 143) (Int32.toInt_inj.mp (hw78.2.trans (by decide +kernel))) ?_
            refine kI.callV (As := [.int 143]) (rest := []) ⟨hx, hb, hml, hown, hg⟩ (q_takes0 l o r F12 a g hI 143 (kb_w kc_143 (by decide) (by decide)) N (i6) ob T (rS_fE hE hp0 (by decide)) (by rw [egv15.symm]; exact hg16) hvlp13_1.2 hp3 (by decide +kernel)) (cwV 1 hg (kgV wt6_200 wt6_202 wp4_6 wt1_14 wt6_203) rfl rfl rfl (by decide +kernel) ⟨by dsimp only [rmD]; omega, by dsimp only [rmD]; omega⟩) hK hP hD hS hA mIs [] rfl (wr := []) rfl rfl rfl (fun i h => by cases h) 0 12 rfl rfl rfl hl.1 rfl (Nat.le_of_ble_eq_true rfl) dX12_readSum_11 ⟨Nat.le_refl _, Nat.le_refl _⟩ (fun v82 u83 H locs hw81 hP hD hS => ?_)
            have hP : va_P D vwCl (mW K o r u83 a g) H := hP
            have hD : va_D A (mW K o r u83 a g) := hD
            have hI : mI u83 a := hw81.2.1
            have eE84 : fE [19] F12 u83 := hw81.2.2.1
            have hE : fE [19, 20, 21] f u83 := fE_tr hE (fE_w (by decide) eE84)
            obtain ⟨hvk85, hnk85, hpk85⟩ := (hw81.2.2.2).elim (fun q => absurd q.2.1 (fun q => hnz77 ((ez77.symm).symm.trans q))) (fun q => q)
            refine k_top (z := 0) hvk85 ?_
            obtain ⟨gv86, egv86⟩ : ∃ z : Int32, z = u83 19 := ⟨_, rfl⟩
            have hg87 : gv86.toInt = ((i6 : Nat) : Int) := by rw [egv86]; exact hpk85
            have b88 : kb 0 gv86 400 := kb_tok (rS_fE hE hp0 (by decide)) hvlp13_1.2 hg87
            refine lv_if_ne (tgt := 29) hx hb dX12_readSum_14 (by decide) (fun c89 => ?_) (fun c89 => ?_)
            · exact kb_nsame c89 kc_0 kc_0
            · refine lv_aload_n hx hb dX12_readSum_17 rfl (lv_at hl 0 rfl) ?_
              refine lv_bipush (v := 45) hx hb dX12_readSum_18 (by decide) ?_
              refine kN.callS (As := [.int 45]) (rest := [.ref o]) ⟨hx, hb, hml, hown, hg⟩ (m_sign l 45 (kb_w kc_45 (by decide) (by decide))) (va_cwS 1 hg (kgS wt6_220 wt6_221 wt1_14 wt6_222) rfl rfl rfl (by decide +kernel) ⟨by dsimp only [rmD]; omega, by dsimp only [rmD]; omega⟩) hP hS rfl hl.1 rfl (Nat.le_of_ble_eq_true rfl) dX12_readSum_20 ⟨Nat.le_refl _, Nat.le_refl _⟩ (fun v91 H locs hw90 hP hS => ?_)
              refine k_top (z := 145) (Int32.toInt_inj.mp (hw90.2.trans (by decide +kernel))) ?_
              refine kI.callV (As := [.int 145]) (rest := []) ⟨hx, hb, hml, hown, hg⟩ (q_takes0 l o r u83 a g hI 145 (kb_w kc_145 (by decide) (by decide)) N (i6) ob T (rS_fE hE hp0 (by decide)) (by rw [egv86.symm]; exact hg87) hvlp13_1.2 hp3 (by decide +kernel)) (cwV 1 hg (kgV wt6_200 wt6_202 wp4_6 wt1_14 wt6_203) rfl rfl rfl (by decide +kernel) ⟨by dsimp only [rmD]; omega, by dsimp only [rmD]; omega⟩) hK hP hD hS hA mIs [] rfl (wr := []) rfl rfl rfl (fun i h => by cases h) 0 12 rfl rfl rfl hl.1 rfl (Nat.le_of_ble_eq_true rfl) dX12_readSum_23 ⟨Nat.le_refl _, Nat.le_refl _⟩ (fun v94 u95 H locs hw93 hP hD hS => ?_)
              have hP : va_P D vwCl (mW K o r u95 a g) H := hP
              have hD : va_D A (mW K o r u95 a g) := hD
              have hI : mI u95 a := hw93.2.1
              have eE96 : fE [19] u83 u95 := hw93.2.2.1
              have hE : fE [19, 20, 21] f u95 := fE_tr hE (fE_w (by decide) eE96)
              obtain ⟨hvk97, hnk97, hpk97⟩ := (hw93.2.2.2).elim (fun q => absurd q.2.1 (fun q => hnz77 ((((eE84 21 (by decide)).trans ez77.symm)).symm.trans q))) (fun q => q)
              refine k_top (z := 0) hvk97 ?_
              obtain ⟨gv98, egv98⟩ : ∃ z : Int32, z = u95 19 := ⟨_, rfl⟩
              have hg99 : gv98.toInt = ((i6 : Nat) : Int) := by rw [egv98]; exact hpk97
              have b100 : kb 0 gv98 400 := kb_tok (rS_fE hE hp0 (by decide)) hvlp13_1.2 hg99
              refine lv_if_eq (tgt := 37) hx hb dX12_readSum_26 (by decide) (fun c101 => ?_) (fun c101 => ?_)
              · exact kV_ret hx hb hr hlocks hK hS dX12_readSum_37 u95 hP hD ⟨hI, hE, ⟨i6, 0, (by rw [egv98.symm]; exact hg99), hvlp13_1.1, hvlp13_1.2, Or.inr (Or.inl ⟨h21, ⟨(((eE96 21 (by decide)).trans ((eE84 21 (by decide)).trans ez77.symm))).trans haz77, (fun q => hnz77 ((((eE96 21 (by decide)).trans ((eE84 21 (by decide)).trans ez77.symm))).symm.trans q))⟩, xb⟩)⟩⟩
              · exact kb_nsame c101 kc_0 kc_0
      exact lp13 (N + 1) (ik7) (nk7) u5 _ _ _  (by omega) hI hE (by rw [egv8.symm]; exact hg9) (⟨(Nat.le_trans (Nat.le_refl i) hlek7), hNk7⟩) (Or.inl ⟨h2k7, ⟨(by rw [ez11.symm]; exact hzz11), h3k7.2⟩, fun r h => pi_0 hGk7 h⟩) hP hD hS (lv_sub hl [0, 1] rfl)
    · obtain ⟨gv102, egv102⟩ : ∃ z : Int32, z = u5 19 := ⟨_, rfl⟩
      have hg103 : gv102.toInt = ((ik7 : Nat) : Int) := by rw [egv102]; exact hgk7
      have b104 : kb 0 gv102 400 := kb_tok (rS_fE hE hp0 (by decide)) hNk7 hg103
      obtain ⟨z105, ez105⟩ : ∃ z : Int32, z = u5 21 := ⟨_, rfl⟩
      have haz105 : z105 = a 17 (ik7) := by rw [ez105]; exact hbk7.1
      have hnz105 : ¬ z105 = -1 := by rw [ez105]; exact hbk7.2
      have lp107 : ∀ (n108 : Nat) (i6 : Nat) (n6 : Nat) (F106 : Nat → Int32) (H : Heap) (locs : List Loc) (ls : Array Slot), ((N : Int) < (i6 : Int) + (n108 : Int)) → (mI F106 a) → (fE [19, 20, 21] f F106) → ((F106 19).toInt = (i6 : Int)) → (i ≤ i6 ∧ i6 ≤ N) → (F106 21 = z105 ∧ i6 = ik7) → va_P D vwCl (mW K o r F106 a g) H → va_D A (mW K o r F106 a g) → va_S A s.heap H locs → lv_has ls 2 [(0, .ref o), (1, .int dp)] → W p l e (rmD (3 * d + 8) 0 0) s m ([.ref o, .int dp] : List Value).toArray below meth c H locs 0 0 (kQv D (tysK K) (fun (u : Nat → Int32) => mI u a ∧ fE [19, 20, 21] f u ∧ (∃ i2 n2 : Nat, (u 19).toInt = (i2 : Int) ∧ i ≤ i2 ∧ i2 ≤ N ∧ ((f 21 = -1 ∧ u 21 = -1 ∧ ((u 20).toInt = (n2 : Int) ∧ n2 ≤ 50) ∧ pG ob T d 0 i n (true, i2, n2)) ∨ (f 21 = -1 ∧ (u 21 = a 17 i2 ∧ ¬ u 21 = -1) ∧ pG ob T d 0 i n (false, i2, 0)) ∨ (¬ f 21 = -1 ∧ u 21 = f 21 ∧ i2 = i)))) (fun u => mW K o r u a g) A below ([.ref o, .int dp] : List Value).toArray s 0 0) (F0 m 5 ls []) := by
        intro n108
        induction n108 with
        | zero =>
          intro i6 n6 F106  H locs ls  hmlp107 hI hE hvlp107_0 hvlp107_1 hvlp107_2 hP hD hS hl
          exact (by have w1 := hmlp107; have w2 := hvlp107_1.2; omega : False).elim
        | succ n108 ihlp107 =>
          intro i6 n6 F106  H locs ls  hmlp107 hI hE hvlp107_0 hvlp107_1 hvlp107_2 hP hD hS hl
          obtain ⟨gv109, egv109⟩ : ∃ z : Int32, z = F106 19 := ⟨_, rfl⟩
          have hg110 : gv109.toInt = ((i6 : Nat) : Int) := by rw [egv109]; exact hvlp107_0
          have b111 : kb 0 gv109 400 := kb_tok (rS_fE hE hp0 (by decide)) hvlp107_1.2 hg110
          refine lv_aload_n hx hb dX12_readSum_5 rfl (lv_at hl 0 rfl) ?_
          refine lv_bipush (v := 43) hx hb dX12_readSum_6 (by decide) ?_
          refine kN.callS (As := [.int 43]) (rest := [.ref o]) ⟨hx, hb, hml, hown, hg⟩ (m_sign l 43 (kb_w kc_43 (by decide) (by decide))) (va_cwS 1 hg (kgS wt6_220 wt6_221 wt1_14 wt6_222) rfl rfl rfl (by decide +kernel) ⟨by dsimp only [rmD]; omega, by dsimp only [rmD]; omega⟩) hP hS rfl hl.1 rfl (Nat.le_of_ble_eq_true rfl) dX12_readSum_8 ⟨Nat.le_refl _, Nat.le_refl _⟩ (fun v113 H locs hw112 hP hS => ?_)
          refine k_top (z := 143) (Int32.toInt_inj.mp (hw112.2.trans (by decide +kernel))) ?_
          refine kI.callV (As := [.int 143]) (rest := []) ⟨hx, hb, hml, hown, hg⟩ (q_takes0 l o r F106 a g hI 143 (kb_w kc_143 (by decide) (by decide)) N (i6) ob T (rS_fE hE hp0 (by decide)) (by rw [egv109.symm]; exact hg110) hvlp107_1.2 hp3 (by decide +kernel)) (cwV 1 hg (kgV wt6_200 wt6_202 wp4_6 wt1_14 wt6_203) rfl rfl rfl (by decide +kernel) ⟨by dsimp only [rmD]; omega, by dsimp only [rmD]; omega⟩) hK hP hD hS hA mIs [] rfl (wr := []) rfl rfl rfl (fun i h => by cases h) 0 12 rfl rfl rfl hl.1 rfl (Nat.le_of_ble_eq_true rfl) dX12_readSum_11 ⟨Nat.le_refl _, Nat.le_refl _⟩ (fun v116 u117 H locs hw115 hP hD hS => ?_)
          have hP : va_P D vwCl (mW K o r u117 a g) H := hP
          have hD : va_D A (mW K o r u117 a g) := hD
          have hI : mI u117 a := hw115.2.1
          have eE118 : fE [19] F106 u117 := hw115.2.2.1
          have hE : fE [19, 20, 21] f u117 := fE_tr hE (fE_w (by decide) eE118)
          obtain ⟨hvk119, hnk119, hpk119⟩ := (hw115.2.2.2).elim (fun q => absurd q.2.1 (fun q => hnz105 ((hvlp107_2.1).symm.trans q))) (fun q => q)
          refine k_top (z := 0) hvk119 ?_
          obtain ⟨gv120, egv120⟩ : ∃ z : Int32, z = u117 19 := ⟨_, rfl⟩
          have hg121 : gv120.toInt = ((i6 : Nat) : Int) := by rw [egv120]; exact hpk119
          have b122 : kb 0 gv120 400 := kb_tok (rS_fE hE hp0 (by decide)) hvlp107_1.2 hg121
          refine lv_if_ne (tgt := 29) hx hb dX12_readSum_14 (by decide) (fun c123 => ?_) (fun c123 => ?_)
          · exact kb_nsame c123 kc_0 kc_0
          · refine lv_aload_n hx hb dX12_readSum_17 rfl (lv_at hl 0 rfl) ?_
            refine lv_bipush (v := 45) hx hb dX12_readSum_18 (by decide) ?_
            refine kN.callS (As := [.int 45]) (rest := [.ref o]) ⟨hx, hb, hml, hown, hg⟩ (m_sign l 45 (kb_w kc_45 (by decide) (by decide))) (va_cwS 1 hg (kgS wt6_220 wt6_221 wt1_14 wt6_222) rfl rfl rfl (by decide +kernel) ⟨by dsimp only [rmD]; omega, by dsimp only [rmD]; omega⟩) hP hS rfl hl.1 rfl (Nat.le_of_ble_eq_true rfl) dX12_readSum_20 ⟨Nat.le_refl _, Nat.le_refl _⟩ (fun v125 H locs hw124 hP hS => ?_)
            refine k_top (z := 145) (Int32.toInt_inj.mp (hw124.2.trans (by decide +kernel))) ?_
            refine kI.callV (As := [.int 145]) (rest := []) ⟨hx, hb, hml, hown, hg⟩ (q_takes0 l o r u117 a g hI 145 (kb_w kc_145 (by decide) (by decide)) N (i6) ob T (rS_fE hE hp0 (by decide)) (by rw [egv120.symm]; exact hg121) hvlp107_1.2 hp3 (by decide +kernel)) (cwV 1 hg (kgV wt6_200 wt6_202 wp4_6 wt1_14 wt6_203) rfl rfl rfl (by decide +kernel) ⟨by dsimp only [rmD]; omega, by dsimp only [rmD]; omega⟩) hK hP hD hS hA mIs [] rfl (wr := []) rfl rfl rfl (fun i h => by cases h) 0 12 rfl rfl rfl hl.1 rfl (Nat.le_of_ble_eq_true rfl) dX12_readSum_23 ⟨Nat.le_refl _, Nat.le_refl _⟩ (fun v128 u129 H locs hw127 hP hD hS => ?_)
            have hP : va_P D vwCl (mW K o r u129 a g) H := hP
            have hD : va_D A (mW K o r u129 a g) := hD
            have hI : mI u129 a := hw127.2.1
            have eE130 : fE [19] u117 u129 := hw127.2.2.1
            have hE : fE [19, 20, 21] f u129 := fE_tr hE (fE_w (by decide) eE130)
            obtain ⟨hvk131, hnk131, hpk131⟩ := (hw127.2.2.2).elim (fun q => absurd q.2.1 (fun q => hnz105 ((((eE118 21 (by decide)).trans hvlp107_2.1)).symm.trans q))) (fun q => q)
            refine k_top (z := 0) hvk131 ?_
            obtain ⟨gv132, egv132⟩ : ∃ z : Int32, z = u129 19 := ⟨_, rfl⟩
            have hg133 : gv132.toInt = ((i6 : Nat) : Int) := by rw [egv132]; exact hpk131
            have b134 : kb 0 gv132 400 := kb_tok (rS_fE hE hp0 (by decide)) hvlp107_1.2 hg133
            refine lv_if_eq (tgt := 37) hx hb dX12_readSum_26 (by decide) (fun c135 => ?_) (fun c135 => ?_)
            · exact kV_ret hx hb hr hlocks hK hS dX12_readSum_37 u129 hP hD ⟨hI, hE, ⟨i6, 0, (by rw [egv132.symm]; exact hg133), hvlp107_1.1, hvlp107_1.2, Or.inr (Or.inl ⟨h21, ⟨(((eE130 21 (by decide)).trans ((eE118 21 (by decide)).trans hvlp107_2.1))).trans (by rw [hvlp107_2.2]; exact haz105), (fun q => hnz105 ((((eE130 21 (by decide)).trans ((eE118 21 (by decide)).trans hvlp107_2.1))).symm.trans q))⟩, (by rw [hvlp107_2.2]; exact pi_0f hGk7)⟩)⟩⟩
            · exact kb_nsame c135 kc_0 kc_0
      exact lp107 (N + 1) (ik7) (0) u5 _ _ _  (by omega) hI hE (by rw [egv102.symm]; exact hg103) (⟨(Nat.le_trans (Nat.le_refl i) hlek7), hNk7⟩) (⟨ez105.symm, rfl⟩) hP hD hS (lv_sub hl [0, 1] rfl)
    · exact absurd h21 hdk7.1
  · obtain ⟨c21, ec21⟩ : ∃ z : Int32, z = f 21 := ⟨_, rfl⟩
    have hn21 : ¬ c21 = -1 := by rw [ec21]; exact h21
    refine lv_aload_n hx hb dX12_readSum_0 rfl (lv_at hl 0 rfl) ?_
    refine lv_iload_n hx hb dX12_readSum_1 rfl (lv_at hl 1 rfl) ?_
    refine kV.callV (As := [.int dp]) (rest := []) ⟨hx, hb, hml, hown, hg⟩ (hterm l o r f a g hI dp bdp N (i) (0) ob T (rS_fE hE hp0 (by decide)) (by rw [ec19.symm]; exact hg0) hp2 hp3 (fun q => absurd q (fun q => hn21 ((ec21.symm).symm.trans q))) hp5) (cwV 1 hg (kgV wt6_212 wt6_214 wp4_9 wt1_14 wt6_215) rfl rfl rfl (by decide +kernel) ⟨by dsimp only [rmD]; omega, by dsimp only [rmD]; omega⟩) hK hP hD hS hA mIs [] rfl (wr := []) rfl rfl rfl (fun i h => by cases h) 0 12 rfl rfl rfl hl.1 rfl (Nat.le_of_ble_eq_true rfl) dX12_readSum_2 ⟨Nat.le_refl _, Nat.le_refl _⟩ (fun u138 H locs hw136 hP hD hS => ?_)
    have hP : va_P D vwCl (mW K o r u138 a g) H := hP
    have hD : va_D A (mW K o r u138 a g) := hD
    have hI : mI u138 a := hw136.1
    have eE139 : fE [19, 20, 21] f u138 := hw136.2.1
    have hE : fE [19, 20, 21] f u138 := fE_tr hE eE139
    obtain ⟨ik140, nk140, hgk140, hlek140, hNk140, hck140⟩ := hw136.2.2
    have hdk140 := hck140.elim (fun q => absurd q.1 (fun q => hn21 ((ec21.symm).symm.trans q))) (fun q => q.elim (fun q => absurd q.1 (fun q => hn21 ((ec21.symm).symm.trans q))) (fun q => q))
    have hhk140 : (u138 19).toInt = ((i : Nat) : Int) := by rw [← hdk140.2.2]; exact hgk140
    obtain ⟨gv141, egv141⟩ : ∃ z : Int32, z = u138 19 := ⟨_, rfl⟩
    have hg142 : gv141.toInt = ((i : Nat) : Int) := by rw [egv141]; exact hhk140
    have b143 : kb 0 gv141 400 := kb_tok (rS_fE hE hp0 (by decide)) hp2 hg142
    have lp145 : ∀ (n146 : Nat) (i6 : Nat) (n6 : Nat) (F144 : Nat → Int32) (H : Heap) (locs : List Loc) (ls : Array Slot), ((N : Int) < (i6 : Int) + (n146 : Int)) → (mI F144 a) → (fE [19, 20, 21] f F144) → ((F144 19).toInt = (i6 : Int)) → (i ≤ i6 ∧ i6 ≤ N) → (F144 21 = c21 ∧ i6 = i) → va_P D vwCl (mW K o r F144 a g) H → va_D A (mW K o r F144 a g) → va_S A s.heap H locs → lv_has ls 2 [(0, .ref o), (1, .int dp)] → W p l e (rmD (3 * d + 8) 0 0) s m ([.ref o, .int dp] : List Value).toArray below meth c H locs 0 0 (kQv D (tysK K) (fun (u : Nat → Int32) => mI u a ∧ fE [19, 20, 21] f u ∧ (∃ i2 n2 : Nat, (u 19).toInt = (i2 : Int) ∧ i ≤ i2 ∧ i2 ≤ N ∧ ((f 21 = -1 ∧ u 21 = -1 ∧ ((u 20).toInt = (n2 : Int) ∧ n2 ≤ 50) ∧ pG ob T d 0 i n (true, i2, n2)) ∨ (f 21 = -1 ∧ (u 21 = a 17 i2 ∧ ¬ u 21 = -1) ∧ pG ob T d 0 i n (false, i2, 0)) ∨ (¬ f 21 = -1 ∧ u 21 = f 21 ∧ i2 = i)))) (fun u => mW K o r u a g) A below ([.ref o, .int dp] : List Value).toArray s 0 0) (F0 m 5 ls []) := by
      intro n146
      induction n146 with
      | zero =>
        intro i6 n6 F144  H locs ls  hmlp145 hI hE hvlp145_0 hvlp145_1 hvlp145_2 hP hD hS hl
        exact (by have w1 := hmlp145; have w2 := hvlp145_1.2; omega : False).elim
      | succ n146 ihlp145 =>
        intro i6 n6 F144  H locs ls  hmlp145 hI hE hvlp145_0 hvlp145_1 hvlp145_2 hP hD hS hl
        obtain ⟨gv147, egv147⟩ : ∃ z : Int32, z = F144 19 := ⟨_, rfl⟩
        have hg148 : gv147.toInt = ((i6 : Nat) : Int) := by rw [egv147]; exact hvlp145_0
        have b149 : kb 0 gv147 400 := kb_tok (rS_fE hE hp0 (by decide)) hvlp145_1.2 hg148
        refine lv_aload_n hx hb dX12_readSum_5 rfl (lv_at hl 0 rfl) ?_
        refine lv_bipush (v := 43) hx hb dX12_readSum_6 (by decide) ?_
        refine kN.callS (As := [.int 43]) (rest := [.ref o]) ⟨hx, hb, hml, hown, hg⟩ (m_sign l 43 (kb_w kc_43 (by decide) (by decide))) (va_cwS 1 hg (kgS wt6_220 wt6_221 wt1_14 wt6_222) rfl rfl rfl (by decide +kernel) ⟨by dsimp only [rmD]; omega, by dsimp only [rmD]; omega⟩) hP hS rfl hl.1 rfl (Nat.le_of_ble_eq_true rfl) dX12_readSum_8 ⟨Nat.le_refl _, Nat.le_refl _⟩ (fun v151 H locs hw150 hP hS => ?_)
        refine k_top (z := 143) (Int32.toInt_inj.mp (hw150.2.trans (by decide +kernel))) ?_
        refine kI.callV (As := [.int 143]) (rest := []) ⟨hx, hb, hml, hown, hg⟩ (q_takes0 l o r F144 a g hI 143 (kb_w kc_143 (by decide) (by decide)) N (i6) ob T (rS_fE hE hp0 (by decide)) (by rw [egv147.symm]; exact hg148) hvlp145_1.2 hp3 (by decide +kernel)) (cwV 1 hg (kgV wt6_200 wt6_202 wp4_6 wt1_14 wt6_203) rfl rfl rfl (by decide +kernel) ⟨by dsimp only [rmD]; omega, by dsimp only [rmD]; omega⟩) hK hP hD hS hA mIs [] rfl (wr := []) rfl rfl rfl (fun i h => by cases h) 0 12 rfl rfl rfl hl.1 rfl (Nat.le_of_ble_eq_true rfl) dX12_readSum_11 ⟨Nat.le_refl _, Nat.le_refl _⟩ (fun v154 u155 H locs hw153 hP hD hS => ?_)
        have hP : va_P D vwCl (mW K o r u155 a g) H := hP
        have hD : va_D A (mW K o r u155 a g) := hD
        have hI : mI u155 a := hw153.2.1
        have eE156 : fE [19] F144 u155 := hw153.2.2.1
        have hE : fE [19, 20, 21] f u155 := fE_tr hE (fE_w (by decide) eE156)
        obtain ⟨hvk157, hnk157, hpk157⟩ := (hw153.2.2.2).elim (fun q => absurd q.2.1 (fun q => hn21 ((hvlp145_2.1).symm.trans q))) (fun q => q)
        refine k_top (z := 0) hvk157 ?_
        obtain ⟨gv158, egv158⟩ : ∃ z : Int32, z = u155 19 := ⟨_, rfl⟩
        have hg159 : gv158.toInt = ((i6 : Nat) : Int) := by rw [egv158]; exact hpk157
        have b160 : kb 0 gv158 400 := kb_tok (rS_fE hE hp0 (by decide)) hvlp145_1.2 hg159
        refine lv_if_ne (tgt := 29) hx hb dX12_readSum_14 (by decide) (fun c161 => ?_) (fun c161 => ?_)
        · exact kb_nsame c161 kc_0 kc_0
        · refine lv_aload_n hx hb dX12_readSum_17 rfl (lv_at hl 0 rfl) ?_
          refine lv_bipush (v := 45) hx hb dX12_readSum_18 (by decide) ?_
          refine kN.callS (As := [.int 45]) (rest := [.ref o]) ⟨hx, hb, hml, hown, hg⟩ (m_sign l 45 (kb_w kc_45 (by decide) (by decide))) (va_cwS 1 hg (kgS wt6_220 wt6_221 wt1_14 wt6_222) rfl rfl rfl (by decide +kernel) ⟨by dsimp only [rmD]; omega, by dsimp only [rmD]; omega⟩) hP hS rfl hl.1 rfl (Nat.le_of_ble_eq_true rfl) dX12_readSum_20 ⟨Nat.le_refl _, Nat.le_refl _⟩ (fun v163 H locs hw162 hP hS => ?_)
          refine k_top (z := 145) (Int32.toInt_inj.mp (hw162.2.trans (by decide +kernel))) ?_
          refine kI.callV (As := [.int 145]) (rest := []) ⟨hx, hb, hml, hown, hg⟩ (q_takes0 l o r u155 a g hI 145 (kb_w kc_145 (by decide) (by decide)) N (i6) ob T (rS_fE hE hp0 (by decide)) (by rw [egv158.symm]; exact hg159) hvlp145_1.2 hp3 (by decide +kernel)) (cwV 1 hg (kgV wt6_200 wt6_202 wp4_6 wt1_14 wt6_203) rfl rfl rfl (by decide +kernel) ⟨by dsimp only [rmD]; omega, by dsimp only [rmD]; omega⟩) hK hP hD hS hA mIs [] rfl (wr := []) rfl rfl rfl (fun i h => by cases h) 0 12 rfl rfl rfl hl.1 rfl (Nat.le_of_ble_eq_true rfl) dX12_readSum_23 ⟨Nat.le_refl _, Nat.le_refl _⟩ (fun v166 u167 H locs hw165 hP hD hS => ?_)
          have hP : va_P D vwCl (mW K o r u167 a g) H := hP
          have hD : va_D A (mW K o r u167 a g) := hD
          have hI : mI u167 a := hw165.2.1
          have eE168 : fE [19] u155 u167 := hw165.2.2.1
          have hE : fE [19, 20, 21] f u167 := fE_tr hE (fE_w (by decide) eE168)
          obtain ⟨hvk169, hnk169, hpk169⟩ := (hw165.2.2.2).elim (fun q => absurd q.2.1 (fun q => hn21 ((((eE156 21 (by decide)).trans hvlp145_2.1)).symm.trans q))) (fun q => q)
          refine k_top (z := 0) hvk169 ?_
          obtain ⟨gv170, egv170⟩ : ∃ z : Int32, z = u167 19 := ⟨_, rfl⟩
          have hg171 : gv170.toInt = ((i6 : Nat) : Int) := by rw [egv170]; exact hpk169
          have b172 : kb 0 gv170 400 := kb_tok (rS_fE hE hp0 (by decide)) hvlp145_1.2 hg171
          refine lv_if_eq (tgt := 37) hx hb dX12_readSum_26 (by decide) (fun c173 => ?_) (fun c173 => ?_)
          · exact kV_ret hx hb hr hlocks hK hS dX12_readSum_37 u167 hP hD ⟨hI, hE, ⟨i6, 0, (by rw [egv170.symm]; exact hg171), hvlp145_1.1, hvlp145_1.2, Or.inr (Or.inr ⟨h21, (((eE168 21 (by decide)).trans ((eE156 21 (by decide)).trans hvlp145_2.1))).trans ec21, hvlp145_2.2⟩)⟩⟩
          · exact kb_nsame c173 kc_0 kc_0
    exact lp145 (N + 1) (i) (0) u138 _ _ _  (by omega) hI hE (by rw [egv141.symm]; exact hg142) (⟨(Nat.le_refl i), hp2⟩) (⟨(hdk140.2.1.trans ec21.symm), rfl⟩) hP hD hS (lv_sub hl [0, 1] rfl)
set_option maxHeartbeats 4000000 in
set_option maxRecDepth 100000 in
theorem q_readPlain (d : Nat) (ih : ∀ ee, d = ee + 1 → dRTest ee) (hsum : dRSum d) (l : Launch) {D : va_G} {K : Nat → ClassId} (o : Nat) (r : Nat → Nat) (f : Nat → Int32) (a : Nat → Nat → Int32) (g : Nat → Int64) (hI : mI f a) (dp : Int32) (bdp : kb 0 dp 8) (N i n : Nat) (ob : Bool) (T : Nat → Int32) (hp0 : rS f a N ob) (hp1 : (f 19).toInt = (i : Int)) (hp2 : i ≤ N) (hp3 : rQ a N T) (hp4 : f 21 = -1 → (f 20).toInt = (n : Int) ∧ n ≤ 50) (hp5 : dp.toInt + (d : Int) = 8) : kV l yX12_readPlain (Cond.code yX12_readPlain cX12_readPlain 4 none :: kG) (rmD (4 * d + 13) 0 0) D (tysK K) [.ref o, .int dp] (mW K o r f a g) (fun (u : Nat → Int32) => mI u a ∧ fE [19, 20, 21] f u ∧ (∃ i2 n2 : Nat, (u 19).toInt = (i2 : Int) ∧ i ≤ i2 ∧ i2 ≤ N ∧ ((f 21 = -1 ∧ u 21 = -1 ∧ ((u 20).toInt = (n2 : Int) ∧ n2 ≤ 50) ∧ pG ob T d 5 i n (true, i2, n2)) ∨ (f 21 = -1 ∧ (u 21 = a 17 i2 ∧ ¬ u 21 = -1) ∧ pG ob T d 5 i n (false, i2, 0)) ∨ (¬ f 21 = -1 ∧ u 21 = f 21 ∧ i2 = i)))) (fun u => mW K o r u a g) 0 0 := by
  refine kV.of (cc := cX12_readPlain) (maxL := 4) (ret := none) (by decide) rfl (Nat.le_of_ble_eq_true rfl) ?_
  intro p e s m below meth c A hx hb hr hml hown hts hlocks hnm hK hP hD hS hA ls hl
  have hE : fE [19, 20, 21] f f := fE_rf
  have hg : ∀ w ∈ kG, w.before _ s = true := fun w h => hts w (List.mem_cons_of_mem _ h)
  have hown : s.vm.findClass RX12 = some m.cls := hown
  have hl : lv_has ls 4 [(0, .ref o), (1, .int dp)] := hl
  obtain ⟨c19, ec19⟩ : ∃ z : Int32, z = f 19 := ⟨_, rfl⟩
  have hg0 : c19.toInt = (i : Int) := by rw [ec19]; exact hp1
  have b1 : kb 0 c19 400 := kb_tok hp0 hp2 hg0
  by_cases h21 : f 21 = -1
  · obtain ⟨c20, ec20⟩ : ∃ z : Int32, z = f 20 := ⟨_, rfl⟩
    have hn20 : c20.toInt = (n : Int) := by rw [ec20]; exact (hp4 h21).1
    have hl50 : n ≤ 50 := (hp4 h21).2
    have b2 : kb 0 c20 50 := ⟨by omega, by omega⟩
    refine lv_iconst (v := 1) hx hb dX12_readPlain_0 (by decide) ?_
    refine lv_istore_n (lv' := [(2, .int 1), (0, .ref o), (1, .int dp)]) hx hb dX12_readPlain_1 rfl hl (by decide) rfl (fun ls hl => ?_)
    have lp5 : ∀ (n6 : Nat) (i5 : Nat) (n5 : Nat) (F4 : Nat → Int32) (H : Heap) (locs : List Loc) (ls : Array Slot) (y3 : Int32), ((N : Int) + 1 < (i5 : Int) + (n6 : Int) + (if y3 = 0 then 1 else 0)) → (mI F4 a) → (fE [19, 20, 21] f F4) → (kb 0 y3 1) → ((F4 19).toInt = (i5 : Int)) → (i ≤ i5 ∧ i5 ≤ N) → (F4 21 = -1 ∧ ((F4 20).toInt = (n5 : Int) ∧ n5 ≤ 50) ∧ (∀ r, pG ob T d 5 i5 n5 r → pG ob T d 5 i n r) ∧ (y3 = 0 → ¬ T i5 = 2002)) → va_P D vwCl (mW K o r F4 a g) H → va_D A (mW K o r F4 a g) → va_S A s.heap H locs → lv_has ls 4 [(2, .int y3), (0, .ref o), (1, .int dp)] → W p l e (rmD (4 * d + 13) 0 0) s m ([.ref o, .int dp] : List Value).toArray below meth c H locs 0 0 (kQv D (tysK K) (fun (u : Nat → Int32) => mI u a ∧ fE [19, 20, 21] f u ∧ (∃ i2 n2 : Nat, (u 19).toInt = (i2 : Int) ∧ i ≤ i2 ∧ i2 ≤ N ∧ ((f 21 = -1 ∧ u 21 = -1 ∧ ((u 20).toInt = (n2 : Int) ∧ n2 ≤ 50) ∧ pG ob T d 5 i n (true, i2, n2)) ∨ (f 21 = -1 ∧ (u 21 = a 17 i2 ∧ ¬ u 21 = -1) ∧ pG ob T d 5 i n (false, i2, 0)) ∨ (¬ f 21 = -1 ∧ u 21 = f 21 ∧ i2 = i)))) (fun u => mW K o r u a g) A below ([.ref o, .int dp] : List Value).toArray s 0 0) (F0 m 2 ls []) := by
      intro n6
      induction n6 with
      | zero =>
        intro i5 n5 F4  H locs ls y3 hmlp5 hI hE b7 hvlp5_0 hvlp5_1 hvlp5_2 hP hD hS hl
        exact (by have w1 := hmlp5; have w2 := hvlp5_1.2; split at w1 <;> omega : False).elim
      | succ n6 ihlp5 =>
        intro i5 n5 F4  H locs ls y3 hmlp5 hI hE b7 hvlp5_0 hvlp5_1 hvlp5_2 hP hD hS hl
        obtain ⟨gv8, egv8⟩ : ∃ z : Int32, z = F4 19 := ⟨_, rfl⟩
        have hg9 : gv8.toInt = ((i5 : Nat) : Int) := by rw [egv8]; exact hvlp5_0
        have b10 : kb 0 gv8 400 := kb_tok (rS_fE hE hp0 (by decide)) hvlp5_1.2 hg9
        obtain ⟨h2x, h3x, xc, hmo⟩ := hvlp5_2
        obtain ⟨z11, ez11⟩ : ∃ z : Int32, z = F4 20 := ⟨_, rfl⟩
        have hzz11 : z11.toInt = (n5 : Int) := by rw [ez11]; exact h3x.1
        refine lv_iload_n hx hb dX12_readPlain_2 rfl (lv_at hl 0 rfl) ?_
        refine lv_if_eq (tgt := 16) hx hb dX12_readPlain_3 (by decide) (fun c12 => ?_) (fun c12 => ?_)
        · have b13 : kb 0 y3 0 := kb_eq c12 kc_0
          refine lv_aload_n hx hb dX12_readPlain_16 rfl (lv_at hl 1 rfl) ?_
          refine kI.callV (As := []) (rest := []) ⟨hx, hb, hml, hown, hg⟩ (m_fine l o r F4 a g hI   ) (cwV 0 hg (kgV wt6_204 wt6_206 wp4_7 wt1_14 wt6_207) rfl rfl rfl (by decide +kernel) ⟨by dsimp only [rmD]; omega, by dsimp only [rmD]; omega⟩) hK hP hD hS hA mIs [] rfl (wr := []) rfl rfl rfl (fun i h => by cases h) 0 12 rfl rfl rfl hl.1 rfl (Nat.le_of_ble_eq_true rfl) dX12_readPlain_17 ⟨Nat.le_refl _, Nat.le_refl _⟩ (fun v15 u16 H locs hw14 hP hD hS => ?_)
          have hP : va_P D vwCl (mW K o r F4 a g) H := hP
          have hD : va_D A (mW K o r F4 a g) := hD
          refine k_top (z := 1) ((hw14.2).elim (fun q => q.1) (fun q => absurd h2x q.2)) ?_
          refine lv_if_ne (tgt := 24) hx hb dX12_readPlain_20 (by decide) (fun c17 => ?_) (fun c17 => ?_)
          · refine lv_aload_n hx hb dX12_readPlain_24 rfl (lv_at hl 1 rfl) ?_
            refine va_get (D := D) (ci := 12) (v := .ref (r 15)) (C := RX12) (T := TX12) (N := 48) hx hb hg inC12 hown hK hP 0 rfl rfl 15 (by decide) (hg _ wt5_175) (fun _ h9 => h9) rfl dX12_readPlain_25 ?_
            refine lv_aload_n hx hb dX12_readPlain_28 rfl (lv_at hl 1 rfl) ?_
            refine va_get (D := D) (ci := 12) (v := .int (F4 19)) (C := RX12) (T := TX12) (N := 48) hx hb hg inC12 hown hK hP 0 rfl rfl 19 (by decide) (hg _ wt5_179) (fun _ h9 => h9) rfl dX12_readPlain_29 ?_
            refine k_top (z := gv8) egv8.symm ?_
            refine va_iald hx hb hK hP 9 0 rfl rfl (kb_in b10 (by decide) (by decide)) dX12_readPlain_32 ?_
            refine lv_topi (fun t18 et18 => ?_)
            have ht19 : t18 = rC (a 15) N (i5) := et18.trans (rC_at (rS_fE hE hp0 (by decide)) hvlp5_1.2 hg9)
            have tq20 : tOk t18 (a 16 gv8.toNatClampNeg) (T (i5)) := tOk_eq et18 (rQ_ld hp3 (rS_fE hE hp0 (by decide)) hvlp5_1.2 hg9)
            refine lv_istore_n (lv' := [(3, .int t18), (2, .int y3), (0, .ref o), (1, .int dp)]) hx hb dX12_readPlain_33 rfl hl (by decide) rfl (fun ls hl => ?_)
            refine lv_iload_n hx hb dX12_readPlain_34 rfl (lv_at hl 0 rfl) ?_
            refine lv_bipush (v := 40) hx hb dX12_readPlain_35 (by decide) ?_
            refine kN.callS (As := [.int 40]) (rest := [.int t18]) ⟨hx, hb, hml, hown, hg⟩ (m_sign l 40 (kb_w kc_40 (by decide) (by decide))) (va_cwS 1 hg (kgS wt6_220 wt6_221 wt1_14 wt6_222) rfl rfl rfl (by decide +kernel) ⟨by dsimp only [rmD]; omega, by dsimp only [rmD]; omega⟩) hP hS rfl hl.1 rfl (Nat.le_of_ble_eq_true rfl) dX12_readPlain_37 ⟨Nat.le_refl _, Nat.le_refl _⟩ (fun v22 H locs hw21 hP hS => ?_)
            refine k_top (z := 140) (Int32.toInt_inj.mp (hw21.2.trans (by decide +kernel))) ?_
            refine lv_icmp_ne (tgt := 90) hx hb dX12_readPlain_40 (by decide) (fun c24 => ?_) (fun c24 => ?_)
            · refine lv_aload_n hx hb dX12_readPlain_90 rfl (lv_at hl 2 rfl) ?_
              refine lv_iload_n hx hb dX12_readPlain_91 rfl (lv_at hl 3 rfl) ?_
              refine kV.callV (As := [.int dp]) (rest := []) ⟨hx, hb, hml, hown, hg⟩ (hsum l o r F4 a g hI dp bdp N (i5) (n5) ob T (rS_fE hE hp0 (by decide)) (by rw [egv8.symm]; exact hg9) hvlp5_1.2 hp3 (fun _ => ⟨(by rw [ez11.symm]; exact hzz11), h3x.2⟩) hp5) (cwV 1 hg (kgV wt6_208 wt6_210 wp4_8 wt1_14 wt6_211) rfl rfl rfl (by decide +kernel) ⟨by dsimp only [rmD]; omega, by dsimp only [rmD]; omega⟩) hK hP hD hS hA mIs [] rfl (wr := []) rfl rfl rfl (fun i h => by cases h) 0 12 rfl rfl rfl hl.1 rfl (Nat.le_of_ble_eq_true rfl) dX12_readPlain_92 ⟨Nat.le_refl _, Nat.le_refl _⟩ (fun u27 H locs hw25 hP hD hS => ?_)
              have hP : va_P D vwCl (mW K o r u27 a g) H := hP
              have hD : va_D A (mW K o r u27 a g) := hD
              have hI : mI u27 a := hw25.1
              have eE28 : fE [19, 20, 21] F4 u27 := hw25.2.1
              have hE : fE [19, 20, 21] f u27 := fE_tr hE eE28
              obtain ⟨ik29, nk29, hgk29, hlek29, hNk29, hck29⟩ := hw25.2.2
              rcases hck29 with ⟨-, h2k29, h3k29, hGk29⟩ | ⟨-, hbk29, hGk29⟩ | hdk29
              · obtain ⟨gv30, egv30⟩ : ∃ z : Int32, z = u27 19 := ⟨_, rfl⟩
                have hg31 : gv30.toInt = ((ik29 : Nat) : Int) := by rw [egv30]; exact hgk29
                have b32 : kb 0 gv30 400 := kb_tok (rS_fE hE hp0 (by decide)) hNk29 hg31
                obtain ⟨z33, ez33⟩ : ∃ z : Int32, z = u27 20 := ⟨_, rfl⟩
                have hzz33 : z33.toInt = (nk29 : Int) := by rw [ez33]; exact h3k29.1
                refine lv_aload_n hx hb dX12_readPlain_95 rfl (lv_at hl 2 rfl) ?_
                refine lv_bipush (v := 60) hx hb dX12_readPlain_96 (by decide) ?_
                refine kN.callS (As := [.int 60]) (rest := [.ref o]) ⟨hx, hb, hml, hown, hg⟩ (m_sign l 60 (kb_w kc_60 (by decide) (by decide))) (va_cwS 1 hg (kgS wt6_220 wt6_221 wt1_14 wt6_222) rfl rfl rfl (by decide +kernel) ⟨by dsimp only [rmD]; omega, by dsimp only [rmD]; omega⟩) hP hS rfl hl.1 rfl (Nat.le_of_ble_eq_true rfl) dX12_readPlain_98 ⟨Nat.le_refl _, Nat.le_refl _⟩ (fun v35 H locs hw34 hP hS => ?_)
                refine k_top (z := 160) (Int32.toInt_inj.mp (hw34.2.trans (by decide +kernel))) ?_
                refine kI.callV (As := [.int 160]) (rest := []) ⟨hx, hb, hml, hown, hg⟩ (q_takes0 l o r u27 a g hI 160 (kb_w kc_160 (by decide) (by decide)) N (ik29) ob T (rS_fE hE hp0 (by decide)) (by rw [egv30.symm]; exact hg31) hNk29 hp3 (by decide +kernel)) (cwV 1 hg (kgV wt6_200 wt6_202 wp4_6 wt1_14 wt6_203) rfl rfl rfl (by decide +kernel) ⟨by dsimp only [rmD]; omega, by dsimp only [rmD]; omega⟩) hK hP hD hS hA mIs [] rfl (wr := []) rfl rfl rfl (fun i h => by cases h) 0 12 rfl rfl rfl hl.1 rfl (Nat.le_of_ble_eq_true rfl) dX12_readPlain_101 ⟨Nat.le_refl _, Nat.le_refl _⟩ (fun v38 u39 H locs hw37 hP hD hS => ?_)
                have hP : va_P D vwCl (mW K o r u39 a g) H := hP
                have hD : va_D A (mW K o r u39 a g) := hD
                have hI : mI u39 a := hw37.2.1
                have eE40 : fE [19] u27 u39 := hw37.2.2.1
                have hE : fE [19, 20, 21] f u39 := fE_tr hE (fE_w (by decide) eE40)
                rcases hw37.2.2.2 with ⟨hvk41, hbk41, htk41, hpk41, hlk41⟩ | ⟨hvk41, hnk41, hpk41⟩
                · refine k_top (z := 1) hvk41 ?_
                  obtain ⟨gv42, egv42⟩ : ∃ z : Int32, z = u39 19 := ⟨_, rfl⟩
                  have hg43 : gv42.toInt = ((ik29 + 1 : Nat) : Int) := by rw [egv42]; exact hpk41
                  have b44 : kb 0 gv42 400 := kb_tok (rS_fE hE hp0 (by decide)) hlk41 hg43
                  have hTk41 : T (ik29) = 3060 := htk41.trans (by decide +kernel)
                  refine lv_if_ne (tgt := 128) hx hb dX12_readPlain_104 (by decide) (fun c45 => ?_) (fun c45 => ?_)
                  · refine lv_aload_n hx hb dX12_readPlain_128 rfl (lv_at hl 2 rfl) ?_
                    refine lv_iload_n hx hb dX12_readPlain_129 rfl (lv_at hl 3 rfl) ?_
                    refine kV.callV (As := [.int dp]) (rest := []) ⟨hx, hb, hml, hown, hg⟩ (hsum l o r u39 a g hI dp bdp N (ik29 + 1) (nk29) ob T (rS_fE hE hp0 (by decide)) (by rw [egv42.symm]; exact hg43) hlk41 hp3 (fun _ => ⟨(by rw [((eE40 20 (by decide)).trans ez33.symm)]; exact hzz33), h3k29.2⟩) hp5) (cwV 1 hg (kgV wt6_208 wt6_210 wp4_8 wt1_14 wt6_211) rfl rfl rfl (by decide +kernel) ⟨by dsimp only [rmD]; omega, by dsimp only [rmD]; omega⟩) hK hP hD hS hA mIs [] rfl (wr := []) rfl rfl rfl (fun i h => by cases h) 0 12 rfl rfl rfl hl.1 rfl (Nat.le_of_ble_eq_true rfl) dX12_readPlain_130 ⟨Nat.le_refl _, Nat.le_refl _⟩ (fun u48 H locs hw46 hP hD hS => ?_)
                    have hP : va_P D vwCl (mW K o r u48 a g) H := hP
                    have hD : va_D A (mW K o r u48 a g) := hD
                    have hI : mI u48 a := hw46.1
                    have eE49 : fE [19, 20, 21] u39 u48 := hw46.2.1
                    have hE : fE [19, 20, 21] f u48 := fE_tr hE eE49
                    obtain ⟨ik50, nk50, hgk50, hlek50, hNk50, hck50⟩ := hw46.2.2
                    rcases hck50 with ⟨-, h2k50, h3k50, hGk50⟩ | ⟨-, hbk50, hGk50⟩ | hdk50
                    · obtain ⟨gv51, egv51⟩ : ∃ z : Int32, z = u48 19 := ⟨_, rfl⟩
                      have hg52 : gv51.toInt = ((ik50 : Nat) : Int) := by rw [egv51]; exact hgk50
                      have b53 : kb 0 gv51 400 := kb_tok (rS_fE hE hp0 (by decide)) hNk50 hg52
                      obtain ⟨z54, ez54⟩ : ∃ z : Int32, z = u48 20 := ⟨_, rfl⟩
                      have hzz54 : z54.toInt = (nk50 : Int) := by rw [ez54]; exact h3k50.1
                      exact kV_ret hx hb hr hlocks hK hS dX12_readPlain_133 u48 hP hD ⟨hI, hE, ⟨ik50, nk50, (by rw [egv51.symm]; exact hg52), (Nat.le_trans (Nat.le_succ_of_le (Nat.le_trans hvlp5_1.1 hlek29)) hlek50), hNk50, Or.inl ⟨h21, h2k50, ⟨(by rw [ez54.symm]; exact hzz54), h3k50.2⟩, xc _ (pi_5n (hmo c12) (pi_10c (fun q => c24 ((tk_iff tq20 (by decide +kernel)).mpr (q.trans (by decide +kernel)))) hGk29 (Or.inl hTk41) hGk50))⟩⟩⟩
                    · obtain ⟨gv55, egv55⟩ : ∃ z : Int32, z = u48 19 := ⟨_, rfl⟩
                      have hg56 : gv55.toInt = ((ik50 : Nat) : Int) := by rw [egv55]; exact hgk50
                      have b57 : kb 0 gv55 400 := kb_tok (rS_fE hE hp0 (by decide)) hNk50 hg56
                      obtain ⟨z58, ez58⟩ : ∃ z : Int32, z = u48 21 := ⟨_, rfl⟩
                      have haz58 : z58 = a 17 (ik50) := by rw [ez58]; exact hbk50.1
                      have hnz58 : ¬ z58 = -1 := by rw [ez58]; exact hbk50.2
                      exact kV_ret hx hb hr hlocks hK hS dX12_readPlain_133 u48 hP hD ⟨hI, hE, ⟨ik50, 0, (by rw [egv55.symm]; exact hg56), (Nat.le_trans (Nat.le_succ_of_le (Nat.le_trans hvlp5_1.1 hlek29)) hlek50), hNk50, Or.inr (Or.inl ⟨h21, ⟨(ez58.symm).trans haz58, (fun q => hnz58 ((ez58.symm).symm.trans q))⟩, xc _ (pi_5n (hmo c12) (pi_10c (fun q => c24 ((tk_iff tq20 (by decide +kernel)).mpr (q.trans (by decide +kernel)))) hGk29 (Or.inl hTk41) hGk50))⟩)⟩⟩
                    · exact absurd ((eE40 21 (by decide)).trans h2k29) hdk50.1
                  · exact kb_dj c45 kc_1 kc_0 (by decide)
                · refine k_top (z := 0) hvk41 ?_
                  obtain ⟨gv59, egv59⟩ : ∃ z : Int32, z = u39 19 := ⟨_, rfl⟩
                  have hg60 : gv59.toInt = ((ik29 : Nat) : Int) := by rw [egv59]; exact hpk41
                  have b61 : kb 0 gv59 400 := kb_tok (rS_fE hE hp0 (by decide)) hNk29 hg60
                  have hTk41 : ¬ T (ik29) = 3060 := fun q => (hnk41 h2k29) (q.trans (by decide +kernel))
                  refine lv_if_ne (tgt := 128) hx hb dX12_readPlain_104 (by decide) (fun c62 => ?_) (fun c62 => ?_)
                  · exact kb_nsame c62 kc_0 kc_0
                  · refine lv_aload_n hx hb dX12_readPlain_107 rfl (lv_at hl 2 rfl) ?_
                    refine lv_bipush (v := 62) hx hb dX12_readPlain_108 (by decide) ?_
                    refine kN.callS (As := [.int 62]) (rest := [.ref o]) ⟨hx, hb, hml, hown, hg⟩ (m_sign l 62 (kb_w kc_62 (by decide) (by decide))) (va_cwS 1 hg (kgS wt6_220 wt6_221 wt1_14 wt6_222) rfl rfl rfl (by decide +kernel) ⟨by dsimp only [rmD]; omega, by dsimp only [rmD]; omega⟩) hP hS rfl hl.1 rfl (Nat.le_of_ble_eq_true rfl) dX12_readPlain_110 ⟨Nat.le_refl _, Nat.le_refl _⟩ (fun v64 H locs hw63 hP hS => ?_)
                    refine k_top (z := 162) (Int32.toInt_inj.mp (hw63.2.trans (by decide +kernel))) ?_
                    refine kI.callV (As := [.int 162]) (rest := []) ⟨hx, hb, hml, hown, hg⟩ (q_takes0 l o r u39 a g hI 162 (kb_w kc_162 (by decide) (by decide)) N (ik29) ob T (rS_fE hE hp0 (by decide)) (by rw [egv59.symm]; exact hg60) hNk29 hp3 (by decide +kernel)) (cwV 1 hg (kgV wt6_200 wt6_202 wp4_6 wt1_14 wt6_203) rfl rfl rfl (by decide +kernel) ⟨by dsimp only [rmD]; omega, by dsimp only [rmD]; omega⟩) hK hP hD hS hA mIs [] rfl (wr := []) rfl rfl rfl (fun i h => by cases h) 0 12 rfl rfl rfl hl.1 rfl (Nat.le_of_ble_eq_true rfl) dX12_readPlain_113 ⟨Nat.le_refl _, Nat.le_refl _⟩ (fun v67 u68 H locs hw66 hP hD hS => ?_)
                    have hP : va_P D vwCl (mW K o r u68 a g) H := hP
                    have hD : va_D A (mW K o r u68 a g) := hD
                    have hI : mI u68 a := hw66.2.1
                    have eE69 : fE [19] u39 u68 := hw66.2.2.1
                    have hE : fE [19, 20, 21] f u68 := fE_tr hE (fE_w (by decide) eE69)
                    rcases hw66.2.2.2 with ⟨hvk70, hbk70, htk70, hpk70, hlk70⟩ | ⟨hvk70, hnk70, hpk70⟩
                    · refine k_top (z := 1) hvk70 ?_
                      obtain ⟨gv71, egv71⟩ : ∃ z : Int32, z = u68 19 := ⟨_, rfl⟩
                      have hg72 : gv71.toInt = ((ik29 + 1 : Nat) : Int) := by rw [egv71]; exact hpk70
                      have b73 : kb 0 gv71 400 := kb_tok (rS_fE hE hp0 (by decide)) hlk70 hg72
                      have hTk70 : T (ik29) = 3062 := htk70.trans (by decide +kernel)
                      refine lv_if_ne (tgt := 128) hx hb dX12_readPlain_116 (by decide) (fun c74 => ?_) (fun c74 => ?_)
                      · refine lv_aload_n hx hb dX12_readPlain_128 rfl (lv_at hl 2 rfl) ?_
                        refine lv_iload_n hx hb dX12_readPlain_129 rfl (lv_at hl 3 rfl) ?_
                        refine kV.callV (As := [.int dp]) (rest := []) ⟨hx, hb, hml, hown, hg⟩ (hsum l o r u68 a g hI dp bdp N (ik29 + 1) (nk29) ob T (rS_fE hE hp0 (by decide)) (by rw [egv71.symm]; exact hg72) hlk70 hp3 (fun _ => ⟨(by rw [((eE69 20 (by decide)).trans ((eE40 20 (by decide)).trans ez33.symm))]; exact hzz33), h3k29.2⟩) hp5) (cwV 1 hg (kgV wt6_208 wt6_210 wp4_8 wt1_14 wt6_211) rfl rfl rfl (by decide +kernel) ⟨by dsimp only [rmD]; omega, by dsimp only [rmD]; omega⟩) hK hP hD hS hA mIs [] rfl (wr := []) rfl rfl rfl (fun i h => by cases h) 0 12 rfl rfl rfl hl.1 rfl (Nat.le_of_ble_eq_true rfl) dX12_readPlain_130 ⟨Nat.le_refl _, Nat.le_refl _⟩ (fun u77 H locs hw75 hP hD hS => ?_)
                        have hP : va_P D vwCl (mW K o r u77 a g) H := hP
                        have hD : va_D A (mW K o r u77 a g) := hD
                        have hI : mI u77 a := hw75.1
                        have eE78 : fE [19, 20, 21] u68 u77 := hw75.2.1
                        have hE : fE [19, 20, 21] f u77 := fE_tr hE eE78
                        obtain ⟨ik79, nk79, hgk79, hlek79, hNk79, hck79⟩ := hw75.2.2
                        rcases hck79 with ⟨-, h2k79, h3k79, hGk79⟩ | ⟨-, hbk79, hGk79⟩ | hdk79
                        · obtain ⟨gv80, egv80⟩ : ∃ z : Int32, z = u77 19 := ⟨_, rfl⟩
                          have hg81 : gv80.toInt = ((ik79 : Nat) : Int) := by rw [egv80]; exact hgk79
                          have b82 : kb 0 gv80 400 := kb_tok (rS_fE hE hp0 (by decide)) hNk79 hg81
                          obtain ⟨z83, ez83⟩ : ∃ z : Int32, z = u77 20 := ⟨_, rfl⟩
                          have hzz83 : z83.toInt = (nk79 : Int) := by rw [ez83]; exact h3k79.1
                          exact kV_ret hx hb hr hlocks hK hS dX12_readPlain_133 u77 hP hD ⟨hI, hE, ⟨ik79, nk79, (by rw [egv80.symm]; exact hg81), (Nat.le_trans (Nat.le_succ_of_le (Nat.le_trans hvlp5_1.1 hlek29)) hlek79), hNk79, Or.inl ⟨h21, h2k79, ⟨(by rw [ez83.symm]; exact hzz83), h3k79.2⟩, xc _ (pi_5n (hmo c12) (pi_10c (fun q => c24 ((tk_iff tq20 (by decide +kernel)).mpr (q.trans (by decide +kernel)))) hGk29 (Or.inr (Or.inl hTk70)) hGk79))⟩⟩⟩
                        · obtain ⟨gv84, egv84⟩ : ∃ z : Int32, z = u77 19 := ⟨_, rfl⟩
                          have hg85 : gv84.toInt = ((ik79 : Nat) : Int) := by rw [egv84]; exact hgk79
                          have b86 : kb 0 gv84 400 := kb_tok (rS_fE hE hp0 (by decide)) hNk79 hg85
                          obtain ⟨z87, ez87⟩ : ∃ z : Int32, z = u77 21 := ⟨_, rfl⟩
                          have haz87 : z87 = a 17 (ik79) := by rw [ez87]; exact hbk79.1
                          have hnz87 : ¬ z87 = -1 := by rw [ez87]; exact hbk79.2
                          exact kV_ret hx hb hr hlocks hK hS dX12_readPlain_133 u77 hP hD ⟨hI, hE, ⟨ik79, 0, (by rw [egv84.symm]; exact hg85), (Nat.le_trans (Nat.le_succ_of_le (Nat.le_trans hvlp5_1.1 hlek29)) hlek79), hNk79, Or.inr (Or.inl ⟨h21, ⟨(ez87.symm).trans haz87, (fun q => hnz87 ((ez87.symm).symm.trans q))⟩, xc _ (pi_5n (hmo c12) (pi_10c (fun q => c24 ((tk_iff tq20 (by decide +kernel)).mpr (q.trans (by decide +kernel)))) hGk29 (Or.inr (Or.inl hTk70)) hGk79))⟩)⟩⟩
                        · exact absurd ((eE69 21 (by decide)).trans ((eE40 21 (by decide)).trans h2k29)) hdk79.1
                      · exact kb_dj c74 kc_1 kc_0 (by decide)
                    · refine k_top (z := 0) hvk70 ?_
                      obtain ⟨gv88, egv88⟩ : ∃ z : Int32, z = u68 19 := ⟨_, rfl⟩
                      have hg89 : gv88.toInt = ((ik29 : Nat) : Int) := by rw [egv88]; exact hpk70
                      have b90 : kb 0 gv88 400 := kb_tok (rS_fE hE hp0 (by decide)) hNk29 hg89
                      have hTk70 : ¬ T (ik29) = 3062 := fun q => (hnk70 ((eE40 21 (by decide)).trans h2k29)) (q.trans (by decide +kernel))
                      refine lv_if_ne (tgt := 128) hx hb dX12_readPlain_116 (by decide) (fun c91 => ?_) (fun c91 => ?_)
                      · exact kb_nsame c91 kc_0 kc_0
                      · refine lv_aload_n hx hb dX12_readPlain_119 rfl (lv_at hl 2 rfl) ?_
                        refine lv_bipush (v := 61) hx hb dX12_readPlain_120 (by decide) ?_
                        refine kN.callS (As := [.int 61]) (rest := [.ref o]) ⟨hx, hb, hml, hown, hg⟩ (m_sign l 61 (kb_w kc_61 (by decide) (by decide))) (va_cwS 1 hg (kgS wt6_220 wt6_221 wt1_14 wt6_222) rfl rfl rfl (by decide +kernel) ⟨by dsimp only [rmD]; omega, by dsimp only [rmD]; omega⟩) hP hS rfl hl.1 rfl (Nat.le_of_ble_eq_true rfl) dX12_readPlain_122 ⟨Nat.le_refl _, Nat.le_refl _⟩ (fun v93 H locs hw92 hP hS => ?_)
                        refine k_top (z := 161) (Int32.toInt_inj.mp (hw92.2.trans (by decide +kernel))) ?_
                        refine kV.callV (As := [.int 161]) (rest := []) ⟨hx, hb, hml, hown, hg⟩ (q_must l o r u68 a g hI 161 (kb_w kc_161 (by decide) (by decide)) N (ik29) ob T (rS_fE hE hp0 (by decide)) (by rw [egv88.symm]; exact hg89) hNk29 hp3 (by decide +kernel)) (cwV 1 hg (kgV wt6_227 wt6_229 wp4_12 wt1_14 wt6_230) rfl rfl rfl (by decide +kernel) ⟨by dsimp only [rmD]; omega, by dsimp only [rmD]; omega⟩) hK hP hD hS hA mIs [] rfl (wr := []) rfl rfl rfl (fun i h => by cases h) 0 12 rfl rfl rfl hl.1 rfl (Nat.le_of_ble_eq_true rfl) dX12_readPlain_125 ⟨Nat.le_refl _, Nat.le_refl _⟩ (fun u97 H locs hw95 hP hD hS => ?_)
                        have hP : va_P D vwCl (mW K o r u97 a g) H := hP
                        have hD : va_D A (mW K o r u97 a g) := hD
                        have hI : mI u97 a := hw95.1
                        have eE98 : fE [19, 21] u68 u97 := hw95.2.1
                        have hE : fE [19, 20, 21] f u97 := fE_tr hE (fE_w (by decide) eE98)
                        rcases hw95.2.2 with ⟨-, h2k99, hGk99, hpk99, hlk99⟩ | ⟨-, hbk99, hGk99, hpk99⟩ | hdk99
                        · obtain ⟨gv100, egv100⟩ : ∃ z : Int32, z = u97 19 := ⟨_, rfl⟩
                          have hg101 : gv100.toInt = ((ik29 + 1 : Nat) : Int) := by rw [egv100]; exact hpk99
                          have b102 : kb 0 gv100 400 := kb_tok (rS_fE hE hp0 (by decide)) hlk99 hg101
                          have hm103 : T (ik29) = 3061 := hGk99.trans (by decide +kernel)
                          refine lv_aload_n hx hb dX12_readPlain_128 rfl (lv_at hl 2 rfl) ?_
                          refine lv_iload_n hx hb dX12_readPlain_129 rfl (lv_at hl 3 rfl) ?_
                          refine kV.callV (As := [.int dp]) (rest := []) ⟨hx, hb, hml, hown, hg⟩ (hsum l o r u97 a g hI dp bdp N (ik29 + 1) (nk29) ob T (rS_fE hE hp0 (by decide)) (by rw [egv100.symm]; exact hg101) hlk99 hp3 (fun _ => ⟨(by rw [((eE98 20 (by decide)).trans ((eE69 20 (by decide)).trans ((eE40 20 (by decide)).trans ez33.symm)))]; exact hzz33), h3k29.2⟩) hp5) (cwV 1 hg (kgV wt6_208 wt6_210 wp4_8 wt1_14 wt6_211) rfl rfl rfl (by decide +kernel) ⟨by dsimp only [rmD]; omega, by dsimp only [rmD]; omega⟩) hK hP hD hS hA mIs [] rfl (wr := []) rfl rfl rfl (fun i h => by cases h) 0 12 rfl rfl rfl hl.1 rfl (Nat.le_of_ble_eq_true rfl) dX12_readPlain_130 ⟨Nat.le_refl _, Nat.le_refl _⟩ (fun u106 H locs hw104 hP hD hS => ?_)
                          have hP : va_P D vwCl (mW K o r u106 a g) H := hP
                          have hD : va_D A (mW K o r u106 a g) := hD
                          have hI : mI u106 a := hw104.1
                          have eE107 : fE [19, 20, 21] u97 u106 := hw104.2.1
                          have hE : fE [19, 20, 21] f u106 := fE_tr hE eE107
                          obtain ⟨ik108, nk108, hgk108, hlek108, hNk108, hck108⟩ := hw104.2.2
                          rcases hck108 with ⟨-, h2k108, h3k108, hGk108⟩ | ⟨-, hbk108, hGk108⟩ | hdk108
                          · obtain ⟨gv109, egv109⟩ : ∃ z : Int32, z = u106 19 := ⟨_, rfl⟩
                            have hg110 : gv109.toInt = ((ik108 : Nat) : Int) := by rw [egv109]; exact hgk108
                            have b111 : kb 0 gv109 400 := kb_tok (rS_fE hE hp0 (by decide)) hNk108 hg110
                            obtain ⟨z112, ez112⟩ : ∃ z : Int32, z = u106 20 := ⟨_, rfl⟩
                            have hzz112 : z112.toInt = (nk108 : Int) := by rw [ez112]; exact h3k108.1
                            exact kV_ret hx hb hr hlocks hK hS dX12_readPlain_133 u106 hP hD ⟨hI, hE, ⟨ik108, nk108, (by rw [egv109.symm]; exact hg110), (Nat.le_trans (Nat.le_succ_of_le (Nat.le_trans hvlp5_1.1 hlek29)) hlek108), hNk108, Or.inl ⟨h21, h2k108, ⟨(by rw [ez112.symm]; exact hzz112), h3k108.2⟩, xc _ (pi_5n (hmo c12) (pi_10c (fun q => c24 ((tk_iff tq20 (by decide +kernel)).mpr (q.trans (by decide +kernel)))) hGk29 (Or.inr (Or.inr hm103)) hGk108))⟩⟩⟩
                          · obtain ⟨gv113, egv113⟩ : ∃ z : Int32, z = u106 19 := ⟨_, rfl⟩
                            have hg114 : gv113.toInt = ((ik108 : Nat) : Int) := by rw [egv113]; exact hgk108
                            have b115 : kb 0 gv113 400 := kb_tok (rS_fE hE hp0 (by decide)) hNk108 hg114
                            obtain ⟨z116, ez116⟩ : ∃ z : Int32, z = u106 21 := ⟨_, rfl⟩
                            have haz116 : z116 = a 17 (ik108) := by rw [ez116]; exact hbk108.1
                            have hnz116 : ¬ z116 = -1 := by rw [ez116]; exact hbk108.2
                            exact kV_ret hx hb hr hlocks hK hS dX12_readPlain_133 u106 hP hD ⟨hI, hE, ⟨ik108, 0, (by rw [egv113.symm]; exact hg114), (Nat.le_trans (Nat.le_succ_of_le (Nat.le_trans hvlp5_1.1 hlek29)) hlek108), hNk108, Or.inr (Or.inl ⟨h21, ⟨(ez116.symm).trans haz116, (fun q => hnz116 ((ez116.symm).symm.trans q))⟩, xc _ (pi_5n (hmo c12) (pi_10c (fun q => c24 ((tk_iff tq20 (by decide +kernel)).mpr (q.trans (by decide +kernel)))) hGk29 (Or.inr (Or.inr hm103)) hGk108))⟩)⟩⟩
                          · exact absurd h2k99 hdk108.1
                        · obtain ⟨z117, ez117⟩ : ∃ z : Int32, z = u97 21 := ⟨_, rfl⟩
                          have haz117 : z117 = a 17 (ik29) := by rw [ez117]; exact hbk99.1
                          have hnz117 : ¬ z117 = -1 := by rw [ez117]; exact hbk99.2
                          obtain ⟨gv118, egv118⟩ : ∃ z : Int32, z = u97 19 := ⟨_, rfl⟩
                          have hg119 : gv118.toInt = ((ik29 : Nat) : Int) := by rw [egv118]; exact hpk99
                          have b120 : kb 0 gv118 400 := kb_tok (rS_fE hE hp0 (by decide)) hNk29 hg119
                          have hm121 : ¬ T (ik29) = 3061 := fun q => hGk99 (q.trans (by decide +kernel))
                          refine lv_aload_n hx hb dX12_readPlain_128 rfl (lv_at hl 2 rfl) ?_
                          refine lv_iload_n hx hb dX12_readPlain_129 rfl (lv_at hl 3 rfl) ?_
                          refine kV.callV (As := [.int dp]) (rest := []) ⟨hx, hb, hml, hown, hg⟩ (hsum l o r u97 a g hI dp bdp N (ik29) (0) ob T (rS_fE hE hp0 (by decide)) (by rw [egv118.symm]; exact hg119) hNk29 hp3 (fun q => absurd q (fun q => hnz117 ((ez117.symm).symm.trans q))) hp5) (cwV 1 hg (kgV wt6_208 wt6_210 wp4_8 wt1_14 wt6_211) rfl rfl rfl (by decide +kernel) ⟨by dsimp only [rmD]; omega, by dsimp only [rmD]; omega⟩) hK hP hD hS hA mIs [] rfl (wr := []) rfl rfl rfl (fun i h => by cases h) 0 12 rfl rfl rfl hl.1 rfl (Nat.le_of_ble_eq_true rfl) dX12_readPlain_130 ⟨Nat.le_refl _, Nat.le_refl _⟩ (fun u124 H locs hw122 hP hD hS => ?_)
                          have hP : va_P D vwCl (mW K o r u124 a g) H := hP
                          have hD : va_D A (mW K o r u124 a g) := hD
                          have hI : mI u124 a := hw122.1
                          have eE125 : fE [19, 20, 21] u97 u124 := hw122.2.1
                          have hE : fE [19, 20, 21] f u124 := fE_tr hE eE125
                          obtain ⟨ik126, nk126, hgk126, hlek126, hNk126, hck126⟩ := hw122.2.2
                          have hdk126 := hck126.elim (fun q => absurd q.1 (fun q => hnz117 ((ez117.symm).symm.trans q))) (fun q => q.elim (fun q => absurd q.1 (fun q => hnz117 ((ez117.symm).symm.trans q))) (fun q => q))
                          have hhk126 : (u124 19).toInt = ((ik29 : Nat) : Int) := by rw [← hdk126.2.2]; exact hgk126
                          obtain ⟨gv127, egv127⟩ : ∃ z : Int32, z = u124 19 := ⟨_, rfl⟩
                          have hg128 : gv127.toInt = ((ik29 : Nat) : Int) := by rw [egv127]; exact hhk126
                          have b129 : kb 0 gv127 400 := kb_tok (rS_fE hE hp0 (by decide)) hNk29 hg128
                          exact kV_ret hx hb hr hlocks hK hS dX12_readPlain_133 u124 hP hD ⟨hI, hE, ⟨ik29, 0, (by rw [egv127.symm]; exact hg128), (Nat.le_trans hvlp5_1.1 hlek29), hNk29, Or.inr (Or.inl ⟨h21, ⟨((hdk126.2.1.trans ez117.symm)).trans haz117, (fun q => hnz117 (((hdk126.2.1.trans ez117.symm)).symm.trans q))⟩, xc _ (pi_5n (hmo c12) (pi_10n (fun q => c24 ((tk_iff tq20 (by decide +kernel)).mpr (q.trans (by decide +kernel)))) hGk29 (fun q => q.elim hTk41 (fun q => q.elim hTk70 hm121))))⟩)⟩⟩
                        · exact absurd ((eE69 21 (by decide)).trans ((eE40 21 (by decide)).trans h2k29)) hdk99.1
              · obtain ⟨gv130, egv130⟩ : ∃ z : Int32, z = u27 19 := ⟨_, rfl⟩
                have hg131 : gv130.toInt = ((ik29 : Nat) : Int) := by rw [egv130]; exact hgk29
                have b132 : kb 0 gv130 400 := kb_tok (rS_fE hE hp0 (by decide)) hNk29 hg131
                obtain ⟨z133, ez133⟩ : ∃ z : Int32, z = u27 21 := ⟨_, rfl⟩
                have haz133 : z133 = a 17 (ik29) := by rw [ez133]; exact hbk29.1
                have hnz133 : ¬ z133 = -1 := by rw [ez133]; exact hbk29.2
                refine lv_aload_n hx hb dX12_readPlain_95 rfl (lv_at hl 2 rfl) ?_
                refine lv_bipush (v := 60) hx hb dX12_readPlain_96 (by decide) ?_
                refine kN.callS (As := [.int 60]) (rest := [.ref o]) ⟨hx, hb, hml, hown, hg⟩ (m_sign l 60 (kb_w kc_60 (by decide) (by decide))) (va_cwS 1 hg (kgS wt6_220 wt6_221 wt1_14 wt6_222) rfl rfl rfl (by decide +kernel) ⟨by dsimp only [rmD]; omega, by dsimp only [rmD]; omega⟩) hP hS rfl hl.1 rfl (Nat.le_of_ble_eq_true rfl) dX12_readPlain_98 ⟨Nat.le_refl _, Nat.le_refl _⟩ (fun v135 H locs hw134 hP hS => ?_)
                refine k_top (z := 160) (Int32.toInt_inj.mp (hw134.2.trans (by decide +kernel))) ?_
                refine kI.callV (As := [.int 160]) (rest := []) ⟨hx, hb, hml, hown, hg⟩ (q_takes0 l o r u27 a g hI 160 (kb_w kc_160 (by decide) (by decide)) N (ik29) ob T (rS_fE hE hp0 (by decide)) (by rw [egv130.symm]; exact hg131) hNk29 hp3 (by decide +kernel)) (cwV 1 hg (kgV wt6_200 wt6_202 wp4_6 wt1_14 wt6_203) rfl rfl rfl (by decide +kernel) ⟨by dsimp only [rmD]; omega, by dsimp only [rmD]; omega⟩) hK hP hD hS hA mIs [] rfl (wr := []) rfl rfl rfl (fun i h => by cases h) 0 12 rfl rfl rfl hl.1 rfl (Nat.le_of_ble_eq_true rfl) dX12_readPlain_101 ⟨Nat.le_refl _, Nat.le_refl _⟩ (fun v138 u139 H locs hw137 hP hD hS => ?_)
                have hP : va_P D vwCl (mW K o r u139 a g) H := hP
                have hD : va_D A (mW K o r u139 a g) := hD
                have hI : mI u139 a := hw137.2.1
                have eE140 : fE [19] u27 u139 := hw137.2.2.1
                have hE : fE [19, 20, 21] f u139 := fE_tr hE (fE_w (by decide) eE140)
                obtain ⟨hvk141, hnk141, hpk141⟩ := (hw137.2.2.2).elim (fun q => absurd q.2.1 (fun q => hnz133 ((ez133.symm).symm.trans q))) (fun q => q)
                refine k_top (z := 0) hvk141 ?_
                obtain ⟨gv142, egv142⟩ : ∃ z : Int32, z = u139 19 := ⟨_, rfl⟩
                have hg143 : gv142.toInt = ((ik29 : Nat) : Int) := by rw [egv142]; exact hpk141
                have b144 : kb 0 gv142 400 := kb_tok (rS_fE hE hp0 (by decide)) hNk29 hg143
                refine lv_if_ne (tgt := 128) hx hb dX12_readPlain_104 (by decide) (fun c145 => ?_) (fun c145 => ?_)
                · exact kb_nsame c145 kc_0 kc_0
                · refine lv_aload_n hx hb dX12_readPlain_107 rfl (lv_at hl 2 rfl) ?_
                  refine lv_bipush (v := 62) hx hb dX12_readPlain_108 (by decide) ?_
                  refine kN.callS (As := [.int 62]) (rest := [.ref o]) ⟨hx, hb, hml, hown, hg⟩ (m_sign l 62 (kb_w kc_62 (by decide) (by decide))) (va_cwS 1 hg (kgS wt6_220 wt6_221 wt1_14 wt6_222) rfl rfl rfl (by decide +kernel) ⟨by dsimp only [rmD]; omega, by dsimp only [rmD]; omega⟩) hP hS rfl hl.1 rfl (Nat.le_of_ble_eq_true rfl) dX12_readPlain_110 ⟨Nat.le_refl _, Nat.le_refl _⟩ (fun v147 H locs hw146 hP hS => ?_)
                  refine k_top (z := 162) (Int32.toInt_inj.mp (hw146.2.trans (by decide +kernel))) ?_
                  refine kI.callV (As := [.int 162]) (rest := []) ⟨hx, hb, hml, hown, hg⟩ (q_takes0 l o r u139 a g hI 162 (kb_w kc_162 (by decide) (by decide)) N (ik29) ob T (rS_fE hE hp0 (by decide)) (by rw [egv142.symm]; exact hg143) hNk29 hp3 (by decide +kernel)) (cwV 1 hg (kgV wt6_200 wt6_202 wp4_6 wt1_14 wt6_203) rfl rfl rfl (by decide +kernel) ⟨by dsimp only [rmD]; omega, by dsimp only [rmD]; omega⟩) hK hP hD hS hA mIs [] rfl (wr := []) rfl rfl rfl (fun i h => by cases h) 0 12 rfl rfl rfl hl.1 rfl (Nat.le_of_ble_eq_true rfl) dX12_readPlain_113 ⟨Nat.le_refl _, Nat.le_refl _⟩ (fun v150 u151 H locs hw149 hP hD hS => ?_)
                  have hP : va_P D vwCl (mW K o r u151 a g) H := hP
                  have hD : va_D A (mW K o r u151 a g) := hD
                  have hI : mI u151 a := hw149.2.1
                  have eE152 : fE [19] u139 u151 := hw149.2.2.1
                  have hE : fE [19, 20, 21] f u151 := fE_tr hE (fE_w (by decide) eE152)
                  obtain ⟨hvk153, hnk153, hpk153⟩ := (hw149.2.2.2).elim (fun q => absurd q.2.1 (fun q => hnz133 ((((eE140 21 (by decide)).trans ez133.symm)).symm.trans q))) (fun q => q)
                  refine k_top (z := 0) hvk153 ?_
                  obtain ⟨gv154, egv154⟩ : ∃ z : Int32, z = u151 19 := ⟨_, rfl⟩
                  have hg155 : gv154.toInt = ((ik29 : Nat) : Int) := by rw [egv154]; exact hpk153
                  have b156 : kb 0 gv154 400 := kb_tok (rS_fE hE hp0 (by decide)) hNk29 hg155
                  refine lv_if_ne (tgt := 128) hx hb dX12_readPlain_116 (by decide) (fun c157 => ?_) (fun c157 => ?_)
                  · exact kb_nsame c157 kc_0 kc_0
                  · refine lv_aload_n hx hb dX12_readPlain_119 rfl (lv_at hl 2 rfl) ?_
                    refine lv_bipush (v := 61) hx hb dX12_readPlain_120 (by decide) ?_
                    refine kN.callS (As := [.int 61]) (rest := [.ref o]) ⟨hx, hb, hml, hown, hg⟩ (m_sign l 61 (kb_w kc_61 (by decide) (by decide))) (va_cwS 1 hg (kgS wt6_220 wt6_221 wt1_14 wt6_222) rfl rfl rfl (by decide +kernel) ⟨by dsimp only [rmD]; omega, by dsimp only [rmD]; omega⟩) hP hS rfl hl.1 rfl (Nat.le_of_ble_eq_true rfl) dX12_readPlain_122 ⟨Nat.le_refl _, Nat.le_refl _⟩ (fun v159 H locs hw158 hP hS => ?_)
                    refine k_top (z := 161) (Int32.toInt_inj.mp (hw158.2.trans (by decide +kernel))) ?_
                    refine kV.callV (As := [.int 161]) (rest := []) ⟨hx, hb, hml, hown, hg⟩ (q_must l o r u151 a g hI 161 (kb_w kc_161 (by decide) (by decide)) N (ik29) ob T (rS_fE hE hp0 (by decide)) (by rw [egv154.symm]; exact hg155) hNk29 hp3 (by decide +kernel)) (cwV 1 hg (kgV wt6_227 wt6_229 wp4_12 wt1_14 wt6_230) rfl rfl rfl (by decide +kernel) ⟨by dsimp only [rmD]; omega, by dsimp only [rmD]; omega⟩) hK hP hD hS hA mIs [] rfl (wr := []) rfl rfl rfl (fun i h => by cases h) 0 12 rfl rfl rfl hl.1 rfl (Nat.le_of_ble_eq_true rfl) dX12_readPlain_125 ⟨Nat.le_refl _, Nat.le_refl _⟩ (fun u163 H locs hw161 hP hD hS => ?_)
                    have hP : va_P D vwCl (mW K o r u163 a g) H := hP
                    have hD : va_D A (mW K o r u163 a g) := hD
                    have hI : mI u163 a := hw161.1
                    have eE164 : fE [19, 21] u151 u163 := hw161.2.1
                    have hE : fE [19, 20, 21] f u163 := fE_tr hE (fE_w (by decide) eE164)
                    have hdk165 := (hw161.2.2).elim (fun q => absurd q.1 (fun q => hnz133 ((((eE152 21 (by decide)).trans ((eE140 21 (by decide)).trans ez133.symm))).symm.trans q))) (fun q => q.elim (fun q => absurd q.1 (fun q => hnz133 ((((eE152 21 (by decide)).trans ((eE140 21 (by decide)).trans ez133.symm))).symm.trans q))) (fun q => q))
                    obtain ⟨gv166, egv166⟩ : ∃ z : Int32, z = u163 19 := ⟨_, rfl⟩
                    have hg167 : gv166.toInt = ((ik29 : Nat) : Int) := by rw [egv166]; exact hdk165.2.2
                    have b168 : kb 0 gv166 400 := kb_tok (rS_fE hE hp0 (by decide)) hNk29 hg167
                    refine lv_aload_n hx hb dX12_readPlain_128 rfl (lv_at hl 2 rfl) ?_
                    refine lv_iload_n hx hb dX12_readPlain_129 rfl (lv_at hl 3 rfl) ?_
                    refine kV.callV (As := [.int dp]) (rest := []) ⟨hx, hb, hml, hown, hg⟩ (hsum l o r u163 a g hI dp bdp N (ik29) (0) ob T (rS_fE hE hp0 (by decide)) (by rw [egv166.symm]; exact hg167) hNk29 hp3 (fun q => absurd q (fun q => hnz133 (((hdk165.2.1.trans ((eE152 21 (by decide)).trans ((eE140 21 (by decide)).trans ez133.symm)))).symm.trans q))) hp5) (cwV 1 hg (kgV wt6_208 wt6_210 wp4_8 wt1_14 wt6_211) rfl rfl rfl (by decide +kernel) ⟨by dsimp only [rmD]; omega, by dsimp only [rmD]; omega⟩) hK hP hD hS hA mIs [] rfl (wr := []) rfl rfl rfl (fun i h => by cases h) 0 12 rfl rfl rfl hl.1 rfl (Nat.le_of_ble_eq_true rfl) dX12_readPlain_130 ⟨Nat.le_refl _, Nat.le_refl _⟩ (fun u171 H locs hw169 hP hD hS => ?_)
                    have hP : va_P D vwCl (mW K o r u171 a g) H := hP
                    have hD : va_D A (mW K o r u171 a g) := hD
                    have hI : mI u171 a := hw169.1
                    have eE172 : fE [19, 20, 21] u163 u171 := hw169.2.1
                    have hE : fE [19, 20, 21] f u171 := fE_tr hE eE172
                    obtain ⟨ik173, nk173, hgk173, hlek173, hNk173, hck173⟩ := hw169.2.2
                    have hdk173 := hck173.elim (fun q => absurd q.1 (fun q => hnz133 (((hdk165.2.1.trans ((eE152 21 (by decide)).trans ((eE140 21 (by decide)).trans ez133.symm)))).symm.trans q))) (fun q => q.elim (fun q => absurd q.1 (fun q => hnz133 (((hdk165.2.1.trans ((eE152 21 (by decide)).trans ((eE140 21 (by decide)).trans ez133.symm)))).symm.trans q))) (fun q => q))
                    have hhk173 : (u171 19).toInt = ((ik29 : Nat) : Int) := by rw [← hdk173.2.2]; exact hgk173
                    obtain ⟨gv174, egv174⟩ : ∃ z : Int32, z = u171 19 := ⟨_, rfl⟩
                    have hg175 : gv174.toInt = ((ik29 : Nat) : Int) := by rw [egv174]; exact hhk173
                    have b176 : kb 0 gv174 400 := kb_tok (rS_fE hE hp0 (by decide)) hNk29 hg175
                    exact kV_ret hx hb hr hlocks hK hS dX12_readPlain_133 u171 hP hD ⟨hI, hE, ⟨ik29, 0, (by rw [egv174.symm]; exact hg175), (Nat.le_trans hvlp5_1.1 hlek29), hNk29, Or.inr (Or.inl ⟨h21, ⟨((hdk173.2.1.trans (hdk165.2.1.trans ((eE152 21 (by decide)).trans ((eE140 21 (by decide)).trans ez133.symm))))).trans haz133, (fun q => hnz133 (((hdk173.2.1.trans (hdk165.2.1.trans ((eE152 21 (by decide)).trans ((eE140 21 (by decide)).trans ez133.symm))))).symm.trans q))⟩, xc _ (pi_5n (hmo c12) (pi_10g (fun q => c24 ((tk_iff tq20 (by decide +kernel)).mpr (q.trans (by decide +kernel)))) hGk29))⟩)⟩⟩
              · exact absurd h2x hdk29.1
            · have b177 : kb 140 t18 140 := kb_eq c24 kc_140
              refine lv_iload_n hx hb dX12_readPlain_43 rfl (lv_at hl 3 rfl) ?_
              refine lv_bipush (v := 8) hx hb dX12_readPlain_44 (by decide) ?_
              refine lv_icmp_ne (tgt := 53) hx hb dX12_readPlain_46 (by decide) (fun c178 => ?_) (fun c178 => ?_)
              · have b179 : kb 0 dp 7 := kr_neh c178 bdp kc_8 (by decide)
                refine lv_aload_n hx hb dX12_readPlain_53 rfl (lv_at hl 2 rfl) ?_
                refine kI.callV (As := []) (rest := []) ⟨hx, hb, hml, hown, hg⟩ (m_fine l o r F4 a g hI   ) (cwV 0 hg (kgV wt6_204 wt6_206 wp4_7 wt1_14 wt6_207) rfl rfl rfl (by decide +kernel) ⟨by dsimp only [rmD]; omega, by dsimp only [rmD]; omega⟩) hK hP hD hS hA mIs [] rfl (wr := []) rfl rfl rfl (fun i h => by cases h) 0 12 rfl rfl rfl hl.1 rfl (Nat.le_of_ble_eq_true rfl) dX12_readPlain_54 ⟨Nat.le_refl _, Nat.le_refl _⟩ (fun v181 u182 H locs hw180 hP hD hS => ?_)
                have hP : va_P D vwCl (mW K o r F4 a g) H := hP
                have hD : va_D A (mW K o r F4 a g) := hD
                refine k_top (z := 1) ((hw180.2).elim (fun q => q.1) (fun q => absurd h2x q.2)) ?_
                refine lv_if_ne (tgt := 61) hx hb dX12_readPlain_57 (by decide) (fun c183 => ?_) (fun c183 => ?_)
                · have b184 : kb 0 gv8 399 := kb_tok1 (rS_fE hE hp0 (by decide)) (rC_lt (ne_0 (ht19.symm.trans c24) (by decide +kernel))) hg9
                  obtain ⟨ee, hd⟩ : ∃ ee, d = ee + 1 := ⟨d - 1, by have w1 := hp5; have w2 := (b179).2; omega⟩
                  refine lv_aload_n hx hb dX12_readPlain_61 rfl (lv_at hl 2 rfl) ?_
                  refine lv_dup hx hb dX12_readPlain_62 rfl ?_
                  refine va_get (D := D) (ci := 12) (v := .int (F4 19)) (C := RX12) (T := TX12) (N := 48) hx hb hg inC12 hown hK hP 0 rfl rfl 19 (by decide) (hg _ wt5_179) (fun _ h9 => h9) rfl dX12_readPlain_63 ?_
                  refine k_top (z := gv8) egv8.symm ?_
                  refine lv_iconst (v := 1) hx hb dX12_readPlain_66 (by decide) ?_
                  refine lv_iadd hx hb dX12_readPlain_67 ?_
                  refine lv_topi (fun t185 et185 => ?_)
                  have b186 : kb 1 t185 400 := kb_eq et185 (kb_add b184 kc_1 (by decide) (by decide))
                  have qt185 : t185.toInt = gv8.toInt + 1 := by rw [et185]; exact kt_addc b184 kc_1 (by decide) (by decide)
                  have hg187 : t185.toInt = ((i5 + 1 : Nat) : Int) := by rw [qt185, hg9]; omega
                  refine va_put (D := D) (ci := 12) (v := .int t185) (ty := .int) (C := RX12) (T := TX12) (N := 48) hx hb hg inC12 tyX12 tyX12_ok nmX12 hown hK hP hD hS 0 rfl rfl 19 (by decide) (hg _ wt5_179) (fun _ h9 => h9) rfl (by decide +kernel) rfl rfl (Nat.le_of_ble_eq_true rfl) dX12_readPlain_68 (fun H locs hP hD hS => ?_)
                  have hP : va_P D vwCl (mW K o r (upd F4 19 t185) a g) H := hP
                  have hD : va_D A (mW K o r (upd F4 19 t185) a g) := hD
                  refine k_gen (P := fun z => va_P D vwCl (mW K o r z a g) H ∧ va_D A (mW K o r z a g) ∧ (mI z a) ∧ (fE [19, 20, 21] f z)) (upd F4 19 t185) ⟨hP, hD, (mI_f hI (fI_st hI.1 19 b186 (by decide) (by decide))), (fE_f hE (by decide))⟩ (fun f_188 ef_188 hq => ?_)
                  obtain ⟨hP, hD, hI, hE⟩ := hq
                  refine lv_aload_n hx hb dX12_readPlain_71 rfl (lv_at hl 2 rfl) ?_
                  refine lv_iload_n hx hb dX12_readPlain_72 rfl (lv_at hl 3 rfl) ?_
                  refine lv_iconst (v := 1) hx hb dX12_readPlain_73 (by decide) ?_
                  refine lv_iadd hx hb dX12_readPlain_74 ?_
                  refine lv_topi (fun t189 et189 => ?_)
                  have b190 : kb 1 t189 8 := kb_eq et189 (kb_add b179 kc_1 (by decide) (by decide))
                  have qt189 : t189.toInt = dp.toInt + 1 := by rw [et189]; exact kt_addc b179 kc_1 (by decide) (by decide)
                  refine kV.callV (As := [.int t189]) (rest := []) ⟨hx, hb, hml, hown, hg⟩ ((ih ee hd) l o r f_188 a g hI t189 (kb_w b190 (by decide) (by decide)) N (i5 + 1) (n5) ob T (rS_fE hE hp0 (by decide)) (by rw [(show f_188 19 = t185 from by rw [← ef_188]; rfl)]; exact hg187) (rC_lt (ne_0 (ht19.symm.trans c24) (by decide +kernel))) hp3 (fun _ => ⟨(by rw [((show f_188 20 = F4 20 from by rw [← ef_188]; rfl).trans ez11.symm)]; exact hzz11), h3x.2⟩) (by have w1 := hp5; have w2 := qt189; omega)) (cwV 1 hg (kgV wt6_239 wt7_1 wp4_15 wt1_14 wt7_2) rfl rfl rfl (by decide +kernel) ⟨by dsimp only [rmD]; omega, by dsimp only [rmD]; omega⟩) hK hP hD hS hA mIs [] rfl (wr := []) rfl rfl rfl (fun i h => by cases h) 0 12 rfl rfl rfl hl.1 rfl (Nat.le_of_ble_eq_true rfl) dX12_readPlain_75 ⟨Nat.le_refl _, Nat.le_refl _⟩ (fun u193 H locs hw191 hP hD hS => ?_)
                  have hP : va_P D vwCl (mW K o r u193 a g) H := hP
                  have hD : va_D A (mW K o r u193 a g) := hD
                  have hI : mI u193 a := hw191.1
                  have eE194 : fE [19, 20, 21] f_188 u193 := hw191.2.1
                  have hE : fE [19, 20, 21] f u193 := fE_tr hE eE194
                  obtain ⟨ik195, nk195, hgk195, hlek195, hNk195, hck195⟩ := hw191.2.2
                  rcases hck195 with ⟨-, h2k195, h3k195, hGk195⟩ | ⟨-, hbk195, hGk195⟩ | hdk195
                  · obtain ⟨gv196, egv196⟩ : ∃ z : Int32, z = u193 19 := ⟨_, rfl⟩
                    have hg197 : gv196.toInt = ((ik195 : Nat) : Int) := by rw [egv196]; exact hgk195
                    have b198 : kb 0 gv196 400 := kb_tok (rS_fE hE hp0 (by decide)) hNk195 hg197
                    obtain ⟨z199, ez199⟩ : ∃ z : Int32, z = u193 20 := ⟨_, rfl⟩
                    have hzz199 : z199.toInt = (nk195 : Int) := by rw [ez199]; exact h3k195.1
                    refine lv_aload_n hx hb dX12_readPlain_78 rfl (lv_at hl 2 rfl) ?_
                    refine lv_bipush (v := 41) hx hb dX12_readPlain_79 (by decide) ?_
                    refine kN.callS (As := [.int 41]) (rest := [.ref o]) ⟨hx, hb, hml, hown, hg⟩ (m_sign l 41 (kb_w kc_41 (by decide) (by decide))) (va_cwS 1 hg (kgS wt6_220 wt6_221 wt1_14 wt6_222) rfl rfl rfl (by decide +kernel) ⟨by dsimp only [rmD]; omega, by dsimp only [rmD]; omega⟩) hP hS rfl hl.1 rfl (Nat.le_of_ble_eq_true rfl) dX12_readPlain_81 ⟨Nat.le_refl _, Nat.le_refl _⟩ (fun v201 H locs hw200 hP hS => ?_)
                    refine k_top (z := 141) (Int32.toInt_inj.mp (hw200.2.trans (by decide +kernel))) ?_
                    refine kV.callV (As := [.int 141]) (rest := []) ⟨hx, hb, hml, hown, hg⟩ (q_must l o r u193 a g hI 141 (kb_w kc_141 (by decide) (by decide)) N (ik195) ob T (rS_fE hE hp0 (by decide)) (by rw [egv196.symm]; exact hg197) hNk195 hp3 (by decide +kernel)) (cwV 1 hg (kgV wt6_227 wt6_229 wp4_12 wt1_14 wt6_230) rfl rfl rfl (by decide +kernel) ⟨by dsimp only [rmD]; omega, by dsimp only [rmD]; omega⟩) hK hP hD hS hA mIs [] rfl (wr := []) rfl rfl rfl (fun i h => by cases h) 0 12 rfl rfl rfl hl.1 rfl (Nat.le_of_ble_eq_true rfl) dX12_readPlain_84 ⟨Nat.le_refl _, Nat.le_refl _⟩ (fun u205 H locs hw203 hP hD hS => ?_)
                    have hP : va_P D vwCl (mW K o r u205 a g) H := hP
                    have hD : va_D A (mW K o r u205 a g) := hD
                    have hI : mI u205 a := hw203.1
                    have eE206 : fE [19, 21] u193 u205 := hw203.2.1
                    have hE : fE [19, 20, 21] f u205 := fE_tr hE (fE_w (by decide) eE206)
                    rcases hw203.2.2 with ⟨-, h2k207, hGk207, hpk207, hlk207⟩ | ⟨-, hbk207, hGk207, hpk207⟩ | hdk207
                    · obtain ⟨gv208, egv208⟩ : ∃ z : Int32, z = u205 19 := ⟨_, rfl⟩
                      have hg209 : gv208.toInt = ((ik195 + 1 : Nat) : Int) := by rw [egv208]; exact hpk207
                      have b210 : kb 0 gv208 400 := kb_tok (rS_fE hE hp0 (by decide)) hlk207 hg209
                      have hm211 : T (ik195) = 3041 := hGk207.trans (by decide +kernel)
                      refine lv_goto (tgt := 133) hx hb dX12_readPlain_87 (by decide) ?_
                      exact kV_ret hx hb hr hlocks hK hS dX12_readPlain_133 u205 hP hD ⟨hI, hE, ⟨ik195 + 1, nk195, (by rw [egv208.symm]; exact hg209), (Nat.le_succ_of_le (Nat.le_trans (Nat.le_succ_of_le hvlp5_1.1) hlek195)), hlk207, Or.inl ⟨h21, h2k207, ⟨(by rw [((eE206 20 (by decide)).trans ez199.symm)]; exact hzz199), h3k195.2⟩, xc _ (pi_5n (hmo c12) (pi_10a (((tk_iff tq20 (by decide +kernel)).mp c24).trans (by decide +kernel)) hd hGk195 hm211))⟩⟩⟩
                    · obtain ⟨z212, ez212⟩ : ∃ z : Int32, z = u205 21 := ⟨_, rfl⟩
                      have haz212 : z212 = a 17 (ik195) := by rw [ez212]; exact hbk207.1
                      have hnz212 : ¬ z212 = -1 := by rw [ez212]; exact hbk207.2
                      obtain ⟨gv213, egv213⟩ : ∃ z : Int32, z = u205 19 := ⟨_, rfl⟩
                      have hg214 : gv213.toInt = ((ik195 : Nat) : Int) := by rw [egv213]; exact hpk207
                      have b215 : kb 0 gv213 400 := kb_tok (rS_fE hE hp0 (by decide)) hNk195 hg214
                      have hm216 : ¬ T (ik195) = 3041 := fun q => hGk207 (q.trans (by decide +kernel))
                      refine lv_goto (tgt := 133) hx hb dX12_readPlain_87 (by decide) ?_
                      exact kV_ret hx hb hr hlocks hK hS dX12_readPlain_133 u205 hP hD ⟨hI, hE, ⟨ik195, 0, (by rw [egv213.symm]; exact hg214), (Nat.le_trans (Nat.le_succ_of_le hvlp5_1.1) hlek195), hNk195, Or.inr (Or.inl ⟨h21, ⟨(ez212.symm).trans haz212, (fun q => hnz212 ((ez212.symm).symm.trans q))⟩, xc _ (pi_5n (hmo c12) (pi_10b (((tk_iff tq20 (by decide +kernel)).mp c24).trans (by decide +kernel)) hd hGk195 hm216))⟩)⟩⟩
                    · exact absurd h2k195 hdk207.1
                  · obtain ⟨gv217, egv217⟩ : ∃ z : Int32, z = u193 19 := ⟨_, rfl⟩
                    have hg218 : gv217.toInt = ((ik195 : Nat) : Int) := by rw [egv217]; exact hgk195
                    have b219 : kb 0 gv217 400 := kb_tok (rS_fE hE hp0 (by decide)) hNk195 hg218
                    obtain ⟨z220, ez220⟩ : ∃ z : Int32, z = u193 21 := ⟨_, rfl⟩
                    have haz220 : z220 = a 17 (ik195) := by rw [ez220]; exact hbk195.1
                    have hnz220 : ¬ z220 = -1 := by rw [ez220]; exact hbk195.2
                    refine lv_aload_n hx hb dX12_readPlain_78 rfl (lv_at hl 2 rfl) ?_
                    refine lv_bipush (v := 41) hx hb dX12_readPlain_79 (by decide) ?_
                    refine kN.callS (As := [.int 41]) (rest := [.ref o]) ⟨hx, hb, hml, hown, hg⟩ (m_sign l 41 (kb_w kc_41 (by decide) (by decide))) (va_cwS 1 hg (kgS wt6_220 wt6_221 wt1_14 wt6_222) rfl rfl rfl (by decide +kernel) ⟨by dsimp only [rmD]; omega, by dsimp only [rmD]; omega⟩) hP hS rfl hl.1 rfl (Nat.le_of_ble_eq_true rfl) dX12_readPlain_81 ⟨Nat.le_refl _, Nat.le_refl _⟩ (fun v222 H locs hw221 hP hS => ?_)
                    refine k_top (z := 141) (Int32.toInt_inj.mp (hw221.2.trans (by decide +kernel))) ?_
                    refine kV.callV (As := [.int 141]) (rest := []) ⟨hx, hb, hml, hown, hg⟩ (q_must l o r u193 a g hI 141 (kb_w kc_141 (by decide) (by decide)) N (ik195) ob T (rS_fE hE hp0 (by decide)) (by rw [egv217.symm]; exact hg218) hNk195 hp3 (by decide +kernel)) (cwV 1 hg (kgV wt6_227 wt6_229 wp4_12 wt1_14 wt6_230) rfl rfl rfl (by decide +kernel) ⟨by dsimp only [rmD]; omega, by dsimp only [rmD]; omega⟩) hK hP hD hS hA mIs [] rfl (wr := []) rfl rfl rfl (fun i h => by cases h) 0 12 rfl rfl rfl hl.1 rfl (Nat.le_of_ble_eq_true rfl) dX12_readPlain_84 ⟨Nat.le_refl _, Nat.le_refl _⟩ (fun u226 H locs hw224 hP hD hS => ?_)
                    have hP : va_P D vwCl (mW K o r u226 a g) H := hP
                    have hD : va_D A (mW K o r u226 a g) := hD
                    have hI : mI u226 a := hw224.1
                    have eE227 : fE [19, 21] u193 u226 := hw224.2.1
                    have hE : fE [19, 20, 21] f u226 := fE_tr hE (fE_w (by decide) eE227)
                    have hdk228 := (hw224.2.2).elim (fun q => absurd q.1 (fun q => hnz220 ((ez220.symm).symm.trans q))) (fun q => q.elim (fun q => absurd q.1 (fun q => hnz220 ((ez220.symm).symm.trans q))) (fun q => q))
                    obtain ⟨gv229, egv229⟩ : ∃ z : Int32, z = u226 19 := ⟨_, rfl⟩
                    have hg230 : gv229.toInt = ((ik195 : Nat) : Int) := by rw [egv229]; exact hdk228.2.2
                    have b231 : kb 0 gv229 400 := kb_tok (rS_fE hE hp0 (by decide)) hNk195 hg230
                    refine lv_goto (tgt := 133) hx hb dX12_readPlain_87 (by decide) ?_
                    exact kV_ret hx hb hr hlocks hK hS dX12_readPlain_133 u226 hP hD ⟨hI, hE, ⟨ik195, 0, (by rw [egv229.symm]; exact hg230), (Nat.le_trans (Nat.le_succ_of_le hvlp5_1.1) hlek195), hNk195, Or.inr (Or.inl ⟨h21, ⟨((hdk228.2.1.trans ez220.symm)).trans haz220, (fun q => hnz220 (((hdk228.2.1.trans ez220.symm)).symm.trans q))⟩, xc _ (pi_5n (hmo c12) (pi_10f (((tk_iff tq20 (by decide +kernel)).mp c24).trans (by decide +kernel)) hd hGk195))⟩)⟩⟩
                  · exact absurd ((show f_188 21 = F4 21 from by rw [← ef_188]; rfl).trans h2x) hdk195.1
                · exact kb_dj c183 kc_1 kc_0 (by decide)
              · have b232 : kb 8 dp 8 := kb_eq c178 kc_8
                refine lv_aload_n hx hb dX12_readPlain_49 rfl (lv_at hl 2 rfl) ?_
                refine kV.callV (As := []) (rest := []) ⟨hx, hb, hml, hown, hg⟩ (q_faults l o r F4 a g hI   N (i5) ob T (rS_fE hE hp0 (by decide)) (by rw [egv8.symm]; exact hg9) hvlp5_1.2 hp3) (cwV 0 hg (kgV wt6_223 wt6_225 wp4_11 wt1_14 wt6_226) rfl rfl rfl (by decide +kernel) ⟨by dsimp only [rmD]; omega, by dsimp only [rmD]; omega⟩) hK hP hD hS hA mIs [] rfl (wr := []) rfl rfl rfl (fun i h => by cases h) 0 12 rfl rfl rfl hl.1 rfl (Nat.le_of_ble_eq_true rfl) dX12_readPlain_50 ⟨Nat.le_refl _, Nat.le_refl _⟩ (fun u235 H locs hw233 hP hD hS => ?_)
                have hP : va_P D vwCl (mW K o r u235 a g) H := hP
                have hD : va_D A (mW K o r u235 a g) := hD
                have hI : mI u235 a := hw233.1
                have eE236 : fE [21] F4 u235 := hw233.2.1
                have hE : fE [19, 20, 21] f u235 := fE_tr hE (fE_w (by decide) eE236)
                obtain ⟨z237, ez237⟩ : ∃ z : Int32, z = u235 21 := ⟨_, rfl⟩
                have haz237 : z237 = a 17 (i5) := by rw [ez237]; exact (hw233.2.2.1 h2x).1
                have hnz237 : ¬ z237 = -1 := by rw [ez237]; exact (hw233.2.2.1 h2x).2
                refine lv_aload_n hx hb dX12_readPlain_53 rfl (lv_at hl 2 rfl) ?_
                refine kI.callV (As := []) (rest := []) ⟨hx, hb, hml, hown, hg⟩ (m_fine l o r u235 a g hI   ) (cwV 0 hg (kgV wt6_204 wt6_206 wp4_7 wt1_14 wt6_207) rfl rfl rfl (by decide +kernel) ⟨by dsimp only [rmD]; omega, by dsimp only [rmD]; omega⟩) hK hP hD hS hA mIs [] rfl (wr := []) rfl rfl rfl (fun i h => by cases h) 0 12 rfl rfl rfl hl.1 rfl (Nat.le_of_ble_eq_true rfl) dX12_readPlain_54 ⟨Nat.le_refl _, Nat.le_refl _⟩ (fun v239 u240 H locs hw238 hP hD hS => ?_)
                have hP : va_P D vwCl (mW K o r u235 a g) H := hP
                have hD : va_D A (mW K o r u235 a g) := hD
                refine k_top (z := 0) ((hw238.2).elim (fun q => absurd q.2 (fun q => hnz237 ((ez237.symm).symm.trans q))) (fun q => q.1)) ?_
                refine lv_if_ne (tgt := 61) hx hb dX12_readPlain_57 (by decide) (fun c241 => ?_) (fun c241 => ?_)
                · exact kb_nsame c241 kc_0 kc_0
                · exact kV_ret hx hb hr hlocks hK hS dX12_readPlain_60 u235 hP hD ⟨hI, hE, ⟨i5, 0, (by rw [((eE236 19 (by decide)).trans egv8.symm)]; exact hg9), hvlp5_1.1, hvlp5_1.2, Or.inr (Or.inl ⟨h21, ⟨(ez237.symm).trans haz237, (fun q => hnz237 ((ez237.symm).symm.trans q))⟩, xc _ (pi_5n (hmo c12) (pi_10z (((tk_iff tq20 (by decide +kernel)).mp c24).trans (by decide +kernel)) (by have w1 := hp5; have w2 := congrArg Int32.toInt c178; have w3 : (8 : Int32).toInt = 8 := (by decide +kernel); omega)))⟩)⟩⟩
          · exact kb_dj c17 kc_1 kc_0 (by decide)
        · have b242 : kb 1 y3 1 := kr_nel c12 b7 kc_0 (by decide)
          refine lv_aload_n hx hb dX12_readPlain_6 rfl (lv_at hl 1 rfl) ?_
          refine lv_bipush (v := 8) hx hb dX12_readPlain_7 (by decide) ?_
          refine kI.callV (As := [.int 8]) (rest := []) ⟨hx, hb, hml, hown, hg⟩ (q_takes0 l o r F4 a g hI 8 (kb_w kc_8 (by decide) (by decide)) N (i5) ob T (rS_fE hE hp0 (by decide)) (by rw [egv8.symm]; exact hg9) hvlp5_1.2 hp3 (by decide +kernel)) (cwV 1 hg (kgV wt6_200 wt6_202 wp4_6 wt1_14 wt6_203) rfl rfl rfl (by decide +kernel) ⟨by dsimp only [rmD]; omega, by dsimp only [rmD]; omega⟩) hK hP hD hS hA mIs [] rfl (wr := []) rfl rfl rfl (fun i h => by cases h) 0 12 rfl rfl rfl hl.1 rfl (Nat.le_of_ble_eq_true rfl) dX12_readPlain_9 ⟨Nat.le_refl _, Nat.le_refl _⟩ (fun v244 u245 H locs hw243 hP hD hS => ?_)
          have hP : va_P D vwCl (mW K o r u245 a g) H := hP
          have hD : va_D A (mW K o r u245 a g) := hD
          have hI : mI u245 a := hw243.2.1
          have eE246 : fE [19] F4 u245 := hw243.2.2.1
          have hE : fE [19, 20, 21] f u245 := fE_tr hE (fE_w (by decide) eE246)
          rcases hw243.2.2.2 with ⟨hvk247, hbk247, htk247, hpk247, hlk247⟩ | ⟨hvk247, hnk247, hpk247⟩
          · refine k_top (z := 1) hvk247 ?_
            obtain ⟨gv248, egv248⟩ : ∃ z : Int32, z = u245 19 := ⟨_, rfl⟩
            have hg249 : gv248.toInt = ((i5 + 1 : Nat) : Int) := by rw [egv248]; exact hpk247
            have b250 : kb 0 gv248 400 := kb_tok (rS_fE hE hp0 (by decide)) hlk247 hg249
            have hTk247 : T (i5) = 2002 := htk247.trans (by decide +kernel)
            refine lv_istore_n (lv' := [(2, .int 1), (0, .ref o), (1, .int dp)]) hx hb dX12_readPlain_12 rfl hl (by decide) rfl (fun ls hl => ?_)
            refine lv_goto (tgt := 2) hx hb dX12_readPlain_13 (by decide) ?_
            exact ihlp5 (i5 + 1) (n5) u245 _ _ _ 1 (by rw [if_neg (by decide +kernel)]; rw [if_neg c12] at hmlp5; omega) hI hE (kb_w kc_1 (by decide) (by decide)) (by rw [egv248.symm]; exact hg249) (⟨(Nat.le_succ_of_le hvlp5_1.1), hlk247⟩) (⟨((eE246 21 (by decide)).trans h2x), ⟨(by rw [((eE246 20 (by decide)).trans ez11.symm)]; exact hzz11), h3x.2⟩, fun r h => xc r (pi_5y hTk247 h), fun q => absurd q (by decide +kernel)⟩) hP hD hS (lv_sub hl [0, 1, 2] rfl)
          · refine k_top (z := 0) hvk247 ?_
            obtain ⟨gv251, egv251⟩ : ∃ z : Int32, z = u245 19 := ⟨_, rfl⟩
            have hg252 : gv251.toInt = ((i5 : Nat) : Int) := by rw [egv251]; exact hpk247
            have b253 : kb 0 gv251 400 := kb_tok (rS_fE hE hp0 (by decide)) hvlp5_1.2 hg252
            have hTk247 : ¬ T (i5) = 2002 := fun q => (hnk247 h2x) (q.trans (by decide +kernel))
            refine lv_istore_n (lv' := [(2, .int 0), (0, .ref o), (1, .int dp)]) hx hb dX12_readPlain_12 rfl hl (by decide) rfl (fun ls hl => ?_)
            refine lv_goto (tgt := 2) hx hb dX12_readPlain_13 (by decide) ?_
            exact ihlp5 (i5) (n5) u245 _ _ _ 0 (by rw [if_pos rfl]; rw [if_neg c12] at hmlp5; omega) hI hE (kb_w kc_0 (by decide) (by decide)) (by rw [egv251.symm]; exact hg252) (⟨hvlp5_1.1, hvlp5_1.2⟩) (⟨((eE246 21 (by decide)).trans h2x), ⟨(by rw [((eE246 20 (by decide)).trans ez11.symm)]; exact hzz11), h3x.2⟩, xc, fun _ => hTk247⟩) hP hD hS (lv_sub hl [0, 1, 2] rfl)
    exact lp5 (N + 2) (i) (n) f _ _ _ 1 (by rw [if_neg (by decide +kernel)]; omega) hI hE (kb_w kc_1 (by decide) (by decide)) (by rw [ec19.symm]; exact hg0) (⟨(Nat.le_refl i), hp2⟩) (⟨h21, ⟨(by rw [ec20.symm]; exact hn20), hl50⟩, fun r h => h, fun q => absurd q (by decide +kernel)⟩) hP hD hS (lv_sub hl [0, 1, 2] rfl)
  · obtain ⟨c21, ec21⟩ : ∃ z : Int32, z = f 21 := ⟨_, rfl⟩
    have hn21 : ¬ c21 = -1 := by rw [ec21]; exact h21
    refine lv_iconst (v := 1) hx hb dX12_readPlain_0 (by decide) ?_
    refine lv_istore_n (lv' := [(2, .int 1), (0, .ref o), (1, .int dp)]) hx hb dX12_readPlain_1 rfl hl (by decide) rfl (fun ls hl => ?_)
    have lp256 : ∀ (n257 : Nat) (i5 : Nat) (n5 : Nat) (F255 : Nat → Int32) (H : Heap) (locs : List Loc) (ls : Array Slot) (y254 : Int32), ((N : Int) + 1 < (i5 : Int) + (n257 : Int) + (if y254 = 0 then 1 else 0)) → (mI F255 a) → (fE [19, 20, 21] f F255) → (kb 0 y254 1) → ((F255 19).toInt = (i5 : Int)) → (i ≤ i5 ∧ i5 ≤ N) → (F255 21 = c21 ∧ i5 = i) → va_P D vwCl (mW K o r F255 a g) H → va_D A (mW K o r F255 a g) → va_S A s.heap H locs → lv_has ls 4 [(2, .int y254), (0, .ref o), (1, .int dp)] → W p l e (rmD (4 * d + 13) 0 0) s m ([.ref o, .int dp] : List Value).toArray below meth c H locs 0 0 (kQv D (tysK K) (fun (u : Nat → Int32) => mI u a ∧ fE [19, 20, 21] f u ∧ (∃ i2 n2 : Nat, (u 19).toInt = (i2 : Int) ∧ i ≤ i2 ∧ i2 ≤ N ∧ ((f 21 = -1 ∧ u 21 = -1 ∧ ((u 20).toInt = (n2 : Int) ∧ n2 ≤ 50) ∧ pG ob T d 5 i n (true, i2, n2)) ∨ (f 21 = -1 ∧ (u 21 = a 17 i2 ∧ ¬ u 21 = -1) ∧ pG ob T d 5 i n (false, i2, 0)) ∨ (¬ f 21 = -1 ∧ u 21 = f 21 ∧ i2 = i)))) (fun u => mW K o r u a g) A below ([.ref o, .int dp] : List Value).toArray s 0 0) (F0 m 2 ls []) := by
      intro n257
      induction n257 with
      | zero =>
        intro i5 n5 F255  H locs ls y254 hmlp256 hI hE b258 hvlp256_0 hvlp256_1 hvlp256_2 hP hD hS hl
        exact (by have w1 := hmlp256; have w2 := hvlp256_1.2; split at w1 <;> omega : False).elim
      | succ n257 ihlp256 =>
        intro i5 n5 F255  H locs ls y254 hmlp256 hI hE b258 hvlp256_0 hvlp256_1 hvlp256_2 hP hD hS hl
        obtain ⟨gv259, egv259⟩ : ∃ z : Int32, z = F255 19 := ⟨_, rfl⟩
        have hg260 : gv259.toInt = ((i5 : Nat) : Int) := by rw [egv259]; exact hvlp256_0
        have b261 : kb 0 gv259 400 := kb_tok (rS_fE hE hp0 (by decide)) hvlp256_1.2 hg260
        refine lv_iload_n hx hb dX12_readPlain_2 rfl (lv_at hl 0 rfl) ?_
        refine lv_if_eq (tgt := 16) hx hb dX12_readPlain_3 (by decide) (fun c262 => ?_) (fun c262 => ?_)
        · have b263 : kb 0 y254 0 := kb_eq c262 kc_0
          refine lv_aload_n hx hb dX12_readPlain_16 rfl (lv_at hl 1 rfl) ?_
          refine kI.callV (As := []) (rest := []) ⟨hx, hb, hml, hown, hg⟩ (m_fine l o r F255 a g hI   ) (cwV 0 hg (kgV wt6_204 wt6_206 wp4_7 wt1_14 wt6_207) rfl rfl rfl (by decide +kernel) ⟨by dsimp only [rmD]; omega, by dsimp only [rmD]; omega⟩) hK hP hD hS hA mIs [] rfl (wr := []) rfl rfl rfl (fun i h => by cases h) 0 12 rfl rfl rfl hl.1 rfl (Nat.le_of_ble_eq_true rfl) dX12_readPlain_17 ⟨Nat.le_refl _, Nat.le_refl _⟩ (fun v265 u266 H locs hw264 hP hD hS => ?_)
          have hP : va_P D vwCl (mW K o r F255 a g) H := hP
          have hD : va_D A (mW K o r F255 a g) := hD
          refine k_top (z := 0) ((hw264.2).elim (fun q => absurd q.2 (fun q => hn21 ((hvlp256_2.1).symm.trans q))) (fun q => q.1)) ?_
          refine lv_if_ne (tgt := 24) hx hb dX12_readPlain_20 (by decide) (fun c267 => ?_) (fun c267 => ?_)
          · exact kb_nsame c267 kc_0 kc_0
          · exact kV_ret hx hb hr hlocks hK hS dX12_readPlain_23 F255 hP hD ⟨hI, hE, ⟨i5, 0, (by rw [egv259.symm]; exact hg260), hvlp256_1.1, hvlp256_1.2, Or.inr (Or.inr ⟨h21, (hvlp256_2.1).trans ec21, hvlp256_2.2⟩)⟩⟩
        · have b268 : kb 1 y254 1 := kr_nel c262 b258 kc_0 (by decide)
          refine lv_aload_n hx hb dX12_readPlain_6 rfl (lv_at hl 1 rfl) ?_
          refine lv_bipush (v := 8) hx hb dX12_readPlain_7 (by decide) ?_
          refine kI.callV (As := [.int 8]) (rest := []) ⟨hx, hb, hml, hown, hg⟩ (q_takes0 l o r F255 a g hI 8 (kb_w kc_8 (by decide) (by decide)) N (i5) ob T (rS_fE hE hp0 (by decide)) (by rw [egv259.symm]; exact hg260) hvlp256_1.2 hp3 (by decide +kernel)) (cwV 1 hg (kgV wt6_200 wt6_202 wp4_6 wt1_14 wt6_203) rfl rfl rfl (by decide +kernel) ⟨by dsimp only [rmD]; omega, by dsimp only [rmD]; omega⟩) hK hP hD hS hA mIs [] rfl (wr := []) rfl rfl rfl (fun i h => by cases h) 0 12 rfl rfl rfl hl.1 rfl (Nat.le_of_ble_eq_true rfl) dX12_readPlain_9 ⟨Nat.le_refl _, Nat.le_refl _⟩ (fun v270 u271 H locs hw269 hP hD hS => ?_)
          have hP : va_P D vwCl (mW K o r u271 a g) H := hP
          have hD : va_D A (mW K o r u271 a g) := hD
          have hI : mI u271 a := hw269.2.1
          have eE272 : fE [19] F255 u271 := hw269.2.2.1
          have hE : fE [19, 20, 21] f u271 := fE_tr hE (fE_w (by decide) eE272)
          obtain ⟨hvk273, hnk273, hpk273⟩ := (hw269.2.2.2).elim (fun q => absurd q.2.1 (fun q => hn21 ((hvlp256_2.1).symm.trans q))) (fun q => q)
          refine k_top (z := 0) hvk273 ?_
          obtain ⟨gv274, egv274⟩ : ∃ z : Int32, z = u271 19 := ⟨_, rfl⟩
          have hg275 : gv274.toInt = ((i5 : Nat) : Int) := by rw [egv274]; exact hpk273
          have b276 : kb 0 gv274 400 := kb_tok (rS_fE hE hp0 (by decide)) hvlp256_1.2 hg275
          refine lv_istore_n (lv' := [(2, .int 0), (0, .ref o), (1, .int dp)]) hx hb dX12_readPlain_12 rfl hl (by decide) rfl (fun ls hl => ?_)
          refine lv_goto (tgt := 2) hx hb dX12_readPlain_13 (by decide) ?_
          exact ihlp256 (i5) (0) u271 _ _ _ 0 (by rw [if_pos rfl]; rw [if_neg c262] at hmlp256; omega) hI hE (kb_w kc_0 (by decide) (by decide)) (by rw [egv274.symm]; exact hg275) (⟨hvlp256_1.1, hvlp256_1.2⟩) (⟨((eE272 21 (by decide)).trans hvlp256_2.1), hvlp256_2.2⟩) hP hD hS (lv_sub hl [0, 1, 2] rfl)
    exact lp256 (N + 2) (i) (0) f _ _ _ 1 (by rw [if_neg (by decide +kernel)]; omega) hI hE (kb_w kc_1 (by decide) (by decide)) (by rw [ec19.symm]; exact hg0) (⟨(Nat.le_refl i), hp2⟩) (⟨ec21.symm, rfl⟩) hP hD hS (lv_sub hl [0, 1, 2] rfl)
set_option maxHeartbeats 4000000 in
set_option maxRecDepth 100000 in
theorem q_readBoth (d : Nat) (hplain : dRPlain d) (l : Launch) {D : va_G} {K : Nat → ClassId} (o : Nat) (r : Nat → Nat) (f : Nat → Int32) (a : Nat → Nat → Int32) (g : Nat → Int64) (hI : mI f a) (dp : Int32) (bdp : kb 0 dp 8) (N i n : Nat) (ob : Bool) (T : Nat → Int32) (hp0 : rS f a N ob) (hp1 : (f 19).toInt = (i : Int)) (hp2 : i ≤ N) (hp3 : rQ a N T) (hp4 : f 21 = -1 → (f 20).toInt = (n : Int) ∧ n ≤ 50) (hp5 : dp.toInt + (d : Int) = 8) : kV l yX12_readBoth (Cond.code yX12_readBoth cX12_readBoth 2 none :: kG) (rmD (4 * d + 14) 0 0) D (tysK K) [.ref o, .int dp] (mW K o r f a g) (fun (u : Nat → Int32) => mI u a ∧ fE [19, 20, 21] f u ∧ (∃ i2 n2 : Nat, (u 19).toInt = (i2 : Int) ∧ i ≤ i2 ∧ i2 ≤ N ∧ ((f 21 = -1 ∧ u 21 = -1 ∧ ((u 20).toInt = (n2 : Int) ∧ n2 ≤ 50) ∧ pG ob T d 4 i n (true, i2, n2)) ∨ (f 21 = -1 ∧ (u 21 = a 17 i2 ∧ ¬ u 21 = -1) ∧ pG ob T d 4 i n (false, i2, 0)) ∨ (¬ f 21 = -1 ∧ u 21 = f 21 ∧ i2 = i)))) (fun u => mW K o r u a g) 0 0 := by
  refine kV.of (cc := cX12_readBoth) (maxL := 2) (ret := none) (by decide) rfl (Nat.le_of_ble_eq_true rfl) ?_
  intro p e s m below meth c A hx hb hr hml hown hts hlocks hnm hK hP hD hS hA ls hl
  have hE : fE [19, 20, 21] f f := fE_rf
  have hg : ∀ w ∈ kG, w.before _ s = true := fun w h => hts w (List.mem_cons_of_mem _ h)
  have hown : s.vm.findClass RX12 = some m.cls := hown
  have hl : lv_has ls 2 [(0, .ref o), (1, .int dp)] := hl
  obtain ⟨c19, ec19⟩ : ∃ z : Int32, z = f 19 := ⟨_, rfl⟩
  have hg0 : c19.toInt = (i : Int) := by rw [ec19]; exact hp1
  have b1 : kb 0 c19 400 := kb_tok hp0 hp2 hg0
  by_cases h21 : f 21 = -1
  · obtain ⟨c20, ec20⟩ : ∃ z : Int32, z = f 20 := ⟨_, rfl⟩
    have hn20 : c20.toInt = (n : Int) := by rw [ec20]; exact (hp4 h21).1
    have hl50 : n ≤ 50 := (hp4 h21).2
    have b2 : kb 0 c20 50 := ⟨by omega, by omega⟩
    refine lv_aload_n hx hb dX12_readBoth_0 rfl (lv_at hl 0 rfl) ?_
    refine lv_iload_n hx hb dX12_readBoth_1 rfl (lv_at hl 1 rfl) ?_
    refine kV.callV (As := [.int dp]) (rest := []) ⟨hx, hb, hml, hown, hg⟩ (hplain l o r f a g hI dp bdp N (i) (n) ob T (rS_fE hE hp0 (by decide)) (by rw [ec19.symm]; exact hg0) hp2 hp3 (fun _ => ⟨(by rw [ec20.symm]; exact hn20), hl50⟩) hp5) (cwV 1 hg (kgV wt7_7 wt7_9 wp5_1 wt1_14 wt7_10) rfl rfl rfl (by decide +kernel) ⟨by dsimp only [rmD]; omega, by dsimp only [rmD]; omega⟩) hK hP hD hS hA mIs [] rfl (wr := []) rfl rfl rfl (fun i h => by cases h) 0 12 rfl rfl rfl hl.1 rfl (Nat.le_of_ble_eq_true rfl) dX12_readBoth_2 ⟨Nat.le_refl _, Nat.le_refl _⟩ (fun u5 H locs hw3 hP hD hS => ?_)
    have hP : va_P D vwCl (mW K o r u5 a g) H := hP
    have hD : va_D A (mW K o r u5 a g) := hD
    have hI : mI u5 a := hw3.1
    have eE6 : fE [19, 20, 21] f u5 := hw3.2.1
    have hE : fE [19, 20, 21] f u5 := fE_tr hE eE6
    obtain ⟨ik7, nk7, hgk7, hlek7, hNk7, hck7⟩ := hw3.2.2
    rcases hck7 with ⟨-, h2k7, h3k7, hGk7⟩ | ⟨-, hbk7, hGk7⟩ | hdk7
    · obtain ⟨gv8, egv8⟩ : ∃ z : Int32, z = u5 19 := ⟨_, rfl⟩
      have hg9 : gv8.toInt = ((ik7 : Nat) : Int) := by rw [egv8]; exact hgk7
      have b10 : kb 0 gv8 400 := kb_tok (rS_fE hE hp0 (by decide)) hNk7 hg9
      obtain ⟨z11, ez11⟩ : ∃ z : Int32, z = u5 20 := ⟨_, rfl⟩
      have hzz11 : z11.toInt = (nk7 : Int) := by rw [ez11]; exact h3k7.1
      have lp13 : ∀ (n14 : Nat) (i9 : Nat) (n9 : Nat) (F12 : Nat → Int32) (H : Heap) (locs : List Loc) (ls : Array Slot), ((N : Int) < (i9 : Int) + (n14 : Int)) → (mI F12 a) → (fE [19, 20, 21] f F12) → ((F12 19).toInt = (i9 : Int)) → (i ≤ i9 ∧ i9 ≤ N) → ((F12 21 = -1 ∧ ((F12 20).toInt = (n9 : Int) ∧ n9 ≤ 50) ∧ ∀ r, pG ob T d 9 i9 n9 r → pG ob T d 4 i n r) ∨ ((F12 21 = a 17 i9 ∧ ¬ F12 21 = -1) ∧ pG ob T d 4 i n (false, i9, 0))) → va_P D vwCl (mW K o r F12 a g) H → va_D A (mW K o r F12 a g) → va_S A s.heap H locs → lv_has ls 2 [(0, .ref o), (1, .int dp)] → W p l e (rmD (4 * d + 14) 0 0) s m ([.ref o, .int dp] : List Value).toArray below meth c H locs 0 0 (kQv D (tysK K) (fun (u : Nat → Int32) => mI u a ∧ fE [19, 20, 21] f u ∧ (∃ i2 n2 : Nat, (u 19).toInt = (i2 : Int) ∧ i ≤ i2 ∧ i2 ≤ N ∧ ((f 21 = -1 ∧ u 21 = -1 ∧ ((u 20).toInt = (n2 : Int) ∧ n2 ≤ 50) ∧ pG ob T d 4 i n (true, i2, n2)) ∨ (f 21 = -1 ∧ (u 21 = a 17 i2 ∧ ¬ u 21 = -1) ∧ pG ob T d 4 i n (false, i2, 0)) ∨ (¬ f 21 = -1 ∧ u 21 = f 21 ∧ i2 = i)))) (fun u => mW K o r u a g) A below ([.ref o, .int dp] : List Value).toArray s 0 0) (F0 m 5 ls []) := by
        intro n14
        induction n14 with
        | zero =>
          intro i9 n9 F12  H locs ls  hmlp13 hI hE hvlp13_0 hvlp13_1 hvlp13_2 hP hD hS hl
          exact (by have w1 := hmlp13; have w2 := hvlp13_1.2; omega : False).elim
        | succ n14 ihlp13 =>
          intro i9 n9 F12  H locs ls  hmlp13 hI hE hvlp13_0 hvlp13_1 hvlp13_2 hP hD hS hl
          obtain ⟨gv15, egv15⟩ : ∃ z : Int32, z = F12 19 := ⟨_, rfl⟩
          have hg16 : gv15.toInt = ((i9 : Nat) : Int) := by rw [egv15]; exact hvlp13_0
          have b17 : kb 0 gv15 400 := kb_tok (rS_fE hE hp0 (by decide)) hvlp13_1.2 hg16
          rcases hvlp13_2 with ⟨h2x, h3x, xc⟩ | ⟨hbd, xb⟩
          · obtain ⟨z18, ez18⟩ : ∃ z : Int32, z = F12 20 := ⟨_, rfl⟩
            have hzz18 : z18.toInt = (n9 : Int) := by rw [ez18]; exact h3x.1
            refine lv_aload_n hx hb dX12_readBoth_5 rfl (lv_at hl 0 rfl) ?_
            refine lv_bipush (v := 7) hx hb dX12_readBoth_6 (by decide) ?_
            refine kI.callV (As := [.int 7]) (rest := []) ⟨hx, hb, hml, hown, hg⟩ (q_takes0 l o r F12 a g hI 7 (kb_w kc_7 (by decide) (by decide)) N (i9) ob T (rS_fE hE hp0 (by decide)) (by rw [egv15.symm]; exact hg16) hvlp13_1.2 hp3 (by decide +kernel)) (cwV 1 hg (kgV wt6_200 wt6_202 wp4_6 wt1_14 wt6_203) rfl rfl rfl (by decide +kernel) ⟨by dsimp only [rmD]; omega, by dsimp only [rmD]; omega⟩) hK hP hD hS hA mIs [] rfl (wr := []) rfl rfl rfl (fun i h => by cases h) 0 12 rfl rfl rfl hl.1 rfl (Nat.le_of_ble_eq_true rfl) dX12_readBoth_8 ⟨Nat.le_refl _, Nat.le_refl _⟩ (fun v20 u21 H locs hw19 hP hD hS => ?_)
            have hP : va_P D vwCl (mW K o r u21 a g) H := hP
            have hD : va_D A (mW K o r u21 a g) := hD
            have hI : mI u21 a := hw19.2.1
            have eE22 : fE [19] F12 u21 := hw19.2.2.1
            have hE : fE [19, 20, 21] f u21 := fE_tr hE (fE_w (by decide) eE22)
            rcases hw19.2.2.2 with ⟨hvk23, hbk23, htk23, hpk23, hlk23⟩ | ⟨hvk23, hnk23, hpk23⟩
            · refine k_top (z := 1) hvk23 ?_
              obtain ⟨gv24, egv24⟩ : ∃ z : Int32, z = u21 19 := ⟨_, rfl⟩
              have hg25 : gv24.toInt = ((i9 + 1 : Nat) : Int) := by rw [egv24]; exact hpk23
              have b26 : kb 0 gv24 400 := kb_tok (rS_fE hE hp0 (by decide)) hlk23 hg25
              have hTk23 : T (i9) = 2001 := htk23.trans (by decide +kernel)
              refine lv_if_eq (tgt := 22) hx hb dX12_readBoth_11 (by decide) (fun c27 => ?_) (fun c27 => ?_)
              · exact kb_dj c27 kc_1 kc_0 (by decide)
              · refine lv_aload_n hx hb dX12_readBoth_14 rfl (lv_at hl 0 rfl) ?_
                refine lv_iload_n hx hb dX12_readBoth_15 rfl (lv_at hl 1 rfl) ?_
                refine kV.callV (As := [.int dp]) (rest := []) ⟨hx, hb, hml, hown, hg⟩ (hplain l o r u21 a g hI dp bdp N (i9 + 1) (n9) ob T (rS_fE hE hp0 (by decide)) (by rw [egv24.symm]; exact hg25) hlk23 hp3 (fun _ => ⟨(by rw [((eE22 20 (by decide)).trans ez18.symm)]; exact hzz18), h3x.2⟩) hp5) (cwV 1 hg (kgV wt7_7 wt7_9 wp5_1 wt1_14 wt7_10) rfl rfl rfl (by decide +kernel) ⟨by dsimp only [rmD]; omega, by dsimp only [rmD]; omega⟩) hK hP hD hS hA mIs [] rfl (wr := []) rfl rfl rfl (fun i h => by cases h) 0 12 rfl rfl rfl hl.1 rfl (Nat.le_of_ble_eq_true rfl) dX12_readBoth_16 ⟨Nat.le_refl _, Nat.le_refl _⟩ (fun u30 H locs hw28 hP hD hS => ?_)
                have hP : va_P D vwCl (mW K o r u30 a g) H := hP
                have hD : va_D A (mW K o r u30 a g) := hD
                have hI : mI u30 a := hw28.1
                have eE31 : fE [19, 20, 21] u21 u30 := hw28.2.1
                have hE : fE [19, 20, 21] f u30 := fE_tr hE eE31
                obtain ⟨ik32, nk32, hgk32, hlek32, hNk32, hck32⟩ := hw28.2.2
                rcases hck32 with ⟨-, h2k32, h3k32, hGk32⟩ | ⟨-, hbk32, hGk32⟩ | hdk32
                · obtain ⟨gv33, egv33⟩ : ∃ z : Int32, z = u30 19 := ⟨_, rfl⟩
                  have hg34 : gv33.toInt = ((ik32 : Nat) : Int) := by rw [egv33]; exact hgk32
                  have b35 : kb 0 gv33 400 := kb_tok (rS_fE hE hp0 (by decide)) hNk32 hg34
                  obtain ⟨z36, ez36⟩ : ∃ z : Int32, z = u30 20 := ⟨_, rfl⟩
                  have hzz36 : z36.toInt = (nk32 : Int) := by rw [ez36]; exact h3k32.1
                  refine lv_goto (tgt := 5) hx hb dX12_readBoth_19 (by decide) ?_
                  exact ihlp13 (ik32) (nk32) u30 _ _ _  (by omega) hI hE (by rw [egv33.symm]; exact hg34) (⟨(Nat.le_trans (Nat.le_succ_of_le hvlp13_1.1) hlek32), hNk32⟩) (Or.inl ⟨h2k32, ⟨(by rw [ez36.symm]; exact hzz36), h3k32.2⟩, fun r h => xc r (pi_9y hTk23 (pi_4 hGk32 h))⟩) hP hD hS (lv_sub hl [0, 1] rfl)
                · obtain ⟨gv37, egv37⟩ : ∃ z : Int32, z = u30 19 := ⟨_, rfl⟩
                  have hg38 : gv37.toInt = ((ik32 : Nat) : Int) := by rw [egv37]; exact hgk32
                  have b39 : kb 0 gv37 400 := kb_tok (rS_fE hE hp0 (by decide)) hNk32 hg38
                  obtain ⟨z40, ez40⟩ : ∃ z : Int32, z = u30 21 := ⟨_, rfl⟩
                  have haz40 : z40 = a 17 (ik32) := by rw [ez40]; exact hbk32.1
                  have hnz40 : ¬ z40 = -1 := by rw [ez40]; exact hbk32.2
                  refine lv_goto (tgt := 5) hx hb dX12_readBoth_19 (by decide) ?_
                  exact ihlp13 (ik32) (0) u30 _ _ _  (by omega) hI hE (by rw [egv37.symm]; exact hg38) (⟨(Nat.le_trans (Nat.le_succ_of_le hvlp13_1.1) hlek32), hNk32⟩) (Or.inr ⟨⟨(ez40.symm).trans haz40, (fun q => hnz40 ((ez40.symm).symm.trans q))⟩, xc _ (pi_9y hTk23 (pi_4f hGk32))⟩) hP hD hS (lv_sub hl [0, 1] rfl)
                · exact absurd ((eE22 21 (by decide)).trans h2x) hdk32.1
            · refine k_top (z := 0) hvk23 ?_
              obtain ⟨gv41, egv41⟩ : ∃ z : Int32, z = u21 19 := ⟨_, rfl⟩
              have hg42 : gv41.toInt = ((i9 : Nat) : Int) := by rw [egv41]; exact hpk23
              have b43 : kb 0 gv41 400 := kb_tok (rS_fE hE hp0 (by decide)) hvlp13_1.2 hg42
              have hTk23 : ¬ T (i9) = 2001 := fun q => (hnk23 h2x) (q.trans (by decide +kernel))
              refine lv_if_eq (tgt := 22) hx hb dX12_readBoth_11 (by decide) (fun c44 => ?_) (fun c44 => ?_)
              · exact kV_ret hx hb hr hlocks hK hS dX12_readBoth_22 u21 hP hD ⟨hI, hE, ⟨i9, n9, (by rw [egv41.symm]; exact hg42), hvlp13_1.1, hvlp13_1.2, Or.inl ⟨h21, ((eE22 21 (by decide)).trans h2x), ⟨(by rw [((eE22 20 (by decide)).trans ez18.symm)]; exact hzz18), h3x.2⟩, xc _ (pi_9n hTk23)⟩⟩⟩
              · exact kb_nsame c44 kc_0 kc_0
          · obtain ⟨z45, ez45⟩ : ∃ z : Int32, z = F12 21 := ⟨_, rfl⟩
            have haz45 : z45 = a 17 (i9) := by rw [ez45]; exact hbd.1
            have hnz45 : ¬ z45 = -1 := by rw [ez45]; exact hbd.2
            refine lv_aload_n hx hb dX12_readBoth_5 rfl (lv_at hl 0 rfl) ?_
            refine lv_bipush (v := 7) hx hb dX12_readBoth_6 (by decide) ?_
            refine kI.callV (As := [.int 7]) (rest := []) ⟨hx, hb, hml, hown, hg⟩ (q_takes0 l o r F12 a g hI 7 (kb_w kc_7 (by decide) (by decide)) N (i9) ob T (rS_fE hE hp0 (by decide)) (by rw [egv15.symm]; exact hg16) hvlp13_1.2 hp3 (by decide +kernel)) (cwV 1 hg (kgV wt6_200 wt6_202 wp4_6 wt1_14 wt6_203) rfl rfl rfl (by decide +kernel) ⟨by dsimp only [rmD]; omega, by dsimp only [rmD]; omega⟩) hK hP hD hS hA mIs [] rfl (wr := []) rfl rfl rfl (fun i h => by cases h) 0 12 rfl rfl rfl hl.1 rfl (Nat.le_of_ble_eq_true rfl) dX12_readBoth_8 ⟨Nat.le_refl _, Nat.le_refl _⟩ (fun v47 u48 H locs hw46 hP hD hS => ?_)
            have hP : va_P D vwCl (mW K o r u48 a g) H := hP
            have hD : va_D A (mW K o r u48 a g) := hD
            have hI : mI u48 a := hw46.2.1
            have eE49 : fE [19] F12 u48 := hw46.2.2.1
            have hE : fE [19, 20, 21] f u48 := fE_tr hE (fE_w (by decide) eE49)
            obtain ⟨hvk50, hnk50, hpk50⟩ := (hw46.2.2.2).elim (fun q => absurd q.2.1 (fun q => hnz45 ((ez45.symm).symm.trans q))) (fun q => q)
            refine k_top (z := 0) hvk50 ?_
            obtain ⟨gv51, egv51⟩ : ∃ z : Int32, z = u48 19 := ⟨_, rfl⟩
            have hg52 : gv51.toInt = ((i9 : Nat) : Int) := by rw [egv51]; exact hpk50
            have b53 : kb 0 gv51 400 := kb_tok (rS_fE hE hp0 (by decide)) hvlp13_1.2 hg52
            refine lv_if_eq (tgt := 22) hx hb dX12_readBoth_11 (by decide) (fun c54 => ?_) (fun c54 => ?_)
            · exact kV_ret hx hb hr hlocks hK hS dX12_readBoth_22 u48 hP hD ⟨hI, hE, ⟨i9, 0, (by rw [egv51.symm]; exact hg52), hvlp13_1.1, hvlp13_1.2, Or.inr (Or.inl ⟨h21, ⟨(((eE49 21 (by decide)).trans ez45.symm)).trans haz45, (fun q => hnz45 ((((eE49 21 (by decide)).trans ez45.symm)).symm.trans q))⟩, xb⟩)⟩⟩
            · exact kb_nsame c54 kc_0 kc_0
      exact lp13 (N + 1) (ik7) (nk7) u5 _ _ _  (by omega) hI hE (by rw [egv8.symm]; exact hg9) (⟨(Nat.le_trans (Nat.le_refl i) hlek7), hNk7⟩) (Or.inl ⟨h2k7, ⟨(by rw [ez11.symm]; exact hzz11), h3k7.2⟩, fun r h => pi_4 hGk7 h⟩) hP hD hS (lv_sub hl [0, 1] rfl)
    · obtain ⟨gv55, egv55⟩ : ∃ z : Int32, z = u5 19 := ⟨_, rfl⟩
      have hg56 : gv55.toInt = ((ik7 : Nat) : Int) := by rw [egv55]; exact hgk7
      have b57 : kb 0 gv55 400 := kb_tok (rS_fE hE hp0 (by decide)) hNk7 hg56
      obtain ⟨z58, ez58⟩ : ∃ z : Int32, z = u5 21 := ⟨_, rfl⟩
      have haz58 : z58 = a 17 (ik7) := by rw [ez58]; exact hbk7.1
      have hnz58 : ¬ z58 = -1 := by rw [ez58]; exact hbk7.2
      have lp60 : ∀ (n61 : Nat) (i9 : Nat) (n9 : Nat) (F59 : Nat → Int32) (H : Heap) (locs : List Loc) (ls : Array Slot), ((N : Int) < (i9 : Int) + (n61 : Int)) → (mI F59 a) → (fE [19, 20, 21] f F59) → ((F59 19).toInt = (i9 : Int)) → (i ≤ i9 ∧ i9 ≤ N) → (F59 21 = z58 ∧ i9 = ik7) → va_P D vwCl (mW K o r F59 a g) H → va_D A (mW K o r F59 a g) → va_S A s.heap H locs → lv_has ls 2 [(0, .ref o), (1, .int dp)] → W p l e (rmD (4 * d + 14) 0 0) s m ([.ref o, .int dp] : List Value).toArray below meth c H locs 0 0 (kQv D (tysK K) (fun (u : Nat → Int32) => mI u a ∧ fE [19, 20, 21] f u ∧ (∃ i2 n2 : Nat, (u 19).toInt = (i2 : Int) ∧ i ≤ i2 ∧ i2 ≤ N ∧ ((f 21 = -1 ∧ u 21 = -1 ∧ ((u 20).toInt = (n2 : Int) ∧ n2 ≤ 50) ∧ pG ob T d 4 i n (true, i2, n2)) ∨ (f 21 = -1 ∧ (u 21 = a 17 i2 ∧ ¬ u 21 = -1) ∧ pG ob T d 4 i n (false, i2, 0)) ∨ (¬ f 21 = -1 ∧ u 21 = f 21 ∧ i2 = i)))) (fun u => mW K o r u a g) A below ([.ref o, .int dp] : List Value).toArray s 0 0) (F0 m 5 ls []) := by
        intro n61
        induction n61 with
        | zero =>
          intro i9 n9 F59  H locs ls  hmlp60 hI hE hvlp60_0 hvlp60_1 hvlp60_2 hP hD hS hl
          exact (by have w1 := hmlp60; have w2 := hvlp60_1.2; omega : False).elim
        | succ n61 ihlp60 =>
          intro i9 n9 F59  H locs ls  hmlp60 hI hE hvlp60_0 hvlp60_1 hvlp60_2 hP hD hS hl
          obtain ⟨gv62, egv62⟩ : ∃ z : Int32, z = F59 19 := ⟨_, rfl⟩
          have hg63 : gv62.toInt = ((i9 : Nat) : Int) := by rw [egv62]; exact hvlp60_0
          have b64 : kb 0 gv62 400 := kb_tok (rS_fE hE hp0 (by decide)) hvlp60_1.2 hg63
          refine lv_aload_n hx hb dX12_readBoth_5 rfl (lv_at hl 0 rfl) ?_
          refine lv_bipush (v := 7) hx hb dX12_readBoth_6 (by decide) ?_
          refine kI.callV (As := [.int 7]) (rest := []) ⟨hx, hb, hml, hown, hg⟩ (q_takes0 l o r F59 a g hI 7 (kb_w kc_7 (by decide) (by decide)) N (i9) ob T (rS_fE hE hp0 (by decide)) (by rw [egv62.symm]; exact hg63) hvlp60_1.2 hp3 (by decide +kernel)) (cwV 1 hg (kgV wt6_200 wt6_202 wp4_6 wt1_14 wt6_203) rfl rfl rfl (by decide +kernel) ⟨by dsimp only [rmD]; omega, by dsimp only [rmD]; omega⟩) hK hP hD hS hA mIs [] rfl (wr := []) rfl rfl rfl (fun i h => by cases h) 0 12 rfl rfl rfl hl.1 rfl (Nat.le_of_ble_eq_true rfl) dX12_readBoth_8 ⟨Nat.le_refl _, Nat.le_refl _⟩ (fun v66 u67 H locs hw65 hP hD hS => ?_)
          have hP : va_P D vwCl (mW K o r u67 a g) H := hP
          have hD : va_D A (mW K o r u67 a g) := hD
          have hI : mI u67 a := hw65.2.1
          have eE68 : fE [19] F59 u67 := hw65.2.2.1
          have hE : fE [19, 20, 21] f u67 := fE_tr hE (fE_w (by decide) eE68)
          obtain ⟨hvk69, hnk69, hpk69⟩ := (hw65.2.2.2).elim (fun q => absurd q.2.1 (fun q => hnz58 ((hvlp60_2.1).symm.trans q))) (fun q => q)
          refine k_top (z := 0) hvk69 ?_
          obtain ⟨gv70, egv70⟩ : ∃ z : Int32, z = u67 19 := ⟨_, rfl⟩
          have hg71 : gv70.toInt = ((i9 : Nat) : Int) := by rw [egv70]; exact hpk69
          have b72 : kb 0 gv70 400 := kb_tok (rS_fE hE hp0 (by decide)) hvlp60_1.2 hg71
          refine lv_if_eq (tgt := 22) hx hb dX12_readBoth_11 (by decide) (fun c73 => ?_) (fun c73 => ?_)
          · exact kV_ret hx hb hr hlocks hK hS dX12_readBoth_22 u67 hP hD ⟨hI, hE, ⟨i9, 0, (by rw [egv70.symm]; exact hg71), hvlp60_1.1, hvlp60_1.2, Or.inr (Or.inl ⟨h21, ⟨(((eE68 21 (by decide)).trans hvlp60_2.1)).trans (by rw [hvlp60_2.2]; exact haz58), (fun q => hnz58 ((((eE68 21 (by decide)).trans hvlp60_2.1)).symm.trans q))⟩, (by rw [hvlp60_2.2]; exact pi_4f hGk7)⟩)⟩⟩
          · exact kb_nsame c73 kc_0 kc_0
      exact lp60 (N + 1) (ik7) (0) u5 _ _ _  (by omega) hI hE (by rw [egv55.symm]; exact hg56) (⟨(Nat.le_trans (Nat.le_refl i) hlek7), hNk7⟩) (⟨ez58.symm, rfl⟩) hP hD hS (lv_sub hl [0, 1] rfl)
    · exact absurd h21 hdk7.1
  · obtain ⟨c21, ec21⟩ : ∃ z : Int32, z = f 21 := ⟨_, rfl⟩
    have hn21 : ¬ c21 = -1 := by rw [ec21]; exact h21
    refine lv_aload_n hx hb dX12_readBoth_0 rfl (lv_at hl 0 rfl) ?_
    refine lv_iload_n hx hb dX12_readBoth_1 rfl (lv_at hl 1 rfl) ?_
    refine kV.callV (As := [.int dp]) (rest := []) ⟨hx, hb, hml, hown, hg⟩ (hplain l o r f a g hI dp bdp N (i) (0) ob T (rS_fE hE hp0 (by decide)) (by rw [ec19.symm]; exact hg0) hp2 hp3 (fun q => absurd q (fun q => hn21 ((ec21.symm).symm.trans q))) hp5) (cwV 1 hg (kgV wt7_7 wt7_9 wp5_1 wt1_14 wt7_10) rfl rfl rfl (by decide +kernel) ⟨by dsimp only [rmD]; omega, by dsimp only [rmD]; omega⟩) hK hP hD hS hA mIs [] rfl (wr := []) rfl rfl rfl (fun i h => by cases h) 0 12 rfl rfl rfl hl.1 rfl (Nat.le_of_ble_eq_true rfl) dX12_readBoth_2 ⟨Nat.le_refl _, Nat.le_refl _⟩ (fun u76 H locs hw74 hP hD hS => ?_)
    have hP : va_P D vwCl (mW K o r u76 a g) H := hP
    have hD : va_D A (mW K o r u76 a g) := hD
    have hI : mI u76 a := hw74.1
    have eE77 : fE [19, 20, 21] f u76 := hw74.2.1
    have hE : fE [19, 20, 21] f u76 := fE_tr hE eE77
    obtain ⟨ik78, nk78, hgk78, hlek78, hNk78, hck78⟩ := hw74.2.2
    have hdk78 := hck78.elim (fun q => absurd q.1 (fun q => hn21 ((ec21.symm).symm.trans q))) (fun q => q.elim (fun q => absurd q.1 (fun q => hn21 ((ec21.symm).symm.trans q))) (fun q => q))
    have hhk78 : (u76 19).toInt = ((i : Nat) : Int) := by rw [← hdk78.2.2]; exact hgk78
    obtain ⟨gv79, egv79⟩ : ∃ z : Int32, z = u76 19 := ⟨_, rfl⟩
    have hg80 : gv79.toInt = ((i : Nat) : Int) := by rw [egv79]; exact hhk78
    have b81 : kb 0 gv79 400 := kb_tok (rS_fE hE hp0 (by decide)) hp2 hg80
    have lp83 : ∀ (n84 : Nat) (i9 : Nat) (n9 : Nat) (F82 : Nat → Int32) (H : Heap) (locs : List Loc) (ls : Array Slot), ((N : Int) < (i9 : Int) + (n84 : Int)) → (mI F82 a) → (fE [19, 20, 21] f F82) → ((F82 19).toInt = (i9 : Int)) → (i ≤ i9 ∧ i9 ≤ N) → (F82 21 = c21 ∧ i9 = i) → va_P D vwCl (mW K o r F82 a g) H → va_D A (mW K o r F82 a g) → va_S A s.heap H locs → lv_has ls 2 [(0, .ref o), (1, .int dp)] → W p l e (rmD (4 * d + 14) 0 0) s m ([.ref o, .int dp] : List Value).toArray below meth c H locs 0 0 (kQv D (tysK K) (fun (u : Nat → Int32) => mI u a ∧ fE [19, 20, 21] f u ∧ (∃ i2 n2 : Nat, (u 19).toInt = (i2 : Int) ∧ i ≤ i2 ∧ i2 ≤ N ∧ ((f 21 = -1 ∧ u 21 = -1 ∧ ((u 20).toInt = (n2 : Int) ∧ n2 ≤ 50) ∧ pG ob T d 4 i n (true, i2, n2)) ∨ (f 21 = -1 ∧ (u 21 = a 17 i2 ∧ ¬ u 21 = -1) ∧ pG ob T d 4 i n (false, i2, 0)) ∨ (¬ f 21 = -1 ∧ u 21 = f 21 ∧ i2 = i)))) (fun u => mW K o r u a g) A below ([.ref o, .int dp] : List Value).toArray s 0 0) (F0 m 5 ls []) := by
      intro n84
      induction n84 with
      | zero =>
        intro i9 n9 F82  H locs ls  hmlp83 hI hE hvlp83_0 hvlp83_1 hvlp83_2 hP hD hS hl
        exact (by have w1 := hmlp83; have w2 := hvlp83_1.2; omega : False).elim
      | succ n84 ihlp83 =>
        intro i9 n9 F82  H locs ls  hmlp83 hI hE hvlp83_0 hvlp83_1 hvlp83_2 hP hD hS hl
        obtain ⟨gv85, egv85⟩ : ∃ z : Int32, z = F82 19 := ⟨_, rfl⟩
        have hg86 : gv85.toInt = ((i9 : Nat) : Int) := by rw [egv85]; exact hvlp83_0
        have b87 : kb 0 gv85 400 := kb_tok (rS_fE hE hp0 (by decide)) hvlp83_1.2 hg86
        refine lv_aload_n hx hb dX12_readBoth_5 rfl (lv_at hl 0 rfl) ?_
        refine lv_bipush (v := 7) hx hb dX12_readBoth_6 (by decide) ?_
        refine kI.callV (As := [.int 7]) (rest := []) ⟨hx, hb, hml, hown, hg⟩ (q_takes0 l o r F82 a g hI 7 (kb_w kc_7 (by decide) (by decide)) N (i9) ob T (rS_fE hE hp0 (by decide)) (by rw [egv85.symm]; exact hg86) hvlp83_1.2 hp3 (by decide +kernel)) (cwV 1 hg (kgV wt6_200 wt6_202 wp4_6 wt1_14 wt6_203) rfl rfl rfl (by decide +kernel) ⟨by dsimp only [rmD]; omega, by dsimp only [rmD]; omega⟩) hK hP hD hS hA mIs [] rfl (wr := []) rfl rfl rfl (fun i h => by cases h) 0 12 rfl rfl rfl hl.1 rfl (Nat.le_of_ble_eq_true rfl) dX12_readBoth_8 ⟨Nat.le_refl _, Nat.le_refl _⟩ (fun v89 u90 H locs hw88 hP hD hS => ?_)
        have hP : va_P D vwCl (mW K o r u90 a g) H := hP
        have hD : va_D A (mW K o r u90 a g) := hD
        have hI : mI u90 a := hw88.2.1
        have eE91 : fE [19] F82 u90 := hw88.2.2.1
        have hE : fE [19, 20, 21] f u90 := fE_tr hE (fE_w (by decide) eE91)
        obtain ⟨hvk92, hnk92, hpk92⟩ := (hw88.2.2.2).elim (fun q => absurd q.2.1 (fun q => hn21 ((hvlp83_2.1).symm.trans q))) (fun q => q)
        refine k_top (z := 0) hvk92 ?_
        obtain ⟨gv93, egv93⟩ : ∃ z : Int32, z = u90 19 := ⟨_, rfl⟩
        have hg94 : gv93.toInt = ((i9 : Nat) : Int) := by rw [egv93]; exact hpk92
        have b95 : kb 0 gv93 400 := kb_tok (rS_fE hE hp0 (by decide)) hvlp83_1.2 hg94
        refine lv_if_eq (tgt := 22) hx hb dX12_readBoth_11 (by decide) (fun c96 => ?_) (fun c96 => ?_)
        · exact kV_ret hx hb hr hlocks hK hS dX12_readBoth_22 u90 hP hD ⟨hI, hE, ⟨i9, 0, (by rw [egv93.symm]; exact hg94), hvlp83_1.1, hvlp83_1.2, Or.inr (Or.inr ⟨h21, (((eE91 21 (by decide)).trans hvlp83_2.1)).trans ec21, hvlp83_2.2⟩)⟩⟩
        · exact kb_nsame c96 kc_0 kc_0
    exact lp83 (N + 1) (i) (0) u76 _ _ _  (by omega) hI hE (by rw [egv79.symm]; exact hg80) (⟨(Nat.le_refl i), hp2⟩) (⟨(hdk78.2.1.trans ec21.symm), rfl⟩) hP hD hS (lv_sub hl [0, 1] rfl)
set_option maxHeartbeats 4000000 in
set_option maxRecDepth 100000 in
theorem q_readTest (d : Nat) (hboth : dRBoth d) (l : Launch) {D : va_G} {K : Nat → ClassId} (o : Nat) (r : Nat → Nat) (f : Nat → Int32) (a : Nat → Nat → Int32) (g : Nat → Int64) (hI : mI f a) (dp : Int32) (bdp : kb 0 dp 8) (N i n : Nat) (ob : Bool) (T : Nat → Int32) (hp0 : rS f a N ob) (hp1 : (f 19).toInt = (i : Int)) (hp2 : i ≤ N) (hp3 : rQ a N T) (hp4 : f 21 = -1 → (f 20).toInt = (n : Int) ∧ n ≤ 50) (hp5 : dp.toInt + (d : Int) = 8) : kV l yX12_readTest (Cond.code yX12_readTest cX12_readTest 2 none :: kG) (rmD (4 * d + 15) 0 0) D (tysK K) [.ref o, .int dp] (mW K o r f a g) (fun (u : Nat → Int32) => mI u a ∧ fE [19, 20, 21] f u ∧ (∃ i2 n2 : Nat, (u 19).toInt = (i2 : Int) ∧ i ≤ i2 ∧ i2 ≤ N ∧ ((f 21 = -1 ∧ u 21 = -1 ∧ ((u 20).toInt = (n2 : Int) ∧ n2 ≤ 50) ∧ pG ob T d 3 i n (true, i2, n2)) ∨ (f 21 = -1 ∧ (u 21 = a 17 i2 ∧ ¬ u 21 = -1) ∧ pG ob T d 3 i n (false, i2, 0)) ∨ (¬ f 21 = -1 ∧ u 21 = f 21 ∧ i2 = i)))) (fun u => mW K o r u a g) 0 0 := by
  refine kV.of (cc := cX12_readTest) (maxL := 2) (ret := none) (by decide) rfl (Nat.le_of_ble_eq_true rfl) ?_
  intro p e s m below meth c A hx hb hr hml hown hts hlocks hnm hK hP hD hS hA ls hl
  have hE : fE [19, 20, 21] f f := fE_rf
  have hg : ∀ w ∈ kG, w.before _ s = true := fun w h => hts w (List.mem_cons_of_mem _ h)
  have hown : s.vm.findClass RX12 = some m.cls := hown
  have hl : lv_has ls 2 [(0, .ref o), (1, .int dp)] := hl
  obtain ⟨c19, ec19⟩ : ∃ z : Int32, z = f 19 := ⟨_, rfl⟩
  have hg0 : c19.toInt = (i : Int) := by rw [ec19]; exact hp1
  have b1 : kb 0 c19 400 := kb_tok hp0 hp2 hg0
  by_cases h21 : f 21 = -1
  · obtain ⟨c20, ec20⟩ : ∃ z : Int32, z = f 20 := ⟨_, rfl⟩
    have hn20 : c20.toInt = (n : Int) := by rw [ec20]; exact (hp4 h21).1
    have hl50 : n ≤ 50 := (hp4 h21).2
    have b2 : kb 0 c20 50 := ⟨by omega, by omega⟩
    refine lv_aload_n hx hb dX12_readTest_0 rfl (lv_at hl 0 rfl) ?_
    refine lv_iload_n hx hb dX12_readTest_1 rfl (lv_at hl 1 rfl) ?_
    refine kV.callV (As := [.int dp]) (rest := []) ⟨hx, hb, hml, hown, hg⟩ (hboth l o r f a g hI dp bdp N (i) (n) ob T (rS_fE hE hp0 (by decide)) (by rw [ec19.symm]; exact hg0) hp2 hp3 (fun _ => ⟨(by rw [ec20.symm]; exact hn20), hl50⟩) hp5) (cwV 1 hg (kgV wt7_3 wt7_5 wp5_0 wt1_14 wt7_6) rfl rfl rfl (by decide +kernel) ⟨by dsimp only [rmD]; omega, by dsimp only [rmD]; omega⟩) hK hP hD hS hA mIs [] rfl (wr := []) rfl rfl rfl (fun i h => by cases h) 0 12 rfl rfl rfl hl.1 rfl (Nat.le_of_ble_eq_true rfl) dX12_readTest_2 ⟨Nat.le_refl _, Nat.le_refl _⟩ (fun u5 H locs hw3 hP hD hS => ?_)
    have hP : va_P D vwCl (mW K o r u5 a g) H := hP
    have hD : va_D A (mW K o r u5 a g) := hD
    have hI : mI u5 a := hw3.1
    have eE6 : fE [19, 20, 21] f u5 := hw3.2.1
    have hE : fE [19, 20, 21] f u5 := fE_tr hE eE6
    obtain ⟨ik7, nk7, hgk7, hlek7, hNk7, hck7⟩ := hw3.2.2
    rcases hck7 with ⟨-, h2k7, h3k7, hGk7⟩ | ⟨-, hbk7, hGk7⟩ | hdk7
    · obtain ⟨gv8, egv8⟩ : ∃ z : Int32, z = u5 19 := ⟨_, rfl⟩
      have hg9 : gv8.toInt = ((ik7 : Nat) : Int) := by rw [egv8]; exact hgk7
      have b10 : kb 0 gv8 400 := kb_tok (rS_fE hE hp0 (by decide)) hNk7 hg9
      obtain ⟨z11, ez11⟩ : ∃ z : Int32, z = u5 20 := ⟨_, rfl⟩
      have hzz11 : z11.toInt = (nk7 : Int) := by rw [ez11]; exact h3k7.1
      have lp13 : ∀ (n14 : Nat) (i8 : Nat) (n8 : Nat) (F12 : Nat → Int32) (H : Heap) (locs : List Loc) (ls : Array Slot), ((N : Int) < (i8 : Int) + (n14 : Int)) → (mI F12 a) → (fE [19, 20, 21] f F12) → ((F12 19).toInt = (i8 : Int)) → (i ≤ i8 ∧ i8 ≤ N) → ((F12 21 = -1 ∧ ((F12 20).toInt = (n8 : Int) ∧ n8 ≤ 50) ∧ ∀ r, pG ob T d 8 i8 n8 r → pG ob T d 3 i n r) ∨ ((F12 21 = a 17 i8 ∧ ¬ F12 21 = -1) ∧ pG ob T d 3 i n (false, i8, 0))) → va_P D vwCl (mW K o r F12 a g) H → va_D A (mW K o r F12 a g) → va_S A s.heap H locs → lv_has ls 2 [(0, .ref o), (1, .int dp)] → W p l e (rmD (4 * d + 15) 0 0) s m ([.ref o, .int dp] : List Value).toArray below meth c H locs 0 0 (kQv D (tysK K) (fun (u : Nat → Int32) => mI u a ∧ fE [19, 20, 21] f u ∧ (∃ i2 n2 : Nat, (u 19).toInt = (i2 : Int) ∧ i ≤ i2 ∧ i2 ≤ N ∧ ((f 21 = -1 ∧ u 21 = -1 ∧ ((u 20).toInt = (n2 : Int) ∧ n2 ≤ 50) ∧ pG ob T d 3 i n (true, i2, n2)) ∨ (f 21 = -1 ∧ (u 21 = a 17 i2 ∧ ¬ u 21 = -1) ∧ pG ob T d 3 i n (false, i2, 0)) ∨ (¬ f 21 = -1 ∧ u 21 = f 21 ∧ i2 = i)))) (fun u => mW K o r u a g) A below ([.ref o, .int dp] : List Value).toArray s 0 0) (F0 m 5 ls []) := by
        intro n14
        induction n14 with
        | zero =>
          intro i8 n8 F12  H locs ls  hmlp13 hI hE hvlp13_0 hvlp13_1 hvlp13_2 hP hD hS hl
          exact (by have w1 := hmlp13; have w2 := hvlp13_1.2; omega : False).elim
        | succ n14 ihlp13 =>
          intro i8 n8 F12  H locs ls  hmlp13 hI hE hvlp13_0 hvlp13_1 hvlp13_2 hP hD hS hl
          obtain ⟨gv15, egv15⟩ : ∃ z : Int32, z = F12 19 := ⟨_, rfl⟩
          have hg16 : gv15.toInt = ((i8 : Nat) : Int) := by rw [egv15]; exact hvlp13_0
          have b17 : kb 0 gv15 400 := kb_tok (rS_fE hE hp0 (by decide)) hvlp13_1.2 hg16
          rcases hvlp13_2 with ⟨h2x, h3x, xc⟩ | ⟨hbd, xb⟩
          · obtain ⟨z18, ez18⟩ : ∃ z : Int32, z = F12 20 := ⟨_, rfl⟩
            have hzz18 : z18.toInt = (n8 : Int) := by rw [ez18]; exact h3x.1
            refine lv_aload_n hx hb dX12_readTest_5 rfl (lv_at hl 0 rfl) ?_
            refine lv_bipush (v := 6) hx hb dX12_readTest_6 (by decide) ?_
            refine kI.callV (As := [.int 6]) (rest := []) ⟨hx, hb, hml, hown, hg⟩ (q_takes0 l o r F12 a g hI 6 (kb_w kc_6 (by decide) (by decide)) N (i8) ob T (rS_fE hE hp0 (by decide)) (by rw [egv15.symm]; exact hg16) hvlp13_1.2 hp3 (by decide +kernel)) (cwV 1 hg (kgV wt6_200 wt6_202 wp4_6 wt1_14 wt6_203) rfl rfl rfl (by decide +kernel) ⟨by dsimp only [rmD]; omega, by dsimp only [rmD]; omega⟩) hK hP hD hS hA mIs [] rfl (wr := []) rfl rfl rfl (fun i h => by cases h) 0 12 rfl rfl rfl hl.1 rfl (Nat.le_of_ble_eq_true rfl) dX12_readTest_8 ⟨Nat.le_refl _, Nat.le_refl _⟩ (fun v20 u21 H locs hw19 hP hD hS => ?_)
            have hP : va_P D vwCl (mW K o r u21 a g) H := hP
            have hD : va_D A (mW K o r u21 a g) := hD
            have hI : mI u21 a := hw19.2.1
            have eE22 : fE [19] F12 u21 := hw19.2.2.1
            have hE : fE [19, 20, 21] f u21 := fE_tr hE (fE_w (by decide) eE22)
            rcases hw19.2.2.2 with ⟨hvk23, hbk23, htk23, hpk23, hlk23⟩ | ⟨hvk23, hnk23, hpk23⟩
            · refine k_top (z := 1) hvk23 ?_
              obtain ⟨gv24, egv24⟩ : ∃ z : Int32, z = u21 19 := ⟨_, rfl⟩
              have hg25 : gv24.toInt = ((i8 + 1 : Nat) : Int) := by rw [egv24]; exact hpk23
              have b26 : kb 0 gv24 400 := kb_tok (rS_fE hE hp0 (by decide)) hlk23 hg25
              have hTk23 : T (i8) = 2000 := htk23.trans (by decide +kernel)
              refine lv_if_eq (tgt := 22) hx hb dX12_readTest_11 (by decide) (fun c27 => ?_) (fun c27 => ?_)
              · exact kb_dj c27 kc_1 kc_0 (by decide)
              · refine lv_aload_n hx hb dX12_readTest_14 rfl (lv_at hl 0 rfl) ?_
                refine lv_iload_n hx hb dX12_readTest_15 rfl (lv_at hl 1 rfl) ?_
                refine kV.callV (As := [.int dp]) (rest := []) ⟨hx, hb, hml, hown, hg⟩ (hboth l o r u21 a g hI dp bdp N (i8 + 1) (n8) ob T (rS_fE hE hp0 (by decide)) (by rw [egv24.symm]; exact hg25) hlk23 hp3 (fun _ => ⟨(by rw [((eE22 20 (by decide)).trans ez18.symm)]; exact hzz18), h3x.2⟩) hp5) (cwV 1 hg (kgV wt7_3 wt7_5 wp5_0 wt1_14 wt7_6) rfl rfl rfl (by decide +kernel) ⟨by dsimp only [rmD]; omega, by dsimp only [rmD]; omega⟩) hK hP hD hS hA mIs [] rfl (wr := []) rfl rfl rfl (fun i h => by cases h) 0 12 rfl rfl rfl hl.1 rfl (Nat.le_of_ble_eq_true rfl) dX12_readTest_16 ⟨Nat.le_refl _, Nat.le_refl _⟩ (fun u30 H locs hw28 hP hD hS => ?_)
                have hP : va_P D vwCl (mW K o r u30 a g) H := hP
                have hD : va_D A (mW K o r u30 a g) := hD
                have hI : mI u30 a := hw28.1
                have eE31 : fE [19, 20, 21] u21 u30 := hw28.2.1
                have hE : fE [19, 20, 21] f u30 := fE_tr hE eE31
                obtain ⟨ik32, nk32, hgk32, hlek32, hNk32, hck32⟩ := hw28.2.2
                rcases hck32 with ⟨-, h2k32, h3k32, hGk32⟩ | ⟨-, hbk32, hGk32⟩ | hdk32
                · obtain ⟨gv33, egv33⟩ : ∃ z : Int32, z = u30 19 := ⟨_, rfl⟩
                  have hg34 : gv33.toInt = ((ik32 : Nat) : Int) := by rw [egv33]; exact hgk32
                  have b35 : kb 0 gv33 400 := kb_tok (rS_fE hE hp0 (by decide)) hNk32 hg34
                  obtain ⟨z36, ez36⟩ : ∃ z : Int32, z = u30 20 := ⟨_, rfl⟩
                  have hzz36 : z36.toInt = (nk32 : Int) := by rw [ez36]; exact h3k32.1
                  refine lv_goto (tgt := 5) hx hb dX12_readTest_19 (by decide) ?_
                  exact ihlp13 (ik32) (nk32) u30 _ _ _  (by omega) hI hE (by rw [egv33.symm]; exact hg34) (⟨(Nat.le_trans (Nat.le_succ_of_le hvlp13_1.1) hlek32), hNk32⟩) (Or.inl ⟨h2k32, ⟨(by rw [ez36.symm]; exact hzz36), h3k32.2⟩, fun r h => xc r (pi_8y hTk23 (pi_3 hGk32 h))⟩) hP hD hS (lv_sub hl [0, 1] rfl)
                · obtain ⟨gv37, egv37⟩ : ∃ z : Int32, z = u30 19 := ⟨_, rfl⟩
                  have hg38 : gv37.toInt = ((ik32 : Nat) : Int) := by rw [egv37]; exact hgk32
                  have b39 : kb 0 gv37 400 := kb_tok (rS_fE hE hp0 (by decide)) hNk32 hg38
                  obtain ⟨z40, ez40⟩ : ∃ z : Int32, z = u30 21 := ⟨_, rfl⟩
                  have haz40 : z40 = a 17 (ik32) := by rw [ez40]; exact hbk32.1
                  have hnz40 : ¬ z40 = -1 := by rw [ez40]; exact hbk32.2
                  refine lv_goto (tgt := 5) hx hb dX12_readTest_19 (by decide) ?_
                  exact ihlp13 (ik32) (0) u30 _ _ _  (by omega) hI hE (by rw [egv37.symm]; exact hg38) (⟨(Nat.le_trans (Nat.le_succ_of_le hvlp13_1.1) hlek32), hNk32⟩) (Or.inr ⟨⟨(ez40.symm).trans haz40, (fun q => hnz40 ((ez40.symm).symm.trans q))⟩, xc _ (pi_8y hTk23 (pi_3f hGk32))⟩) hP hD hS (lv_sub hl [0, 1] rfl)
                · exact absurd ((eE22 21 (by decide)).trans h2x) hdk32.1
            · refine k_top (z := 0) hvk23 ?_
              obtain ⟨gv41, egv41⟩ : ∃ z : Int32, z = u21 19 := ⟨_, rfl⟩
              have hg42 : gv41.toInt = ((i8 : Nat) : Int) := by rw [egv41]; exact hpk23
              have b43 : kb 0 gv41 400 := kb_tok (rS_fE hE hp0 (by decide)) hvlp13_1.2 hg42
              have hTk23 : ¬ T (i8) = 2000 := fun q => (hnk23 h2x) (q.trans (by decide +kernel))
              refine lv_if_eq (tgt := 22) hx hb dX12_readTest_11 (by decide) (fun c44 => ?_) (fun c44 => ?_)
              · exact kV_ret hx hb hr hlocks hK hS dX12_readTest_22 u21 hP hD ⟨hI, hE, ⟨i8, n8, (by rw [egv41.symm]; exact hg42), hvlp13_1.1, hvlp13_1.2, Or.inl ⟨h21, ((eE22 21 (by decide)).trans h2x), ⟨(by rw [((eE22 20 (by decide)).trans ez18.symm)]; exact hzz18), h3x.2⟩, xc _ (pi_8n hTk23)⟩⟩⟩
              · exact kb_nsame c44 kc_0 kc_0
          · obtain ⟨z45, ez45⟩ : ∃ z : Int32, z = F12 21 := ⟨_, rfl⟩
            have haz45 : z45 = a 17 (i8) := by rw [ez45]; exact hbd.1
            have hnz45 : ¬ z45 = -1 := by rw [ez45]; exact hbd.2
            refine lv_aload_n hx hb dX12_readTest_5 rfl (lv_at hl 0 rfl) ?_
            refine lv_bipush (v := 6) hx hb dX12_readTest_6 (by decide) ?_
            refine kI.callV (As := [.int 6]) (rest := []) ⟨hx, hb, hml, hown, hg⟩ (q_takes0 l o r F12 a g hI 6 (kb_w kc_6 (by decide) (by decide)) N (i8) ob T (rS_fE hE hp0 (by decide)) (by rw [egv15.symm]; exact hg16) hvlp13_1.2 hp3 (by decide +kernel)) (cwV 1 hg (kgV wt6_200 wt6_202 wp4_6 wt1_14 wt6_203) rfl rfl rfl (by decide +kernel) ⟨by dsimp only [rmD]; omega, by dsimp only [rmD]; omega⟩) hK hP hD hS hA mIs [] rfl (wr := []) rfl rfl rfl (fun i h => by cases h) 0 12 rfl rfl rfl hl.1 rfl (Nat.le_of_ble_eq_true rfl) dX12_readTest_8 ⟨Nat.le_refl _, Nat.le_refl _⟩ (fun v47 u48 H locs hw46 hP hD hS => ?_)
            have hP : va_P D vwCl (mW K o r u48 a g) H := hP
            have hD : va_D A (mW K o r u48 a g) := hD
            have hI : mI u48 a := hw46.2.1
            have eE49 : fE [19] F12 u48 := hw46.2.2.1
            have hE : fE [19, 20, 21] f u48 := fE_tr hE (fE_w (by decide) eE49)
            obtain ⟨hvk50, hnk50, hpk50⟩ := (hw46.2.2.2).elim (fun q => absurd q.2.1 (fun q => hnz45 ((ez45.symm).symm.trans q))) (fun q => q)
            refine k_top (z := 0) hvk50 ?_
            obtain ⟨gv51, egv51⟩ : ∃ z : Int32, z = u48 19 := ⟨_, rfl⟩
            have hg52 : gv51.toInt = ((i8 : Nat) : Int) := by rw [egv51]; exact hpk50
            have b53 : kb 0 gv51 400 := kb_tok (rS_fE hE hp0 (by decide)) hvlp13_1.2 hg52
            refine lv_if_eq (tgt := 22) hx hb dX12_readTest_11 (by decide) (fun c54 => ?_) (fun c54 => ?_)
            · exact kV_ret hx hb hr hlocks hK hS dX12_readTest_22 u48 hP hD ⟨hI, hE, ⟨i8, 0, (by rw [egv51.symm]; exact hg52), hvlp13_1.1, hvlp13_1.2, Or.inr (Or.inl ⟨h21, ⟨(((eE49 21 (by decide)).trans ez45.symm)).trans haz45, (fun q => hnz45 ((((eE49 21 (by decide)).trans ez45.symm)).symm.trans q))⟩, xb⟩)⟩⟩
            · exact kb_nsame c54 kc_0 kc_0
      exact lp13 (N + 1) (ik7) (nk7) u5 _ _ _  (by omega) hI hE (by rw [egv8.symm]; exact hg9) (⟨(Nat.le_trans (Nat.le_refl i) hlek7), hNk7⟩) (Or.inl ⟨h2k7, ⟨(by rw [ez11.symm]; exact hzz11), h3k7.2⟩, fun r h => pi_3 hGk7 h⟩) hP hD hS (lv_sub hl [0, 1] rfl)
    · obtain ⟨gv55, egv55⟩ : ∃ z : Int32, z = u5 19 := ⟨_, rfl⟩
      have hg56 : gv55.toInt = ((ik7 : Nat) : Int) := by rw [egv55]; exact hgk7
      have b57 : kb 0 gv55 400 := kb_tok (rS_fE hE hp0 (by decide)) hNk7 hg56
      obtain ⟨z58, ez58⟩ : ∃ z : Int32, z = u5 21 := ⟨_, rfl⟩
      have haz58 : z58 = a 17 (ik7) := by rw [ez58]; exact hbk7.1
      have hnz58 : ¬ z58 = -1 := by rw [ez58]; exact hbk7.2
      have lp60 : ∀ (n61 : Nat) (i8 : Nat) (n8 : Nat) (F59 : Nat → Int32) (H : Heap) (locs : List Loc) (ls : Array Slot), ((N : Int) < (i8 : Int) + (n61 : Int)) → (mI F59 a) → (fE [19, 20, 21] f F59) → ((F59 19).toInt = (i8 : Int)) → (i ≤ i8 ∧ i8 ≤ N) → (F59 21 = z58 ∧ i8 = ik7) → va_P D vwCl (mW K o r F59 a g) H → va_D A (mW K o r F59 a g) → va_S A s.heap H locs → lv_has ls 2 [(0, .ref o), (1, .int dp)] → W p l e (rmD (4 * d + 15) 0 0) s m ([.ref o, .int dp] : List Value).toArray below meth c H locs 0 0 (kQv D (tysK K) (fun (u : Nat → Int32) => mI u a ∧ fE [19, 20, 21] f u ∧ (∃ i2 n2 : Nat, (u 19).toInt = (i2 : Int) ∧ i ≤ i2 ∧ i2 ≤ N ∧ ((f 21 = -1 ∧ u 21 = -1 ∧ ((u 20).toInt = (n2 : Int) ∧ n2 ≤ 50) ∧ pG ob T d 3 i n (true, i2, n2)) ∨ (f 21 = -1 ∧ (u 21 = a 17 i2 ∧ ¬ u 21 = -1) ∧ pG ob T d 3 i n (false, i2, 0)) ∨ (¬ f 21 = -1 ∧ u 21 = f 21 ∧ i2 = i)))) (fun u => mW K o r u a g) A below ([.ref o, .int dp] : List Value).toArray s 0 0) (F0 m 5 ls []) := by
        intro n61
        induction n61 with
        | zero =>
          intro i8 n8 F59  H locs ls  hmlp60 hI hE hvlp60_0 hvlp60_1 hvlp60_2 hP hD hS hl
          exact (by have w1 := hmlp60; have w2 := hvlp60_1.2; omega : False).elim
        | succ n61 ihlp60 =>
          intro i8 n8 F59  H locs ls  hmlp60 hI hE hvlp60_0 hvlp60_1 hvlp60_2 hP hD hS hl
          obtain ⟨gv62, egv62⟩ : ∃ z : Int32, z = F59 19 := ⟨_, rfl⟩
          have hg63 : gv62.toInt = ((i8 : Nat) : Int) := by rw [egv62]; exact hvlp60_0
          have b64 : kb 0 gv62 400 := kb_tok (rS_fE hE hp0 (by decide)) hvlp60_1.2 hg63
          refine lv_aload_n hx hb dX12_readTest_5 rfl (lv_at hl 0 rfl) ?_
          refine lv_bipush (v := 6) hx hb dX12_readTest_6 (by decide) ?_
          refine kI.callV (As := [.int 6]) (rest := []) ⟨hx, hb, hml, hown, hg⟩ (q_takes0 l o r F59 a g hI 6 (kb_w kc_6 (by decide) (by decide)) N (i8) ob T (rS_fE hE hp0 (by decide)) (by rw [egv62.symm]; exact hg63) hvlp60_1.2 hp3 (by decide +kernel)) (cwV 1 hg (kgV wt6_200 wt6_202 wp4_6 wt1_14 wt6_203) rfl rfl rfl (by decide +kernel) ⟨by dsimp only [rmD]; omega, by dsimp only [rmD]; omega⟩) hK hP hD hS hA mIs [] rfl (wr := []) rfl rfl rfl (fun i h => by cases h) 0 12 rfl rfl rfl hl.1 rfl (Nat.le_of_ble_eq_true rfl) dX12_readTest_8 ⟨Nat.le_refl _, Nat.le_refl _⟩ (fun v66 u67 H locs hw65 hP hD hS => ?_)
          have hP : va_P D vwCl (mW K o r u67 a g) H := hP
          have hD : va_D A (mW K o r u67 a g) := hD
          have hI : mI u67 a := hw65.2.1
          have eE68 : fE [19] F59 u67 := hw65.2.2.1
          have hE : fE [19, 20, 21] f u67 := fE_tr hE (fE_w (by decide) eE68)
          obtain ⟨hvk69, hnk69, hpk69⟩ := (hw65.2.2.2).elim (fun q => absurd q.2.1 (fun q => hnz58 ((hvlp60_2.1).symm.trans q))) (fun q => q)
          refine k_top (z := 0) hvk69 ?_
          obtain ⟨gv70, egv70⟩ : ∃ z : Int32, z = u67 19 := ⟨_, rfl⟩
          have hg71 : gv70.toInt = ((i8 : Nat) : Int) := by rw [egv70]; exact hpk69
          have b72 : kb 0 gv70 400 := kb_tok (rS_fE hE hp0 (by decide)) hvlp60_1.2 hg71
          refine lv_if_eq (tgt := 22) hx hb dX12_readTest_11 (by decide) (fun c73 => ?_) (fun c73 => ?_)
          · exact kV_ret hx hb hr hlocks hK hS dX12_readTest_22 u67 hP hD ⟨hI, hE, ⟨i8, 0, (by rw [egv70.symm]; exact hg71), hvlp60_1.1, hvlp60_1.2, Or.inr (Or.inl ⟨h21, ⟨(((eE68 21 (by decide)).trans hvlp60_2.1)).trans (by rw [hvlp60_2.2]; exact haz58), (fun q => hnz58 ((((eE68 21 (by decide)).trans hvlp60_2.1)).symm.trans q))⟩, (by rw [hvlp60_2.2]; exact pi_3f hGk7)⟩)⟩⟩
          · exact kb_nsame c73 kc_0 kc_0
      exact lp60 (N + 1) (ik7) (0) u5 _ _ _  (by omega) hI hE (by rw [egv55.symm]; exact hg56) (⟨(Nat.le_trans (Nat.le_refl i) hlek7), hNk7⟩) (⟨ez58.symm, rfl⟩) hP hD hS (lv_sub hl [0, 1] rfl)
    · exact absurd h21 hdk7.1
  · obtain ⟨c21, ec21⟩ : ∃ z : Int32, z = f 21 := ⟨_, rfl⟩
    have hn21 : ¬ c21 = -1 := by rw [ec21]; exact h21
    refine lv_aload_n hx hb dX12_readTest_0 rfl (lv_at hl 0 rfl) ?_
    refine lv_iload_n hx hb dX12_readTest_1 rfl (lv_at hl 1 rfl) ?_
    refine kV.callV (As := [.int dp]) (rest := []) ⟨hx, hb, hml, hown, hg⟩ (hboth l o r f a g hI dp bdp N (i) (0) ob T (rS_fE hE hp0 (by decide)) (by rw [ec19.symm]; exact hg0) hp2 hp3 (fun q => absurd q (fun q => hn21 ((ec21.symm).symm.trans q))) hp5) (cwV 1 hg (kgV wt7_3 wt7_5 wp5_0 wt1_14 wt7_6) rfl rfl rfl (by decide +kernel) ⟨by dsimp only [rmD]; omega, by dsimp only [rmD]; omega⟩) hK hP hD hS hA mIs [] rfl (wr := []) rfl rfl rfl (fun i h => by cases h) 0 12 rfl rfl rfl hl.1 rfl (Nat.le_of_ble_eq_true rfl) dX12_readTest_2 ⟨Nat.le_refl _, Nat.le_refl _⟩ (fun u76 H locs hw74 hP hD hS => ?_)
    have hP : va_P D vwCl (mW K o r u76 a g) H := hP
    have hD : va_D A (mW K o r u76 a g) := hD
    have hI : mI u76 a := hw74.1
    have eE77 : fE [19, 20, 21] f u76 := hw74.2.1
    have hE : fE [19, 20, 21] f u76 := fE_tr hE eE77
    obtain ⟨ik78, nk78, hgk78, hlek78, hNk78, hck78⟩ := hw74.2.2
    have hdk78 := hck78.elim (fun q => absurd q.1 (fun q => hn21 ((ec21.symm).symm.trans q))) (fun q => q.elim (fun q => absurd q.1 (fun q => hn21 ((ec21.symm).symm.trans q))) (fun q => q))
    have hhk78 : (u76 19).toInt = ((i : Nat) : Int) := by rw [← hdk78.2.2]; exact hgk78
    obtain ⟨gv79, egv79⟩ : ∃ z : Int32, z = u76 19 := ⟨_, rfl⟩
    have hg80 : gv79.toInt = ((i : Nat) : Int) := by rw [egv79]; exact hhk78
    have b81 : kb 0 gv79 400 := kb_tok (rS_fE hE hp0 (by decide)) hp2 hg80
    have lp83 : ∀ (n84 : Nat) (i8 : Nat) (n8 : Nat) (F82 : Nat → Int32) (H : Heap) (locs : List Loc) (ls : Array Slot), ((N : Int) < (i8 : Int) + (n84 : Int)) → (mI F82 a) → (fE [19, 20, 21] f F82) → ((F82 19).toInt = (i8 : Int)) → (i ≤ i8 ∧ i8 ≤ N) → (F82 21 = c21 ∧ i8 = i) → va_P D vwCl (mW K o r F82 a g) H → va_D A (mW K o r F82 a g) → va_S A s.heap H locs → lv_has ls 2 [(0, .ref o), (1, .int dp)] → W p l e (rmD (4 * d + 15) 0 0) s m ([.ref o, .int dp] : List Value).toArray below meth c H locs 0 0 (kQv D (tysK K) (fun (u : Nat → Int32) => mI u a ∧ fE [19, 20, 21] f u ∧ (∃ i2 n2 : Nat, (u 19).toInt = (i2 : Int) ∧ i ≤ i2 ∧ i2 ≤ N ∧ ((f 21 = -1 ∧ u 21 = -1 ∧ ((u 20).toInt = (n2 : Int) ∧ n2 ≤ 50) ∧ pG ob T d 3 i n (true, i2, n2)) ∨ (f 21 = -1 ∧ (u 21 = a 17 i2 ∧ ¬ u 21 = -1) ∧ pG ob T d 3 i n (false, i2, 0)) ∨ (¬ f 21 = -1 ∧ u 21 = f 21 ∧ i2 = i)))) (fun u => mW K o r u a g) A below ([.ref o, .int dp] : List Value).toArray s 0 0) (F0 m 5 ls []) := by
      intro n84
      induction n84 with
      | zero =>
        intro i8 n8 F82  H locs ls  hmlp83 hI hE hvlp83_0 hvlp83_1 hvlp83_2 hP hD hS hl
        exact (by have w1 := hmlp83; have w2 := hvlp83_1.2; omega : False).elim
      | succ n84 ihlp83 =>
        intro i8 n8 F82  H locs ls  hmlp83 hI hE hvlp83_0 hvlp83_1 hvlp83_2 hP hD hS hl
        obtain ⟨gv85, egv85⟩ : ∃ z : Int32, z = F82 19 := ⟨_, rfl⟩
        have hg86 : gv85.toInt = ((i8 : Nat) : Int) := by rw [egv85]; exact hvlp83_0
        have b87 : kb 0 gv85 400 := kb_tok (rS_fE hE hp0 (by decide)) hvlp83_1.2 hg86
        refine lv_aload_n hx hb dX12_readTest_5 rfl (lv_at hl 0 rfl) ?_
        refine lv_bipush (v := 6) hx hb dX12_readTest_6 (by decide) ?_
        refine kI.callV (As := [.int 6]) (rest := []) ⟨hx, hb, hml, hown, hg⟩ (q_takes0 l o r F82 a g hI 6 (kb_w kc_6 (by decide) (by decide)) N (i8) ob T (rS_fE hE hp0 (by decide)) (by rw [egv85.symm]; exact hg86) hvlp83_1.2 hp3 (by decide +kernel)) (cwV 1 hg (kgV wt6_200 wt6_202 wp4_6 wt1_14 wt6_203) rfl rfl rfl (by decide +kernel) ⟨by dsimp only [rmD]; omega, by dsimp only [rmD]; omega⟩) hK hP hD hS hA mIs [] rfl (wr := []) rfl rfl rfl (fun i h => by cases h) 0 12 rfl rfl rfl hl.1 rfl (Nat.le_of_ble_eq_true rfl) dX12_readTest_8 ⟨Nat.le_refl _, Nat.le_refl _⟩ (fun v89 u90 H locs hw88 hP hD hS => ?_)
        have hP : va_P D vwCl (mW K o r u90 a g) H := hP
        have hD : va_D A (mW K o r u90 a g) := hD
        have hI : mI u90 a := hw88.2.1
        have eE91 : fE [19] F82 u90 := hw88.2.2.1
        have hE : fE [19, 20, 21] f u90 := fE_tr hE (fE_w (by decide) eE91)
        obtain ⟨hvk92, hnk92, hpk92⟩ := (hw88.2.2.2).elim (fun q => absurd q.2.1 (fun q => hn21 ((hvlp83_2.1).symm.trans q))) (fun q => q)
        refine k_top (z := 0) hvk92 ?_
        obtain ⟨gv93, egv93⟩ : ∃ z : Int32, z = u90 19 := ⟨_, rfl⟩
        have hg94 : gv93.toInt = ((i8 : Nat) : Int) := by rw [egv93]; exact hpk92
        have b95 : kb 0 gv93 400 := kb_tok (rS_fE hE hp0 (by decide)) hvlp83_1.2 hg94
        refine lv_if_eq (tgt := 22) hx hb dX12_readTest_11 (by decide) (fun c96 => ?_) (fun c96 => ?_)
        · exact kV_ret hx hb hr hlocks hK hS dX12_readTest_22 u90 hP hD ⟨hI, hE, ⟨i8, 0, (by rw [egv93.symm]; exact hg94), hvlp83_1.1, hvlp83_1.2, Or.inr (Or.inr ⟨h21, (((eE91 21 (by decide)).trans hvlp83_2.1)).trans ec21, hvlp83_2.2⟩)⟩⟩
        · exact kb_nsame c96 kc_0 kc_0
    exact lp83 (N + 1) (i) (0) u76 _ _ _  (by omega) hI hE (by rw [egv79.symm]; exact hg80) (⟨(Nat.le_refl i), hp2⟩) (⟨(hdk78.2.1.trans ec21.symm), rfl⟩) hP hD hS (lv_sub hl [0, 1] rfl)
set_option maxHeartbeats 4000000 in
theorem q_allRSum : ∀ d, dRSum d := by
  intro d
  induction d with
  | zero => exact q_readSum 0 (q_readTerm 0 (q_readPart 0 (fun e h => absurd h (by omega))))
  | succ d ih => exact q_readSum _ (q_readTerm _ (q_readPart _ (fun e h => (Nat.succ.inj h) ▸ ih)))
set_option maxHeartbeats 4000000 in
theorem q_allRTest : ∀ d, dRTest d := by
  intro d
  induction d with
  | zero => exact q_readTest 0 (q_readBoth 0 (q_readPlain 0 (fun e h => absurd h (by omega)) (q_allRSum 0)))
  | succ d ih => exact q_readTest _ (q_readBoth _ (q_readPlain _ (fun e h => (Nat.succ.inj h) ▸ ih) (q_allRSum _)))
set_option maxHeartbeats 4000000 in
set_option maxRecDepth 100000 in
theorem q_readClause  (l : Launch) {D : va_G} {K : Nat → ClassId} (o : Nat) (r : Nat → Nat) (f : Nat → Int32) (a : Nat → Nat → Int32) (g : Nat → Int64) (hI : mI f a)   (N i n : Nat) (ob : Bool) (T : Nat → Int32) (hp0 : rS f a N ob) (hp1 : (f 19).toInt = (i : Int)) (hp2 : i ≤ N) (hp3 : rQ a N T) (hp4 : f 21 = -1 → (f 20).toInt = (n : Int) ∧ n ≤ 50) : kV l yX12_readClause (Cond.code yX12_readClause cX12_readClause 1 none :: kG) (rmD 48 0 0) D (tysK K) [.ref o] (mW K o r f a g) (fun (u : Nat → Int32) => mI u a ∧ fE [19, 20, 21] f u ∧ (∃ i2 n2 : Nat, (u 19).toInt = (i2 : Int) ∧ i ≤ i2 ∧ i2 ≤ N ∧ ((f 21 = -1 ∧ u 21 = -1 ∧ ((u 20).toInt = (n2 : Int) ∧ n2 ≤ 50) ∧ pG ob T 8 11 i n (true, i2, n2)) ∨ (f 21 = -1 ∧ (u 21 = a 17 i2 ∧ ¬ u 21 = -1) ∧ pG ob T 8 11 i n (false, i2, 0)) ∨ (¬ f 21 = -1 ∧ u 21 = f 21 ∧ i2 = i)))) (fun u => mW K o r u a g) 0 0 := by
  refine kV.of (cc := cX12_readClause) (maxL := 1) (ret := none) (by decide) rfl (Nat.le_of_ble_eq_true rfl) ?_
  intro p e s m below meth c A hx hb hr hml hown hts hlocks hnm hK hP hD hS hA ls hl
  have hE : fE [19, 20, 21] f f := fE_rf
  have hg : ∀ w ∈ kG, w.before _ s = true := fun w h => hts w (List.mem_cons_of_mem _ h)
  have hown : s.vm.findClass RX12 = some m.cls := hown
  have hl : lv_has ls 1 [(0, .ref o)] := hl
  obtain ⟨c19, ec19⟩ : ∃ z : Int32, z = f 19 := ⟨_, rfl⟩
  have hg0 : c19.toInt = (i : Int) := by rw [ec19]; exact hp1
  have b1 : kb 0 c19 400 := kb_tok hp0 hp2 hg0
  by_cases h21 : f 21 = -1
  · obtain ⟨c20, ec20⟩ : ∃ z : Int32, z = f 20 := ⟨_, rfl⟩
    have hn20 : c20.toInt = (n : Int) := by rw [ec20]; exact (hp4 h21).1
    have hl50 : n ≤ 50 := (hp4 h21).2
    have b2 : kb 0 c20 50 := ⟨by omega, by omega⟩
    refine lv_aload_n hx hb dX12_readClause_0 rfl (lv_at hl 0 rfl) ?_
    refine lv_iconst (v := 1) hx hb dX12_readClause_1 (by decide) ?_
    refine kI.callV (As := [.int 1]) (rest := []) ⟨hx, hb, hml, hown, hg⟩ (q_takes0 l o r f a g hI 1 (kb_w kc_1 (by decide) (by decide)) N (i) ob T (rS_fE hE hp0 (by decide)) (by rw [ec19.symm]; exact hg0) hp2 hp3 (by decide +kernel)) (cwV 1 hg (kgV wt6_200 wt6_202 wp4_6 wt1_14 wt6_203) rfl rfl rfl (by decide +kernel) ⟨by decide, by decide⟩) hK hP hD hS hA mIs [] rfl (wr := []) rfl rfl rfl (fun i h => by cases h) 0 12 rfl rfl rfl hl.1 rfl (Nat.le_of_ble_eq_true rfl) dX12_readClause_2 ⟨Nat.le_refl _, Nat.le_refl _⟩ (fun v4 u5 H locs hw3 hP hD hS => ?_)
    have hP : va_P D vwCl (mW K o r u5 a g) H := hP
    have hD : va_D A (mW K o r u5 a g) := hD
    have hI : mI u5 a := hw3.2.1
    have eE6 : fE [19] f u5 := hw3.2.2.1
    have hE : fE [19, 20, 21] f u5 := fE_tr hE (fE_w (by decide) eE6)
    rcases hw3.2.2.2 with ⟨hvk7, hbk7, htk7, hpk7, hlk7⟩ | ⟨hvk7, hnk7, hpk7⟩
    · refine k_top (z := 1) hvk7 ?_
      obtain ⟨gv8, egv8⟩ : ∃ z : Int32, z = u5 19 := ⟨_, rfl⟩
      have hg9 : gv8.toInt = ((i + 1 : Nat) : Int) := by rw [egv8]; exact hpk7
      have b10 : kb 0 gv8 400 := kb_tok (rS_fE hE hp0 (by decide)) hlk7 hg9
      have hTk7 : T (i) = 2004 := htk7.trans (by decide +kernel)
      refine lv_if_ne (tgt := 24) hx hb dX12_readClause_5 (by decide) (fun c11 => ?_) (fun c11 => ?_)
      · refine lv_aload_n hx hb dX12_readClause_24 rfl (lv_at hl 0 rfl) ?_
        refine lv_iconst (v := 0) hx hb dX12_readClause_25 (by decide) ?_
        refine kV.callV (As := [.int 0]) (rest := []) ⟨hx, hb, hml, hown, hg⟩ ((q_allRSum 8) l o r u5 a g hI 0 (kb_w kc_0 (by decide) (by decide)) N (i + 1) (n) ob T (rS_fE hE hp0 (by decide)) (by rw [egv8.symm]; exact hg9) hlk7 hp3 (fun _ => ⟨(by rw [((eE6 20 (by decide)).trans ec20.symm)]; exact hn20), hl50⟩) (by decide +kernel)) (cwV 1 hg (kgV wt6_208 wt6_210 wp4_8 wt1_14 wt6_211) rfl rfl rfl (by decide +kernel) ⟨by decide, by decide⟩) hK hP hD hS hA mIs [] rfl (wr := []) rfl rfl rfl (fun i h => by cases h) 0 12 rfl rfl rfl hl.1 rfl (Nat.le_of_ble_eq_true rfl) dX12_readClause_26 ⟨Nat.le_refl _, Nat.le_refl _⟩ (fun u14 H locs hw12 hP hD hS => ?_)
        have hP : va_P D vwCl (mW K o r u14 a g) H := hP
        have hD : va_D A (mW K o r u14 a g) := hD
        have hI : mI u14 a := hw12.1
        have eE15 : fE [19, 20, 21] u5 u14 := hw12.2.1
        have hE : fE [19, 20, 21] f u14 := fE_tr hE eE15
        obtain ⟨ik16, nk16, hgk16, hlek16, hNk16, hck16⟩ := hw12.2.2
        rcases hck16 with ⟨-, h2k16, h3k16, hGk16⟩ | ⟨-, hbk16, hGk16⟩ | hdk16
        · obtain ⟨gv17, egv17⟩ : ∃ z : Int32, z = u14 19 := ⟨_, rfl⟩
          have hg18 : gv17.toInt = ((ik16 : Nat) : Int) := by rw [egv17]; exact hgk16
          have b19 : kb 0 gv17 400 := kb_tok (rS_fE hE hp0 (by decide)) hNk16 hg18
          obtain ⟨z20, ez20⟩ : ∃ z : Int32, z = u14 20 := ⟨_, rfl⟩
          have hzz20 : z20.toInt = (nk16 : Int) := by rw [ez20]; exact h3k16.1
          refine lv_goto (tgt := 37) hx hb dX12_readClause_29 (by decide) ?_
          refine lv_aload_n hx hb dX12_readClause_37 rfl (lv_at hl 0 rfl) ?_
          refine lv_iconst (v := 5) hx hb dX12_readClause_38 (by decide) ?_
          refine kI.callV (As := [.int 5]) (rest := []) ⟨hx, hb, hml, hown, hg⟩ (q_takes0 l o r u14 a g hI 5 (kb_w kc_5 (by decide) (by decide)) N (ik16) ob T (rS_fE hE hp0 (by decide)) (by rw [egv17.symm]; exact hg18) hNk16 hp3 (by decide +kernel)) (cwV 1 hg (kgV wt6_200 wt6_202 wp4_6 wt1_14 wt6_203) rfl rfl rfl (by decide +kernel) ⟨by decide, by decide⟩) hK hP hD hS hA mIs [] rfl (wr := []) rfl rfl rfl (fun i h => by cases h) 0 12 rfl rfl rfl hl.1 rfl (Nat.le_of_ble_eq_true rfl) dX12_readClause_39 ⟨Nat.le_refl _, Nat.le_refl _⟩ (fun v22 u23 H locs hw21 hP hD hS => ?_)
          have hP : va_P D vwCl (mW K o r u23 a g) H := hP
          have hD : va_D A (mW K o r u23 a g) := hD
          have hI : mI u23 a := hw21.2.1
          have eE24 : fE [19] u14 u23 := hw21.2.2.1
          have hE : fE [19, 20, 21] f u23 := fE_tr hE (fE_w (by decide) eE24)
          rcases hw21.2.2.2 with ⟨hvk25, hbk25, htk25, hpk25, hlk25⟩ | ⟨hvk25, hnk25, hpk25⟩
          · refine k_top (z := 1) hvk25 ?_
            obtain ⟨gv26, egv26⟩ : ∃ z : Int32, z = u23 19 := ⟨_, rfl⟩
            have hg27 : gv26.toInt = ((ik16 + 1 : Nat) : Int) := by rw [egv26]; exact hpk25
            have b28 : kb 0 gv26 400 := kb_tok (rS_fE hE hp0 (by decide)) hlk25 hg27
            have hTk25 : T (ik16) = 2003 := htk25.trans (by decide +kernel)
            refine lv_if_eq (tgt := 50) hx hb dX12_readClause_42 (by decide) (fun c29 => ?_) (fun c29 => ?_)
            · exact kb_dj c29 kc_1 kc_0 (by decide)
            · refine lv_aload_n hx hb dX12_readClause_45 rfl (lv_at hl 0 rfl) ?_
              refine lv_iconst (v := 0) hx hb dX12_readClause_46 (by decide) ?_
              refine kV.callV (As := [.int 0]) (rest := []) ⟨hx, hb, hml, hown, hg⟩ ((q_allRTest 8) l o r u23 a g hI 0 (kb_w kc_0 (by decide) (by decide)) N (ik16 + 1) (nk16) ob T (rS_fE hE hp0 (by decide)) (by rw [egv26.symm]; exact hg27) hlk25 hp3 (fun _ => ⟨(by rw [((eE24 20 (by decide)).trans ez20.symm)]; exact hzz20), h3k16.2⟩) (by decide +kernel)) (cwV 1 hg (kgV wt6_239 wt7_1 wp4_15 wt1_14 wt7_2) rfl rfl rfl (by decide +kernel) ⟨by decide, by decide⟩) hK hP hD hS hA mIs [] rfl (wr := []) rfl rfl rfl (fun i h => by cases h) 0 12 rfl rfl rfl hl.1 rfl (Nat.le_of_ble_eq_true rfl) dX12_readClause_47 ⟨Nat.le_refl _, Nat.le_refl _⟩ (fun u32 H locs hw30 hP hD hS => ?_)
              have hP : va_P D vwCl (mW K o r u32 a g) H := hP
              have hD : va_D A (mW K o r u32 a g) := hD
              have hI : mI u32 a := hw30.1
              have eE33 : fE [19, 20, 21] u23 u32 := hw30.2.1
              have hE : fE [19, 20, 21] f u32 := fE_tr hE eE33
              obtain ⟨ik34, nk34, hgk34, hlek34, hNk34, hck34⟩ := hw30.2.2
              rcases hck34 with ⟨-, h2k34, h3k34, hGk34⟩ | ⟨-, hbk34, hGk34⟩ | hdk34
              · obtain ⟨gv35, egv35⟩ : ∃ z : Int32, z = u32 19 := ⟨_, rfl⟩
                have hg36 : gv35.toInt = ((ik34 : Nat) : Int) := by rw [egv35]; exact hgk34
                have b37 : kb 0 gv35 400 := kb_tok (rS_fE hE hp0 (by decide)) hNk34 hg36
                obtain ⟨z38, ez38⟩ : ∃ z : Int32, z = u32 20 := ⟨_, rfl⟩
                have hzz38 : z38.toInt = (nk34 : Int) := by rw [ez38]; exact h3k34.1
                exact kV_ret hx hb hr hlocks hK hS dX12_readClause_50 u32 hP hD ⟨hI, hE, ⟨ik34, nk34, (by rw [egv35.symm]; exact hg36), (Nat.le_trans (Nat.le_succ_of_le (Nat.le_trans (Nat.le_succ_of_le (Nat.le_refl i)) hlek16)) hlek34), hNk34, Or.inl ⟨h21, h2k34, ⟨(by rw [ez38.symm]; exact hzz38), h3k34.2⟩, (pi_11a (Or.inl hTk7) hGk16 (pi_12y hTk25 hGk34))⟩⟩⟩
              · obtain ⟨gv39, egv39⟩ : ∃ z : Int32, z = u32 19 := ⟨_, rfl⟩
                have hg40 : gv39.toInt = ((ik34 : Nat) : Int) := by rw [egv39]; exact hgk34
                have b41 : kb 0 gv39 400 := kb_tok (rS_fE hE hp0 (by decide)) hNk34 hg40
                obtain ⟨z42, ez42⟩ : ∃ z : Int32, z = u32 21 := ⟨_, rfl⟩
                have haz42 : z42 = a 17 (ik34) := by rw [ez42]; exact hbk34.1
                have hnz42 : ¬ z42 = -1 := by rw [ez42]; exact hbk34.2
                exact kV_ret hx hb hr hlocks hK hS dX12_readClause_50 u32 hP hD ⟨hI, hE, ⟨ik34, 0, (by rw [egv39.symm]; exact hg40), (Nat.le_trans (Nat.le_succ_of_le (Nat.le_trans (Nat.le_succ_of_le (Nat.le_refl i)) hlek16)) hlek34), hNk34, Or.inr (Or.inl ⟨h21, ⟨(ez42.symm).trans haz42, (fun q => hnz42 ((ez42.symm).symm.trans q))⟩, (pi_11a (Or.inl hTk7) hGk16 (pi_12y hTk25 hGk34))⟩)⟩⟩
              · exact absurd ((eE24 21 (by decide)).trans h2k16) hdk34.1
          · refine k_top (z := 0) hvk25 ?_
            obtain ⟨gv43, egv43⟩ : ∃ z : Int32, z = u23 19 := ⟨_, rfl⟩
            have hg44 : gv43.toInt = ((ik16 : Nat) : Int) := by rw [egv43]; exact hpk25
            have b45 : kb 0 gv43 400 := kb_tok (rS_fE hE hp0 (by decide)) hNk16 hg44
            have hTk25 : ¬ T (ik16) = 2003 := fun q => (hnk25 h2k16) (q.trans (by decide +kernel))
            refine lv_if_eq (tgt := 50) hx hb dX12_readClause_42 (by decide) (fun c46 => ?_) (fun c46 => ?_)
            · exact kV_ret hx hb hr hlocks hK hS dX12_readClause_50 u23 hP hD ⟨hI, hE, ⟨ik16, nk16, (by rw [egv43.symm]; exact hg44), (Nat.le_trans (Nat.le_succ_of_le (Nat.le_refl i)) hlek16), hNk16, Or.inl ⟨h21, ((eE24 21 (by decide)).trans h2k16), ⟨(by rw [((eE24 20 (by decide)).trans ez20.symm)]; exact hzz20), h3k16.2⟩, (pi_11a (Or.inl hTk7) hGk16 (pi_12n hTk25))⟩⟩⟩
            · exact kb_nsame c46 kc_0 kc_0
        · obtain ⟨gv47, egv47⟩ : ∃ z : Int32, z = u14 19 := ⟨_, rfl⟩
          have hg48 : gv47.toInt = ((ik16 : Nat) : Int) := by rw [egv47]; exact hgk16
          have b49 : kb 0 gv47 400 := kb_tok (rS_fE hE hp0 (by decide)) hNk16 hg48
          obtain ⟨z50, ez50⟩ : ∃ z : Int32, z = u14 21 := ⟨_, rfl⟩
          have haz50 : z50 = a 17 (ik16) := by rw [ez50]; exact hbk16.1
          have hnz50 : ¬ z50 = -1 := by rw [ez50]; exact hbk16.2
          refine lv_goto (tgt := 37) hx hb dX12_readClause_29 (by decide) ?_
          refine lv_aload_n hx hb dX12_readClause_37 rfl (lv_at hl 0 rfl) ?_
          refine lv_iconst (v := 5) hx hb dX12_readClause_38 (by decide) ?_
          refine kI.callV (As := [.int 5]) (rest := []) ⟨hx, hb, hml, hown, hg⟩ (q_takes0 l o r u14 a g hI 5 (kb_w kc_5 (by decide) (by decide)) N (ik16) ob T (rS_fE hE hp0 (by decide)) (by rw [egv47.symm]; exact hg48) hNk16 hp3 (by decide +kernel)) (cwV 1 hg (kgV wt6_200 wt6_202 wp4_6 wt1_14 wt6_203) rfl rfl rfl (by decide +kernel) ⟨by decide, by decide⟩) hK hP hD hS hA mIs [] rfl (wr := []) rfl rfl rfl (fun i h => by cases h) 0 12 rfl rfl rfl hl.1 rfl (Nat.le_of_ble_eq_true rfl) dX12_readClause_39 ⟨Nat.le_refl _, Nat.le_refl _⟩ (fun v52 u53 H locs hw51 hP hD hS => ?_)
          have hP : va_P D vwCl (mW K o r u53 a g) H := hP
          have hD : va_D A (mW K o r u53 a g) := hD
          have hI : mI u53 a := hw51.2.1
          have eE54 : fE [19] u14 u53 := hw51.2.2.1
          have hE : fE [19, 20, 21] f u53 := fE_tr hE (fE_w (by decide) eE54)
          obtain ⟨hvk55, hnk55, hpk55⟩ := (hw51.2.2.2).elim (fun q => absurd q.2.1 (fun q => hnz50 ((ez50.symm).symm.trans q))) (fun q => q)
          refine k_top (z := 0) hvk55 ?_
          obtain ⟨gv56, egv56⟩ : ∃ z : Int32, z = u53 19 := ⟨_, rfl⟩
          have hg57 : gv56.toInt = ((ik16 : Nat) : Int) := by rw [egv56]; exact hpk55
          have b58 : kb 0 gv56 400 := kb_tok (rS_fE hE hp0 (by decide)) hNk16 hg57
          refine lv_if_eq (tgt := 50) hx hb dX12_readClause_42 (by decide) (fun c59 => ?_) (fun c59 => ?_)
          · exact kV_ret hx hb hr hlocks hK hS dX12_readClause_50 u53 hP hD ⟨hI, hE, ⟨ik16, 0, (by rw [egv56.symm]; exact hg57), (Nat.le_trans (Nat.le_succ_of_le (Nat.le_refl i)) hlek16), hNk16, Or.inr (Or.inl ⟨h21, ⟨(((eE54 21 (by decide)).trans ez50.symm)).trans haz50, (fun q => hnz50 ((((eE54 21 (by decide)).trans ez50.symm)).symm.trans q))⟩, (pi_11f (Or.inl hTk7) hGk16)⟩)⟩⟩
          · exact kb_nsame c59 kc_0 kc_0
        · exact absurd ((eE6 21 (by decide)).trans h21) hdk16.1
      · exact kb_dj c11 kc_1 kc_0 (by decide)
    · refine k_top (z := 0) hvk7 ?_
      obtain ⟨gv60, egv60⟩ : ∃ z : Int32, z = u5 19 := ⟨_, rfl⟩
      have hg61 : gv60.toInt = ((i : Nat) : Int) := by rw [egv60]; exact hpk7
      have b62 : kb 0 gv60 400 := kb_tok (rS_fE hE hp0 (by decide)) hp2 hg61
      have hTk7 : ¬ T (i) = 2004 := fun q => (hnk7 h21) (q.trans (by decide +kernel))
      refine lv_if_ne (tgt := 24) hx hb dX12_readClause_5 (by decide) (fun c63 => ?_) (fun c63 => ?_)
      · exact kb_nsame c63 kc_0 kc_0
      · refine lv_aload_n hx hb dX12_readClause_8 rfl (lv_at hl 0 rfl) ?_
        refine lv_iconst (v := 2) hx hb dX12_readClause_9 (by decide) ?_
        refine kI.callV (As := [.int 2]) (rest := []) ⟨hx, hb, hml, hown, hg⟩ (q_takes0 l o r u5 a g hI 2 (kb_w kc_2 (by decide) (by decide)) N (i) ob T (rS_fE hE hp0 (by decide)) (by rw [egv60.symm]; exact hg61) hp2 hp3 (by decide +kernel)) (cwV 1 hg (kgV wt6_200 wt6_202 wp4_6 wt1_14 wt6_203) rfl rfl rfl (by decide +kernel) ⟨by decide, by decide⟩) hK hP hD hS hA mIs [] rfl (wr := []) rfl rfl rfl (fun i h => by cases h) 0 12 rfl rfl rfl hl.1 rfl (Nat.le_of_ble_eq_true rfl) dX12_readClause_10 ⟨Nat.le_refl _, Nat.le_refl _⟩ (fun v65 u66 H locs hw64 hP hD hS => ?_)
        have hP : va_P D vwCl (mW K o r u66 a g) H := hP
        have hD : va_D A (mW K o r u66 a g) := hD
        have hI : mI u66 a := hw64.2.1
        have eE67 : fE [19] u5 u66 := hw64.2.2.1
        have hE : fE [19, 20, 21] f u66 := fE_tr hE (fE_w (by decide) eE67)
        rcases hw64.2.2.2 with ⟨hvk68, hbk68, htk68, hpk68, hlk68⟩ | ⟨hvk68, hnk68, hpk68⟩
        · refine k_top (z := 1) hvk68 ?_
          obtain ⟨gv69, egv69⟩ : ∃ z : Int32, z = u66 19 := ⟨_, rfl⟩
          have hg70 : gv69.toInt = ((i + 1 : Nat) : Int) := by rw [egv69]; exact hpk68
          have b71 : kb 0 gv69 400 := kb_tok (rS_fE hE hp0 (by decide)) hlk68 hg70
          have hTk68 : T (i) = 2005 := htk68.trans (by decide +kernel)
          refine lv_if_ne (tgt := 24) hx hb dX12_readClause_13 (by decide) (fun c72 => ?_) (fun c72 => ?_)
          · refine lv_aload_n hx hb dX12_readClause_24 rfl (lv_at hl 0 rfl) ?_
            refine lv_iconst (v := 0) hx hb dX12_readClause_25 (by decide) ?_
            refine kV.callV (As := [.int 0]) (rest := []) ⟨hx, hb, hml, hown, hg⟩ ((q_allRSum 8) l o r u66 a g hI 0 (kb_w kc_0 (by decide) (by decide)) N (i + 1) (n) ob T (rS_fE hE hp0 (by decide)) (by rw [egv69.symm]; exact hg70) hlk68 hp3 (fun _ => ⟨(by rw [((eE67 20 (by decide)).trans ((eE6 20 (by decide)).trans ec20.symm))]; exact hn20), hl50⟩) (by decide +kernel)) (cwV 1 hg (kgV wt6_208 wt6_210 wp4_8 wt1_14 wt6_211) rfl rfl rfl (by decide +kernel) ⟨by decide, by decide⟩) hK hP hD hS hA mIs [] rfl (wr := []) rfl rfl rfl (fun i h => by cases h) 0 12 rfl rfl rfl hl.1 rfl (Nat.le_of_ble_eq_true rfl) dX12_readClause_26 ⟨Nat.le_refl _, Nat.le_refl _⟩ (fun u75 H locs hw73 hP hD hS => ?_)
            have hP : va_P D vwCl (mW K o r u75 a g) H := hP
            have hD : va_D A (mW K o r u75 a g) := hD
            have hI : mI u75 a := hw73.1
            have eE76 : fE [19, 20, 21] u66 u75 := hw73.2.1
            have hE : fE [19, 20, 21] f u75 := fE_tr hE eE76
            obtain ⟨ik77, nk77, hgk77, hlek77, hNk77, hck77⟩ := hw73.2.2
            rcases hck77 with ⟨-, h2k77, h3k77, hGk77⟩ | ⟨-, hbk77, hGk77⟩ | hdk77
            · obtain ⟨gv78, egv78⟩ : ∃ z : Int32, z = u75 19 := ⟨_, rfl⟩
              have hg79 : gv78.toInt = ((ik77 : Nat) : Int) := by rw [egv78]; exact hgk77
              have b80 : kb 0 gv78 400 := kb_tok (rS_fE hE hp0 (by decide)) hNk77 hg79
              obtain ⟨z81, ez81⟩ : ∃ z : Int32, z = u75 20 := ⟨_, rfl⟩
              have hzz81 : z81.toInt = (nk77 : Int) := by rw [ez81]; exact h3k77.1
              refine lv_goto (tgt := 37) hx hb dX12_readClause_29 (by decide) ?_
              refine lv_aload_n hx hb dX12_readClause_37 rfl (lv_at hl 0 rfl) ?_
              refine lv_iconst (v := 5) hx hb dX12_readClause_38 (by decide) ?_
              refine kI.callV (As := [.int 5]) (rest := []) ⟨hx, hb, hml, hown, hg⟩ (q_takes0 l o r u75 a g hI 5 (kb_w kc_5 (by decide) (by decide)) N (ik77) ob T (rS_fE hE hp0 (by decide)) (by rw [egv78.symm]; exact hg79) hNk77 hp3 (by decide +kernel)) (cwV 1 hg (kgV wt6_200 wt6_202 wp4_6 wt1_14 wt6_203) rfl rfl rfl (by decide +kernel) ⟨by decide, by decide⟩) hK hP hD hS hA mIs [] rfl (wr := []) rfl rfl rfl (fun i h => by cases h) 0 12 rfl rfl rfl hl.1 rfl (Nat.le_of_ble_eq_true rfl) dX12_readClause_39 ⟨Nat.le_refl _, Nat.le_refl _⟩ (fun v83 u84 H locs hw82 hP hD hS => ?_)
              have hP : va_P D vwCl (mW K o r u84 a g) H := hP
              have hD : va_D A (mW K o r u84 a g) := hD
              have hI : mI u84 a := hw82.2.1
              have eE85 : fE [19] u75 u84 := hw82.2.2.1
              have hE : fE [19, 20, 21] f u84 := fE_tr hE (fE_w (by decide) eE85)
              rcases hw82.2.2.2 with ⟨hvk86, hbk86, htk86, hpk86, hlk86⟩ | ⟨hvk86, hnk86, hpk86⟩
              · refine k_top (z := 1) hvk86 ?_
                obtain ⟨gv87, egv87⟩ : ∃ z : Int32, z = u84 19 := ⟨_, rfl⟩
                have hg88 : gv87.toInt = ((ik77 + 1 : Nat) : Int) := by rw [egv87]; exact hpk86
                have b89 : kb 0 gv87 400 := kb_tok (rS_fE hE hp0 (by decide)) hlk86 hg88
                have hTk86 : T (ik77) = 2003 := htk86.trans (by decide +kernel)
                refine lv_if_eq (tgt := 50) hx hb dX12_readClause_42 (by decide) (fun c90 => ?_) (fun c90 => ?_)
                · exact kb_dj c90 kc_1 kc_0 (by decide)
                · refine lv_aload_n hx hb dX12_readClause_45 rfl (lv_at hl 0 rfl) ?_
                  refine lv_iconst (v := 0) hx hb dX12_readClause_46 (by decide) ?_
                  refine kV.callV (As := [.int 0]) (rest := []) ⟨hx, hb, hml, hown, hg⟩ ((q_allRTest 8) l o r u84 a g hI 0 (kb_w kc_0 (by decide) (by decide)) N (ik77 + 1) (nk77) ob T (rS_fE hE hp0 (by decide)) (by rw [egv87.symm]; exact hg88) hlk86 hp3 (fun _ => ⟨(by rw [((eE85 20 (by decide)).trans ez81.symm)]; exact hzz81), h3k77.2⟩) (by decide +kernel)) (cwV 1 hg (kgV wt6_239 wt7_1 wp4_15 wt1_14 wt7_2) rfl rfl rfl (by decide +kernel) ⟨by decide, by decide⟩) hK hP hD hS hA mIs [] rfl (wr := []) rfl rfl rfl (fun i h => by cases h) 0 12 rfl rfl rfl hl.1 rfl (Nat.le_of_ble_eq_true rfl) dX12_readClause_47 ⟨Nat.le_refl _, Nat.le_refl _⟩ (fun u93 H locs hw91 hP hD hS => ?_)
                  have hP : va_P D vwCl (mW K o r u93 a g) H := hP
                  have hD : va_D A (mW K o r u93 a g) := hD
                  have hI : mI u93 a := hw91.1
                  have eE94 : fE [19, 20, 21] u84 u93 := hw91.2.1
                  have hE : fE [19, 20, 21] f u93 := fE_tr hE eE94
                  obtain ⟨ik95, nk95, hgk95, hlek95, hNk95, hck95⟩ := hw91.2.2
                  rcases hck95 with ⟨-, h2k95, h3k95, hGk95⟩ | ⟨-, hbk95, hGk95⟩ | hdk95
                  · obtain ⟨gv96, egv96⟩ : ∃ z : Int32, z = u93 19 := ⟨_, rfl⟩
                    have hg97 : gv96.toInt = ((ik95 : Nat) : Int) := by rw [egv96]; exact hgk95
                    have b98 : kb 0 gv96 400 := kb_tok (rS_fE hE hp0 (by decide)) hNk95 hg97
                    obtain ⟨z99, ez99⟩ : ∃ z : Int32, z = u93 20 := ⟨_, rfl⟩
                    have hzz99 : z99.toInt = (nk95 : Int) := by rw [ez99]; exact h3k95.1
                    exact kV_ret hx hb hr hlocks hK hS dX12_readClause_50 u93 hP hD ⟨hI, hE, ⟨ik95, nk95, (by rw [egv96.symm]; exact hg97), (Nat.le_trans (Nat.le_succ_of_le (Nat.le_trans (Nat.le_succ_of_le (Nat.le_refl i)) hlek77)) hlek95), hNk95, Or.inl ⟨h21, h2k95, ⟨(by rw [ez99.symm]; exact hzz99), h3k95.2⟩, (pi_11a (Or.inr (Or.inl hTk68)) hGk77 (pi_12y hTk86 hGk95))⟩⟩⟩
                  · obtain ⟨gv100, egv100⟩ : ∃ z : Int32, z = u93 19 := ⟨_, rfl⟩
                    have hg101 : gv100.toInt = ((ik95 : Nat) : Int) := by rw [egv100]; exact hgk95
                    have b102 : kb 0 gv100 400 := kb_tok (rS_fE hE hp0 (by decide)) hNk95 hg101
                    obtain ⟨z103, ez103⟩ : ∃ z : Int32, z = u93 21 := ⟨_, rfl⟩
                    have haz103 : z103 = a 17 (ik95) := by rw [ez103]; exact hbk95.1
                    have hnz103 : ¬ z103 = -1 := by rw [ez103]; exact hbk95.2
                    exact kV_ret hx hb hr hlocks hK hS dX12_readClause_50 u93 hP hD ⟨hI, hE, ⟨ik95, 0, (by rw [egv100.symm]; exact hg101), (Nat.le_trans (Nat.le_succ_of_le (Nat.le_trans (Nat.le_succ_of_le (Nat.le_refl i)) hlek77)) hlek95), hNk95, Or.inr (Or.inl ⟨h21, ⟨(ez103.symm).trans haz103, (fun q => hnz103 ((ez103.symm).symm.trans q))⟩, (pi_11a (Or.inr (Or.inl hTk68)) hGk77 (pi_12y hTk86 hGk95))⟩)⟩⟩
                  · exact absurd ((eE85 21 (by decide)).trans h2k77) hdk95.1
              · refine k_top (z := 0) hvk86 ?_
                obtain ⟨gv104, egv104⟩ : ∃ z : Int32, z = u84 19 := ⟨_, rfl⟩
                have hg105 : gv104.toInt = ((ik77 : Nat) : Int) := by rw [egv104]; exact hpk86
                have b106 : kb 0 gv104 400 := kb_tok (rS_fE hE hp0 (by decide)) hNk77 hg105
                have hTk86 : ¬ T (ik77) = 2003 := fun q => (hnk86 h2k77) (q.trans (by decide +kernel))
                refine lv_if_eq (tgt := 50) hx hb dX12_readClause_42 (by decide) (fun c107 => ?_) (fun c107 => ?_)
                · exact kV_ret hx hb hr hlocks hK hS dX12_readClause_50 u84 hP hD ⟨hI, hE, ⟨ik77, nk77, (by rw [egv104.symm]; exact hg105), (Nat.le_trans (Nat.le_succ_of_le (Nat.le_refl i)) hlek77), hNk77, Or.inl ⟨h21, ((eE85 21 (by decide)).trans h2k77), ⟨(by rw [((eE85 20 (by decide)).trans ez81.symm)]; exact hzz81), h3k77.2⟩, (pi_11a (Or.inr (Or.inl hTk68)) hGk77 (pi_12n hTk86))⟩⟩⟩
                · exact kb_nsame c107 kc_0 kc_0
            · obtain ⟨gv108, egv108⟩ : ∃ z : Int32, z = u75 19 := ⟨_, rfl⟩
              have hg109 : gv108.toInt = ((ik77 : Nat) : Int) := by rw [egv108]; exact hgk77
              have b110 : kb 0 gv108 400 := kb_tok (rS_fE hE hp0 (by decide)) hNk77 hg109
              obtain ⟨z111, ez111⟩ : ∃ z : Int32, z = u75 21 := ⟨_, rfl⟩
              have haz111 : z111 = a 17 (ik77) := by rw [ez111]; exact hbk77.1
              have hnz111 : ¬ z111 = -1 := by rw [ez111]; exact hbk77.2
              refine lv_goto (tgt := 37) hx hb dX12_readClause_29 (by decide) ?_
              refine lv_aload_n hx hb dX12_readClause_37 rfl (lv_at hl 0 rfl) ?_
              refine lv_iconst (v := 5) hx hb dX12_readClause_38 (by decide) ?_
              refine kI.callV (As := [.int 5]) (rest := []) ⟨hx, hb, hml, hown, hg⟩ (q_takes0 l o r u75 a g hI 5 (kb_w kc_5 (by decide) (by decide)) N (ik77) ob T (rS_fE hE hp0 (by decide)) (by rw [egv108.symm]; exact hg109) hNk77 hp3 (by decide +kernel)) (cwV 1 hg (kgV wt6_200 wt6_202 wp4_6 wt1_14 wt6_203) rfl rfl rfl (by decide +kernel) ⟨by decide, by decide⟩) hK hP hD hS hA mIs [] rfl (wr := []) rfl rfl rfl (fun i h => by cases h) 0 12 rfl rfl rfl hl.1 rfl (Nat.le_of_ble_eq_true rfl) dX12_readClause_39 ⟨Nat.le_refl _, Nat.le_refl _⟩ (fun v113 u114 H locs hw112 hP hD hS => ?_)
              have hP : va_P D vwCl (mW K o r u114 a g) H := hP
              have hD : va_D A (mW K o r u114 a g) := hD
              have hI : mI u114 a := hw112.2.1
              have eE115 : fE [19] u75 u114 := hw112.2.2.1
              have hE : fE [19, 20, 21] f u114 := fE_tr hE (fE_w (by decide) eE115)
              obtain ⟨hvk116, hnk116, hpk116⟩ := (hw112.2.2.2).elim (fun q => absurd q.2.1 (fun q => hnz111 ((ez111.symm).symm.trans q))) (fun q => q)
              refine k_top (z := 0) hvk116 ?_
              obtain ⟨gv117, egv117⟩ : ∃ z : Int32, z = u114 19 := ⟨_, rfl⟩
              have hg118 : gv117.toInt = ((ik77 : Nat) : Int) := by rw [egv117]; exact hpk116
              have b119 : kb 0 gv117 400 := kb_tok (rS_fE hE hp0 (by decide)) hNk77 hg118
              refine lv_if_eq (tgt := 50) hx hb dX12_readClause_42 (by decide) (fun c120 => ?_) (fun c120 => ?_)
              · exact kV_ret hx hb hr hlocks hK hS dX12_readClause_50 u114 hP hD ⟨hI, hE, ⟨ik77, 0, (by rw [egv117.symm]; exact hg118), (Nat.le_trans (Nat.le_succ_of_le (Nat.le_refl i)) hlek77), hNk77, Or.inr (Or.inl ⟨h21, ⟨(((eE115 21 (by decide)).trans ez111.symm)).trans haz111, (fun q => hnz111 ((((eE115 21 (by decide)).trans ez111.symm)).symm.trans q))⟩, (pi_11f (Or.inr (Or.inl hTk68)) hGk77)⟩)⟩⟩
              · exact kb_nsame c120 kc_0 kc_0
            · exact absurd ((eE67 21 (by decide)).trans ((eE6 21 (by decide)).trans h21)) hdk77.1
          · exact kb_dj c72 kc_1 kc_0 (by decide)
        · refine k_top (z := 0) hvk68 ?_
          obtain ⟨gv121, egv121⟩ : ∃ z : Int32, z = u66 19 := ⟨_, rfl⟩
          have hg122 : gv121.toInt = ((i : Nat) : Int) := by rw [egv121]; exact hpk68
          have b123 : kb 0 gv121 400 := kb_tok (rS_fE hE hp0 (by decide)) hp2 hg122
          have hTk68 : ¬ T (i) = 2005 := fun q => (hnk68 ((eE6 21 (by decide)).trans h21)) (q.trans (by decide +kernel))
          refine lv_if_ne (tgt := 24) hx hb dX12_readClause_13 (by decide) (fun c124 => ?_) (fun c124 => ?_)
          · exact kb_nsame c124 kc_0 kc_0
          · refine lv_aload_n hx hb dX12_readClause_16 rfl (lv_at hl 0 rfl) ?_
            refine lv_iconst (v := 3) hx hb dX12_readClause_17 (by decide) ?_
            refine kI.callV (As := [.int 3]) (rest := []) ⟨hx, hb, hml, hown, hg⟩ (q_takes0 l o r u66 a g hI 3 (kb_w kc_3 (by decide) (by decide)) N (i) ob T (rS_fE hE hp0 (by decide)) (by rw [egv121.symm]; exact hg122) hp2 hp3 (by decide +kernel)) (cwV 1 hg (kgV wt6_200 wt6_202 wp4_6 wt1_14 wt6_203) rfl rfl rfl (by decide +kernel) ⟨by decide, by decide⟩) hK hP hD hS hA mIs [] rfl (wr := []) rfl rfl rfl (fun i h => by cases h) 0 12 rfl rfl rfl hl.1 rfl (Nat.le_of_ble_eq_true rfl) dX12_readClause_18 ⟨Nat.le_refl _, Nat.le_refl _⟩ (fun v126 u127 H locs hw125 hP hD hS => ?_)
            have hP : va_P D vwCl (mW K o r u127 a g) H := hP
            have hD : va_D A (mW K o r u127 a g) := hD
            have hI : mI u127 a := hw125.2.1
            have eE128 : fE [19] u66 u127 := hw125.2.2.1
            have hE : fE [19, 20, 21] f u127 := fE_tr hE (fE_w (by decide) eE128)
            rcases hw125.2.2.2 with ⟨hvk129, hbk129, htk129, hpk129, hlk129⟩ | ⟨hvk129, hnk129, hpk129⟩
            · refine k_top (z := 1) hvk129 ?_
              obtain ⟨gv130, egv130⟩ : ∃ z : Int32, z = u127 19 := ⟨_, rfl⟩
              have hg131 : gv130.toInt = ((i + 1 : Nat) : Int) := by rw [egv130]; exact hpk129
              have b132 : kb 0 gv130 400 := kb_tok (rS_fE hE hp0 (by decide)) hlk129 hg131
              have hTk129 : T (i) = 2006 := htk129.trans (by decide +kernel)
              refine lv_if_eq (tgt := 32) hx hb dX12_readClause_21 (by decide) (fun c133 => ?_) (fun c133 => ?_)
              · exact kb_dj c133 kc_1 kc_0 (by decide)
              · refine lv_aload_n hx hb dX12_readClause_24 rfl (lv_at hl 0 rfl) ?_
                refine lv_iconst (v := 0) hx hb dX12_readClause_25 (by decide) ?_
                refine kV.callV (As := [.int 0]) (rest := []) ⟨hx, hb, hml, hown, hg⟩ ((q_allRSum 8) l o r u127 a g hI 0 (kb_w kc_0 (by decide) (by decide)) N (i + 1) (n) ob T (rS_fE hE hp0 (by decide)) (by rw [egv130.symm]; exact hg131) hlk129 hp3 (fun _ => ⟨(by rw [((eE128 20 (by decide)).trans ((eE67 20 (by decide)).trans ((eE6 20 (by decide)).trans ec20.symm)))]; exact hn20), hl50⟩) (by decide +kernel)) (cwV 1 hg (kgV wt6_208 wt6_210 wp4_8 wt1_14 wt6_211) rfl rfl rfl (by decide +kernel) ⟨by decide, by decide⟩) hK hP hD hS hA mIs [] rfl (wr := []) rfl rfl rfl (fun i h => by cases h) 0 12 rfl rfl rfl hl.1 rfl (Nat.le_of_ble_eq_true rfl) dX12_readClause_26 ⟨Nat.le_refl _, Nat.le_refl _⟩ (fun u136 H locs hw134 hP hD hS => ?_)
                have hP : va_P D vwCl (mW K o r u136 a g) H := hP
                have hD : va_D A (mW K o r u136 a g) := hD
                have hI : mI u136 a := hw134.1
                have eE137 : fE [19, 20, 21] u127 u136 := hw134.2.1
                have hE : fE [19, 20, 21] f u136 := fE_tr hE eE137
                obtain ⟨ik138, nk138, hgk138, hlek138, hNk138, hck138⟩ := hw134.2.2
                rcases hck138 with ⟨-, h2k138, h3k138, hGk138⟩ | ⟨-, hbk138, hGk138⟩ | hdk138
                · obtain ⟨gv139, egv139⟩ : ∃ z : Int32, z = u136 19 := ⟨_, rfl⟩
                  have hg140 : gv139.toInt = ((ik138 : Nat) : Int) := by rw [egv139]; exact hgk138
                  have b141 : kb 0 gv139 400 := kb_tok (rS_fE hE hp0 (by decide)) hNk138 hg140
                  obtain ⟨z142, ez142⟩ : ∃ z : Int32, z = u136 20 := ⟨_, rfl⟩
                  have hzz142 : z142.toInt = (nk138 : Int) := by rw [ez142]; exact h3k138.1
                  refine lv_goto (tgt := 37) hx hb dX12_readClause_29 (by decide) ?_
                  refine lv_aload_n hx hb dX12_readClause_37 rfl (lv_at hl 0 rfl) ?_
                  refine lv_iconst (v := 5) hx hb dX12_readClause_38 (by decide) ?_
                  refine kI.callV (As := [.int 5]) (rest := []) ⟨hx, hb, hml, hown, hg⟩ (q_takes0 l o r u136 a g hI 5 (kb_w kc_5 (by decide) (by decide)) N (ik138) ob T (rS_fE hE hp0 (by decide)) (by rw [egv139.symm]; exact hg140) hNk138 hp3 (by decide +kernel)) (cwV 1 hg (kgV wt6_200 wt6_202 wp4_6 wt1_14 wt6_203) rfl rfl rfl (by decide +kernel) ⟨by decide, by decide⟩) hK hP hD hS hA mIs [] rfl (wr := []) rfl rfl rfl (fun i h => by cases h) 0 12 rfl rfl rfl hl.1 rfl (Nat.le_of_ble_eq_true rfl) dX12_readClause_39 ⟨Nat.le_refl _, Nat.le_refl _⟩ (fun v144 u145 H locs hw143 hP hD hS => ?_)
                  have hP : va_P D vwCl (mW K o r u145 a g) H := hP
                  have hD : va_D A (mW K o r u145 a g) := hD
                  have hI : mI u145 a := hw143.2.1
                  have eE146 : fE [19] u136 u145 := hw143.2.2.1
                  have hE : fE [19, 20, 21] f u145 := fE_tr hE (fE_w (by decide) eE146)
                  rcases hw143.2.2.2 with ⟨hvk147, hbk147, htk147, hpk147, hlk147⟩ | ⟨hvk147, hnk147, hpk147⟩
                  · refine k_top (z := 1) hvk147 ?_
                    obtain ⟨gv148, egv148⟩ : ∃ z : Int32, z = u145 19 := ⟨_, rfl⟩
                    have hg149 : gv148.toInt = ((ik138 + 1 : Nat) : Int) := by rw [egv148]; exact hpk147
                    have b150 : kb 0 gv148 400 := kb_tok (rS_fE hE hp0 (by decide)) hlk147 hg149
                    have hTk147 : T (ik138) = 2003 := htk147.trans (by decide +kernel)
                    refine lv_if_eq (tgt := 50) hx hb dX12_readClause_42 (by decide) (fun c151 => ?_) (fun c151 => ?_)
                    · exact kb_dj c151 kc_1 kc_0 (by decide)
                    · refine lv_aload_n hx hb dX12_readClause_45 rfl (lv_at hl 0 rfl) ?_
                      refine lv_iconst (v := 0) hx hb dX12_readClause_46 (by decide) ?_
                      refine kV.callV (As := [.int 0]) (rest := []) ⟨hx, hb, hml, hown, hg⟩ ((q_allRTest 8) l o r u145 a g hI 0 (kb_w kc_0 (by decide) (by decide)) N (ik138 + 1) (nk138) ob T (rS_fE hE hp0 (by decide)) (by rw [egv148.symm]; exact hg149) hlk147 hp3 (fun _ => ⟨(by rw [((eE146 20 (by decide)).trans ez142.symm)]; exact hzz142), h3k138.2⟩) (by decide +kernel)) (cwV 1 hg (kgV wt6_239 wt7_1 wp4_15 wt1_14 wt7_2) rfl rfl rfl (by decide +kernel) ⟨by decide, by decide⟩) hK hP hD hS hA mIs [] rfl (wr := []) rfl rfl rfl (fun i h => by cases h) 0 12 rfl rfl rfl hl.1 rfl (Nat.le_of_ble_eq_true rfl) dX12_readClause_47 ⟨Nat.le_refl _, Nat.le_refl _⟩ (fun u154 H locs hw152 hP hD hS => ?_)
                      have hP : va_P D vwCl (mW K o r u154 a g) H := hP
                      have hD : va_D A (mW K o r u154 a g) := hD
                      have hI : mI u154 a := hw152.1
                      have eE155 : fE [19, 20, 21] u145 u154 := hw152.2.1
                      have hE : fE [19, 20, 21] f u154 := fE_tr hE eE155
                      obtain ⟨ik156, nk156, hgk156, hlek156, hNk156, hck156⟩ := hw152.2.2
                      rcases hck156 with ⟨-, h2k156, h3k156, hGk156⟩ | ⟨-, hbk156, hGk156⟩ | hdk156
                      · obtain ⟨gv157, egv157⟩ : ∃ z : Int32, z = u154 19 := ⟨_, rfl⟩
                        have hg158 : gv157.toInt = ((ik156 : Nat) : Int) := by rw [egv157]; exact hgk156
                        have b159 : kb 0 gv157 400 := kb_tok (rS_fE hE hp0 (by decide)) hNk156 hg158
                        obtain ⟨z160, ez160⟩ : ∃ z : Int32, z = u154 20 := ⟨_, rfl⟩
                        have hzz160 : z160.toInt = (nk156 : Int) := by rw [ez160]; exact h3k156.1
                        exact kV_ret hx hb hr hlocks hK hS dX12_readClause_50 u154 hP hD ⟨hI, hE, ⟨ik156, nk156, (by rw [egv157.symm]; exact hg158), (Nat.le_trans (Nat.le_succ_of_le (Nat.le_trans (Nat.le_succ_of_le (Nat.le_refl i)) hlek138)) hlek156), hNk156, Or.inl ⟨h21, h2k156, ⟨(by rw [ez160.symm]; exact hzz160), h3k156.2⟩, (pi_11a (Or.inr (Or.inr hTk129)) hGk138 (pi_12y hTk147 hGk156))⟩⟩⟩
                      · obtain ⟨gv161, egv161⟩ : ∃ z : Int32, z = u154 19 := ⟨_, rfl⟩
                        have hg162 : gv161.toInt = ((ik156 : Nat) : Int) := by rw [egv161]; exact hgk156
                        have b163 : kb 0 gv161 400 := kb_tok (rS_fE hE hp0 (by decide)) hNk156 hg162
                        obtain ⟨z164, ez164⟩ : ∃ z : Int32, z = u154 21 := ⟨_, rfl⟩
                        have haz164 : z164 = a 17 (ik156) := by rw [ez164]; exact hbk156.1
                        have hnz164 : ¬ z164 = -1 := by rw [ez164]; exact hbk156.2
                        exact kV_ret hx hb hr hlocks hK hS dX12_readClause_50 u154 hP hD ⟨hI, hE, ⟨ik156, 0, (by rw [egv161.symm]; exact hg162), (Nat.le_trans (Nat.le_succ_of_le (Nat.le_trans (Nat.le_succ_of_le (Nat.le_refl i)) hlek138)) hlek156), hNk156, Or.inr (Or.inl ⟨h21, ⟨(ez164.symm).trans haz164, (fun q => hnz164 ((ez164.symm).symm.trans q))⟩, (pi_11a (Or.inr (Or.inr hTk129)) hGk138 (pi_12y hTk147 hGk156))⟩)⟩⟩
                      · exact absurd ((eE146 21 (by decide)).trans h2k138) hdk156.1
                  · refine k_top (z := 0) hvk147 ?_
                    obtain ⟨gv165, egv165⟩ : ∃ z : Int32, z = u145 19 := ⟨_, rfl⟩
                    have hg166 : gv165.toInt = ((ik138 : Nat) : Int) := by rw [egv165]; exact hpk147
                    have b167 : kb 0 gv165 400 := kb_tok (rS_fE hE hp0 (by decide)) hNk138 hg166
                    have hTk147 : ¬ T (ik138) = 2003 := fun q => (hnk147 h2k138) (q.trans (by decide +kernel))
                    refine lv_if_eq (tgt := 50) hx hb dX12_readClause_42 (by decide) (fun c168 => ?_) (fun c168 => ?_)
                    · exact kV_ret hx hb hr hlocks hK hS dX12_readClause_50 u145 hP hD ⟨hI, hE, ⟨ik138, nk138, (by rw [egv165.symm]; exact hg166), (Nat.le_trans (Nat.le_succ_of_le (Nat.le_refl i)) hlek138), hNk138, Or.inl ⟨h21, ((eE146 21 (by decide)).trans h2k138), ⟨(by rw [((eE146 20 (by decide)).trans ez142.symm)]; exact hzz142), h3k138.2⟩, (pi_11a (Or.inr (Or.inr hTk129)) hGk138 (pi_12n hTk147))⟩⟩⟩
                    · exact kb_nsame c168 kc_0 kc_0
                · obtain ⟨gv169, egv169⟩ : ∃ z : Int32, z = u136 19 := ⟨_, rfl⟩
                  have hg170 : gv169.toInt = ((ik138 : Nat) : Int) := by rw [egv169]; exact hgk138
                  have b171 : kb 0 gv169 400 := kb_tok (rS_fE hE hp0 (by decide)) hNk138 hg170
                  obtain ⟨z172, ez172⟩ : ∃ z : Int32, z = u136 21 := ⟨_, rfl⟩
                  have haz172 : z172 = a 17 (ik138) := by rw [ez172]; exact hbk138.1
                  have hnz172 : ¬ z172 = -1 := by rw [ez172]; exact hbk138.2
                  refine lv_goto (tgt := 37) hx hb dX12_readClause_29 (by decide) ?_
                  refine lv_aload_n hx hb dX12_readClause_37 rfl (lv_at hl 0 rfl) ?_
                  refine lv_iconst (v := 5) hx hb dX12_readClause_38 (by decide) ?_
                  refine kI.callV (As := [.int 5]) (rest := []) ⟨hx, hb, hml, hown, hg⟩ (q_takes0 l o r u136 a g hI 5 (kb_w kc_5 (by decide) (by decide)) N (ik138) ob T (rS_fE hE hp0 (by decide)) (by rw [egv169.symm]; exact hg170) hNk138 hp3 (by decide +kernel)) (cwV 1 hg (kgV wt6_200 wt6_202 wp4_6 wt1_14 wt6_203) rfl rfl rfl (by decide +kernel) ⟨by decide, by decide⟩) hK hP hD hS hA mIs [] rfl (wr := []) rfl rfl rfl (fun i h => by cases h) 0 12 rfl rfl rfl hl.1 rfl (Nat.le_of_ble_eq_true rfl) dX12_readClause_39 ⟨Nat.le_refl _, Nat.le_refl _⟩ (fun v174 u175 H locs hw173 hP hD hS => ?_)
                  have hP : va_P D vwCl (mW K o r u175 a g) H := hP
                  have hD : va_D A (mW K o r u175 a g) := hD
                  have hI : mI u175 a := hw173.2.1
                  have eE176 : fE [19] u136 u175 := hw173.2.2.1
                  have hE : fE [19, 20, 21] f u175 := fE_tr hE (fE_w (by decide) eE176)
                  obtain ⟨hvk177, hnk177, hpk177⟩ := (hw173.2.2.2).elim (fun q => absurd q.2.1 (fun q => hnz172 ((ez172.symm).symm.trans q))) (fun q => q)
                  refine k_top (z := 0) hvk177 ?_
                  obtain ⟨gv178, egv178⟩ : ∃ z : Int32, z = u175 19 := ⟨_, rfl⟩
                  have hg179 : gv178.toInt = ((ik138 : Nat) : Int) := by rw [egv178]; exact hpk177
                  have b180 : kb 0 gv178 400 := kb_tok (rS_fE hE hp0 (by decide)) hNk138 hg179
                  refine lv_if_eq (tgt := 50) hx hb dX12_readClause_42 (by decide) (fun c181 => ?_) (fun c181 => ?_)
                  · exact kV_ret hx hb hr hlocks hK hS dX12_readClause_50 u175 hP hD ⟨hI, hE, ⟨ik138, 0, (by rw [egv178.symm]; exact hg179), (Nat.le_trans (Nat.le_succ_of_le (Nat.le_refl i)) hlek138), hNk138, Or.inr (Or.inl ⟨h21, ⟨(((eE176 21 (by decide)).trans ez172.symm)).trans haz172, (fun q => hnz172 ((((eE176 21 (by decide)).trans ez172.symm)).symm.trans q))⟩, (pi_11f (Or.inr (Or.inr hTk129)) hGk138)⟩)⟩⟩
                  · exact kb_nsame c181 kc_0 kc_0
                · exact absurd ((eE128 21 (by decide)).trans ((eE67 21 (by decide)).trans ((eE6 21 (by decide)).trans h21))) hdk138.1
            · refine k_top (z := 0) hvk129 ?_
              obtain ⟨gv182, egv182⟩ : ∃ z : Int32, z = u127 19 := ⟨_, rfl⟩
              have hg183 : gv182.toInt = ((i : Nat) : Int) := by rw [egv182]; exact hpk129
              have b184 : kb 0 gv182 400 := kb_tok (rS_fE hE hp0 (by decide)) hp2 hg183
              have hTk129 : ¬ T (i) = 2006 := fun q => (hnk129 ((eE67 21 (by decide)).trans ((eE6 21 (by decide)).trans h21))) (q.trans (by decide +kernel))
              refine lv_if_eq (tgt := 32) hx hb dX12_readClause_21 (by decide) (fun c185 => ?_) (fun c185 => ?_)
              · refine lv_aload_n hx hb dX12_readClause_32 rfl (lv_at hl 0 rfl) ?_
                refine lv_iconst (v := 4) hx hb dX12_readClause_33 (by decide) ?_
                refine kV.callV (As := [.int 4]) (rest := []) ⟨hx, hb, hml, hown, hg⟩ (q_must l o r u127 a g hI 4 (kb_w kc_4 (by decide) (by decide)) N (i) ob T (rS_fE hE hp0 (by decide)) (by rw [egv182.symm]; exact hg183) hp2 hp3 (by decide +kernel)) (cwV 1 hg (kgV wt6_227 wt6_229 wp4_12 wt1_14 wt6_230) rfl rfl rfl (by decide +kernel) ⟨by decide, by decide⟩) hK hP hD hS hA mIs [] rfl (wr := []) rfl rfl rfl (fun i h => by cases h) 0 12 rfl rfl rfl hl.1 rfl (Nat.le_of_ble_eq_true rfl) dX12_readClause_34 ⟨Nat.le_refl _, Nat.le_refl _⟩ (fun u188 H locs hw186 hP hD hS => ?_)
                have hP : va_P D vwCl (mW K o r u188 a g) H := hP
                have hD : va_D A (mW K o r u188 a g) := hD
                have hI : mI u188 a := hw186.1
                have eE189 : fE [19, 21] u127 u188 := hw186.2.1
                have hE : fE [19, 20, 21] f u188 := fE_tr hE (fE_w (by decide) eE189)
                rcases hw186.2.2 with ⟨-, h2k190, hGk190, hpk190, hlk190⟩ | ⟨-, hbk190, hGk190, hpk190⟩ | hdk190
                · obtain ⟨gv191, egv191⟩ : ∃ z : Int32, z = u188 19 := ⟨_, rfl⟩
                  have hg192 : gv191.toInt = ((i + 1 : Nat) : Int) := by rw [egv191]; exact hpk190
                  have b193 : kb 0 gv191 400 := kb_tok (rS_fE hE hp0 (by decide)) hlk190 hg192
                  have hm194 : T (i) = 2007 := hGk190.trans (by decide +kernel)
                  refine lv_aload_n hx hb dX12_readClause_37 rfl (lv_at hl 0 rfl) ?_
                  refine lv_iconst (v := 5) hx hb dX12_readClause_38 (by decide) ?_
                  refine kI.callV (As := [.int 5]) (rest := []) ⟨hx, hb, hml, hown, hg⟩ (q_takes0 l o r u188 a g hI 5 (kb_w kc_5 (by decide) (by decide)) N (i + 1) ob T (rS_fE hE hp0 (by decide)) (by rw [egv191.symm]; exact hg192) hlk190 hp3 (by decide +kernel)) (cwV 1 hg (kgV wt6_200 wt6_202 wp4_6 wt1_14 wt6_203) rfl rfl rfl (by decide +kernel) ⟨by decide, by decide⟩) hK hP hD hS hA mIs [] rfl (wr := []) rfl rfl rfl (fun i h => by cases h) 0 12 rfl rfl rfl hl.1 rfl (Nat.le_of_ble_eq_true rfl) dX12_readClause_39 ⟨Nat.le_refl _, Nat.le_refl _⟩ (fun v196 u197 H locs hw195 hP hD hS => ?_)
                  have hP : va_P D vwCl (mW K o r u197 a g) H := hP
                  have hD : va_D A (mW K o r u197 a g) := hD
                  have hI : mI u197 a := hw195.2.1
                  have eE198 : fE [19] u188 u197 := hw195.2.2.1
                  have hE : fE [19, 20, 21] f u197 := fE_tr hE (fE_w (by decide) eE198)
                  rcases hw195.2.2.2 with ⟨hvk199, hbk199, htk199, hpk199, hlk199⟩ | ⟨hvk199, hnk199, hpk199⟩
                  · refine k_top (z := 1) hvk199 ?_
                    obtain ⟨gv200, egv200⟩ : ∃ z : Int32, z = u197 19 := ⟨_, rfl⟩
                    have hg201 : gv200.toInt = ((i + 1 + 1 : Nat) : Int) := by rw [egv200]; exact hpk199
                    have b202 : kb 0 gv200 400 := kb_tok (rS_fE hE hp0 (by decide)) hlk199 hg201
                    have hTk199 : T (i + 1) = 2003 := htk199.trans (by decide +kernel)
                    refine lv_if_eq (tgt := 50) hx hb dX12_readClause_42 (by decide) (fun c203 => ?_) (fun c203 => ?_)
                    · exact kb_dj c203 kc_1 kc_0 (by decide)
                    · refine lv_aload_n hx hb dX12_readClause_45 rfl (lv_at hl 0 rfl) ?_
                      refine lv_iconst (v := 0) hx hb dX12_readClause_46 (by decide) ?_
                      refine kV.callV (As := [.int 0]) (rest := []) ⟨hx, hb, hml, hown, hg⟩ ((q_allRTest 8) l o r u197 a g hI 0 (kb_w kc_0 (by decide) (by decide)) N (i + 1 + 1) (n) ob T (rS_fE hE hp0 (by decide)) (by rw [egv200.symm]; exact hg201) hlk199 hp3 (fun _ => ⟨(by rw [((eE198 20 (by decide)).trans ((eE189 20 (by decide)).trans ((eE128 20 (by decide)).trans ((eE67 20 (by decide)).trans ((eE6 20 (by decide)).trans ec20.symm)))))]; exact hn20), hl50⟩) (by decide +kernel)) (cwV 1 hg (kgV wt6_239 wt7_1 wp4_15 wt1_14 wt7_2) rfl rfl rfl (by decide +kernel) ⟨by decide, by decide⟩) hK hP hD hS hA mIs [] rfl (wr := []) rfl rfl rfl (fun i h => by cases h) 0 12 rfl rfl rfl hl.1 rfl (Nat.le_of_ble_eq_true rfl) dX12_readClause_47 ⟨Nat.le_refl _, Nat.le_refl _⟩ (fun u206 H locs hw204 hP hD hS => ?_)
                      have hP : va_P D vwCl (mW K o r u206 a g) H := hP
                      have hD : va_D A (mW K o r u206 a g) := hD
                      have hI : mI u206 a := hw204.1
                      have eE207 : fE [19, 20, 21] u197 u206 := hw204.2.1
                      have hE : fE [19, 20, 21] f u206 := fE_tr hE eE207
                      obtain ⟨ik208, nk208, hgk208, hlek208, hNk208, hck208⟩ := hw204.2.2
                      rcases hck208 with ⟨-, h2k208, h3k208, hGk208⟩ | ⟨-, hbk208, hGk208⟩ | hdk208
                      · obtain ⟨gv209, egv209⟩ : ∃ z : Int32, z = u206 19 := ⟨_, rfl⟩
                        have hg210 : gv209.toInt = ((ik208 : Nat) : Int) := by rw [egv209]; exact hgk208
                        have b211 : kb 0 gv209 400 := kb_tok (rS_fE hE hp0 (by decide)) hNk208 hg210
                        obtain ⟨z212, ez212⟩ : ∃ z : Int32, z = u206 20 := ⟨_, rfl⟩
                        have hzz212 : z212.toInt = (nk208 : Int) := by rw [ez212]; exact h3k208.1
                        exact kV_ret hx hb hr hlocks hK hS dX12_readClause_50 u206 hP hD ⟨hI, hE, ⟨ik208, nk208, (by rw [egv209.symm]; exact hg210), (Nat.le_trans (Nat.le_succ_of_le (Nat.le_succ_of_le (Nat.le_refl i))) hlek208), hNk208, Or.inl ⟨h21, h2k208, ⟨(by rw [ez212.symm]; exact hzz212), h3k208.2⟩, (pi_11b (fun q => q.elim hTk7 (fun q => q.elim hTk68 hTk129)) hm194 (pi_12y hTk199 hGk208))⟩⟩⟩
                      · obtain ⟨gv213, egv213⟩ : ∃ z : Int32, z = u206 19 := ⟨_, rfl⟩
                        have hg214 : gv213.toInt = ((ik208 : Nat) : Int) := by rw [egv213]; exact hgk208
                        have b215 : kb 0 gv213 400 := kb_tok (rS_fE hE hp0 (by decide)) hNk208 hg214
                        obtain ⟨z216, ez216⟩ : ∃ z : Int32, z = u206 21 := ⟨_, rfl⟩
                        have haz216 : z216 = a 17 (ik208) := by rw [ez216]; exact hbk208.1
                        have hnz216 : ¬ z216 = -1 := by rw [ez216]; exact hbk208.2
                        exact kV_ret hx hb hr hlocks hK hS dX12_readClause_50 u206 hP hD ⟨hI, hE, ⟨ik208, 0, (by rw [egv213.symm]; exact hg214), (Nat.le_trans (Nat.le_succ_of_le (Nat.le_succ_of_le (Nat.le_refl i))) hlek208), hNk208, Or.inr (Or.inl ⟨h21, ⟨(ez216.symm).trans haz216, (fun q => hnz216 ((ez216.symm).symm.trans q))⟩, (pi_11b (fun q => q.elim hTk7 (fun q => q.elim hTk68 hTk129)) hm194 (pi_12y hTk199 hGk208))⟩)⟩⟩
                      · exact absurd ((eE198 21 (by decide)).trans h2k190) hdk208.1
                  · refine k_top (z := 0) hvk199 ?_
                    obtain ⟨gv217, egv217⟩ : ∃ z : Int32, z = u197 19 := ⟨_, rfl⟩
                    have hg218 : gv217.toInt = ((i + 1 : Nat) : Int) := by rw [egv217]; exact hpk199
                    have b219 : kb 0 gv217 400 := kb_tok (rS_fE hE hp0 (by decide)) hlk190 hg218
                    have hTk199 : ¬ T (i + 1) = 2003 := fun q => (hnk199 h2k190) (q.trans (by decide +kernel))
                    refine lv_if_eq (tgt := 50) hx hb dX12_readClause_42 (by decide) (fun c220 => ?_) (fun c220 => ?_)
                    · exact kV_ret hx hb hr hlocks hK hS dX12_readClause_50 u197 hP hD ⟨hI, hE, ⟨i + 1, n, (by rw [egv217.symm]; exact hg218), (Nat.le_succ_of_le (Nat.le_refl i)), hlk190, Or.inl ⟨h21, ((eE198 21 (by decide)).trans h2k190), ⟨(by rw [((eE198 20 (by decide)).trans ((eE189 20 (by decide)).trans ((eE128 20 (by decide)).trans ((eE67 20 (by decide)).trans ((eE6 20 (by decide)).trans ec20.symm)))))]; exact hn20), hl50⟩, (pi_11b (fun q => q.elim hTk7 (fun q => q.elim hTk68 hTk129)) hm194 (pi_12n hTk199))⟩⟩⟩
                    · exact kb_nsame c220 kc_0 kc_0
                · obtain ⟨z221, ez221⟩ : ∃ z : Int32, z = u188 21 := ⟨_, rfl⟩
                  have haz221 : z221 = a 17 (i) := by rw [ez221]; exact hbk190.1
                  have hnz221 : ¬ z221 = -1 := by rw [ez221]; exact hbk190.2
                  obtain ⟨gv222, egv222⟩ : ∃ z : Int32, z = u188 19 := ⟨_, rfl⟩
                  have hg223 : gv222.toInt = ((i : Nat) : Int) := by rw [egv222]; exact hpk190
                  have b224 : kb 0 gv222 400 := kb_tok (rS_fE hE hp0 (by decide)) hp2 hg223
                  have hm225 : ¬ T (i) = 2007 := fun q => hGk190 (q.trans (by decide +kernel))
                  refine lv_aload_n hx hb dX12_readClause_37 rfl (lv_at hl 0 rfl) ?_
                  refine lv_iconst (v := 5) hx hb dX12_readClause_38 (by decide) ?_
                  refine kI.callV (As := [.int 5]) (rest := []) ⟨hx, hb, hml, hown, hg⟩ (q_takes0 l o r u188 a g hI 5 (kb_w kc_5 (by decide) (by decide)) N (i) ob T (rS_fE hE hp0 (by decide)) (by rw [egv222.symm]; exact hg223) hp2 hp3 (by decide +kernel)) (cwV 1 hg (kgV wt6_200 wt6_202 wp4_6 wt1_14 wt6_203) rfl rfl rfl (by decide +kernel) ⟨by decide, by decide⟩) hK hP hD hS hA mIs [] rfl (wr := []) rfl rfl rfl (fun i h => by cases h) 0 12 rfl rfl rfl hl.1 rfl (Nat.le_of_ble_eq_true rfl) dX12_readClause_39 ⟨Nat.le_refl _, Nat.le_refl _⟩ (fun v227 u228 H locs hw226 hP hD hS => ?_)
                  have hP : va_P D vwCl (mW K o r u228 a g) H := hP
                  have hD : va_D A (mW K o r u228 a g) := hD
                  have hI : mI u228 a := hw226.2.1
                  have eE229 : fE [19] u188 u228 := hw226.2.2.1
                  have hE : fE [19, 20, 21] f u228 := fE_tr hE (fE_w (by decide) eE229)
                  obtain ⟨hvk230, hnk230, hpk230⟩ := (hw226.2.2.2).elim (fun q => absurd q.2.1 (fun q => hnz221 ((ez221.symm).symm.trans q))) (fun q => q)
                  refine k_top (z := 0) hvk230 ?_
                  obtain ⟨gv231, egv231⟩ : ∃ z : Int32, z = u228 19 := ⟨_, rfl⟩
                  have hg232 : gv231.toInt = ((i : Nat) : Int) := by rw [egv231]; exact hpk230
                  have b233 : kb 0 gv231 400 := kb_tok (rS_fE hE hp0 (by decide)) hp2 hg232
                  refine lv_if_eq (tgt := 50) hx hb dX12_readClause_42 (by decide) (fun c234 => ?_) (fun c234 => ?_)
                  · exact kV_ret hx hb hr hlocks hK hS dX12_readClause_50 u228 hP hD ⟨hI, hE, ⟨i, 0, (by rw [egv231.symm]; exact hg232), (Nat.le_refl i), hp2, Or.inr (Or.inl ⟨h21, ⟨(((eE229 21 (by decide)).trans ez221.symm)).trans haz221, (fun q => hnz221 ((((eE229 21 (by decide)).trans ez221.symm)).symm.trans q))⟩, (pi_11x (fun q => q.elim hTk7 (fun q => q.elim hTk68 hTk129)) hm225)⟩)⟩⟩
                  · exact kb_nsame c234 kc_0 kc_0
                · exact absurd ((eE128 21 (by decide)).trans ((eE67 21 (by decide)).trans ((eE6 21 (by decide)).trans h21))) hdk190.1
              · exact kb_nsame c185 kc_0 kc_0
  · obtain ⟨c21, ec21⟩ : ∃ z : Int32, z = f 21 := ⟨_, rfl⟩
    have hn21 : ¬ c21 = -1 := by rw [ec21]; exact h21
    refine lv_aload_n hx hb dX12_readClause_0 rfl (lv_at hl 0 rfl) ?_
    refine lv_iconst (v := 1) hx hb dX12_readClause_1 (by decide) ?_
    refine kI.callV (As := [.int 1]) (rest := []) ⟨hx, hb, hml, hown, hg⟩ (q_takes0 l o r f a g hI 1 (kb_w kc_1 (by decide) (by decide)) N (i) ob T (rS_fE hE hp0 (by decide)) (by rw [ec19.symm]; exact hg0) hp2 hp3 (by decide +kernel)) (cwV 1 hg (kgV wt6_200 wt6_202 wp4_6 wt1_14 wt6_203) rfl rfl rfl (by decide +kernel) ⟨by decide, by decide⟩) hK hP hD hS hA mIs [] rfl (wr := []) rfl rfl rfl (fun i h => by cases h) 0 12 rfl rfl rfl hl.1 rfl (Nat.le_of_ble_eq_true rfl) dX12_readClause_2 ⟨Nat.le_refl _, Nat.le_refl _⟩ (fun v236 u237 H locs hw235 hP hD hS => ?_)
    have hP : va_P D vwCl (mW K o r u237 a g) H := hP
    have hD : va_D A (mW K o r u237 a g) := hD
    have hI : mI u237 a := hw235.2.1
    have eE238 : fE [19] f u237 := hw235.2.2.1
    have hE : fE [19, 20, 21] f u237 := fE_tr hE (fE_w (by decide) eE238)
    obtain ⟨hvk239, hnk239, hpk239⟩ := (hw235.2.2.2).elim (fun q => absurd q.2.1 (fun q => hn21 ((ec21.symm).symm.trans q))) (fun q => q)
    refine k_top (z := 0) hvk239 ?_
    obtain ⟨gv240, egv240⟩ : ∃ z : Int32, z = u237 19 := ⟨_, rfl⟩
    have hg241 : gv240.toInt = ((i : Nat) : Int) := by rw [egv240]; exact hpk239
    have b242 : kb 0 gv240 400 := kb_tok (rS_fE hE hp0 (by decide)) hp2 hg241
    refine lv_if_ne (tgt := 24) hx hb dX12_readClause_5 (by decide) (fun c243 => ?_) (fun c243 => ?_)
    · exact kb_nsame c243 kc_0 kc_0
    · refine lv_aload_n hx hb dX12_readClause_8 rfl (lv_at hl 0 rfl) ?_
      refine lv_iconst (v := 2) hx hb dX12_readClause_9 (by decide) ?_
      refine kI.callV (As := [.int 2]) (rest := []) ⟨hx, hb, hml, hown, hg⟩ (q_takes0 l o r u237 a g hI 2 (kb_w kc_2 (by decide) (by decide)) N (i) ob T (rS_fE hE hp0 (by decide)) (by rw [egv240.symm]; exact hg241) hp2 hp3 (by decide +kernel)) (cwV 1 hg (kgV wt6_200 wt6_202 wp4_6 wt1_14 wt6_203) rfl rfl rfl (by decide +kernel) ⟨by decide, by decide⟩) hK hP hD hS hA mIs [] rfl (wr := []) rfl rfl rfl (fun i h => by cases h) 0 12 rfl rfl rfl hl.1 rfl (Nat.le_of_ble_eq_true rfl) dX12_readClause_10 ⟨Nat.le_refl _, Nat.le_refl _⟩ (fun v245 u246 H locs hw244 hP hD hS => ?_)
      have hP : va_P D vwCl (mW K o r u246 a g) H := hP
      have hD : va_D A (mW K o r u246 a g) := hD
      have hI : mI u246 a := hw244.2.1
      have eE247 : fE [19] u237 u246 := hw244.2.2.1
      have hE : fE [19, 20, 21] f u246 := fE_tr hE (fE_w (by decide) eE247)
      obtain ⟨hvk248, hnk248, hpk248⟩ := (hw244.2.2.2).elim (fun q => absurd q.2.1 (fun q => hn21 ((((eE238 21 (by decide)).trans ec21.symm)).symm.trans q))) (fun q => q)
      refine k_top (z := 0) hvk248 ?_
      obtain ⟨gv249, egv249⟩ : ∃ z : Int32, z = u246 19 := ⟨_, rfl⟩
      have hg250 : gv249.toInt = ((i : Nat) : Int) := by rw [egv249]; exact hpk248
      have b251 : kb 0 gv249 400 := kb_tok (rS_fE hE hp0 (by decide)) hp2 hg250
      refine lv_if_ne (tgt := 24) hx hb dX12_readClause_13 (by decide) (fun c252 => ?_) (fun c252 => ?_)
      · exact kb_nsame c252 kc_0 kc_0
      · refine lv_aload_n hx hb dX12_readClause_16 rfl (lv_at hl 0 rfl) ?_
        refine lv_iconst (v := 3) hx hb dX12_readClause_17 (by decide) ?_
        refine kI.callV (As := [.int 3]) (rest := []) ⟨hx, hb, hml, hown, hg⟩ (q_takes0 l o r u246 a g hI 3 (kb_w kc_3 (by decide) (by decide)) N (i) ob T (rS_fE hE hp0 (by decide)) (by rw [egv249.symm]; exact hg250) hp2 hp3 (by decide +kernel)) (cwV 1 hg (kgV wt6_200 wt6_202 wp4_6 wt1_14 wt6_203) rfl rfl rfl (by decide +kernel) ⟨by decide, by decide⟩) hK hP hD hS hA mIs [] rfl (wr := []) rfl rfl rfl (fun i h => by cases h) 0 12 rfl rfl rfl hl.1 rfl (Nat.le_of_ble_eq_true rfl) dX12_readClause_18 ⟨Nat.le_refl _, Nat.le_refl _⟩ (fun v254 u255 H locs hw253 hP hD hS => ?_)
        have hP : va_P D vwCl (mW K o r u255 a g) H := hP
        have hD : va_D A (mW K o r u255 a g) := hD
        have hI : mI u255 a := hw253.2.1
        have eE256 : fE [19] u246 u255 := hw253.2.2.1
        have hE : fE [19, 20, 21] f u255 := fE_tr hE (fE_w (by decide) eE256)
        obtain ⟨hvk257, hnk257, hpk257⟩ := (hw253.2.2.2).elim (fun q => absurd q.2.1 (fun q => hn21 ((((eE247 21 (by decide)).trans ((eE238 21 (by decide)).trans ec21.symm))).symm.trans q))) (fun q => q)
        refine k_top (z := 0) hvk257 ?_
        obtain ⟨gv258, egv258⟩ : ∃ z : Int32, z = u255 19 := ⟨_, rfl⟩
        have hg259 : gv258.toInt = ((i : Nat) : Int) := by rw [egv258]; exact hpk257
        have b260 : kb 0 gv258 400 := kb_tok (rS_fE hE hp0 (by decide)) hp2 hg259
        refine lv_if_eq (tgt := 32) hx hb dX12_readClause_21 (by decide) (fun c261 => ?_) (fun c261 => ?_)
        · refine lv_aload_n hx hb dX12_readClause_32 rfl (lv_at hl 0 rfl) ?_
          refine lv_iconst (v := 4) hx hb dX12_readClause_33 (by decide) ?_
          refine kV.callV (As := [.int 4]) (rest := []) ⟨hx, hb, hml, hown, hg⟩ (q_must l o r u255 a g hI 4 (kb_w kc_4 (by decide) (by decide)) N (i) ob T (rS_fE hE hp0 (by decide)) (by rw [egv258.symm]; exact hg259) hp2 hp3 (by decide +kernel)) (cwV 1 hg (kgV wt6_227 wt6_229 wp4_12 wt1_14 wt6_230) rfl rfl rfl (by decide +kernel) ⟨by decide, by decide⟩) hK hP hD hS hA mIs [] rfl (wr := []) rfl rfl rfl (fun i h => by cases h) 0 12 rfl rfl rfl hl.1 rfl (Nat.le_of_ble_eq_true rfl) dX12_readClause_34 ⟨Nat.le_refl _, Nat.le_refl _⟩ (fun u264 H locs hw262 hP hD hS => ?_)
          have hP : va_P D vwCl (mW K o r u264 a g) H := hP
          have hD : va_D A (mW K o r u264 a g) := hD
          have hI : mI u264 a := hw262.1
          have eE265 : fE [19, 21] u255 u264 := hw262.2.1
          have hE : fE [19, 20, 21] f u264 := fE_tr hE (fE_w (by decide) eE265)
          have hdk266 := (hw262.2.2).elim (fun q => absurd q.1 (fun q => hn21 ((((eE256 21 (by decide)).trans ((eE247 21 (by decide)).trans ((eE238 21 (by decide)).trans ec21.symm)))).symm.trans q))) (fun q => q.elim (fun q => absurd q.1 (fun q => hn21 ((((eE256 21 (by decide)).trans ((eE247 21 (by decide)).trans ((eE238 21 (by decide)).trans ec21.symm)))).symm.trans q))) (fun q => q))
          obtain ⟨gv267, egv267⟩ : ∃ z : Int32, z = u264 19 := ⟨_, rfl⟩
          have hg268 : gv267.toInt = ((i : Nat) : Int) := by rw [egv267]; exact hdk266.2.2
          have b269 : kb 0 gv267 400 := kb_tok (rS_fE hE hp0 (by decide)) hp2 hg268
          refine lv_aload_n hx hb dX12_readClause_37 rfl (lv_at hl 0 rfl) ?_
          refine lv_iconst (v := 5) hx hb dX12_readClause_38 (by decide) ?_
          refine kI.callV (As := [.int 5]) (rest := []) ⟨hx, hb, hml, hown, hg⟩ (q_takes0 l o r u264 a g hI 5 (kb_w kc_5 (by decide) (by decide)) N (i) ob T (rS_fE hE hp0 (by decide)) (by rw [egv267.symm]; exact hg268) hp2 hp3 (by decide +kernel)) (cwV 1 hg (kgV wt6_200 wt6_202 wp4_6 wt1_14 wt6_203) rfl rfl rfl (by decide +kernel) ⟨by decide, by decide⟩) hK hP hD hS hA mIs [] rfl (wr := []) rfl rfl rfl (fun i h => by cases h) 0 12 rfl rfl rfl hl.1 rfl (Nat.le_of_ble_eq_true rfl) dX12_readClause_39 ⟨Nat.le_refl _, Nat.le_refl _⟩ (fun v271 u272 H locs hw270 hP hD hS => ?_)
          have hP : va_P D vwCl (mW K o r u272 a g) H := hP
          have hD : va_D A (mW K o r u272 a g) := hD
          have hI : mI u272 a := hw270.2.1
          have eE273 : fE [19] u264 u272 := hw270.2.2.1
          have hE : fE [19, 20, 21] f u272 := fE_tr hE (fE_w (by decide) eE273)
          obtain ⟨hvk274, hnk274, hpk274⟩ := (hw270.2.2.2).elim (fun q => absurd q.2.1 (fun q => hn21 (((hdk266.2.1.trans ((eE256 21 (by decide)).trans ((eE247 21 (by decide)).trans ((eE238 21 (by decide)).trans ec21.symm))))).symm.trans q))) (fun q => q)
          refine k_top (z := 0) hvk274 ?_
          obtain ⟨gv275, egv275⟩ : ∃ z : Int32, z = u272 19 := ⟨_, rfl⟩
          have hg276 : gv275.toInt = ((i : Nat) : Int) := by rw [egv275]; exact hpk274
          have b277 : kb 0 gv275 400 := kb_tok (rS_fE hE hp0 (by decide)) hp2 hg276
          refine lv_if_eq (tgt := 50) hx hb dX12_readClause_42 (by decide) (fun c278 => ?_) (fun c278 => ?_)
          · exact kV_ret hx hb hr hlocks hK hS dX12_readClause_50 u272 hP hD ⟨hI, hE, ⟨i, 0, (by rw [egv275.symm]; exact hg276), (Nat.le_refl i), hp2, Or.inr (Or.inr ⟨h21, (((eE273 21 (by decide)).trans (hdk266.2.1.trans ((eE256 21 (by decide)).trans ((eE247 21 (by decide)).trans ((eE238 21 (by decide)).trans ec21.symm)))))).trans ec21, rfl⟩)⟩⟩
          · exact kb_nsame c278 kc_0 kc_0
        · exact kb_nsame c261 kc_0 kc_0
set_option maxHeartbeats 4000000 in
set_option maxRecDepth 100000 in
theorem q_readOrder  (l : Launch) {D : va_G} {K : Nat → ClassId} (o : Nat) (r : Nat → Nat) (f : Nat → Int32) (a : Nat → Nat → Int32) (g : Nat → Int64) (hI : mI f a)   (N i n : Nat) (ob : Bool) (T : Nat → Int32) (hp0 : rS f a N ob) (hp1 : (f 19).toInt = (i : Int)) (hp2 : i ≤ N) (hp3 : rQ a N T) (hp4 : f 21 = -1 → (f 20).toInt = (n : Int) ∧ n ≤ 50) : kV l yX12_readOrder (Cond.code yX12_readOrder cX12_readOrder 1 none :: kG) (rmD 48 0 0) D (tysK K) [.ref o] (mW K o r f a g) (fun (u : Nat → Int32) => mI u a ∧ fE [19, 20, 21] f u ∧ (∃ i2 n2 : Nat, (u 19).toInt = (i2 : Int) ∧ i ≤ i2 ∧ i2 ≤ N ∧ ((f 21 = -1 ∧ u 21 = -1 ∧ ((u 20).toInt = (n2 : Int) ∧ n2 ≤ 50) ∧ pG ob T 8 13 i n (true, i2, n2)) ∨ (f 21 = -1 ∧ (u 21 = a 17 i2 ∧ ¬ u 21 = -1) ∧ pG ob T 8 13 i n (false, i2, 0)) ∨ (¬ f 21 = -1 ∧ u 21 = f 21 ∧ i2 = i)))) (fun u => mW K o r u a g) 0 0 := by
  refine kV.of (cc := cX12_readOrder) (maxL := 1) (ret := none) (by decide) rfl (Nat.le_of_ble_eq_true rfl) ?_
  intro p e s m below meth c A hx hb hr hml hown hts hlocks hnm hK hP hD hS hA ls hl
  have hE : fE [19, 20, 21] f f := fE_rf
  have hg : ∀ w ∈ kG, w.before _ s = true := fun w h => hts w (List.mem_cons_of_mem _ h)
  have hown : s.vm.findClass RX12 = some m.cls := hown
  have hl : lv_has ls 1 [(0, .ref o)] := hl
  obtain ⟨c19, ec19⟩ : ∃ z : Int32, z = f 19 := ⟨_, rfl⟩
  have hg0 : c19.toInt = (i : Int) := by rw [ec19]; exact hp1
  have b1 : kb 0 c19 400 := kb_tok hp0 hp2 hg0
  by_cases h21 : f 21 = -1
  · obtain ⟨c20, ec20⟩ : ∃ z : Int32, z = f 20 := ⟨_, rfl⟩
    have hn20 : c20.toInt = (n : Int) := by rw [ec20]; exact (hp4 h21).1
    have hl50 : n ≤ 50 := (hp4 h21).2
    have b2 : kb 0 c20 50 := ⟨by omega, by omega⟩
    refine lv_aload_n hx hb dX12_readOrder_0 rfl (lv_at hl 0 rfl) ?_
    refine lv_bipush (v := 23) hx hb dX12_readOrder_1 (by decide) ?_
    refine kI.callV (As := [.int 23]) (rest := []) ⟨hx, hb, hml, hown, hg⟩ (q_takes0 l o r f a g hI 23 (kb_w kc_23 (by decide) (by decide)) N (i) ob T (rS_fE hE hp0 (by decide)) (by rw [ec19.symm]; exact hg0) hp2 hp3 (by decide +kernel)) (cwV 1 hg (kgV wt6_200 wt6_202 wp4_6 wt1_14 wt6_203) rfl rfl rfl (by decide +kernel) ⟨by decide, by decide⟩) hK hP hD hS hA mIs [] rfl (wr := []) rfl rfl rfl (fun i h => by cases h) 0 12 rfl rfl rfl hl.1 rfl (Nat.le_of_ble_eq_true rfl) dX12_readOrder_3 ⟨Nat.le_refl _, Nat.le_refl _⟩ (fun v4 u5 H locs hw3 hP hD hS => ?_)
    have hP : va_P D vwCl (mW K o r u5 a g) H := hP
    have hD : va_D A (mW K o r u5 a g) := hD
    have hI : mI u5 a := hw3.2.1
    have eE6 : fE [19] f u5 := hw3.2.2.1
    have hE : fE [19, 20, 21] f u5 := fE_tr hE (fE_w (by decide) eE6)
    rcases hw3.2.2.2 with ⟨hvk7, hbk7, htk7, hpk7, hlk7⟩ | ⟨hvk7, hnk7, hpk7⟩
    · refine k_top (z := 1) hvk7 ?_
      obtain ⟨gv8, egv8⟩ : ∃ z : Int32, z = u5 19 := ⟨_, rfl⟩
      have hg9 : gv8.toInt = ((i + 1 : Nat) : Int) := by rw [egv8]; exact hpk7
      have b10 : kb 0 gv8 400 := kb_tok (rS_fE hE hp0 (by decide)) hlk7 hg9
      have hTk7 : T (i) = 2018 := htk7.trans (by decide +kernel)
      refine lv_if_eq (tgt := 28) hx hb dX12_readOrder_6 (by decide) (fun c11 => ?_) (fun c11 => ?_)
      · exact kb_dj c11 kc_1 kc_0 (by decide)
      · refine lv_aload_n hx hb dX12_readOrder_9 rfl (lv_at hl 0 rfl) ?_
        refine lv_iconst (v := 0) hx hb dX12_readOrder_10 (by decide) ?_
        refine kV.callV (As := [.int 0]) (rest := []) ⟨hx, hb, hml, hown, hg⟩ ((q_allRSum 8) l o r u5 a g hI 0 (kb_w kc_0 (by decide) (by decide)) N (i + 1) (n) ob T (rS_fE hE hp0 (by decide)) (by rw [egv8.symm]; exact hg9) hlk7 hp3 (fun _ => ⟨(by rw [((eE6 20 (by decide)).trans ec20.symm)]; exact hn20), hl50⟩) (by decide +kernel)) (cwV 1 hg (kgV wt6_208 wt6_210 wp4_8 wt1_14 wt6_211) rfl rfl rfl (by decide +kernel) ⟨by decide, by decide⟩) hK hP hD hS hA mIs [] rfl (wr := []) rfl rfl rfl (fun i h => by cases h) 0 12 rfl rfl rfl hl.1 rfl (Nat.le_of_ble_eq_true rfl) dX12_readOrder_11 ⟨Nat.le_refl _, Nat.le_refl _⟩ (fun u14 H locs hw12 hP hD hS => ?_)
        have hP : va_P D vwCl (mW K o r u14 a g) H := hP
        have hD : va_D A (mW K o r u14 a g) := hD
        have hI : mI u14 a := hw12.1
        have eE15 : fE [19, 20, 21] u5 u14 := hw12.2.1
        have hE : fE [19, 20, 21] f u14 := fE_tr hE eE15
        obtain ⟨ik16, nk16, hgk16, hlek16, hNk16, hck16⟩ := hw12.2.2
        rcases hck16 with ⟨-, h2k16, h3k16, hGk16⟩ | ⟨-, hbk16, hGk16⟩ | hdk16
        · obtain ⟨gv17, egv17⟩ : ∃ z : Int32, z = u14 19 := ⟨_, rfl⟩
          have hg18 : gv17.toInt = ((ik16 : Nat) : Int) := by rw [egv17]; exact hgk16
          have b19 : kb 0 gv17 400 := kb_tok (rS_fE hE hp0 (by decide)) hNk16 hg18
          obtain ⟨z20, ez20⟩ : ∃ z : Int32, z = u14 20 := ⟨_, rfl⟩
          have hzz20 : z20.toInt = (nk16 : Int) := by rw [ez20]; exact h3k16.1
          refine lv_aload_n hx hb dX12_readOrder_14 rfl (lv_at hl 0 rfl) ?_
          refine lv_bipush (v := 24) hx hb dX12_readOrder_15 (by decide) ?_
          refine kV.callV (As := [.int 24]) (rest := []) ⟨hx, hb, hml, hown, hg⟩ (q_must l o r u14 a g hI 24 (kb_w kc_24 (by decide) (by decide)) N (ik16) ob T (rS_fE hE hp0 (by decide)) (by rw [egv17.symm]; exact hg18) hNk16 hp3 (by decide +kernel)) (cwV 1 hg (kgV wt6_227 wt6_229 wp4_12 wt1_14 wt6_230) rfl rfl rfl (by decide +kernel) ⟨by decide, by decide⟩) hK hP hD hS hA mIs [] rfl (wr := []) rfl rfl rfl (fun i h => by cases h) 0 12 rfl rfl rfl hl.1 rfl (Nat.le_of_ble_eq_true rfl) dX12_readOrder_17 ⟨Nat.le_refl _, Nat.le_refl _⟩ (fun u23 H locs hw21 hP hD hS => ?_)
          have hP : va_P D vwCl (mW K o r u23 a g) H := hP
          have hD : va_D A (mW K o r u23 a g) := hD
          have hI : mI u23 a := hw21.1
          have eE24 : fE [19, 21] u14 u23 := hw21.2.1
          have hE : fE [19, 20, 21] f u23 := fE_tr hE (fE_w (by decide) eE24)
          rcases hw21.2.2 with ⟨-, h2k25, hGk25, hpk25, hlk25⟩ | ⟨-, hbk25, hGk25, hpk25⟩ | hdk25
          · obtain ⟨gv26, egv26⟩ : ∃ z : Int32, z = u23 19 := ⟨_, rfl⟩
            have hg27 : gv26.toInt = ((ik16 + 1 : Nat) : Int) := by rw [egv26]; exact hpk25
            have b28 : kb 0 gv26 400 := kb_tok (rS_fE hE hp0 (by decide)) hlk25 hg27
            have hm29 : T (ik16) = 2022 := hGk25.trans (by decide +kernel)
            refine lv_aload_n hx hb dX12_readOrder_20 rfl (lv_at hl 0 rfl) ?_
            refine lv_iconst (v := 0) hx hb dX12_readOrder_21 (by decide) ?_
            refine kV.callV (As := [.int 0]) (rest := []) ⟨hx, hb, hml, hown, hg⟩ ((q_allRSum 8) l o r u23 a g hI 0 (kb_w kc_0 (by decide) (by decide)) N (ik16 + 1) (nk16) ob T (rS_fE hE hp0 (by decide)) (by rw [egv26.symm]; exact hg27) hlk25 hp3 (fun _ => ⟨(by rw [((eE24 20 (by decide)).trans ez20.symm)]; exact hzz20), h3k16.2⟩) (by decide +kernel)) (cwV 1 hg (kgV wt6_208 wt6_210 wp4_8 wt1_14 wt6_211) rfl rfl rfl (by decide +kernel) ⟨by decide, by decide⟩) hK hP hD hS hA mIs [] rfl (wr := []) rfl rfl rfl (fun i h => by cases h) 0 12 rfl rfl rfl hl.1 rfl (Nat.le_of_ble_eq_true rfl) dX12_readOrder_22 ⟨Nat.le_refl _, Nat.le_refl _⟩ (fun u32 H locs hw30 hP hD hS => ?_)
            have hP : va_P D vwCl (mW K o r u32 a g) H := hP
            have hD : va_D A (mW K o r u32 a g) := hD
            have hI : mI u32 a := hw30.1
            have eE33 : fE [19, 20, 21] u23 u32 := hw30.2.1
            have hE : fE [19, 20, 21] f u32 := fE_tr hE eE33
            obtain ⟨ik34, nk34, hgk34, hlek34, hNk34, hck34⟩ := hw30.2.2
            rcases hck34 with ⟨-, h2k34, h3k34, hGk34⟩ | ⟨-, hbk34, hGk34⟩ | hdk34
            · obtain ⟨gv35, egv35⟩ : ∃ z : Int32, z = u32 19 := ⟨_, rfl⟩
              have hg36 : gv35.toInt = ((ik34 : Nat) : Int) := by rw [egv35]; exact hgk34
              have b37 : kb 0 gv35 400 := kb_tok (rS_fE hE hp0 (by decide)) hNk34 hg36
              obtain ⟨z38, ez38⟩ : ∃ z : Int32, z = u32 20 := ⟨_, rfl⟩
              have hzz38 : z38.toInt = (nk34 : Int) := by rw [ez38]; exact h3k34.1
              refine lv_goto (tgt := 60) hx hb dX12_readOrder_25 (by decide) ?_
              refine lv_aload_n hx hb dX12_readOrder_60 rfl (lv_at hl 0 rfl) ?_
              refine lv_bipush (v := 28) hx hb dX12_readOrder_61 (by decide) ?_
              refine kI.callV (As := [.int 28]) (rest := []) ⟨hx, hb, hml, hown, hg⟩ (q_takes0 l o r u32 a g hI 28 (kb_w kc_28 (by decide) (by decide)) N (ik34) ob T (rS_fE hE hp0 (by decide)) (by rw [egv35.symm]; exact hg36) hNk34 hp3 (by decide +kernel)) (cwV 1 hg (kgV wt6_200 wt6_202 wp4_6 wt1_14 wt6_203) rfl rfl rfl (by decide +kernel) ⟨by decide, by decide⟩) hK hP hD hS hA mIs [] rfl (wr := []) rfl rfl rfl (fun i h => by cases h) 0 12 rfl rfl rfl hl.1 rfl (Nat.le_of_ble_eq_true rfl) dX12_readOrder_63 ⟨Nat.le_refl _, Nat.le_refl _⟩ (fun v40 u41 H locs hw39 hP hD hS => ?_)
              have hP : va_P D vwCl (mW K o r u41 a g) H := hP
              have hD : va_D A (mW K o r u41 a g) := hD
              have hI : mI u41 a := hw39.2.1
              have eE42 : fE [19] u32 u41 := hw39.2.2.1
              have hE : fE [19, 20, 21] f u41 := fE_tr hE (fE_w (by decide) eE42)
              rcases hw39.2.2.2 with ⟨hvk43, hbk43, htk43, hpk43, hlk43⟩ | ⟨hvk43, hnk43, hpk43⟩
              · refine k_top (z := 1) hvk43 ?_
                obtain ⟨gv44, egv44⟩ : ∃ z : Int32, z = u41 19 := ⟨_, rfl⟩
                have hg45 : gv44.toInt = ((ik34 + 1 : Nat) : Int) := by rw [egv44]; exact hpk43
                have b46 : kb 0 gv44 400 := kb_tok (rS_fE hE hp0 (by decide)) hlk43 hg45
                have hTk43 : T (ik34) = 2023 := htk43.trans (by decide +kernel)
                refine lv_if_eq (tgt := 76) hx hb dX12_readOrder_66 (by decide) (fun c47 => ?_) (fun c47 => ?_)
                · exact kb_dj c47 kc_1 kc_0 (by decide)
                · refine lv_aload_n hx hb dX12_readOrder_69 rfl (lv_at hl 0 rfl) ?_
                  refine lv_iconst (v := 1) hx hb dX12_readOrder_70 (by decide) ?_
                  refine lv_bipush (v := 20) hx hb dX12_readOrder_71 (by decide) ?_
                  refine kV.callV (As := [.int 1, .int 20]) (rest := []) ⟨hx, hb, hml, hown, hg⟩ (q_mustNumber l o r u41 a g hI 1 20 (kb_w kc_1 (by decide) (by decide)) (kb_w kc_20 (by decide) (by decide)) N (ik34 + 1) ob T (rS_fE hE hp0 (by decide)) (by rw [egv44.symm]; exact hg45) hlk43 hp3) (cwV 2 hg (kgV wt6_235 wt6_237 wp4_14 wt1_14 wt6_238) rfl rfl rfl (by decide +kernel) ⟨by decide, by decide⟩) hK hP hD hS hA mIs [] rfl (wr := []) rfl rfl rfl (fun i h => by cases h) 0 12 rfl rfl rfl hl.1 rfl (Nat.le_of_ble_eq_true rfl) dX12_readOrder_73 ⟨Nat.le_refl _, Nat.le_refl _⟩ (fun u50 H locs hw48 hP hD hS => ?_)
                  have hP : va_P D vwCl (mW K o r u50 a g) H := hP
                  have hD : va_D A (mW K o r u50 a g) := hD
                  have hI : mI u50 a := hw48.1
                  have eE51 : fE [19, 21] u41 u50 := hw48.2.1
                  have hE : fE [19, 20, 21] f u50 := fE_tr hE (fE_w (by decide) eE51)
                  rcases hw48.2.2 with ⟨-, h2k52, hGk52, hpk52, hlk52⟩ | ⟨-, hbk52, hGk52, hpk52⟩ | hdk52
                  · obtain ⟨gv53, egv53⟩ : ∃ z : Int32, z = u50 19 := ⟨_, rfl⟩
                    have hg54 : gv53.toInt = ((ik34 + 1 + 1 : Nat) : Int) := by rw [egv53]; exact hpk52
                    have b55 : kb 0 gv53 400 := kb_tok (rS_fE hE hp0 (by decide)) hlk52 hg54
                    have hm56 : pInr (T (ik34 + 1)) 1 20 = true := by have w1 := hGk52; rw [show (1 : Int32).toInt = 1 from by decide +kernel, show (20 : Int32).toInt = 20 from by decide +kernel] at w1; exact w1
                    refine lv_aload_n hx hb dX12_readOrder_76 rfl (lv_at hl 0 rfl) ?_
                    refine lv_iconst (v := 5) hx hb dX12_readOrder_77 (by decide) ?_
                    refine kI.callV (As := [.int 5]) (rest := []) ⟨hx, hb, hml, hown, hg⟩ (q_takes0 l o r u50 a g hI 5 (kb_w kc_5 (by decide) (by decide)) N (ik34 + 1 + 1) ob T (rS_fE hE hp0 (by decide)) (by rw [egv53.symm]; exact hg54) hlk52 hp3 (by decide +kernel)) (cwV 1 hg (kgV wt6_200 wt6_202 wp4_6 wt1_14 wt6_203) rfl rfl rfl (by decide +kernel) ⟨by decide, by decide⟩) hK hP hD hS hA mIs [] rfl (wr := []) rfl rfl rfl (fun i h => by cases h) 0 12 rfl rfl rfl hl.1 rfl (Nat.le_of_ble_eq_true rfl) dX12_readOrder_78 ⟨Nat.le_refl _, Nat.le_refl _⟩ (fun v58 u59 H locs hw57 hP hD hS => ?_)
                    have hP : va_P D vwCl (mW K o r u59 a g) H := hP
                    have hD : va_D A (mW K o r u59 a g) := hD
                    have hI : mI u59 a := hw57.2.1
                    have eE60 : fE [19] u50 u59 := hw57.2.2.1
                    have hE : fE [19, 20, 21] f u59 := fE_tr hE (fE_w (by decide) eE60)
                    rcases hw57.2.2.2 with ⟨hvk61, hbk61, htk61, hpk61, hlk61⟩ | ⟨hvk61, hnk61, hpk61⟩
                    · refine k_top (z := 1) hvk61 ?_
                      obtain ⟨gv62, egv62⟩ : ∃ z : Int32, z = u59 19 := ⟨_, rfl⟩
                      have hg63 : gv62.toInt = ((ik34 + 1 + 1 + 1 : Nat) : Int) := by rw [egv62]; exact hpk61
                      have b64 : kb 0 gv62 400 := kb_tok (rS_fE hE hp0 (by decide)) hlk61 hg63
                      have hTk61 : T (ik34 + 1 + 1) = 2003 := htk61.trans (by decide +kernel)
                      refine lv_if_eq (tgt := 89) hx hb dX12_readOrder_81 (by decide) (fun c65 => ?_) (fun c65 => ?_)
                      · exact kb_dj c65 kc_1 kc_0 (by decide)
                      · refine lv_aload_n hx hb dX12_readOrder_84 rfl (lv_at hl 0 rfl) ?_
                        refine lv_iconst (v := 0) hx hb dX12_readOrder_85 (by decide) ?_
                        refine kV.callV (As := [.int 0]) (rest := []) ⟨hx, hb, hml, hown, hg⟩ ((q_allRTest 8) l o r u59 a g hI 0 (kb_w kc_0 (by decide) (by decide)) N (ik34 + 1 + 1 + 1) (nk34) ob T (rS_fE hE hp0 (by decide)) (by rw [egv62.symm]; exact hg63) hlk61 hp3 (fun _ => ⟨(by rw [((eE60 20 (by decide)).trans ((eE51 20 (by decide)).trans ((eE42 20 (by decide)).trans ez38.symm)))]; exact hzz38), h3k34.2⟩) (by decide +kernel)) (cwV 1 hg (kgV wt6_239 wt7_1 wp4_15 wt1_14 wt7_2) rfl rfl rfl (by decide +kernel) ⟨by decide, by decide⟩) hK hP hD hS hA mIs [] rfl (wr := []) rfl rfl rfl (fun i h => by cases h) 0 12 rfl rfl rfl hl.1 rfl (Nat.le_of_ble_eq_true rfl) dX12_readOrder_86 ⟨Nat.le_refl _, Nat.le_refl _⟩ (fun u68 H locs hw66 hP hD hS => ?_)
                        have hP : va_P D vwCl (mW K o r u68 a g) H := hP
                        have hD : va_D A (mW K o r u68 a g) := hD
                        have hI : mI u68 a := hw66.1
                        have eE69 : fE [19, 20, 21] u59 u68 := hw66.2.1
                        have hE : fE [19, 20, 21] f u68 := fE_tr hE eE69
                        obtain ⟨ik70, nk70, hgk70, hlek70, hNk70, hck70⟩ := hw66.2.2
                        rcases hck70 with ⟨-, h2k70, h3k70, hGk70⟩ | ⟨-, hbk70, hGk70⟩ | hdk70
                        · obtain ⟨gv71, egv71⟩ : ∃ z : Int32, z = u68 19 := ⟨_, rfl⟩
                          have hg72 : gv71.toInt = ((ik70 : Nat) : Int) := by rw [egv71]; exact hgk70
                          have b73 : kb 0 gv71 400 := kb_tok (rS_fE hE hp0 (by decide)) hNk70 hg72
                          obtain ⟨z74, ez74⟩ : ∃ z : Int32, z = u68 20 := ⟨_, rfl⟩
                          have hzz74 : z74.toInt = (nk70 : Int) := by rw [ez74]; exact h3k70.1
                          exact kV_ret hx hb hr hlocks hK hS dX12_readOrder_89 u68 hP hD ⟨hI, hE, ⟨ik70, nk70, (by rw [egv71.symm]; exact hg72), (Nat.le_trans (Nat.le_succ_of_le (Nat.le_succ_of_le (Nat.le_succ_of_le (Nat.le_trans (Nat.le_succ_of_le (Nat.le_trans (Nat.le_succ_of_le (Nat.le_refl i)) hlek16)) hlek34)))) hlek70), hNk70, Or.inl ⟨h21, h2k70, ⟨(by rw [ez74.symm]; exact hzz74), h3k70.2⟩, (pi_13a hTk7 hGk16 hm29 (pi_17 hGk34 (pi_14y hTk43 hm56 (pi_12y hTk61 hGk70))))⟩⟩⟩
                        · obtain ⟨gv75, egv75⟩ : ∃ z : Int32, z = u68 19 := ⟨_, rfl⟩
                          have hg76 : gv75.toInt = ((ik70 : Nat) : Int) := by rw [egv75]; exact hgk70
                          have b77 : kb 0 gv75 400 := kb_tok (rS_fE hE hp0 (by decide)) hNk70 hg76
                          obtain ⟨z78, ez78⟩ : ∃ z : Int32, z = u68 21 := ⟨_, rfl⟩
                          have haz78 : z78 = a 17 (ik70) := by rw [ez78]; exact hbk70.1
                          have hnz78 : ¬ z78 = -1 := by rw [ez78]; exact hbk70.2
                          exact kV_ret hx hb hr hlocks hK hS dX12_readOrder_89 u68 hP hD ⟨hI, hE, ⟨ik70, 0, (by rw [egv75.symm]; exact hg76), (Nat.le_trans (Nat.le_succ_of_le (Nat.le_succ_of_le (Nat.le_succ_of_le (Nat.le_trans (Nat.le_succ_of_le (Nat.le_trans (Nat.le_succ_of_le (Nat.le_refl i)) hlek16)) hlek34)))) hlek70), hNk70, Or.inr (Or.inl ⟨h21, ⟨(ez78.symm).trans haz78, (fun q => hnz78 ((ez78.symm).symm.trans q))⟩, (pi_13a hTk7 hGk16 hm29 (pi_17 hGk34 (pi_14y hTk43 hm56 (pi_12y hTk61 hGk70))))⟩)⟩⟩
                        · exact absurd ((eE60 21 (by decide)).trans h2k52) hdk70.1
                    · refine k_top (z := 0) hvk61 ?_
                      obtain ⟨gv79, egv79⟩ : ∃ z : Int32, z = u59 19 := ⟨_, rfl⟩
                      have hg80 : gv79.toInt = ((ik34 + 1 + 1 : Nat) : Int) := by rw [egv79]; exact hpk61
                      have b81 : kb 0 gv79 400 := kb_tok (rS_fE hE hp0 (by decide)) hlk52 hg80
                      have hTk61 : ¬ T (ik34 + 1 + 1) = 2003 := fun q => (hnk61 h2k52) (q.trans (by decide +kernel))
                      refine lv_if_eq (tgt := 89) hx hb dX12_readOrder_81 (by decide) (fun c82 => ?_) (fun c82 => ?_)
                      · exact kV_ret hx hb hr hlocks hK hS dX12_readOrder_89 u59 hP hD ⟨hI, hE, ⟨ik34 + 1 + 1, nk34, (by rw [egv79.symm]; exact hg80), (Nat.le_succ_of_le (Nat.le_succ_of_le (Nat.le_trans (Nat.le_succ_of_le (Nat.le_trans (Nat.le_succ_of_le (Nat.le_refl i)) hlek16)) hlek34))), hlk52, Or.inl ⟨h21, ((eE60 21 (by decide)).trans h2k52), ⟨(by rw [((eE60 20 (by decide)).trans ((eE51 20 (by decide)).trans ((eE42 20 (by decide)).trans ez38.symm)))]; exact hzz38), h3k34.2⟩, (pi_13a hTk7 hGk16 hm29 (pi_17 hGk34 (pi_14y hTk43 hm56 (pi_12n hTk61))))⟩⟩⟩
                      · exact kb_nsame c82 kc_0 kc_0
                  · obtain ⟨z83, ez83⟩ : ∃ z : Int32, z = u50 21 := ⟨_, rfl⟩
                    have haz83 : z83 = a 17 (ik34 + 1) := by rw [ez83]; exact hbk52.1
                    have hnz83 : ¬ z83 = -1 := by rw [ez83]; exact hbk52.2
                    obtain ⟨gv84, egv84⟩ : ∃ z : Int32, z = u50 19 := ⟨_, rfl⟩
                    have hg85 : gv84.toInt = ((ik34 + 1 : Nat) : Int) := by rw [egv84]; exact hpk52
                    have b86 : kb 0 gv84 400 := kb_tok (rS_fE hE hp0 (by decide)) hlk43 hg85
                    have hm87 : pInr (T (ik34 + 1)) 1 20 = false := by have w1 := hGk52; rw [show (1 : Int32).toInt = 1 from by decide +kernel, show (20 : Int32).toInt = 20 from by decide +kernel] at w1; exact w1
                    refine lv_aload_n hx hb dX12_readOrder_76 rfl (lv_at hl 0 rfl) ?_
                    refine lv_iconst (v := 5) hx hb dX12_readOrder_77 (by decide) ?_
                    refine kI.callV (As := [.int 5]) (rest := []) ⟨hx, hb, hml, hown, hg⟩ (q_takes0 l o r u50 a g hI 5 (kb_w kc_5 (by decide) (by decide)) N (ik34 + 1) ob T (rS_fE hE hp0 (by decide)) (by rw [egv84.symm]; exact hg85) hlk43 hp3 (by decide +kernel)) (cwV 1 hg (kgV wt6_200 wt6_202 wp4_6 wt1_14 wt6_203) rfl rfl rfl (by decide +kernel) ⟨by decide, by decide⟩) hK hP hD hS hA mIs [] rfl (wr := []) rfl rfl rfl (fun i h => by cases h) 0 12 rfl rfl rfl hl.1 rfl (Nat.le_of_ble_eq_true rfl) dX12_readOrder_78 ⟨Nat.le_refl _, Nat.le_refl _⟩ (fun v89 u90 H locs hw88 hP hD hS => ?_)
                    have hP : va_P D vwCl (mW K o r u90 a g) H := hP
                    have hD : va_D A (mW K o r u90 a g) := hD
                    have hI : mI u90 a := hw88.2.1
                    have eE91 : fE [19] u50 u90 := hw88.2.2.1
                    have hE : fE [19, 20, 21] f u90 := fE_tr hE (fE_w (by decide) eE91)
                    obtain ⟨hvk92, hnk92, hpk92⟩ := (hw88.2.2.2).elim (fun q => absurd q.2.1 (fun q => hnz83 ((ez83.symm).symm.trans q))) (fun q => q)
                    refine k_top (z := 0) hvk92 ?_
                    obtain ⟨gv93, egv93⟩ : ∃ z : Int32, z = u90 19 := ⟨_, rfl⟩
                    have hg94 : gv93.toInt = ((ik34 + 1 : Nat) : Int) := by rw [egv93]; exact hpk92
                    have b95 : kb 0 gv93 400 := kb_tok (rS_fE hE hp0 (by decide)) hlk43 hg94
                    refine lv_if_eq (tgt := 89) hx hb dX12_readOrder_81 (by decide) (fun c96 => ?_) (fun c96 => ?_)
                    · exact kV_ret hx hb hr hlocks hK hS dX12_readOrder_89 u90 hP hD ⟨hI, hE, ⟨ik34 + 1, 0, (by rw [egv93.symm]; exact hg94), (Nat.le_succ_of_le (Nat.le_trans (Nat.le_succ_of_le (Nat.le_trans (Nat.le_succ_of_le (Nat.le_refl i)) hlek16)) hlek34)), hlk43, Or.inr (Or.inl ⟨h21, ⟨(((eE91 21 (by decide)).trans ez83.symm)).trans haz83, (fun q => hnz83 ((((eE91 21 (by decide)).trans ez83.symm)).symm.trans q))⟩, (pi_13a hTk7 hGk16 hm29 (pi_17 hGk34 (pi_14f hTk43 hm87)))⟩)⟩⟩
                    · exact kb_nsame c96 kc_0 kc_0
                  · exact absurd ((eE42 21 (by decide)).trans h2k34) hdk52.1
              · refine k_top (z := 0) hvk43 ?_
                obtain ⟨gv97, egv97⟩ : ∃ z : Int32, z = u41 19 := ⟨_, rfl⟩
                have hg98 : gv97.toInt = ((ik34 : Nat) : Int) := by rw [egv97]; exact hpk43
                have b99 : kb 0 gv97 400 := kb_tok (rS_fE hE hp0 (by decide)) hNk34 hg98
                have hTk43 : ¬ T (ik34) = 2023 := fun q => (hnk43 h2k34) (q.trans (by decide +kernel))
                refine lv_if_eq (tgt := 76) hx hb dX12_readOrder_66 (by decide) (fun c100 => ?_) (fun c100 => ?_)
                · refine lv_aload_n hx hb dX12_readOrder_76 rfl (lv_at hl 0 rfl) ?_
                  refine lv_iconst (v := 5) hx hb dX12_readOrder_77 (by decide) ?_
                  refine kI.callV (As := [.int 5]) (rest := []) ⟨hx, hb, hml, hown, hg⟩ (q_takes0 l o r u41 a g hI 5 (kb_w kc_5 (by decide) (by decide)) N (ik34) ob T (rS_fE hE hp0 (by decide)) (by rw [egv97.symm]; exact hg98) hNk34 hp3 (by decide +kernel)) (cwV 1 hg (kgV wt6_200 wt6_202 wp4_6 wt1_14 wt6_203) rfl rfl rfl (by decide +kernel) ⟨by decide, by decide⟩) hK hP hD hS hA mIs [] rfl (wr := []) rfl rfl rfl (fun i h => by cases h) 0 12 rfl rfl rfl hl.1 rfl (Nat.le_of_ble_eq_true rfl) dX12_readOrder_78 ⟨Nat.le_refl _, Nat.le_refl _⟩ (fun v102 u103 H locs hw101 hP hD hS => ?_)
                  have hP : va_P D vwCl (mW K o r u103 a g) H := hP
                  have hD : va_D A (mW K o r u103 a g) := hD
                  have hI : mI u103 a := hw101.2.1
                  have eE104 : fE [19] u41 u103 := hw101.2.2.1
                  have hE : fE [19, 20, 21] f u103 := fE_tr hE (fE_w (by decide) eE104)
                  rcases hw101.2.2.2 with ⟨hvk105, hbk105, htk105, hpk105, hlk105⟩ | ⟨hvk105, hnk105, hpk105⟩
                  · refine k_top (z := 1) hvk105 ?_
                    obtain ⟨gv106, egv106⟩ : ∃ z : Int32, z = u103 19 := ⟨_, rfl⟩
                    have hg107 : gv106.toInt = ((ik34 + 1 : Nat) : Int) := by rw [egv106]; exact hpk105
                    have b108 : kb 0 gv106 400 := kb_tok (rS_fE hE hp0 (by decide)) hlk105 hg107
                    have hTk105 : T (ik34) = 2003 := htk105.trans (by decide +kernel)
                    refine lv_if_eq (tgt := 89) hx hb dX12_readOrder_81 (by decide) (fun c109 => ?_) (fun c109 => ?_)
                    · exact kb_dj c109 kc_1 kc_0 (by decide)
                    · refine lv_aload_n hx hb dX12_readOrder_84 rfl (lv_at hl 0 rfl) ?_
                      refine lv_iconst (v := 0) hx hb dX12_readOrder_85 (by decide) ?_
                      refine kV.callV (As := [.int 0]) (rest := []) ⟨hx, hb, hml, hown, hg⟩ ((q_allRTest 8) l o r u103 a g hI 0 (kb_w kc_0 (by decide) (by decide)) N (ik34 + 1) (nk34) ob T (rS_fE hE hp0 (by decide)) (by rw [egv106.symm]; exact hg107) hlk105 hp3 (fun _ => ⟨(by rw [((eE104 20 (by decide)).trans ((eE42 20 (by decide)).trans ez38.symm))]; exact hzz38), h3k34.2⟩) (by decide +kernel)) (cwV 1 hg (kgV wt6_239 wt7_1 wp4_15 wt1_14 wt7_2) rfl rfl rfl (by decide +kernel) ⟨by decide, by decide⟩) hK hP hD hS hA mIs [] rfl (wr := []) rfl rfl rfl (fun i h => by cases h) 0 12 rfl rfl rfl hl.1 rfl (Nat.le_of_ble_eq_true rfl) dX12_readOrder_86 ⟨Nat.le_refl _, Nat.le_refl _⟩ (fun u112 H locs hw110 hP hD hS => ?_)
                      have hP : va_P D vwCl (mW K o r u112 a g) H := hP
                      have hD : va_D A (mW K o r u112 a g) := hD
                      have hI : mI u112 a := hw110.1
                      have eE113 : fE [19, 20, 21] u103 u112 := hw110.2.1
                      have hE : fE [19, 20, 21] f u112 := fE_tr hE eE113
                      obtain ⟨ik114, nk114, hgk114, hlek114, hNk114, hck114⟩ := hw110.2.2
                      rcases hck114 with ⟨-, h2k114, h3k114, hGk114⟩ | ⟨-, hbk114, hGk114⟩ | hdk114
                      · obtain ⟨gv115, egv115⟩ : ∃ z : Int32, z = u112 19 := ⟨_, rfl⟩
                        have hg116 : gv115.toInt = ((ik114 : Nat) : Int) := by rw [egv115]; exact hgk114
                        have b117 : kb 0 gv115 400 := kb_tok (rS_fE hE hp0 (by decide)) hNk114 hg116
                        obtain ⟨z118, ez118⟩ : ∃ z : Int32, z = u112 20 := ⟨_, rfl⟩
                        have hzz118 : z118.toInt = (nk114 : Int) := by rw [ez118]; exact h3k114.1
                        exact kV_ret hx hb hr hlocks hK hS dX12_readOrder_89 u112 hP hD ⟨hI, hE, ⟨ik114, nk114, (by rw [egv115.symm]; exact hg116), (Nat.le_trans (Nat.le_succ_of_le (Nat.le_trans (Nat.le_succ_of_le (Nat.le_trans (Nat.le_succ_of_le (Nat.le_refl i)) hlek16)) hlek34)) hlek114), hNk114, Or.inl ⟨h21, h2k114, ⟨(by rw [ez118.symm]; exact hzz118), h3k114.2⟩, (pi_13a hTk7 hGk16 hm29 (pi_17 hGk34 (pi_14n hTk43 (pi_12y hTk105 hGk114))))⟩⟩⟩
                      · obtain ⟨gv119, egv119⟩ : ∃ z : Int32, z = u112 19 := ⟨_, rfl⟩
                        have hg120 : gv119.toInt = ((ik114 : Nat) : Int) := by rw [egv119]; exact hgk114
                        have b121 : kb 0 gv119 400 := kb_tok (rS_fE hE hp0 (by decide)) hNk114 hg120
                        obtain ⟨z122, ez122⟩ : ∃ z : Int32, z = u112 21 := ⟨_, rfl⟩
                        have haz122 : z122 = a 17 (ik114) := by rw [ez122]; exact hbk114.1
                        have hnz122 : ¬ z122 = -1 := by rw [ez122]; exact hbk114.2
                        exact kV_ret hx hb hr hlocks hK hS dX12_readOrder_89 u112 hP hD ⟨hI, hE, ⟨ik114, 0, (by rw [egv119.symm]; exact hg120), (Nat.le_trans (Nat.le_succ_of_le (Nat.le_trans (Nat.le_succ_of_le (Nat.le_trans (Nat.le_succ_of_le (Nat.le_refl i)) hlek16)) hlek34)) hlek114), hNk114, Or.inr (Or.inl ⟨h21, ⟨(ez122.symm).trans haz122, (fun q => hnz122 ((ez122.symm).symm.trans q))⟩, (pi_13a hTk7 hGk16 hm29 (pi_17 hGk34 (pi_14n hTk43 (pi_12y hTk105 hGk114))))⟩)⟩⟩
                      · exact absurd ((eE104 21 (by decide)).trans ((eE42 21 (by decide)).trans h2k34)) hdk114.1
                  · refine k_top (z := 0) hvk105 ?_
                    obtain ⟨gv123, egv123⟩ : ∃ z : Int32, z = u103 19 := ⟨_, rfl⟩
                    have hg124 : gv123.toInt = ((ik34 : Nat) : Int) := by rw [egv123]; exact hpk105
                    have b125 : kb 0 gv123 400 := kb_tok (rS_fE hE hp0 (by decide)) hNk34 hg124
                    have hTk105 : ¬ T (ik34) = 2003 := fun q => (hnk105 ((eE42 21 (by decide)).trans h2k34)) (q.trans (by decide +kernel))
                    refine lv_if_eq (tgt := 89) hx hb dX12_readOrder_81 (by decide) (fun c126 => ?_) (fun c126 => ?_)
                    · exact kV_ret hx hb hr hlocks hK hS dX12_readOrder_89 u103 hP hD ⟨hI, hE, ⟨ik34, nk34, (by rw [egv123.symm]; exact hg124), (Nat.le_trans (Nat.le_succ_of_le (Nat.le_trans (Nat.le_succ_of_le (Nat.le_refl i)) hlek16)) hlek34), hNk34, Or.inl ⟨h21, ((eE104 21 (by decide)).trans ((eE42 21 (by decide)).trans h2k34)), ⟨(by rw [((eE104 20 (by decide)).trans ((eE42 20 (by decide)).trans ez38.symm))]; exact hzz38), h3k34.2⟩, (pi_13a hTk7 hGk16 hm29 (pi_17 hGk34 (pi_14n hTk43 (pi_12n hTk105))))⟩⟩⟩
                    · exact kb_nsame c126 kc_0 kc_0
                · exact kb_nsame c100 kc_0 kc_0
            · obtain ⟨gv127, egv127⟩ : ∃ z : Int32, z = u32 19 := ⟨_, rfl⟩
              have hg128 : gv127.toInt = ((ik34 : Nat) : Int) := by rw [egv127]; exact hgk34
              have b129 : kb 0 gv127 400 := kb_tok (rS_fE hE hp0 (by decide)) hNk34 hg128
              obtain ⟨z130, ez130⟩ : ∃ z : Int32, z = u32 21 := ⟨_, rfl⟩
              have haz130 : z130 = a 17 (ik34) := by rw [ez130]; exact hbk34.1
              have hnz130 : ¬ z130 = -1 := by rw [ez130]; exact hbk34.2
              refine lv_goto (tgt := 60) hx hb dX12_readOrder_25 (by decide) ?_
              refine lv_aload_n hx hb dX12_readOrder_60 rfl (lv_at hl 0 rfl) ?_
              refine lv_bipush (v := 28) hx hb dX12_readOrder_61 (by decide) ?_
              refine kI.callV (As := [.int 28]) (rest := []) ⟨hx, hb, hml, hown, hg⟩ (q_takes0 l o r u32 a g hI 28 (kb_w kc_28 (by decide) (by decide)) N (ik34) ob T (rS_fE hE hp0 (by decide)) (by rw [egv127.symm]; exact hg128) hNk34 hp3 (by decide +kernel)) (cwV 1 hg (kgV wt6_200 wt6_202 wp4_6 wt1_14 wt6_203) rfl rfl rfl (by decide +kernel) ⟨by decide, by decide⟩) hK hP hD hS hA mIs [] rfl (wr := []) rfl rfl rfl (fun i h => by cases h) 0 12 rfl rfl rfl hl.1 rfl (Nat.le_of_ble_eq_true rfl) dX12_readOrder_63 ⟨Nat.le_refl _, Nat.le_refl _⟩ (fun v132 u133 H locs hw131 hP hD hS => ?_)
              have hP : va_P D vwCl (mW K o r u133 a g) H := hP
              have hD : va_D A (mW K o r u133 a g) := hD
              have hI : mI u133 a := hw131.2.1
              have eE134 : fE [19] u32 u133 := hw131.2.2.1
              have hE : fE [19, 20, 21] f u133 := fE_tr hE (fE_w (by decide) eE134)
              obtain ⟨hvk135, hnk135, hpk135⟩ := (hw131.2.2.2).elim (fun q => absurd q.2.1 (fun q => hnz130 ((ez130.symm).symm.trans q))) (fun q => q)
              refine k_top (z := 0) hvk135 ?_
              obtain ⟨gv136, egv136⟩ : ∃ z : Int32, z = u133 19 := ⟨_, rfl⟩
              have hg137 : gv136.toInt = ((ik34 : Nat) : Int) := by rw [egv136]; exact hpk135
              have b138 : kb 0 gv136 400 := kb_tok (rS_fE hE hp0 (by decide)) hNk34 hg137
              refine lv_if_eq (tgt := 76) hx hb dX12_readOrder_66 (by decide) (fun c139 => ?_) (fun c139 => ?_)
              · refine lv_aload_n hx hb dX12_readOrder_76 rfl (lv_at hl 0 rfl) ?_
                refine lv_iconst (v := 5) hx hb dX12_readOrder_77 (by decide) ?_
                refine kI.callV (As := [.int 5]) (rest := []) ⟨hx, hb, hml, hown, hg⟩ (q_takes0 l o r u133 a g hI 5 (kb_w kc_5 (by decide) (by decide)) N (ik34) ob T (rS_fE hE hp0 (by decide)) (by rw [egv136.symm]; exact hg137) hNk34 hp3 (by decide +kernel)) (cwV 1 hg (kgV wt6_200 wt6_202 wp4_6 wt1_14 wt6_203) rfl rfl rfl (by decide +kernel) ⟨by decide, by decide⟩) hK hP hD hS hA mIs [] rfl (wr := []) rfl rfl rfl (fun i h => by cases h) 0 12 rfl rfl rfl hl.1 rfl (Nat.le_of_ble_eq_true rfl) dX12_readOrder_78 ⟨Nat.le_refl _, Nat.le_refl _⟩ (fun v141 u142 H locs hw140 hP hD hS => ?_)
                have hP : va_P D vwCl (mW K o r u142 a g) H := hP
                have hD : va_D A (mW K o r u142 a g) := hD
                have hI : mI u142 a := hw140.2.1
                have eE143 : fE [19] u133 u142 := hw140.2.2.1
                have hE : fE [19, 20, 21] f u142 := fE_tr hE (fE_w (by decide) eE143)
                obtain ⟨hvk144, hnk144, hpk144⟩ := (hw140.2.2.2).elim (fun q => absurd q.2.1 (fun q => hnz130 ((((eE134 21 (by decide)).trans ez130.symm)).symm.trans q))) (fun q => q)
                refine k_top (z := 0) hvk144 ?_
                obtain ⟨gv145, egv145⟩ : ∃ z : Int32, z = u142 19 := ⟨_, rfl⟩
                have hg146 : gv145.toInt = ((ik34 : Nat) : Int) := by rw [egv145]; exact hpk144
                have b147 : kb 0 gv145 400 := kb_tok (rS_fE hE hp0 (by decide)) hNk34 hg146
                refine lv_if_eq (tgt := 89) hx hb dX12_readOrder_81 (by decide) (fun c148 => ?_) (fun c148 => ?_)
                · exact kV_ret hx hb hr hlocks hK hS dX12_readOrder_89 u142 hP hD ⟨hI, hE, ⟨ik34, 0, (by rw [egv145.symm]; exact hg146), (Nat.le_trans (Nat.le_succ_of_le (Nat.le_trans (Nat.le_succ_of_le (Nat.le_refl i)) hlek16)) hlek34), hNk34, Or.inr (Or.inl ⟨h21, ⟨(((eE143 21 (by decide)).trans ((eE134 21 (by decide)).trans ez130.symm))).trans haz130, (fun q => hnz130 ((((eE143 21 (by decide)).trans ((eE134 21 (by decide)).trans ez130.symm))).symm.trans q))⟩, (pi_13a hTk7 hGk16 hm29 (pi_17f hGk34))⟩)⟩⟩
                · exact kb_nsame c148 kc_0 kc_0
              · exact kb_nsame c139 kc_0 kc_0
            · exact absurd h2k25 hdk34.1
          · obtain ⟨z149, ez149⟩ : ∃ z : Int32, z = u23 21 := ⟨_, rfl⟩
            have haz149 : z149 = a 17 (ik16) := by rw [ez149]; exact hbk25.1
            have hnz149 : ¬ z149 = -1 := by rw [ez149]; exact hbk25.2
            obtain ⟨gv150, egv150⟩ : ∃ z : Int32, z = u23 19 := ⟨_, rfl⟩
            have hg151 : gv150.toInt = ((ik16 : Nat) : Int) := by rw [egv150]; exact hpk25
            have b152 : kb 0 gv150 400 := kb_tok (rS_fE hE hp0 (by decide)) hNk16 hg151
            have hm153 : ¬ T (ik16) = 2022 := fun q => hGk25 (q.trans (by decide +kernel))
            refine lv_aload_n hx hb dX12_readOrder_20 rfl (lv_at hl 0 rfl) ?_
            refine lv_iconst (v := 0) hx hb dX12_readOrder_21 (by decide) ?_
            refine kV.callV (As := [.int 0]) (rest := []) ⟨hx, hb, hml, hown, hg⟩ ((q_allRSum 8) l o r u23 a g hI 0 (kb_w kc_0 (by decide) (by decide)) N (ik16) (0) ob T (rS_fE hE hp0 (by decide)) (by rw [egv150.symm]; exact hg151) hNk16 hp3 (fun q => absurd q (fun q => hnz149 ((ez149.symm).symm.trans q))) (by decide +kernel)) (cwV 1 hg (kgV wt6_208 wt6_210 wp4_8 wt1_14 wt6_211) rfl rfl rfl (by decide +kernel) ⟨by decide, by decide⟩) hK hP hD hS hA mIs [] rfl (wr := []) rfl rfl rfl (fun i h => by cases h) 0 12 rfl rfl rfl hl.1 rfl (Nat.le_of_ble_eq_true rfl) dX12_readOrder_22 ⟨Nat.le_refl _, Nat.le_refl _⟩ (fun u156 H locs hw154 hP hD hS => ?_)
            have hP : va_P D vwCl (mW K o r u156 a g) H := hP
            have hD : va_D A (mW K o r u156 a g) := hD
            have hI : mI u156 a := hw154.1
            have eE157 : fE [19, 20, 21] u23 u156 := hw154.2.1
            have hE : fE [19, 20, 21] f u156 := fE_tr hE eE157
            obtain ⟨ik158, nk158, hgk158, hlek158, hNk158, hck158⟩ := hw154.2.2
            have hdk158 := hck158.elim (fun q => absurd q.1 (fun q => hnz149 ((ez149.symm).symm.trans q))) (fun q => q.elim (fun q => absurd q.1 (fun q => hnz149 ((ez149.symm).symm.trans q))) (fun q => q))
            have hhk158 : (u156 19).toInt = ((ik16 : Nat) : Int) := by rw [← hdk158.2.2]; exact hgk158
            obtain ⟨gv159, egv159⟩ : ∃ z : Int32, z = u156 19 := ⟨_, rfl⟩
            have hg160 : gv159.toInt = ((ik16 : Nat) : Int) := by rw [egv159]; exact hhk158
            have b161 : kb 0 gv159 400 := kb_tok (rS_fE hE hp0 (by decide)) hNk16 hg160
            refine lv_goto (tgt := 60) hx hb dX12_readOrder_25 (by decide) ?_
            refine lv_aload_n hx hb dX12_readOrder_60 rfl (lv_at hl 0 rfl) ?_
            refine lv_bipush (v := 28) hx hb dX12_readOrder_61 (by decide) ?_
            refine kI.callV (As := [.int 28]) (rest := []) ⟨hx, hb, hml, hown, hg⟩ (q_takes0 l o r u156 a g hI 28 (kb_w kc_28 (by decide) (by decide)) N (ik16) ob T (rS_fE hE hp0 (by decide)) (by rw [egv159.symm]; exact hg160) hNk16 hp3 (by decide +kernel)) (cwV 1 hg (kgV wt6_200 wt6_202 wp4_6 wt1_14 wt6_203) rfl rfl rfl (by decide +kernel) ⟨by decide, by decide⟩) hK hP hD hS hA mIs [] rfl (wr := []) rfl rfl rfl (fun i h => by cases h) 0 12 rfl rfl rfl hl.1 rfl (Nat.le_of_ble_eq_true rfl) dX12_readOrder_63 ⟨Nat.le_refl _, Nat.le_refl _⟩ (fun v163 u164 H locs hw162 hP hD hS => ?_)
            have hP : va_P D vwCl (mW K o r u164 a g) H := hP
            have hD : va_D A (mW K o r u164 a g) := hD
            have hI : mI u164 a := hw162.2.1
            have eE165 : fE [19] u156 u164 := hw162.2.2.1
            have hE : fE [19, 20, 21] f u164 := fE_tr hE (fE_w (by decide) eE165)
            obtain ⟨hvk166, hnk166, hpk166⟩ := (hw162.2.2.2).elim (fun q => absurd q.2.1 (fun q => hnz149 (((hdk158.2.1.trans ez149.symm)).symm.trans q))) (fun q => q)
            refine k_top (z := 0) hvk166 ?_
            obtain ⟨gv167, egv167⟩ : ∃ z : Int32, z = u164 19 := ⟨_, rfl⟩
            have hg168 : gv167.toInt = ((ik16 : Nat) : Int) := by rw [egv167]; exact hpk166
            have b169 : kb 0 gv167 400 := kb_tok (rS_fE hE hp0 (by decide)) hNk16 hg168
            refine lv_if_eq (tgt := 76) hx hb dX12_readOrder_66 (by decide) (fun c170 => ?_) (fun c170 => ?_)
            · refine lv_aload_n hx hb dX12_readOrder_76 rfl (lv_at hl 0 rfl) ?_
              refine lv_iconst (v := 5) hx hb dX12_readOrder_77 (by decide) ?_
              refine kI.callV (As := [.int 5]) (rest := []) ⟨hx, hb, hml, hown, hg⟩ (q_takes0 l o r u164 a g hI 5 (kb_w kc_5 (by decide) (by decide)) N (ik16) ob T (rS_fE hE hp0 (by decide)) (by rw [egv167.symm]; exact hg168) hNk16 hp3 (by decide +kernel)) (cwV 1 hg (kgV wt6_200 wt6_202 wp4_6 wt1_14 wt6_203) rfl rfl rfl (by decide +kernel) ⟨by decide, by decide⟩) hK hP hD hS hA mIs [] rfl (wr := []) rfl rfl rfl (fun i h => by cases h) 0 12 rfl rfl rfl hl.1 rfl (Nat.le_of_ble_eq_true rfl) dX12_readOrder_78 ⟨Nat.le_refl _, Nat.le_refl _⟩ (fun v172 u173 H locs hw171 hP hD hS => ?_)
              have hP : va_P D vwCl (mW K o r u173 a g) H := hP
              have hD : va_D A (mW K o r u173 a g) := hD
              have hI : mI u173 a := hw171.2.1
              have eE174 : fE [19] u164 u173 := hw171.2.2.1
              have hE : fE [19, 20, 21] f u173 := fE_tr hE (fE_w (by decide) eE174)
              obtain ⟨hvk175, hnk175, hpk175⟩ := (hw171.2.2.2).elim (fun q => absurd q.2.1 (fun q => hnz149 ((((eE165 21 (by decide)).trans (hdk158.2.1.trans ez149.symm))).symm.trans q))) (fun q => q)
              refine k_top (z := 0) hvk175 ?_
              obtain ⟨gv176, egv176⟩ : ∃ z : Int32, z = u173 19 := ⟨_, rfl⟩
              have hg177 : gv176.toInt = ((ik16 : Nat) : Int) := by rw [egv176]; exact hpk175
              have b178 : kb 0 gv176 400 := kb_tok (rS_fE hE hp0 (by decide)) hNk16 hg177
              refine lv_if_eq (tgt := 89) hx hb dX12_readOrder_81 (by decide) (fun c179 => ?_) (fun c179 => ?_)
              · exact kV_ret hx hb hr hlocks hK hS dX12_readOrder_89 u173 hP hD ⟨hI, hE, ⟨ik16, 0, (by rw [egv176.symm]; exact hg177), (Nat.le_trans (Nat.le_succ_of_le (Nat.le_refl i)) hlek16), hNk16, Or.inr (Or.inl ⟨h21, ⟨(((eE174 21 (by decide)).trans ((eE165 21 (by decide)).trans (hdk158.2.1.trans ez149.symm)))).trans haz149, (fun q => hnz149 ((((eE174 21 (by decide)).trans ((eE165 21 (by decide)).trans (hdk158.2.1.trans ez149.symm)))).symm.trans q))⟩, (pi_13n hTk7 hGk16 hm153)⟩)⟩⟩
              · exact kb_nsame c179 kc_0 kc_0
            · exact kb_nsame c170 kc_0 kc_0
          · exact absurd h2k16 hdk25.1
        · obtain ⟨gv180, egv180⟩ : ∃ z : Int32, z = u14 19 := ⟨_, rfl⟩
          have hg181 : gv180.toInt = ((ik16 : Nat) : Int) := by rw [egv180]; exact hgk16
          have b182 : kb 0 gv180 400 := kb_tok (rS_fE hE hp0 (by decide)) hNk16 hg181
          obtain ⟨z183, ez183⟩ : ∃ z : Int32, z = u14 21 := ⟨_, rfl⟩
          have haz183 : z183 = a 17 (ik16) := by rw [ez183]; exact hbk16.1
          have hnz183 : ¬ z183 = -1 := by rw [ez183]; exact hbk16.2
          refine lv_aload_n hx hb dX12_readOrder_14 rfl (lv_at hl 0 rfl) ?_
          refine lv_bipush (v := 24) hx hb dX12_readOrder_15 (by decide) ?_
          refine kV.callV (As := [.int 24]) (rest := []) ⟨hx, hb, hml, hown, hg⟩ (q_must l o r u14 a g hI 24 (kb_w kc_24 (by decide) (by decide)) N (ik16) ob T (rS_fE hE hp0 (by decide)) (by rw [egv180.symm]; exact hg181) hNk16 hp3 (by decide +kernel)) (cwV 1 hg (kgV wt6_227 wt6_229 wp4_12 wt1_14 wt6_230) rfl rfl rfl (by decide +kernel) ⟨by decide, by decide⟩) hK hP hD hS hA mIs [] rfl (wr := []) rfl rfl rfl (fun i h => by cases h) 0 12 rfl rfl rfl hl.1 rfl (Nat.le_of_ble_eq_true rfl) dX12_readOrder_17 ⟨Nat.le_refl _, Nat.le_refl _⟩ (fun u186 H locs hw184 hP hD hS => ?_)
          have hP : va_P D vwCl (mW K o r u186 a g) H := hP
          have hD : va_D A (mW K o r u186 a g) := hD
          have hI : mI u186 a := hw184.1
          have eE187 : fE [19, 21] u14 u186 := hw184.2.1
          have hE : fE [19, 20, 21] f u186 := fE_tr hE (fE_w (by decide) eE187)
          have hdk188 := (hw184.2.2).elim (fun q => absurd q.1 (fun q => hnz183 ((ez183.symm).symm.trans q))) (fun q => q.elim (fun q => absurd q.1 (fun q => hnz183 ((ez183.symm).symm.trans q))) (fun q => q))
          obtain ⟨gv189, egv189⟩ : ∃ z : Int32, z = u186 19 := ⟨_, rfl⟩
          have hg190 : gv189.toInt = ((ik16 : Nat) : Int) := by rw [egv189]; exact hdk188.2.2
          have b191 : kb 0 gv189 400 := kb_tok (rS_fE hE hp0 (by decide)) hNk16 hg190
          refine lv_aload_n hx hb dX12_readOrder_20 rfl (lv_at hl 0 rfl) ?_
          refine lv_iconst (v := 0) hx hb dX12_readOrder_21 (by decide) ?_
          refine kV.callV (As := [.int 0]) (rest := []) ⟨hx, hb, hml, hown, hg⟩ ((q_allRSum 8) l o r u186 a g hI 0 (kb_w kc_0 (by decide) (by decide)) N (ik16) (0) ob T (rS_fE hE hp0 (by decide)) (by rw [egv189.symm]; exact hg190) hNk16 hp3 (fun q => absurd q (fun q => hnz183 (((hdk188.2.1.trans ez183.symm)).symm.trans q))) (by decide +kernel)) (cwV 1 hg (kgV wt6_208 wt6_210 wp4_8 wt1_14 wt6_211) rfl rfl rfl (by decide +kernel) ⟨by decide, by decide⟩) hK hP hD hS hA mIs [] rfl (wr := []) rfl rfl rfl (fun i h => by cases h) 0 12 rfl rfl rfl hl.1 rfl (Nat.le_of_ble_eq_true rfl) dX12_readOrder_22 ⟨Nat.le_refl _, Nat.le_refl _⟩ (fun u194 H locs hw192 hP hD hS => ?_)
          have hP : va_P D vwCl (mW K o r u194 a g) H := hP
          have hD : va_D A (mW K o r u194 a g) := hD
          have hI : mI u194 a := hw192.1
          have eE195 : fE [19, 20, 21] u186 u194 := hw192.2.1
          have hE : fE [19, 20, 21] f u194 := fE_tr hE eE195
          obtain ⟨ik196, nk196, hgk196, hlek196, hNk196, hck196⟩ := hw192.2.2
          have hdk196 := hck196.elim (fun q => absurd q.1 (fun q => hnz183 (((hdk188.2.1.trans ez183.symm)).symm.trans q))) (fun q => q.elim (fun q => absurd q.1 (fun q => hnz183 (((hdk188.2.1.trans ez183.symm)).symm.trans q))) (fun q => q))
          have hhk196 : (u194 19).toInt = ((ik16 : Nat) : Int) := by rw [← hdk196.2.2]; exact hgk196
          obtain ⟨gv197, egv197⟩ : ∃ z : Int32, z = u194 19 := ⟨_, rfl⟩
          have hg198 : gv197.toInt = ((ik16 : Nat) : Int) := by rw [egv197]; exact hhk196
          have b199 : kb 0 gv197 400 := kb_tok (rS_fE hE hp0 (by decide)) hNk16 hg198
          refine lv_goto (tgt := 60) hx hb dX12_readOrder_25 (by decide) ?_
          refine lv_aload_n hx hb dX12_readOrder_60 rfl (lv_at hl 0 rfl) ?_
          refine lv_bipush (v := 28) hx hb dX12_readOrder_61 (by decide) ?_
          refine kI.callV (As := [.int 28]) (rest := []) ⟨hx, hb, hml, hown, hg⟩ (q_takes0 l o r u194 a g hI 28 (kb_w kc_28 (by decide) (by decide)) N (ik16) ob T (rS_fE hE hp0 (by decide)) (by rw [egv197.symm]; exact hg198) hNk16 hp3 (by decide +kernel)) (cwV 1 hg (kgV wt6_200 wt6_202 wp4_6 wt1_14 wt6_203) rfl rfl rfl (by decide +kernel) ⟨by decide, by decide⟩) hK hP hD hS hA mIs [] rfl (wr := []) rfl rfl rfl (fun i h => by cases h) 0 12 rfl rfl rfl hl.1 rfl (Nat.le_of_ble_eq_true rfl) dX12_readOrder_63 ⟨Nat.le_refl _, Nat.le_refl _⟩ (fun v201 u202 H locs hw200 hP hD hS => ?_)
          have hP : va_P D vwCl (mW K o r u202 a g) H := hP
          have hD : va_D A (mW K o r u202 a g) := hD
          have hI : mI u202 a := hw200.2.1
          have eE203 : fE [19] u194 u202 := hw200.2.2.1
          have hE : fE [19, 20, 21] f u202 := fE_tr hE (fE_w (by decide) eE203)
          obtain ⟨hvk204, hnk204, hpk204⟩ := (hw200.2.2.2).elim (fun q => absurd q.2.1 (fun q => hnz183 (((hdk196.2.1.trans (hdk188.2.1.trans ez183.symm))).symm.trans q))) (fun q => q)
          refine k_top (z := 0) hvk204 ?_
          obtain ⟨gv205, egv205⟩ : ∃ z : Int32, z = u202 19 := ⟨_, rfl⟩
          have hg206 : gv205.toInt = ((ik16 : Nat) : Int) := by rw [egv205]; exact hpk204
          have b207 : kb 0 gv205 400 := kb_tok (rS_fE hE hp0 (by decide)) hNk16 hg206
          refine lv_if_eq (tgt := 76) hx hb dX12_readOrder_66 (by decide) (fun c208 => ?_) (fun c208 => ?_)
          · refine lv_aload_n hx hb dX12_readOrder_76 rfl (lv_at hl 0 rfl) ?_
            refine lv_iconst (v := 5) hx hb dX12_readOrder_77 (by decide) ?_
            refine kI.callV (As := [.int 5]) (rest := []) ⟨hx, hb, hml, hown, hg⟩ (q_takes0 l o r u202 a g hI 5 (kb_w kc_5 (by decide) (by decide)) N (ik16) ob T (rS_fE hE hp0 (by decide)) (by rw [egv205.symm]; exact hg206) hNk16 hp3 (by decide +kernel)) (cwV 1 hg (kgV wt6_200 wt6_202 wp4_6 wt1_14 wt6_203) rfl rfl rfl (by decide +kernel) ⟨by decide, by decide⟩) hK hP hD hS hA mIs [] rfl (wr := []) rfl rfl rfl (fun i h => by cases h) 0 12 rfl rfl rfl hl.1 rfl (Nat.le_of_ble_eq_true rfl) dX12_readOrder_78 ⟨Nat.le_refl _, Nat.le_refl _⟩ (fun v210 u211 H locs hw209 hP hD hS => ?_)
            have hP : va_P D vwCl (mW K o r u211 a g) H := hP
            have hD : va_D A (mW K o r u211 a g) := hD
            have hI : mI u211 a := hw209.2.1
            have eE212 : fE [19] u202 u211 := hw209.2.2.1
            have hE : fE [19, 20, 21] f u211 := fE_tr hE (fE_w (by decide) eE212)
            obtain ⟨hvk213, hnk213, hpk213⟩ := (hw209.2.2.2).elim (fun q => absurd q.2.1 (fun q => hnz183 ((((eE203 21 (by decide)).trans (hdk196.2.1.trans (hdk188.2.1.trans ez183.symm)))).symm.trans q))) (fun q => q)
            refine k_top (z := 0) hvk213 ?_
            obtain ⟨gv214, egv214⟩ : ∃ z : Int32, z = u211 19 := ⟨_, rfl⟩
            have hg215 : gv214.toInt = ((ik16 : Nat) : Int) := by rw [egv214]; exact hpk213
            have b216 : kb 0 gv214 400 := kb_tok (rS_fE hE hp0 (by decide)) hNk16 hg215
            refine lv_if_eq (tgt := 89) hx hb dX12_readOrder_81 (by decide) (fun c217 => ?_) (fun c217 => ?_)
            · exact kV_ret hx hb hr hlocks hK hS dX12_readOrder_89 u211 hP hD ⟨hI, hE, ⟨ik16, 0, (by rw [egv214.symm]; exact hg215), (Nat.le_trans (Nat.le_succ_of_le (Nat.le_refl i)) hlek16), hNk16, Or.inr (Or.inl ⟨h21, ⟨(((eE212 21 (by decide)).trans ((eE203 21 (by decide)).trans (hdk196.2.1.trans (hdk188.2.1.trans ez183.symm))))).trans haz183, (fun q => hnz183 ((((eE212 21 (by decide)).trans ((eE203 21 (by decide)).trans (hdk196.2.1.trans (hdk188.2.1.trans ez183.symm))))).symm.trans q))⟩, (pi_13f hTk7 hGk16)⟩)⟩⟩
            · exact kb_nsame c217 kc_0 kc_0
          · exact kb_nsame c208 kc_0 kc_0
        · exact absurd ((eE6 21 (by decide)).trans h21) hdk16.1
    · refine k_top (z := 0) hvk7 ?_
      obtain ⟨gv218, egv218⟩ : ∃ z : Int32, z = u5 19 := ⟨_, rfl⟩
      have hg219 : gv218.toInt = ((i : Nat) : Int) := by rw [egv218]; exact hpk7
      have b220 : kb 0 gv218 400 := kb_tok (rS_fE hE hp0 (by decide)) hp2 hg219
      have hTk7 : ¬ T (i) = 2018 := fun q => (hnk7 h21) (q.trans (by decide +kernel))
      refine lv_if_eq (tgt := 28) hx hb dX12_readOrder_6 (by decide) (fun c221 => ?_) (fun c221 => ?_)
      · refine lv_aload_n hx hb dX12_readOrder_28 rfl (lv_at hl 0 rfl) ?_
        refine lv_bipush (v := 25) hx hb dX12_readOrder_29 (by decide) ?_
        refine kI.callV (As := [.int 25]) (rest := []) ⟨hx, hb, hml, hown, hg⟩ (q_takes0 l o r u5 a g hI 25 (kb_w kc_25 (by decide) (by decide)) N (i) ob T (rS_fE hE hp0 (by decide)) (by rw [egv218.symm]; exact hg219) hp2 hp3 (by decide +kernel)) (cwV 1 hg (kgV wt6_200 wt6_202 wp4_6 wt1_14 wt6_203) rfl rfl rfl (by decide +kernel) ⟨by decide, by decide⟩) hK hP hD hS hA mIs [] rfl (wr := []) rfl rfl rfl (fun i h => by cases h) 0 12 rfl rfl rfl hl.1 rfl (Nat.le_of_ble_eq_true rfl) dX12_readOrder_31 ⟨Nat.le_refl _, Nat.le_refl _⟩ (fun v223 u224 H locs hw222 hP hD hS => ?_)
        have hP : va_P D vwCl (mW K o r u224 a g) H := hP
        have hD : va_D A (mW K o r u224 a g) := hD
        have hI : mI u224 a := hw222.2.1
        have eE225 : fE [19] u5 u224 := hw222.2.2.1
        have hE : fE [19, 20, 21] f u224 := fE_tr hE (fE_w (by decide) eE225)
        rcases hw222.2.2.2 with ⟨hvk226, hbk226, htk226, hpk226, hlk226⟩ | ⟨hvk226, hnk226, hpk226⟩
        · refine k_top (z := 1) hvk226 ?_
          obtain ⟨gv227, egv227⟩ : ∃ z : Int32, z = u224 19 := ⟨_, rfl⟩
          have hg228 : gv227.toInt = ((i + 1 : Nat) : Int) := by rw [egv227]; exact hpk226
          have b229 : kb 0 gv227 400 := kb_tok (rS_fE hE hp0 (by decide)) hlk226 hg228
          have hTk226 : T (i) = 2019 := htk226.trans (by decide +kernel)
          refine lv_if_ne (tgt := 46) hx hb dX12_readOrder_34 (by decide) (fun c230 => ?_) (fun c230 => ?_)
          · refine lv_aload_n hx hb dX12_readOrder_46 rfl (lv_at hl 0 rfl) ?_
            refine lv_iconst (v := 0) hx hb dX12_readOrder_47 (by decide) ?_
            refine kV.callV (As := [.int 0]) (rest := []) ⟨hx, hb, hml, hown, hg⟩ ((q_allRSum 8) l o r u224 a g hI 0 (kb_w kc_0 (by decide) (by decide)) N (i + 1) (n) ob T (rS_fE hE hp0 (by decide)) (by rw [egv227.symm]; exact hg228) hlk226 hp3 (fun _ => ⟨(by rw [((eE225 20 (by decide)).trans ((eE6 20 (by decide)).trans ec20.symm))]; exact hn20), hl50⟩) (by decide +kernel)) (cwV 1 hg (kgV wt6_208 wt6_210 wp4_8 wt1_14 wt6_211) rfl rfl rfl (by decide +kernel) ⟨by decide, by decide⟩) hK hP hD hS hA mIs [] rfl (wr := []) rfl rfl rfl (fun i h => by cases h) 0 12 rfl rfl rfl hl.1 rfl (Nat.le_of_ble_eq_true rfl) dX12_readOrder_48 ⟨Nat.le_refl _, Nat.le_refl _⟩ (fun u233 H locs hw231 hP hD hS => ?_)
            have hP : va_P D vwCl (mW K o r u233 a g) H := hP
            have hD : va_D A (mW K o r u233 a g) := hD
            have hI : mI u233 a := hw231.1
            have eE234 : fE [19, 20, 21] u224 u233 := hw231.2.1
            have hE : fE [19, 20, 21] f u233 := fE_tr hE eE234
            obtain ⟨ik235, nk235, hgk235, hlek235, hNk235, hck235⟩ := hw231.2.2
            rcases hck235 with ⟨-, h2k235, h3k235, hGk235⟩ | ⟨-, hbk235, hGk235⟩ | hdk235
            · obtain ⟨gv236, egv236⟩ : ∃ z : Int32, z = u233 19 := ⟨_, rfl⟩
              have hg237 : gv236.toInt = ((ik235 : Nat) : Int) := by rw [egv236]; exact hgk235
              have b238 : kb 0 gv236 400 := kb_tok (rS_fE hE hp0 (by decide)) hNk235 hg237
              obtain ⟨z239, ez239⟩ : ∃ z : Int32, z = u233 20 := ⟨_, rfl⟩
              have hzz239 : z239.toInt = (nk235 : Int) := by rw [ez239]; exact h3k235.1
              refine lv_goto (tgt := 60) hx hb dX12_readOrder_51 (by decide) ?_
              refine lv_aload_n hx hb dX12_readOrder_60 rfl (lv_at hl 0 rfl) ?_
              refine lv_bipush (v := 28) hx hb dX12_readOrder_61 (by decide) ?_
              refine kI.callV (As := [.int 28]) (rest := []) ⟨hx, hb, hml, hown, hg⟩ (q_takes0 l o r u233 a g hI 28 (kb_w kc_28 (by decide) (by decide)) N (ik235) ob T (rS_fE hE hp0 (by decide)) (by rw [egv236.symm]; exact hg237) hNk235 hp3 (by decide +kernel)) (cwV 1 hg (kgV wt6_200 wt6_202 wp4_6 wt1_14 wt6_203) rfl rfl rfl (by decide +kernel) ⟨by decide, by decide⟩) hK hP hD hS hA mIs [] rfl (wr := []) rfl rfl rfl (fun i h => by cases h) 0 12 rfl rfl rfl hl.1 rfl (Nat.le_of_ble_eq_true rfl) dX12_readOrder_63 ⟨Nat.le_refl _, Nat.le_refl _⟩ (fun v241 u242 H locs hw240 hP hD hS => ?_)
              have hP : va_P D vwCl (mW K o r u242 a g) H := hP
              have hD : va_D A (mW K o r u242 a g) := hD
              have hI : mI u242 a := hw240.2.1
              have eE243 : fE [19] u233 u242 := hw240.2.2.1
              have hE : fE [19, 20, 21] f u242 := fE_tr hE (fE_w (by decide) eE243)
              rcases hw240.2.2.2 with ⟨hvk244, hbk244, htk244, hpk244, hlk244⟩ | ⟨hvk244, hnk244, hpk244⟩
              · refine k_top (z := 1) hvk244 ?_
                obtain ⟨gv245, egv245⟩ : ∃ z : Int32, z = u242 19 := ⟨_, rfl⟩
                have hg246 : gv245.toInt = ((ik235 + 1 : Nat) : Int) := by rw [egv245]; exact hpk244
                have b247 : kb 0 gv245 400 := kb_tok (rS_fE hE hp0 (by decide)) hlk244 hg246
                have hTk244 : T (ik235) = 2023 := htk244.trans (by decide +kernel)
                refine lv_if_eq (tgt := 76) hx hb dX12_readOrder_66 (by decide) (fun c248 => ?_) (fun c248 => ?_)
                · exact kb_dj c248 kc_1 kc_0 (by decide)
                · refine lv_aload_n hx hb dX12_readOrder_69 rfl (lv_at hl 0 rfl) ?_
                  refine lv_iconst (v := 1) hx hb dX12_readOrder_70 (by decide) ?_
                  refine lv_bipush (v := 20) hx hb dX12_readOrder_71 (by decide) ?_
                  refine kV.callV (As := [.int 1, .int 20]) (rest := []) ⟨hx, hb, hml, hown, hg⟩ (q_mustNumber l o r u242 a g hI 1 20 (kb_w kc_1 (by decide) (by decide)) (kb_w kc_20 (by decide) (by decide)) N (ik235 + 1) ob T (rS_fE hE hp0 (by decide)) (by rw [egv245.symm]; exact hg246) hlk244 hp3) (cwV 2 hg (kgV wt6_235 wt6_237 wp4_14 wt1_14 wt6_238) rfl rfl rfl (by decide +kernel) ⟨by decide, by decide⟩) hK hP hD hS hA mIs [] rfl (wr := []) rfl rfl rfl (fun i h => by cases h) 0 12 rfl rfl rfl hl.1 rfl (Nat.le_of_ble_eq_true rfl) dX12_readOrder_73 ⟨Nat.le_refl _, Nat.le_refl _⟩ (fun u251 H locs hw249 hP hD hS => ?_)
                  have hP : va_P D vwCl (mW K o r u251 a g) H := hP
                  have hD : va_D A (mW K o r u251 a g) := hD
                  have hI : mI u251 a := hw249.1
                  have eE252 : fE [19, 21] u242 u251 := hw249.2.1
                  have hE : fE [19, 20, 21] f u251 := fE_tr hE (fE_w (by decide) eE252)
                  rcases hw249.2.2 with ⟨-, h2k253, hGk253, hpk253, hlk253⟩ | ⟨-, hbk253, hGk253, hpk253⟩ | hdk253
                  · obtain ⟨gv254, egv254⟩ : ∃ z : Int32, z = u251 19 := ⟨_, rfl⟩
                    have hg255 : gv254.toInt = ((ik235 + 1 + 1 : Nat) : Int) := by rw [egv254]; exact hpk253
                    have b256 : kb 0 gv254 400 := kb_tok (rS_fE hE hp0 (by decide)) hlk253 hg255
                    have hm257 : pInr (T (ik235 + 1)) 1 20 = true := by have w1 := hGk253; rw [show (1 : Int32).toInt = 1 from by decide +kernel, show (20 : Int32).toInt = 20 from by decide +kernel] at w1; exact w1
                    refine lv_aload_n hx hb dX12_readOrder_76 rfl (lv_at hl 0 rfl) ?_
                    refine lv_iconst (v := 5) hx hb dX12_readOrder_77 (by decide) ?_
                    refine kI.callV (As := [.int 5]) (rest := []) ⟨hx, hb, hml, hown, hg⟩ (q_takes0 l o r u251 a g hI 5 (kb_w kc_5 (by decide) (by decide)) N (ik235 + 1 + 1) ob T (rS_fE hE hp0 (by decide)) (by rw [egv254.symm]; exact hg255) hlk253 hp3 (by decide +kernel)) (cwV 1 hg (kgV wt6_200 wt6_202 wp4_6 wt1_14 wt6_203) rfl rfl rfl (by decide +kernel) ⟨by decide, by decide⟩) hK hP hD hS hA mIs [] rfl (wr := []) rfl rfl rfl (fun i h => by cases h) 0 12 rfl rfl rfl hl.1 rfl (Nat.le_of_ble_eq_true rfl) dX12_readOrder_78 ⟨Nat.le_refl _, Nat.le_refl _⟩ (fun v259 u260 H locs hw258 hP hD hS => ?_)
                    have hP : va_P D vwCl (mW K o r u260 a g) H := hP
                    have hD : va_D A (mW K o r u260 a g) := hD
                    have hI : mI u260 a := hw258.2.1
                    have eE261 : fE [19] u251 u260 := hw258.2.2.1
                    have hE : fE [19, 20, 21] f u260 := fE_tr hE (fE_w (by decide) eE261)
                    rcases hw258.2.2.2 with ⟨hvk262, hbk262, htk262, hpk262, hlk262⟩ | ⟨hvk262, hnk262, hpk262⟩
                    · refine k_top (z := 1) hvk262 ?_
                      obtain ⟨gv263, egv263⟩ : ∃ z : Int32, z = u260 19 := ⟨_, rfl⟩
                      have hg264 : gv263.toInt = ((ik235 + 1 + 1 + 1 : Nat) : Int) := by rw [egv263]; exact hpk262
                      have b265 : kb 0 gv263 400 := kb_tok (rS_fE hE hp0 (by decide)) hlk262 hg264
                      have hTk262 : T (ik235 + 1 + 1) = 2003 := htk262.trans (by decide +kernel)
                      refine lv_if_eq (tgt := 89) hx hb dX12_readOrder_81 (by decide) (fun c266 => ?_) (fun c266 => ?_)
                      · exact kb_dj c266 kc_1 kc_0 (by decide)
                      · refine lv_aload_n hx hb dX12_readOrder_84 rfl (lv_at hl 0 rfl) ?_
                        refine lv_iconst (v := 0) hx hb dX12_readOrder_85 (by decide) ?_
                        refine kV.callV (As := [.int 0]) (rest := []) ⟨hx, hb, hml, hown, hg⟩ ((q_allRTest 8) l o r u260 a g hI 0 (kb_w kc_0 (by decide) (by decide)) N (ik235 + 1 + 1 + 1) (nk235) ob T (rS_fE hE hp0 (by decide)) (by rw [egv263.symm]; exact hg264) hlk262 hp3 (fun _ => ⟨(by rw [((eE261 20 (by decide)).trans ((eE252 20 (by decide)).trans ((eE243 20 (by decide)).trans ez239.symm)))]; exact hzz239), h3k235.2⟩) (by decide +kernel)) (cwV 1 hg (kgV wt6_239 wt7_1 wp4_15 wt1_14 wt7_2) rfl rfl rfl (by decide +kernel) ⟨by decide, by decide⟩) hK hP hD hS hA mIs [] rfl (wr := []) rfl rfl rfl (fun i h => by cases h) 0 12 rfl rfl rfl hl.1 rfl (Nat.le_of_ble_eq_true rfl) dX12_readOrder_86 ⟨Nat.le_refl _, Nat.le_refl _⟩ (fun u269 H locs hw267 hP hD hS => ?_)
                        have hP : va_P D vwCl (mW K o r u269 a g) H := hP
                        have hD : va_D A (mW K o r u269 a g) := hD
                        have hI : mI u269 a := hw267.1
                        have eE270 : fE [19, 20, 21] u260 u269 := hw267.2.1
                        have hE : fE [19, 20, 21] f u269 := fE_tr hE eE270
                        obtain ⟨ik271, nk271, hgk271, hlek271, hNk271, hck271⟩ := hw267.2.2
                        rcases hck271 with ⟨-, h2k271, h3k271, hGk271⟩ | ⟨-, hbk271, hGk271⟩ | hdk271
                        · obtain ⟨gv272, egv272⟩ : ∃ z : Int32, z = u269 19 := ⟨_, rfl⟩
                          have hg273 : gv272.toInt = ((ik271 : Nat) : Int) := by rw [egv272]; exact hgk271
                          have b274 : kb 0 gv272 400 := kb_tok (rS_fE hE hp0 (by decide)) hNk271 hg273
                          obtain ⟨z275, ez275⟩ : ∃ z : Int32, z = u269 20 := ⟨_, rfl⟩
                          have hzz275 : z275.toInt = (nk271 : Int) := by rw [ez275]; exact h3k271.1
                          exact kV_ret hx hb hr hlocks hK hS dX12_readOrder_89 u269 hP hD ⟨hI, hE, ⟨ik271, nk271, (by rw [egv272.symm]; exact hg273), (Nat.le_trans (Nat.le_succ_of_le (Nat.le_succ_of_le (Nat.le_succ_of_le (Nat.le_trans (Nat.le_succ_of_le (Nat.le_refl i)) hlek235)))) hlek271), hNk271, Or.inl ⟨h21, h2k271, ⟨(by rw [ez275.symm]; exact hzz275), h3k271.2⟩, (pi_13b hTk7 (Or.inl hTk226) (pi_17 hGk235 (pi_14y hTk244 hm257 (pi_12y hTk262 hGk271))))⟩⟩⟩
                        · obtain ⟨gv276, egv276⟩ : ∃ z : Int32, z = u269 19 := ⟨_, rfl⟩
                          have hg277 : gv276.toInt = ((ik271 : Nat) : Int) := by rw [egv276]; exact hgk271
                          have b278 : kb 0 gv276 400 := kb_tok (rS_fE hE hp0 (by decide)) hNk271 hg277
                          obtain ⟨z279, ez279⟩ : ∃ z : Int32, z = u269 21 := ⟨_, rfl⟩
                          have haz279 : z279 = a 17 (ik271) := by rw [ez279]; exact hbk271.1
                          have hnz279 : ¬ z279 = -1 := by rw [ez279]; exact hbk271.2
                          exact kV_ret hx hb hr hlocks hK hS dX12_readOrder_89 u269 hP hD ⟨hI, hE, ⟨ik271, 0, (by rw [egv276.symm]; exact hg277), (Nat.le_trans (Nat.le_succ_of_le (Nat.le_succ_of_le (Nat.le_succ_of_le (Nat.le_trans (Nat.le_succ_of_le (Nat.le_refl i)) hlek235)))) hlek271), hNk271, Or.inr (Or.inl ⟨h21, ⟨(ez279.symm).trans haz279, (fun q => hnz279 ((ez279.symm).symm.trans q))⟩, (pi_13b hTk7 (Or.inl hTk226) (pi_17 hGk235 (pi_14y hTk244 hm257 (pi_12y hTk262 hGk271))))⟩)⟩⟩
                        · exact absurd ((eE261 21 (by decide)).trans h2k253) hdk271.1
                    · refine k_top (z := 0) hvk262 ?_
                      obtain ⟨gv280, egv280⟩ : ∃ z : Int32, z = u260 19 := ⟨_, rfl⟩
                      have hg281 : gv280.toInt = ((ik235 + 1 + 1 : Nat) : Int) := by rw [egv280]; exact hpk262
                      have b282 : kb 0 gv280 400 := kb_tok (rS_fE hE hp0 (by decide)) hlk253 hg281
                      have hTk262 : ¬ T (ik235 + 1 + 1) = 2003 := fun q => (hnk262 h2k253) (q.trans (by decide +kernel))
                      refine lv_if_eq (tgt := 89) hx hb dX12_readOrder_81 (by decide) (fun c283 => ?_) (fun c283 => ?_)
                      · exact kV_ret hx hb hr hlocks hK hS dX12_readOrder_89 u260 hP hD ⟨hI, hE, ⟨ik235 + 1 + 1, nk235, (by rw [egv280.symm]; exact hg281), (Nat.le_succ_of_le (Nat.le_succ_of_le (Nat.le_trans (Nat.le_succ_of_le (Nat.le_refl i)) hlek235))), hlk253, Or.inl ⟨h21, ((eE261 21 (by decide)).trans h2k253), ⟨(by rw [((eE261 20 (by decide)).trans ((eE252 20 (by decide)).trans ((eE243 20 (by decide)).trans ez239.symm)))]; exact hzz239), h3k235.2⟩, (pi_13b hTk7 (Or.inl hTk226) (pi_17 hGk235 (pi_14y hTk244 hm257 (pi_12n hTk262))))⟩⟩⟩
                      · exact kb_nsame c283 kc_0 kc_0
                  · obtain ⟨z284, ez284⟩ : ∃ z : Int32, z = u251 21 := ⟨_, rfl⟩
                    have haz284 : z284 = a 17 (ik235 + 1) := by rw [ez284]; exact hbk253.1
                    have hnz284 : ¬ z284 = -1 := by rw [ez284]; exact hbk253.2
                    obtain ⟨gv285, egv285⟩ : ∃ z : Int32, z = u251 19 := ⟨_, rfl⟩
                    have hg286 : gv285.toInt = ((ik235 + 1 : Nat) : Int) := by rw [egv285]; exact hpk253
                    have b287 : kb 0 gv285 400 := kb_tok (rS_fE hE hp0 (by decide)) hlk244 hg286
                    have hm288 : pInr (T (ik235 + 1)) 1 20 = false := by have w1 := hGk253; rw [show (1 : Int32).toInt = 1 from by decide +kernel, show (20 : Int32).toInt = 20 from by decide +kernel] at w1; exact w1
                    refine lv_aload_n hx hb dX12_readOrder_76 rfl (lv_at hl 0 rfl) ?_
                    refine lv_iconst (v := 5) hx hb dX12_readOrder_77 (by decide) ?_
                    refine kI.callV (As := [.int 5]) (rest := []) ⟨hx, hb, hml, hown, hg⟩ (q_takes0 l o r u251 a g hI 5 (kb_w kc_5 (by decide) (by decide)) N (ik235 + 1) ob T (rS_fE hE hp0 (by decide)) (by rw [egv285.symm]; exact hg286) hlk244 hp3 (by decide +kernel)) (cwV 1 hg (kgV wt6_200 wt6_202 wp4_6 wt1_14 wt6_203) rfl rfl rfl (by decide +kernel) ⟨by decide, by decide⟩) hK hP hD hS hA mIs [] rfl (wr := []) rfl rfl rfl (fun i h => by cases h) 0 12 rfl rfl rfl hl.1 rfl (Nat.le_of_ble_eq_true rfl) dX12_readOrder_78 ⟨Nat.le_refl _, Nat.le_refl _⟩ (fun v290 u291 H locs hw289 hP hD hS => ?_)
                    have hP : va_P D vwCl (mW K o r u291 a g) H := hP
                    have hD : va_D A (mW K o r u291 a g) := hD
                    have hI : mI u291 a := hw289.2.1
                    have eE292 : fE [19] u251 u291 := hw289.2.2.1
                    have hE : fE [19, 20, 21] f u291 := fE_tr hE (fE_w (by decide) eE292)
                    obtain ⟨hvk293, hnk293, hpk293⟩ := (hw289.2.2.2).elim (fun q => absurd q.2.1 (fun q => hnz284 ((ez284.symm).symm.trans q))) (fun q => q)
                    refine k_top (z := 0) hvk293 ?_
                    obtain ⟨gv294, egv294⟩ : ∃ z : Int32, z = u291 19 := ⟨_, rfl⟩
                    have hg295 : gv294.toInt = ((ik235 + 1 : Nat) : Int) := by rw [egv294]; exact hpk293
                    have b296 : kb 0 gv294 400 := kb_tok (rS_fE hE hp0 (by decide)) hlk244 hg295
                    refine lv_if_eq (tgt := 89) hx hb dX12_readOrder_81 (by decide) (fun c297 => ?_) (fun c297 => ?_)
                    · exact kV_ret hx hb hr hlocks hK hS dX12_readOrder_89 u291 hP hD ⟨hI, hE, ⟨ik235 + 1, 0, (by rw [egv294.symm]; exact hg295), (Nat.le_succ_of_le (Nat.le_trans (Nat.le_succ_of_le (Nat.le_refl i)) hlek235)), hlk244, Or.inr (Or.inl ⟨h21, ⟨(((eE292 21 (by decide)).trans ez284.symm)).trans haz284, (fun q => hnz284 ((((eE292 21 (by decide)).trans ez284.symm)).symm.trans q))⟩, (pi_13b hTk7 (Or.inl hTk226) (pi_17 hGk235 (pi_14f hTk244 hm288)))⟩)⟩⟩
                    · exact kb_nsame c297 kc_0 kc_0
                  · exact absurd ((eE243 21 (by decide)).trans h2k235) hdk253.1
              · refine k_top (z := 0) hvk244 ?_
                obtain ⟨gv298, egv298⟩ : ∃ z : Int32, z = u242 19 := ⟨_, rfl⟩
                have hg299 : gv298.toInt = ((ik235 : Nat) : Int) := by rw [egv298]; exact hpk244
                have b300 : kb 0 gv298 400 := kb_tok (rS_fE hE hp0 (by decide)) hNk235 hg299
                have hTk244 : ¬ T (ik235) = 2023 := fun q => (hnk244 h2k235) (q.trans (by decide +kernel))
                refine lv_if_eq (tgt := 76) hx hb dX12_readOrder_66 (by decide) (fun c301 => ?_) (fun c301 => ?_)
                · refine lv_aload_n hx hb dX12_readOrder_76 rfl (lv_at hl 0 rfl) ?_
                  refine lv_iconst (v := 5) hx hb dX12_readOrder_77 (by decide) ?_
                  refine kI.callV (As := [.int 5]) (rest := []) ⟨hx, hb, hml, hown, hg⟩ (q_takes0 l o r u242 a g hI 5 (kb_w kc_5 (by decide) (by decide)) N (ik235) ob T (rS_fE hE hp0 (by decide)) (by rw [egv298.symm]; exact hg299) hNk235 hp3 (by decide +kernel)) (cwV 1 hg (kgV wt6_200 wt6_202 wp4_6 wt1_14 wt6_203) rfl rfl rfl (by decide +kernel) ⟨by decide, by decide⟩) hK hP hD hS hA mIs [] rfl (wr := []) rfl rfl rfl (fun i h => by cases h) 0 12 rfl rfl rfl hl.1 rfl (Nat.le_of_ble_eq_true rfl) dX12_readOrder_78 ⟨Nat.le_refl _, Nat.le_refl _⟩ (fun v303 u304 H locs hw302 hP hD hS => ?_)
                  have hP : va_P D vwCl (mW K o r u304 a g) H := hP
                  have hD : va_D A (mW K o r u304 a g) := hD
                  have hI : mI u304 a := hw302.2.1
                  have eE305 : fE [19] u242 u304 := hw302.2.2.1
                  have hE : fE [19, 20, 21] f u304 := fE_tr hE (fE_w (by decide) eE305)
                  rcases hw302.2.2.2 with ⟨hvk306, hbk306, htk306, hpk306, hlk306⟩ | ⟨hvk306, hnk306, hpk306⟩
                  · refine k_top (z := 1) hvk306 ?_
                    obtain ⟨gv307, egv307⟩ : ∃ z : Int32, z = u304 19 := ⟨_, rfl⟩
                    have hg308 : gv307.toInt = ((ik235 + 1 : Nat) : Int) := by rw [egv307]; exact hpk306
                    have b309 : kb 0 gv307 400 := kb_tok (rS_fE hE hp0 (by decide)) hlk306 hg308
                    have hTk306 : T (ik235) = 2003 := htk306.trans (by decide +kernel)
                    refine lv_if_eq (tgt := 89) hx hb dX12_readOrder_81 (by decide) (fun c310 => ?_) (fun c310 => ?_)
                    · exact kb_dj c310 kc_1 kc_0 (by decide)
                    · refine lv_aload_n hx hb dX12_readOrder_84 rfl (lv_at hl 0 rfl) ?_
                      refine lv_iconst (v := 0) hx hb dX12_readOrder_85 (by decide) ?_
                      refine kV.callV (As := [.int 0]) (rest := []) ⟨hx, hb, hml, hown, hg⟩ ((q_allRTest 8) l o r u304 a g hI 0 (kb_w kc_0 (by decide) (by decide)) N (ik235 + 1) (nk235) ob T (rS_fE hE hp0 (by decide)) (by rw [egv307.symm]; exact hg308) hlk306 hp3 (fun _ => ⟨(by rw [((eE305 20 (by decide)).trans ((eE243 20 (by decide)).trans ez239.symm))]; exact hzz239), h3k235.2⟩) (by decide +kernel)) (cwV 1 hg (kgV wt6_239 wt7_1 wp4_15 wt1_14 wt7_2) rfl rfl rfl (by decide +kernel) ⟨by decide, by decide⟩) hK hP hD hS hA mIs [] rfl (wr := []) rfl rfl rfl (fun i h => by cases h) 0 12 rfl rfl rfl hl.1 rfl (Nat.le_of_ble_eq_true rfl) dX12_readOrder_86 ⟨Nat.le_refl _, Nat.le_refl _⟩ (fun u313 H locs hw311 hP hD hS => ?_)
                      have hP : va_P D vwCl (mW K o r u313 a g) H := hP
                      have hD : va_D A (mW K o r u313 a g) := hD
                      have hI : mI u313 a := hw311.1
                      have eE314 : fE [19, 20, 21] u304 u313 := hw311.2.1
                      have hE : fE [19, 20, 21] f u313 := fE_tr hE eE314
                      obtain ⟨ik315, nk315, hgk315, hlek315, hNk315, hck315⟩ := hw311.2.2
                      rcases hck315 with ⟨-, h2k315, h3k315, hGk315⟩ | ⟨-, hbk315, hGk315⟩ | hdk315
                      · obtain ⟨gv316, egv316⟩ : ∃ z : Int32, z = u313 19 := ⟨_, rfl⟩
                        have hg317 : gv316.toInt = ((ik315 : Nat) : Int) := by rw [egv316]; exact hgk315
                        have b318 : kb 0 gv316 400 := kb_tok (rS_fE hE hp0 (by decide)) hNk315 hg317
                        obtain ⟨z319, ez319⟩ : ∃ z : Int32, z = u313 20 := ⟨_, rfl⟩
                        have hzz319 : z319.toInt = (nk315 : Int) := by rw [ez319]; exact h3k315.1
                        exact kV_ret hx hb hr hlocks hK hS dX12_readOrder_89 u313 hP hD ⟨hI, hE, ⟨ik315, nk315, (by rw [egv316.symm]; exact hg317), (Nat.le_trans (Nat.le_succ_of_le (Nat.le_trans (Nat.le_succ_of_le (Nat.le_refl i)) hlek235)) hlek315), hNk315, Or.inl ⟨h21, h2k315, ⟨(by rw [ez319.symm]; exact hzz319), h3k315.2⟩, (pi_13b hTk7 (Or.inl hTk226) (pi_17 hGk235 (pi_14n hTk244 (pi_12y hTk306 hGk315))))⟩⟩⟩
                      · obtain ⟨gv320, egv320⟩ : ∃ z : Int32, z = u313 19 := ⟨_, rfl⟩
                        have hg321 : gv320.toInt = ((ik315 : Nat) : Int) := by rw [egv320]; exact hgk315
                        have b322 : kb 0 gv320 400 := kb_tok (rS_fE hE hp0 (by decide)) hNk315 hg321
                        obtain ⟨z323, ez323⟩ : ∃ z : Int32, z = u313 21 := ⟨_, rfl⟩
                        have haz323 : z323 = a 17 (ik315) := by rw [ez323]; exact hbk315.1
                        have hnz323 : ¬ z323 = -1 := by rw [ez323]; exact hbk315.2
                        exact kV_ret hx hb hr hlocks hK hS dX12_readOrder_89 u313 hP hD ⟨hI, hE, ⟨ik315, 0, (by rw [egv320.symm]; exact hg321), (Nat.le_trans (Nat.le_succ_of_le (Nat.le_trans (Nat.le_succ_of_le (Nat.le_refl i)) hlek235)) hlek315), hNk315, Or.inr (Or.inl ⟨h21, ⟨(ez323.symm).trans haz323, (fun q => hnz323 ((ez323.symm).symm.trans q))⟩, (pi_13b hTk7 (Or.inl hTk226) (pi_17 hGk235 (pi_14n hTk244 (pi_12y hTk306 hGk315))))⟩)⟩⟩
                      · exact absurd ((eE305 21 (by decide)).trans ((eE243 21 (by decide)).trans h2k235)) hdk315.1
                  · refine k_top (z := 0) hvk306 ?_
                    obtain ⟨gv324, egv324⟩ : ∃ z : Int32, z = u304 19 := ⟨_, rfl⟩
                    have hg325 : gv324.toInt = ((ik235 : Nat) : Int) := by rw [egv324]; exact hpk306
                    have b326 : kb 0 gv324 400 := kb_tok (rS_fE hE hp0 (by decide)) hNk235 hg325
                    have hTk306 : ¬ T (ik235) = 2003 := fun q => (hnk306 ((eE243 21 (by decide)).trans h2k235)) (q.trans (by decide +kernel))
                    refine lv_if_eq (tgt := 89) hx hb dX12_readOrder_81 (by decide) (fun c327 => ?_) (fun c327 => ?_)
                    · exact kV_ret hx hb hr hlocks hK hS dX12_readOrder_89 u304 hP hD ⟨hI, hE, ⟨ik235, nk235, (by rw [egv324.symm]; exact hg325), (Nat.le_trans (Nat.le_succ_of_le (Nat.le_refl i)) hlek235), hNk235, Or.inl ⟨h21, ((eE305 21 (by decide)).trans ((eE243 21 (by decide)).trans h2k235)), ⟨(by rw [((eE305 20 (by decide)).trans ((eE243 20 (by decide)).trans ez239.symm))]; exact hzz239), h3k235.2⟩, (pi_13b hTk7 (Or.inl hTk226) (pi_17 hGk235 (pi_14n hTk244 (pi_12n hTk306))))⟩⟩⟩
                    · exact kb_nsame c327 kc_0 kc_0
                · exact kb_nsame c301 kc_0 kc_0
            · obtain ⟨gv328, egv328⟩ : ∃ z : Int32, z = u233 19 := ⟨_, rfl⟩
              have hg329 : gv328.toInt = ((ik235 : Nat) : Int) := by rw [egv328]; exact hgk235
              have b330 : kb 0 gv328 400 := kb_tok (rS_fE hE hp0 (by decide)) hNk235 hg329
              obtain ⟨z331, ez331⟩ : ∃ z : Int32, z = u233 21 := ⟨_, rfl⟩
              have haz331 : z331 = a 17 (ik235) := by rw [ez331]; exact hbk235.1
              have hnz331 : ¬ z331 = -1 := by rw [ez331]; exact hbk235.2
              refine lv_goto (tgt := 60) hx hb dX12_readOrder_51 (by decide) ?_
              refine lv_aload_n hx hb dX12_readOrder_60 rfl (lv_at hl 0 rfl) ?_
              refine lv_bipush (v := 28) hx hb dX12_readOrder_61 (by decide) ?_
              refine kI.callV (As := [.int 28]) (rest := []) ⟨hx, hb, hml, hown, hg⟩ (q_takes0 l o r u233 a g hI 28 (kb_w kc_28 (by decide) (by decide)) N (ik235) ob T (rS_fE hE hp0 (by decide)) (by rw [egv328.symm]; exact hg329) hNk235 hp3 (by decide +kernel)) (cwV 1 hg (kgV wt6_200 wt6_202 wp4_6 wt1_14 wt6_203) rfl rfl rfl (by decide +kernel) ⟨by decide, by decide⟩) hK hP hD hS hA mIs [] rfl (wr := []) rfl rfl rfl (fun i h => by cases h) 0 12 rfl rfl rfl hl.1 rfl (Nat.le_of_ble_eq_true rfl) dX12_readOrder_63 ⟨Nat.le_refl _, Nat.le_refl _⟩ (fun v333 u334 H locs hw332 hP hD hS => ?_)
              have hP : va_P D vwCl (mW K o r u334 a g) H := hP
              have hD : va_D A (mW K o r u334 a g) := hD
              have hI : mI u334 a := hw332.2.1
              have eE335 : fE [19] u233 u334 := hw332.2.2.1
              have hE : fE [19, 20, 21] f u334 := fE_tr hE (fE_w (by decide) eE335)
              obtain ⟨hvk336, hnk336, hpk336⟩ := (hw332.2.2.2).elim (fun q => absurd q.2.1 (fun q => hnz331 ((ez331.symm).symm.trans q))) (fun q => q)
              refine k_top (z := 0) hvk336 ?_
              obtain ⟨gv337, egv337⟩ : ∃ z : Int32, z = u334 19 := ⟨_, rfl⟩
              have hg338 : gv337.toInt = ((ik235 : Nat) : Int) := by rw [egv337]; exact hpk336
              have b339 : kb 0 gv337 400 := kb_tok (rS_fE hE hp0 (by decide)) hNk235 hg338
              refine lv_if_eq (tgt := 76) hx hb dX12_readOrder_66 (by decide) (fun c340 => ?_) (fun c340 => ?_)
              · refine lv_aload_n hx hb dX12_readOrder_76 rfl (lv_at hl 0 rfl) ?_
                refine lv_iconst (v := 5) hx hb dX12_readOrder_77 (by decide) ?_
                refine kI.callV (As := [.int 5]) (rest := []) ⟨hx, hb, hml, hown, hg⟩ (q_takes0 l o r u334 a g hI 5 (kb_w kc_5 (by decide) (by decide)) N (ik235) ob T (rS_fE hE hp0 (by decide)) (by rw [egv337.symm]; exact hg338) hNk235 hp3 (by decide +kernel)) (cwV 1 hg (kgV wt6_200 wt6_202 wp4_6 wt1_14 wt6_203) rfl rfl rfl (by decide +kernel) ⟨by decide, by decide⟩) hK hP hD hS hA mIs [] rfl (wr := []) rfl rfl rfl (fun i h => by cases h) 0 12 rfl rfl rfl hl.1 rfl (Nat.le_of_ble_eq_true rfl) dX12_readOrder_78 ⟨Nat.le_refl _, Nat.le_refl _⟩ (fun v342 u343 H locs hw341 hP hD hS => ?_)
                have hP : va_P D vwCl (mW K o r u343 a g) H := hP
                have hD : va_D A (mW K o r u343 a g) := hD
                have hI : mI u343 a := hw341.2.1
                have eE344 : fE [19] u334 u343 := hw341.2.2.1
                have hE : fE [19, 20, 21] f u343 := fE_tr hE (fE_w (by decide) eE344)
                obtain ⟨hvk345, hnk345, hpk345⟩ := (hw341.2.2.2).elim (fun q => absurd q.2.1 (fun q => hnz331 ((((eE335 21 (by decide)).trans ez331.symm)).symm.trans q))) (fun q => q)
                refine k_top (z := 0) hvk345 ?_
                obtain ⟨gv346, egv346⟩ : ∃ z : Int32, z = u343 19 := ⟨_, rfl⟩
                have hg347 : gv346.toInt = ((ik235 : Nat) : Int) := by rw [egv346]; exact hpk345
                have b348 : kb 0 gv346 400 := kb_tok (rS_fE hE hp0 (by decide)) hNk235 hg347
                refine lv_if_eq (tgt := 89) hx hb dX12_readOrder_81 (by decide) (fun c349 => ?_) (fun c349 => ?_)
                · exact kV_ret hx hb hr hlocks hK hS dX12_readOrder_89 u343 hP hD ⟨hI, hE, ⟨ik235, 0, (by rw [egv346.symm]; exact hg347), (Nat.le_trans (Nat.le_succ_of_le (Nat.le_refl i)) hlek235), hNk235, Or.inr (Or.inl ⟨h21, ⟨(((eE344 21 (by decide)).trans ((eE335 21 (by decide)).trans ez331.symm))).trans haz331, (fun q => hnz331 ((((eE344 21 (by decide)).trans ((eE335 21 (by decide)).trans ez331.symm))).symm.trans q))⟩, (pi_13b hTk7 (Or.inl hTk226) (pi_17f hGk235))⟩)⟩⟩
                · exact kb_nsame c349 kc_0 kc_0
              · exact kb_nsame c340 kc_0 kc_0
            · exact absurd ((eE225 21 (by decide)).trans ((eE6 21 (by decide)).trans h21)) hdk235.1
          · exact kb_dj c230 kc_1 kc_0 (by decide)
        · refine k_top (z := 0) hvk226 ?_
          obtain ⟨gv350, egv350⟩ : ∃ z : Int32, z = u224 19 := ⟨_, rfl⟩
          have hg351 : gv350.toInt = ((i : Nat) : Int) := by rw [egv350]; exact hpk226
          have b352 : kb 0 gv350 400 := kb_tok (rS_fE hE hp0 (by decide)) hp2 hg351
          have hTk226 : ¬ T (i) = 2019 := fun q => (hnk226 ((eE6 21 (by decide)).trans h21)) (q.trans (by decide +kernel))
          refine lv_if_ne (tgt := 46) hx hb dX12_readOrder_34 (by decide) (fun c353 => ?_) (fun c353 => ?_)
          · exact kb_nsame c353 kc_0 kc_0
          · refine lv_aload_n hx hb dX12_readOrder_37 rfl (lv_at hl 0 rfl) ?_
            refine lv_bipush (v := 26) hx hb dX12_readOrder_38 (by decide) ?_
            refine kI.callV (As := [.int 26]) (rest := []) ⟨hx, hb, hml, hown, hg⟩ (q_takes0 l o r u224 a g hI 26 (kb_w kc_26 (by decide) (by decide)) N (i) ob T (rS_fE hE hp0 (by decide)) (by rw [egv350.symm]; exact hg351) hp2 hp3 (by decide +kernel)) (cwV 1 hg (kgV wt6_200 wt6_202 wp4_6 wt1_14 wt6_203) rfl rfl rfl (by decide +kernel) ⟨by decide, by decide⟩) hK hP hD hS hA mIs [] rfl (wr := []) rfl rfl rfl (fun i h => by cases h) 0 12 rfl rfl rfl hl.1 rfl (Nat.le_of_ble_eq_true rfl) dX12_readOrder_40 ⟨Nat.le_refl _, Nat.le_refl _⟩ (fun v355 u356 H locs hw354 hP hD hS => ?_)
            have hP : va_P D vwCl (mW K o r u356 a g) H := hP
            have hD : va_D A (mW K o r u356 a g) := hD
            have hI : mI u356 a := hw354.2.1
            have eE357 : fE [19] u224 u356 := hw354.2.2.1
            have hE : fE [19, 20, 21] f u356 := fE_tr hE (fE_w (by decide) eE357)
            rcases hw354.2.2.2 with ⟨hvk358, hbk358, htk358, hpk358, hlk358⟩ | ⟨hvk358, hnk358, hpk358⟩
            · refine k_top (z := 1) hvk358 ?_
              obtain ⟨gv359, egv359⟩ : ∃ z : Int32, z = u356 19 := ⟨_, rfl⟩
              have hg360 : gv359.toInt = ((i + 1 : Nat) : Int) := by rw [egv359]; exact hpk358
              have b361 : kb 0 gv359 400 := kb_tok (rS_fE hE hp0 (by decide)) hlk358 hg360
              have hTk358 : T (i) = 2020 := htk358.trans (by decide +kernel)
              refine lv_if_eq (tgt := 54) hx hb dX12_readOrder_43 (by decide) (fun c362 => ?_) (fun c362 => ?_)
              · exact kb_dj c362 kc_1 kc_0 (by decide)
              · refine lv_aload_n hx hb dX12_readOrder_46 rfl (lv_at hl 0 rfl) ?_
                refine lv_iconst (v := 0) hx hb dX12_readOrder_47 (by decide) ?_
                refine kV.callV (As := [.int 0]) (rest := []) ⟨hx, hb, hml, hown, hg⟩ ((q_allRSum 8) l o r u356 a g hI 0 (kb_w kc_0 (by decide) (by decide)) N (i + 1) (n) ob T (rS_fE hE hp0 (by decide)) (by rw [egv359.symm]; exact hg360) hlk358 hp3 (fun _ => ⟨(by rw [((eE357 20 (by decide)).trans ((eE225 20 (by decide)).trans ((eE6 20 (by decide)).trans ec20.symm)))]; exact hn20), hl50⟩) (by decide +kernel)) (cwV 1 hg (kgV wt6_208 wt6_210 wp4_8 wt1_14 wt6_211) rfl rfl rfl (by decide +kernel) ⟨by decide, by decide⟩) hK hP hD hS hA mIs [] rfl (wr := []) rfl rfl rfl (fun i h => by cases h) 0 12 rfl rfl rfl hl.1 rfl (Nat.le_of_ble_eq_true rfl) dX12_readOrder_48 ⟨Nat.le_refl _, Nat.le_refl _⟩ (fun u365 H locs hw363 hP hD hS => ?_)
                have hP : va_P D vwCl (mW K o r u365 a g) H := hP
                have hD : va_D A (mW K o r u365 a g) := hD
                have hI : mI u365 a := hw363.1
                have eE366 : fE [19, 20, 21] u356 u365 := hw363.2.1
                have hE : fE [19, 20, 21] f u365 := fE_tr hE eE366
                obtain ⟨ik367, nk367, hgk367, hlek367, hNk367, hck367⟩ := hw363.2.2
                rcases hck367 with ⟨-, h2k367, h3k367, hGk367⟩ | ⟨-, hbk367, hGk367⟩ | hdk367
                · obtain ⟨gv368, egv368⟩ : ∃ z : Int32, z = u365 19 := ⟨_, rfl⟩
                  have hg369 : gv368.toInt = ((ik367 : Nat) : Int) := by rw [egv368]; exact hgk367
                  have b370 : kb 0 gv368 400 := kb_tok (rS_fE hE hp0 (by decide)) hNk367 hg369
                  obtain ⟨z371, ez371⟩ : ∃ z : Int32, z = u365 20 := ⟨_, rfl⟩
                  have hzz371 : z371.toInt = (nk367 : Int) := by rw [ez371]; exact h3k367.1
                  refine lv_goto (tgt := 60) hx hb dX12_readOrder_51 (by decide) ?_
                  refine lv_aload_n hx hb dX12_readOrder_60 rfl (lv_at hl 0 rfl) ?_
                  refine lv_bipush (v := 28) hx hb dX12_readOrder_61 (by decide) ?_
                  refine kI.callV (As := [.int 28]) (rest := []) ⟨hx, hb, hml, hown, hg⟩ (q_takes0 l o r u365 a g hI 28 (kb_w kc_28 (by decide) (by decide)) N (ik367) ob T (rS_fE hE hp0 (by decide)) (by rw [egv368.symm]; exact hg369) hNk367 hp3 (by decide +kernel)) (cwV 1 hg (kgV wt6_200 wt6_202 wp4_6 wt1_14 wt6_203) rfl rfl rfl (by decide +kernel) ⟨by decide, by decide⟩) hK hP hD hS hA mIs [] rfl (wr := []) rfl rfl rfl (fun i h => by cases h) 0 12 rfl rfl rfl hl.1 rfl (Nat.le_of_ble_eq_true rfl) dX12_readOrder_63 ⟨Nat.le_refl _, Nat.le_refl _⟩ (fun v373 u374 H locs hw372 hP hD hS => ?_)
                  have hP : va_P D vwCl (mW K o r u374 a g) H := hP
                  have hD : va_D A (mW K o r u374 a g) := hD
                  have hI : mI u374 a := hw372.2.1
                  have eE375 : fE [19] u365 u374 := hw372.2.2.1
                  have hE : fE [19, 20, 21] f u374 := fE_tr hE (fE_w (by decide) eE375)
                  rcases hw372.2.2.2 with ⟨hvk376, hbk376, htk376, hpk376, hlk376⟩ | ⟨hvk376, hnk376, hpk376⟩
                  · refine k_top (z := 1) hvk376 ?_
                    obtain ⟨gv377, egv377⟩ : ∃ z : Int32, z = u374 19 := ⟨_, rfl⟩
                    have hg378 : gv377.toInt = ((ik367 + 1 : Nat) : Int) := by rw [egv377]; exact hpk376
                    have b379 : kb 0 gv377 400 := kb_tok (rS_fE hE hp0 (by decide)) hlk376 hg378
                    have hTk376 : T (ik367) = 2023 := htk376.trans (by decide +kernel)
                    refine lv_if_eq (tgt := 76) hx hb dX12_readOrder_66 (by decide) (fun c380 => ?_) (fun c380 => ?_)
                    · exact kb_dj c380 kc_1 kc_0 (by decide)
                    · refine lv_aload_n hx hb dX12_readOrder_69 rfl (lv_at hl 0 rfl) ?_
                      refine lv_iconst (v := 1) hx hb dX12_readOrder_70 (by decide) ?_
                      refine lv_bipush (v := 20) hx hb dX12_readOrder_71 (by decide) ?_
                      refine kV.callV (As := [.int 1, .int 20]) (rest := []) ⟨hx, hb, hml, hown, hg⟩ (q_mustNumber l o r u374 a g hI 1 20 (kb_w kc_1 (by decide) (by decide)) (kb_w kc_20 (by decide) (by decide)) N (ik367 + 1) ob T (rS_fE hE hp0 (by decide)) (by rw [egv377.symm]; exact hg378) hlk376 hp3) (cwV 2 hg (kgV wt6_235 wt6_237 wp4_14 wt1_14 wt6_238) rfl rfl rfl (by decide +kernel) ⟨by decide, by decide⟩) hK hP hD hS hA mIs [] rfl (wr := []) rfl rfl rfl (fun i h => by cases h) 0 12 rfl rfl rfl hl.1 rfl (Nat.le_of_ble_eq_true rfl) dX12_readOrder_73 ⟨Nat.le_refl _, Nat.le_refl _⟩ (fun u383 H locs hw381 hP hD hS => ?_)
                      have hP : va_P D vwCl (mW K o r u383 a g) H := hP
                      have hD : va_D A (mW K o r u383 a g) := hD
                      have hI : mI u383 a := hw381.1
                      have eE384 : fE [19, 21] u374 u383 := hw381.2.1
                      have hE : fE [19, 20, 21] f u383 := fE_tr hE (fE_w (by decide) eE384)
                      rcases hw381.2.2 with ⟨-, h2k385, hGk385, hpk385, hlk385⟩ | ⟨-, hbk385, hGk385, hpk385⟩ | hdk385
                      · obtain ⟨gv386, egv386⟩ : ∃ z : Int32, z = u383 19 := ⟨_, rfl⟩
                        have hg387 : gv386.toInt = ((ik367 + 1 + 1 : Nat) : Int) := by rw [egv386]; exact hpk385
                        have b388 : kb 0 gv386 400 := kb_tok (rS_fE hE hp0 (by decide)) hlk385 hg387
                        have hm389 : pInr (T (ik367 + 1)) 1 20 = true := by have w1 := hGk385; rw [show (1 : Int32).toInt = 1 from by decide +kernel, show (20 : Int32).toInt = 20 from by decide +kernel] at w1; exact w1
                        refine lv_aload_n hx hb dX12_readOrder_76 rfl (lv_at hl 0 rfl) ?_
                        refine lv_iconst (v := 5) hx hb dX12_readOrder_77 (by decide) ?_
                        refine kI.callV (As := [.int 5]) (rest := []) ⟨hx, hb, hml, hown, hg⟩ (q_takes0 l o r u383 a g hI 5 (kb_w kc_5 (by decide) (by decide)) N (ik367 + 1 + 1) ob T (rS_fE hE hp0 (by decide)) (by rw [egv386.symm]; exact hg387) hlk385 hp3 (by decide +kernel)) (cwV 1 hg (kgV wt6_200 wt6_202 wp4_6 wt1_14 wt6_203) rfl rfl rfl (by decide +kernel) ⟨by decide, by decide⟩) hK hP hD hS hA mIs [] rfl (wr := []) rfl rfl rfl (fun i h => by cases h) 0 12 rfl rfl rfl hl.1 rfl (Nat.le_of_ble_eq_true rfl) dX12_readOrder_78 ⟨Nat.le_refl _, Nat.le_refl _⟩ (fun v391 u392 H locs hw390 hP hD hS => ?_)
                        have hP : va_P D vwCl (mW K o r u392 a g) H := hP
                        have hD : va_D A (mW K o r u392 a g) := hD
                        have hI : mI u392 a := hw390.2.1
                        have eE393 : fE [19] u383 u392 := hw390.2.2.1
                        have hE : fE [19, 20, 21] f u392 := fE_tr hE (fE_w (by decide) eE393)
                        rcases hw390.2.2.2 with ⟨hvk394, hbk394, htk394, hpk394, hlk394⟩ | ⟨hvk394, hnk394, hpk394⟩
                        · refine k_top (z := 1) hvk394 ?_
                          obtain ⟨gv395, egv395⟩ : ∃ z : Int32, z = u392 19 := ⟨_, rfl⟩
                          have hg396 : gv395.toInt = ((ik367 + 1 + 1 + 1 : Nat) : Int) := by rw [egv395]; exact hpk394
                          have b397 : kb 0 gv395 400 := kb_tok (rS_fE hE hp0 (by decide)) hlk394 hg396
                          have hTk394 : T (ik367 + 1 + 1) = 2003 := htk394.trans (by decide +kernel)
                          refine lv_if_eq (tgt := 89) hx hb dX12_readOrder_81 (by decide) (fun c398 => ?_) (fun c398 => ?_)
                          · exact kb_dj c398 kc_1 kc_0 (by decide)
                          · refine lv_aload_n hx hb dX12_readOrder_84 rfl (lv_at hl 0 rfl) ?_
                            refine lv_iconst (v := 0) hx hb dX12_readOrder_85 (by decide) ?_
                            refine kV.callV (As := [.int 0]) (rest := []) ⟨hx, hb, hml, hown, hg⟩ ((q_allRTest 8) l o r u392 a g hI 0 (kb_w kc_0 (by decide) (by decide)) N (ik367 + 1 + 1 + 1) (nk367) ob T (rS_fE hE hp0 (by decide)) (by rw [egv395.symm]; exact hg396) hlk394 hp3 (fun _ => ⟨(by rw [((eE393 20 (by decide)).trans ((eE384 20 (by decide)).trans ((eE375 20 (by decide)).trans ez371.symm)))]; exact hzz371), h3k367.2⟩) (by decide +kernel)) (cwV 1 hg (kgV wt6_239 wt7_1 wp4_15 wt1_14 wt7_2) rfl rfl rfl (by decide +kernel) ⟨by decide, by decide⟩) hK hP hD hS hA mIs [] rfl (wr := []) rfl rfl rfl (fun i h => by cases h) 0 12 rfl rfl rfl hl.1 rfl (Nat.le_of_ble_eq_true rfl) dX12_readOrder_86 ⟨Nat.le_refl _, Nat.le_refl _⟩ (fun u401 H locs hw399 hP hD hS => ?_)
                            have hP : va_P D vwCl (mW K o r u401 a g) H := hP
                            have hD : va_D A (mW K o r u401 a g) := hD
                            have hI : mI u401 a := hw399.1
                            have eE402 : fE [19, 20, 21] u392 u401 := hw399.2.1
                            have hE : fE [19, 20, 21] f u401 := fE_tr hE eE402
                            obtain ⟨ik403, nk403, hgk403, hlek403, hNk403, hck403⟩ := hw399.2.2
                            rcases hck403 with ⟨-, h2k403, h3k403, hGk403⟩ | ⟨-, hbk403, hGk403⟩ | hdk403
                            · obtain ⟨gv404, egv404⟩ : ∃ z : Int32, z = u401 19 := ⟨_, rfl⟩
                              have hg405 : gv404.toInt = ((ik403 : Nat) : Int) := by rw [egv404]; exact hgk403
                              have b406 : kb 0 gv404 400 := kb_tok (rS_fE hE hp0 (by decide)) hNk403 hg405
                              obtain ⟨z407, ez407⟩ : ∃ z : Int32, z = u401 20 := ⟨_, rfl⟩
                              have hzz407 : z407.toInt = (nk403 : Int) := by rw [ez407]; exact h3k403.1
                              exact kV_ret hx hb hr hlocks hK hS dX12_readOrder_89 u401 hP hD ⟨hI, hE, ⟨ik403, nk403, (by rw [egv404.symm]; exact hg405), (Nat.le_trans (Nat.le_succ_of_le (Nat.le_succ_of_le (Nat.le_succ_of_le (Nat.le_trans (Nat.le_succ_of_le (Nat.le_refl i)) hlek367)))) hlek403), hNk403, Or.inl ⟨h21, h2k403, ⟨(by rw [ez407.symm]; exact hzz407), h3k403.2⟩, (pi_13b hTk7 (Or.inr hTk358) (pi_17 hGk367 (pi_14y hTk376 hm389 (pi_12y hTk394 hGk403))))⟩⟩⟩
                            · obtain ⟨gv408, egv408⟩ : ∃ z : Int32, z = u401 19 := ⟨_, rfl⟩
                              have hg409 : gv408.toInt = ((ik403 : Nat) : Int) := by rw [egv408]; exact hgk403
                              have b410 : kb 0 gv408 400 := kb_tok (rS_fE hE hp0 (by decide)) hNk403 hg409
                              obtain ⟨z411, ez411⟩ : ∃ z : Int32, z = u401 21 := ⟨_, rfl⟩
                              have haz411 : z411 = a 17 (ik403) := by rw [ez411]; exact hbk403.1
                              have hnz411 : ¬ z411 = -1 := by rw [ez411]; exact hbk403.2
                              exact kV_ret hx hb hr hlocks hK hS dX12_readOrder_89 u401 hP hD ⟨hI, hE, ⟨ik403, 0, (by rw [egv408.symm]; exact hg409), (Nat.le_trans (Nat.le_succ_of_le (Nat.le_succ_of_le (Nat.le_succ_of_le (Nat.le_trans (Nat.le_succ_of_le (Nat.le_refl i)) hlek367)))) hlek403), hNk403, Or.inr (Or.inl ⟨h21, ⟨(ez411.symm).trans haz411, (fun q => hnz411 ((ez411.symm).symm.trans q))⟩, (pi_13b hTk7 (Or.inr hTk358) (pi_17 hGk367 (pi_14y hTk376 hm389 (pi_12y hTk394 hGk403))))⟩)⟩⟩
                            · exact absurd ((eE393 21 (by decide)).trans h2k385) hdk403.1
                        · refine k_top (z := 0) hvk394 ?_
                          obtain ⟨gv412, egv412⟩ : ∃ z : Int32, z = u392 19 := ⟨_, rfl⟩
                          have hg413 : gv412.toInt = ((ik367 + 1 + 1 : Nat) : Int) := by rw [egv412]; exact hpk394
                          have b414 : kb 0 gv412 400 := kb_tok (rS_fE hE hp0 (by decide)) hlk385 hg413
                          have hTk394 : ¬ T (ik367 + 1 + 1) = 2003 := fun q => (hnk394 h2k385) (q.trans (by decide +kernel))
                          refine lv_if_eq (tgt := 89) hx hb dX12_readOrder_81 (by decide) (fun c415 => ?_) (fun c415 => ?_)
                          · exact kV_ret hx hb hr hlocks hK hS dX12_readOrder_89 u392 hP hD ⟨hI, hE, ⟨ik367 + 1 + 1, nk367, (by rw [egv412.symm]; exact hg413), (Nat.le_succ_of_le (Nat.le_succ_of_le (Nat.le_trans (Nat.le_succ_of_le (Nat.le_refl i)) hlek367))), hlk385, Or.inl ⟨h21, ((eE393 21 (by decide)).trans h2k385), ⟨(by rw [((eE393 20 (by decide)).trans ((eE384 20 (by decide)).trans ((eE375 20 (by decide)).trans ez371.symm)))]; exact hzz371), h3k367.2⟩, (pi_13b hTk7 (Or.inr hTk358) (pi_17 hGk367 (pi_14y hTk376 hm389 (pi_12n hTk394))))⟩⟩⟩
                          · exact kb_nsame c415 kc_0 kc_0
                      · obtain ⟨z416, ez416⟩ : ∃ z : Int32, z = u383 21 := ⟨_, rfl⟩
                        have haz416 : z416 = a 17 (ik367 + 1) := by rw [ez416]; exact hbk385.1
                        have hnz416 : ¬ z416 = -1 := by rw [ez416]; exact hbk385.2
                        obtain ⟨gv417, egv417⟩ : ∃ z : Int32, z = u383 19 := ⟨_, rfl⟩
                        have hg418 : gv417.toInt = ((ik367 + 1 : Nat) : Int) := by rw [egv417]; exact hpk385
                        have b419 : kb 0 gv417 400 := kb_tok (rS_fE hE hp0 (by decide)) hlk376 hg418
                        have hm420 : pInr (T (ik367 + 1)) 1 20 = false := by have w1 := hGk385; rw [show (1 : Int32).toInt = 1 from by decide +kernel, show (20 : Int32).toInt = 20 from by decide +kernel] at w1; exact w1
                        refine lv_aload_n hx hb dX12_readOrder_76 rfl (lv_at hl 0 rfl) ?_
                        refine lv_iconst (v := 5) hx hb dX12_readOrder_77 (by decide) ?_
                        refine kI.callV (As := [.int 5]) (rest := []) ⟨hx, hb, hml, hown, hg⟩ (q_takes0 l o r u383 a g hI 5 (kb_w kc_5 (by decide) (by decide)) N (ik367 + 1) ob T (rS_fE hE hp0 (by decide)) (by rw [egv417.symm]; exact hg418) hlk376 hp3 (by decide +kernel)) (cwV 1 hg (kgV wt6_200 wt6_202 wp4_6 wt1_14 wt6_203) rfl rfl rfl (by decide +kernel) ⟨by decide, by decide⟩) hK hP hD hS hA mIs [] rfl (wr := []) rfl rfl rfl (fun i h => by cases h) 0 12 rfl rfl rfl hl.1 rfl (Nat.le_of_ble_eq_true rfl) dX12_readOrder_78 ⟨Nat.le_refl _, Nat.le_refl _⟩ (fun v422 u423 H locs hw421 hP hD hS => ?_)
                        have hP : va_P D vwCl (mW K o r u423 a g) H := hP
                        have hD : va_D A (mW K o r u423 a g) := hD
                        have hI : mI u423 a := hw421.2.1
                        have eE424 : fE [19] u383 u423 := hw421.2.2.1
                        have hE : fE [19, 20, 21] f u423 := fE_tr hE (fE_w (by decide) eE424)
                        obtain ⟨hvk425, hnk425, hpk425⟩ := (hw421.2.2.2).elim (fun q => absurd q.2.1 (fun q => hnz416 ((ez416.symm).symm.trans q))) (fun q => q)
                        refine k_top (z := 0) hvk425 ?_
                        obtain ⟨gv426, egv426⟩ : ∃ z : Int32, z = u423 19 := ⟨_, rfl⟩
                        have hg427 : gv426.toInt = ((ik367 + 1 : Nat) : Int) := by rw [egv426]; exact hpk425
                        have b428 : kb 0 gv426 400 := kb_tok (rS_fE hE hp0 (by decide)) hlk376 hg427
                        refine lv_if_eq (tgt := 89) hx hb dX12_readOrder_81 (by decide) (fun c429 => ?_) (fun c429 => ?_)
                        · exact kV_ret hx hb hr hlocks hK hS dX12_readOrder_89 u423 hP hD ⟨hI, hE, ⟨ik367 + 1, 0, (by rw [egv426.symm]; exact hg427), (Nat.le_succ_of_le (Nat.le_trans (Nat.le_succ_of_le (Nat.le_refl i)) hlek367)), hlk376, Or.inr (Or.inl ⟨h21, ⟨(((eE424 21 (by decide)).trans ez416.symm)).trans haz416, (fun q => hnz416 ((((eE424 21 (by decide)).trans ez416.symm)).symm.trans q))⟩, (pi_13b hTk7 (Or.inr hTk358) (pi_17 hGk367 (pi_14f hTk376 hm420)))⟩)⟩⟩
                        · exact kb_nsame c429 kc_0 kc_0
                      · exact absurd ((eE375 21 (by decide)).trans h2k367) hdk385.1
                  · refine k_top (z := 0) hvk376 ?_
                    obtain ⟨gv430, egv430⟩ : ∃ z : Int32, z = u374 19 := ⟨_, rfl⟩
                    have hg431 : gv430.toInt = ((ik367 : Nat) : Int) := by rw [egv430]; exact hpk376
                    have b432 : kb 0 gv430 400 := kb_tok (rS_fE hE hp0 (by decide)) hNk367 hg431
                    have hTk376 : ¬ T (ik367) = 2023 := fun q => (hnk376 h2k367) (q.trans (by decide +kernel))
                    refine lv_if_eq (tgt := 76) hx hb dX12_readOrder_66 (by decide) (fun c433 => ?_) (fun c433 => ?_)
                    · refine lv_aload_n hx hb dX12_readOrder_76 rfl (lv_at hl 0 rfl) ?_
                      refine lv_iconst (v := 5) hx hb dX12_readOrder_77 (by decide) ?_
                      refine kI.callV (As := [.int 5]) (rest := []) ⟨hx, hb, hml, hown, hg⟩ (q_takes0 l o r u374 a g hI 5 (kb_w kc_5 (by decide) (by decide)) N (ik367) ob T (rS_fE hE hp0 (by decide)) (by rw [egv430.symm]; exact hg431) hNk367 hp3 (by decide +kernel)) (cwV 1 hg (kgV wt6_200 wt6_202 wp4_6 wt1_14 wt6_203) rfl rfl rfl (by decide +kernel) ⟨by decide, by decide⟩) hK hP hD hS hA mIs [] rfl (wr := []) rfl rfl rfl (fun i h => by cases h) 0 12 rfl rfl rfl hl.1 rfl (Nat.le_of_ble_eq_true rfl) dX12_readOrder_78 ⟨Nat.le_refl _, Nat.le_refl _⟩ (fun v435 u436 H locs hw434 hP hD hS => ?_)
                      have hP : va_P D vwCl (mW K o r u436 a g) H := hP
                      have hD : va_D A (mW K o r u436 a g) := hD
                      have hI : mI u436 a := hw434.2.1
                      have eE437 : fE [19] u374 u436 := hw434.2.2.1
                      have hE : fE [19, 20, 21] f u436 := fE_tr hE (fE_w (by decide) eE437)
                      rcases hw434.2.2.2 with ⟨hvk438, hbk438, htk438, hpk438, hlk438⟩ | ⟨hvk438, hnk438, hpk438⟩
                      · refine k_top (z := 1) hvk438 ?_
                        obtain ⟨gv439, egv439⟩ : ∃ z : Int32, z = u436 19 := ⟨_, rfl⟩
                        have hg440 : gv439.toInt = ((ik367 + 1 : Nat) : Int) := by rw [egv439]; exact hpk438
                        have b441 : kb 0 gv439 400 := kb_tok (rS_fE hE hp0 (by decide)) hlk438 hg440
                        have hTk438 : T (ik367) = 2003 := htk438.trans (by decide +kernel)
                        refine lv_if_eq (tgt := 89) hx hb dX12_readOrder_81 (by decide) (fun c442 => ?_) (fun c442 => ?_)
                        · exact kb_dj c442 kc_1 kc_0 (by decide)
                        · refine lv_aload_n hx hb dX12_readOrder_84 rfl (lv_at hl 0 rfl) ?_
                          refine lv_iconst (v := 0) hx hb dX12_readOrder_85 (by decide) ?_
                          refine kV.callV (As := [.int 0]) (rest := []) ⟨hx, hb, hml, hown, hg⟩ ((q_allRTest 8) l o r u436 a g hI 0 (kb_w kc_0 (by decide) (by decide)) N (ik367 + 1) (nk367) ob T (rS_fE hE hp0 (by decide)) (by rw [egv439.symm]; exact hg440) hlk438 hp3 (fun _ => ⟨(by rw [((eE437 20 (by decide)).trans ((eE375 20 (by decide)).trans ez371.symm))]; exact hzz371), h3k367.2⟩) (by decide +kernel)) (cwV 1 hg (kgV wt6_239 wt7_1 wp4_15 wt1_14 wt7_2) rfl rfl rfl (by decide +kernel) ⟨by decide, by decide⟩) hK hP hD hS hA mIs [] rfl (wr := []) rfl rfl rfl (fun i h => by cases h) 0 12 rfl rfl rfl hl.1 rfl (Nat.le_of_ble_eq_true rfl) dX12_readOrder_86 ⟨Nat.le_refl _, Nat.le_refl _⟩ (fun u445 H locs hw443 hP hD hS => ?_)
                          have hP : va_P D vwCl (mW K o r u445 a g) H := hP
                          have hD : va_D A (mW K o r u445 a g) := hD
                          have hI : mI u445 a := hw443.1
                          have eE446 : fE [19, 20, 21] u436 u445 := hw443.2.1
                          have hE : fE [19, 20, 21] f u445 := fE_tr hE eE446
                          obtain ⟨ik447, nk447, hgk447, hlek447, hNk447, hck447⟩ := hw443.2.2
                          rcases hck447 with ⟨-, h2k447, h3k447, hGk447⟩ | ⟨-, hbk447, hGk447⟩ | hdk447
                          · obtain ⟨gv448, egv448⟩ : ∃ z : Int32, z = u445 19 := ⟨_, rfl⟩
                            have hg449 : gv448.toInt = ((ik447 : Nat) : Int) := by rw [egv448]; exact hgk447
                            have b450 : kb 0 gv448 400 := kb_tok (rS_fE hE hp0 (by decide)) hNk447 hg449
                            obtain ⟨z451, ez451⟩ : ∃ z : Int32, z = u445 20 := ⟨_, rfl⟩
                            have hzz451 : z451.toInt = (nk447 : Int) := by rw [ez451]; exact h3k447.1
                            exact kV_ret hx hb hr hlocks hK hS dX12_readOrder_89 u445 hP hD ⟨hI, hE, ⟨ik447, nk447, (by rw [egv448.symm]; exact hg449), (Nat.le_trans (Nat.le_succ_of_le (Nat.le_trans (Nat.le_succ_of_le (Nat.le_refl i)) hlek367)) hlek447), hNk447, Or.inl ⟨h21, h2k447, ⟨(by rw [ez451.symm]; exact hzz451), h3k447.2⟩, (pi_13b hTk7 (Or.inr hTk358) (pi_17 hGk367 (pi_14n hTk376 (pi_12y hTk438 hGk447))))⟩⟩⟩
                          · obtain ⟨gv452, egv452⟩ : ∃ z : Int32, z = u445 19 := ⟨_, rfl⟩
                            have hg453 : gv452.toInt = ((ik447 : Nat) : Int) := by rw [egv452]; exact hgk447
                            have b454 : kb 0 gv452 400 := kb_tok (rS_fE hE hp0 (by decide)) hNk447 hg453
                            obtain ⟨z455, ez455⟩ : ∃ z : Int32, z = u445 21 := ⟨_, rfl⟩
                            have haz455 : z455 = a 17 (ik447) := by rw [ez455]; exact hbk447.1
                            have hnz455 : ¬ z455 = -1 := by rw [ez455]; exact hbk447.2
                            exact kV_ret hx hb hr hlocks hK hS dX12_readOrder_89 u445 hP hD ⟨hI, hE, ⟨ik447, 0, (by rw [egv452.symm]; exact hg453), (Nat.le_trans (Nat.le_succ_of_le (Nat.le_trans (Nat.le_succ_of_le (Nat.le_refl i)) hlek367)) hlek447), hNk447, Or.inr (Or.inl ⟨h21, ⟨(ez455.symm).trans haz455, (fun q => hnz455 ((ez455.symm).symm.trans q))⟩, (pi_13b hTk7 (Or.inr hTk358) (pi_17 hGk367 (pi_14n hTk376 (pi_12y hTk438 hGk447))))⟩)⟩⟩
                          · exact absurd ((eE437 21 (by decide)).trans ((eE375 21 (by decide)).trans h2k367)) hdk447.1
                      · refine k_top (z := 0) hvk438 ?_
                        obtain ⟨gv456, egv456⟩ : ∃ z : Int32, z = u436 19 := ⟨_, rfl⟩
                        have hg457 : gv456.toInt = ((ik367 : Nat) : Int) := by rw [egv456]; exact hpk438
                        have b458 : kb 0 gv456 400 := kb_tok (rS_fE hE hp0 (by decide)) hNk367 hg457
                        have hTk438 : ¬ T (ik367) = 2003 := fun q => (hnk438 ((eE375 21 (by decide)).trans h2k367)) (q.trans (by decide +kernel))
                        refine lv_if_eq (tgt := 89) hx hb dX12_readOrder_81 (by decide) (fun c459 => ?_) (fun c459 => ?_)
                        · exact kV_ret hx hb hr hlocks hK hS dX12_readOrder_89 u436 hP hD ⟨hI, hE, ⟨ik367, nk367, (by rw [egv456.symm]; exact hg457), (Nat.le_trans (Nat.le_succ_of_le (Nat.le_refl i)) hlek367), hNk367, Or.inl ⟨h21, ((eE437 21 (by decide)).trans ((eE375 21 (by decide)).trans h2k367)), ⟨(by rw [((eE437 20 (by decide)).trans ((eE375 20 (by decide)).trans ez371.symm))]; exact hzz371), h3k367.2⟩, (pi_13b hTk7 (Or.inr hTk358) (pi_17 hGk367 (pi_14n hTk376 (pi_12n hTk438))))⟩⟩⟩
                        · exact kb_nsame c459 kc_0 kc_0
                    · exact kb_nsame c433 kc_0 kc_0
                · obtain ⟨gv460, egv460⟩ : ∃ z : Int32, z = u365 19 := ⟨_, rfl⟩
                  have hg461 : gv460.toInt = ((ik367 : Nat) : Int) := by rw [egv460]; exact hgk367
                  have b462 : kb 0 gv460 400 := kb_tok (rS_fE hE hp0 (by decide)) hNk367 hg461
                  obtain ⟨z463, ez463⟩ : ∃ z : Int32, z = u365 21 := ⟨_, rfl⟩
                  have haz463 : z463 = a 17 (ik367) := by rw [ez463]; exact hbk367.1
                  have hnz463 : ¬ z463 = -1 := by rw [ez463]; exact hbk367.2
                  refine lv_goto (tgt := 60) hx hb dX12_readOrder_51 (by decide) ?_
                  refine lv_aload_n hx hb dX12_readOrder_60 rfl (lv_at hl 0 rfl) ?_
                  refine lv_bipush (v := 28) hx hb dX12_readOrder_61 (by decide) ?_
                  refine kI.callV (As := [.int 28]) (rest := []) ⟨hx, hb, hml, hown, hg⟩ (q_takes0 l o r u365 a g hI 28 (kb_w kc_28 (by decide) (by decide)) N (ik367) ob T (rS_fE hE hp0 (by decide)) (by rw [egv460.symm]; exact hg461) hNk367 hp3 (by decide +kernel)) (cwV 1 hg (kgV wt6_200 wt6_202 wp4_6 wt1_14 wt6_203) rfl rfl rfl (by decide +kernel) ⟨by decide, by decide⟩) hK hP hD hS hA mIs [] rfl (wr := []) rfl rfl rfl (fun i h => by cases h) 0 12 rfl rfl rfl hl.1 rfl (Nat.le_of_ble_eq_true rfl) dX12_readOrder_63 ⟨Nat.le_refl _, Nat.le_refl _⟩ (fun v465 u466 H locs hw464 hP hD hS => ?_)
                  have hP : va_P D vwCl (mW K o r u466 a g) H := hP
                  have hD : va_D A (mW K o r u466 a g) := hD
                  have hI : mI u466 a := hw464.2.1
                  have eE467 : fE [19] u365 u466 := hw464.2.2.1
                  have hE : fE [19, 20, 21] f u466 := fE_tr hE (fE_w (by decide) eE467)
                  obtain ⟨hvk468, hnk468, hpk468⟩ := (hw464.2.2.2).elim (fun q => absurd q.2.1 (fun q => hnz463 ((ez463.symm).symm.trans q))) (fun q => q)
                  refine k_top (z := 0) hvk468 ?_
                  obtain ⟨gv469, egv469⟩ : ∃ z : Int32, z = u466 19 := ⟨_, rfl⟩
                  have hg470 : gv469.toInt = ((ik367 : Nat) : Int) := by rw [egv469]; exact hpk468
                  have b471 : kb 0 gv469 400 := kb_tok (rS_fE hE hp0 (by decide)) hNk367 hg470
                  refine lv_if_eq (tgt := 76) hx hb dX12_readOrder_66 (by decide) (fun c472 => ?_) (fun c472 => ?_)
                  · refine lv_aload_n hx hb dX12_readOrder_76 rfl (lv_at hl 0 rfl) ?_
                    refine lv_iconst (v := 5) hx hb dX12_readOrder_77 (by decide) ?_
                    refine kI.callV (As := [.int 5]) (rest := []) ⟨hx, hb, hml, hown, hg⟩ (q_takes0 l o r u466 a g hI 5 (kb_w kc_5 (by decide) (by decide)) N (ik367) ob T (rS_fE hE hp0 (by decide)) (by rw [egv469.symm]; exact hg470) hNk367 hp3 (by decide +kernel)) (cwV 1 hg (kgV wt6_200 wt6_202 wp4_6 wt1_14 wt6_203) rfl rfl rfl (by decide +kernel) ⟨by decide, by decide⟩) hK hP hD hS hA mIs [] rfl (wr := []) rfl rfl rfl (fun i h => by cases h) 0 12 rfl rfl rfl hl.1 rfl (Nat.le_of_ble_eq_true rfl) dX12_readOrder_78 ⟨Nat.le_refl _, Nat.le_refl _⟩ (fun v474 u475 H locs hw473 hP hD hS => ?_)
                    have hP : va_P D vwCl (mW K o r u475 a g) H := hP
                    have hD : va_D A (mW K o r u475 a g) := hD
                    have hI : mI u475 a := hw473.2.1
                    have eE476 : fE [19] u466 u475 := hw473.2.2.1
                    have hE : fE [19, 20, 21] f u475 := fE_tr hE (fE_w (by decide) eE476)
                    obtain ⟨hvk477, hnk477, hpk477⟩ := (hw473.2.2.2).elim (fun q => absurd q.2.1 (fun q => hnz463 ((((eE467 21 (by decide)).trans ez463.symm)).symm.trans q))) (fun q => q)
                    refine k_top (z := 0) hvk477 ?_
                    obtain ⟨gv478, egv478⟩ : ∃ z : Int32, z = u475 19 := ⟨_, rfl⟩
                    have hg479 : gv478.toInt = ((ik367 : Nat) : Int) := by rw [egv478]; exact hpk477
                    have b480 : kb 0 gv478 400 := kb_tok (rS_fE hE hp0 (by decide)) hNk367 hg479
                    refine lv_if_eq (tgt := 89) hx hb dX12_readOrder_81 (by decide) (fun c481 => ?_) (fun c481 => ?_)
                    · exact kV_ret hx hb hr hlocks hK hS dX12_readOrder_89 u475 hP hD ⟨hI, hE, ⟨ik367, 0, (by rw [egv478.symm]; exact hg479), (Nat.le_trans (Nat.le_succ_of_le (Nat.le_refl i)) hlek367), hNk367, Or.inr (Or.inl ⟨h21, ⟨(((eE476 21 (by decide)).trans ((eE467 21 (by decide)).trans ez463.symm))).trans haz463, (fun q => hnz463 ((((eE476 21 (by decide)).trans ((eE467 21 (by decide)).trans ez463.symm))).symm.trans q))⟩, (pi_13b hTk7 (Or.inr hTk358) (pi_17f hGk367))⟩)⟩⟩
                    · exact kb_nsame c481 kc_0 kc_0
                  · exact kb_nsame c472 kc_0 kc_0
                · exact absurd ((eE357 21 (by decide)).trans ((eE225 21 (by decide)).trans ((eE6 21 (by decide)).trans h21))) hdk367.1
            · refine k_top (z := 0) hvk358 ?_
              obtain ⟨gv482, egv482⟩ : ∃ z : Int32, z = u356 19 := ⟨_, rfl⟩
              have hg483 : gv482.toInt = ((i : Nat) : Int) := by rw [egv482]; exact hpk358
              have b484 : kb 0 gv482 400 := kb_tok (rS_fE hE hp0 (by decide)) hp2 hg483
              have hTk358 : ¬ T (i) = 2020 := fun q => (hnk358 ((eE225 21 (by decide)).trans ((eE6 21 (by decide)).trans h21))) (q.trans (by decide +kernel))
              refine lv_if_eq (tgt := 54) hx hb dX12_readOrder_43 (by decide) (fun c485 => ?_) (fun c485 => ?_)
              · refine lv_aload_n hx hb dX12_readOrder_54 rfl (lv_at hl 0 rfl) ?_
                refine lv_bipush (v := 27) hx hb dX12_readOrder_55 (by decide) ?_
                refine kV.callV (As := [.int 27]) (rest := []) ⟨hx, hb, hml, hown, hg⟩ (q_must l o r u356 a g hI 27 (kb_w kc_27 (by decide) (by decide)) N (i) ob T (rS_fE hE hp0 (by decide)) (by rw [egv482.symm]; exact hg483) hp2 hp3 (by decide +kernel)) (cwV 1 hg (kgV wt6_227 wt6_229 wp4_12 wt1_14 wt6_230) rfl rfl rfl (by decide +kernel) ⟨by decide, by decide⟩) hK hP hD hS hA mIs [] rfl (wr := []) rfl rfl rfl (fun i h => by cases h) 0 12 rfl rfl rfl hl.1 rfl (Nat.le_of_ble_eq_true rfl) dX12_readOrder_57 ⟨Nat.le_refl _, Nat.le_refl _⟩ (fun u488 H locs hw486 hP hD hS => ?_)
                have hP : va_P D vwCl (mW K o r u488 a g) H := hP
                have hD : va_D A (mW K o r u488 a g) := hD
                have hI : mI u488 a := hw486.1
                have eE489 : fE [19, 21] u356 u488 := hw486.2.1
                have hE : fE [19, 20, 21] f u488 := fE_tr hE (fE_w (by decide) eE489)
                rcases hw486.2.2 with ⟨-, h2k490, hGk490, hpk490, hlk490⟩ | ⟨-, hbk490, hGk490, hpk490⟩ | hdk490
                · obtain ⟨gv491, egv491⟩ : ∃ z : Int32, z = u488 19 := ⟨_, rfl⟩
                  have hg492 : gv491.toInt = ((i + 1 : Nat) : Int) := by rw [egv491]; exact hpk490
                  have b493 : kb 0 gv491 400 := kb_tok (rS_fE hE hp0 (by decide)) hlk490 hg492
                  have hm494 : T (i) = 2021 := hGk490.trans (by decide +kernel)
                  refine lv_aload_n hx hb dX12_readOrder_60 rfl (lv_at hl 0 rfl) ?_
                  refine lv_bipush (v := 28) hx hb dX12_readOrder_61 (by decide) ?_
                  refine kI.callV (As := [.int 28]) (rest := []) ⟨hx, hb, hml, hown, hg⟩ (q_takes0 l o r u488 a g hI 28 (kb_w kc_28 (by decide) (by decide)) N (i + 1) ob T (rS_fE hE hp0 (by decide)) (by rw [egv491.symm]; exact hg492) hlk490 hp3 (by decide +kernel)) (cwV 1 hg (kgV wt6_200 wt6_202 wp4_6 wt1_14 wt6_203) rfl rfl rfl (by decide +kernel) ⟨by decide, by decide⟩) hK hP hD hS hA mIs [] rfl (wr := []) rfl rfl rfl (fun i h => by cases h) 0 12 rfl rfl rfl hl.1 rfl (Nat.le_of_ble_eq_true rfl) dX12_readOrder_63 ⟨Nat.le_refl _, Nat.le_refl _⟩ (fun v496 u497 H locs hw495 hP hD hS => ?_)
                  have hP : va_P D vwCl (mW K o r u497 a g) H := hP
                  have hD : va_D A (mW K o r u497 a g) := hD
                  have hI : mI u497 a := hw495.2.1
                  have eE498 : fE [19] u488 u497 := hw495.2.2.1
                  have hE : fE [19, 20, 21] f u497 := fE_tr hE (fE_w (by decide) eE498)
                  rcases hw495.2.2.2 with ⟨hvk499, hbk499, htk499, hpk499, hlk499⟩ | ⟨hvk499, hnk499, hpk499⟩
                  · refine k_top (z := 1) hvk499 ?_
                    obtain ⟨gv500, egv500⟩ : ∃ z : Int32, z = u497 19 := ⟨_, rfl⟩
                    have hg501 : gv500.toInt = ((i + 1 + 1 : Nat) : Int) := by rw [egv500]; exact hpk499
                    have b502 : kb 0 gv500 400 := kb_tok (rS_fE hE hp0 (by decide)) hlk499 hg501
                    have hTk499 : T (i + 1) = 2023 := htk499.trans (by decide +kernel)
                    refine lv_if_eq (tgt := 76) hx hb dX12_readOrder_66 (by decide) (fun c503 => ?_) (fun c503 => ?_)
                    · exact kb_dj c503 kc_1 kc_0 (by decide)
                    · refine lv_aload_n hx hb dX12_readOrder_69 rfl (lv_at hl 0 rfl) ?_
                      refine lv_iconst (v := 1) hx hb dX12_readOrder_70 (by decide) ?_
                      refine lv_bipush (v := 20) hx hb dX12_readOrder_71 (by decide) ?_
                      refine kV.callV (As := [.int 1, .int 20]) (rest := []) ⟨hx, hb, hml, hown, hg⟩ (q_mustNumber l o r u497 a g hI 1 20 (kb_w kc_1 (by decide) (by decide)) (kb_w kc_20 (by decide) (by decide)) N (i + 1 + 1) ob T (rS_fE hE hp0 (by decide)) (by rw [egv500.symm]; exact hg501) hlk499 hp3) (cwV 2 hg (kgV wt6_235 wt6_237 wp4_14 wt1_14 wt6_238) rfl rfl rfl (by decide +kernel) ⟨by decide, by decide⟩) hK hP hD hS hA mIs [] rfl (wr := []) rfl rfl rfl (fun i h => by cases h) 0 12 rfl rfl rfl hl.1 rfl (Nat.le_of_ble_eq_true rfl) dX12_readOrder_73 ⟨Nat.le_refl _, Nat.le_refl _⟩ (fun u506 H locs hw504 hP hD hS => ?_)
                      have hP : va_P D vwCl (mW K o r u506 a g) H := hP
                      have hD : va_D A (mW K o r u506 a g) := hD
                      have hI : mI u506 a := hw504.1
                      have eE507 : fE [19, 21] u497 u506 := hw504.2.1
                      have hE : fE [19, 20, 21] f u506 := fE_tr hE (fE_w (by decide) eE507)
                      rcases hw504.2.2 with ⟨-, h2k508, hGk508, hpk508, hlk508⟩ | ⟨-, hbk508, hGk508, hpk508⟩ | hdk508
                      · obtain ⟨gv509, egv509⟩ : ∃ z : Int32, z = u506 19 := ⟨_, rfl⟩
                        have hg510 : gv509.toInt = ((i + 1 + 1 + 1 : Nat) : Int) := by rw [egv509]; exact hpk508
                        have b511 : kb 0 gv509 400 := kb_tok (rS_fE hE hp0 (by decide)) hlk508 hg510
                        have hm512 : pInr (T (i + 1 + 1)) 1 20 = true := by have w1 := hGk508; rw [show (1 : Int32).toInt = 1 from by decide +kernel, show (20 : Int32).toInt = 20 from by decide +kernel] at w1; exact w1
                        refine lv_aload_n hx hb dX12_readOrder_76 rfl (lv_at hl 0 rfl) ?_
                        refine lv_iconst (v := 5) hx hb dX12_readOrder_77 (by decide) ?_
                        refine kI.callV (As := [.int 5]) (rest := []) ⟨hx, hb, hml, hown, hg⟩ (q_takes0 l o r u506 a g hI 5 (kb_w kc_5 (by decide) (by decide)) N (i + 1 + 1 + 1) ob T (rS_fE hE hp0 (by decide)) (by rw [egv509.symm]; exact hg510) hlk508 hp3 (by decide +kernel)) (cwV 1 hg (kgV wt6_200 wt6_202 wp4_6 wt1_14 wt6_203) rfl rfl rfl (by decide +kernel) ⟨by decide, by decide⟩) hK hP hD hS hA mIs [] rfl (wr := []) rfl rfl rfl (fun i h => by cases h) 0 12 rfl rfl rfl hl.1 rfl (Nat.le_of_ble_eq_true rfl) dX12_readOrder_78 ⟨Nat.le_refl _, Nat.le_refl _⟩ (fun v514 u515 H locs hw513 hP hD hS => ?_)
                        have hP : va_P D vwCl (mW K o r u515 a g) H := hP
                        have hD : va_D A (mW K o r u515 a g) := hD
                        have hI : mI u515 a := hw513.2.1
                        have eE516 : fE [19] u506 u515 := hw513.2.2.1
                        have hE : fE [19, 20, 21] f u515 := fE_tr hE (fE_w (by decide) eE516)
                        rcases hw513.2.2.2 with ⟨hvk517, hbk517, htk517, hpk517, hlk517⟩ | ⟨hvk517, hnk517, hpk517⟩
                        · refine k_top (z := 1) hvk517 ?_
                          obtain ⟨gv518, egv518⟩ : ∃ z : Int32, z = u515 19 := ⟨_, rfl⟩
                          have hg519 : gv518.toInt = ((i + 1 + 1 + 1 + 1 : Nat) : Int) := by rw [egv518]; exact hpk517
                          have b520 : kb 0 gv518 400 := kb_tok (rS_fE hE hp0 (by decide)) hlk517 hg519
                          have hTk517 : T (i + 1 + 1 + 1) = 2003 := htk517.trans (by decide +kernel)
                          refine lv_if_eq (tgt := 89) hx hb dX12_readOrder_81 (by decide) (fun c521 => ?_) (fun c521 => ?_)
                          · exact kb_dj c521 kc_1 kc_0 (by decide)
                          · refine lv_aload_n hx hb dX12_readOrder_84 rfl (lv_at hl 0 rfl) ?_
                            refine lv_iconst (v := 0) hx hb dX12_readOrder_85 (by decide) ?_
                            refine kV.callV (As := [.int 0]) (rest := []) ⟨hx, hb, hml, hown, hg⟩ ((q_allRTest 8) l o r u515 a g hI 0 (kb_w kc_0 (by decide) (by decide)) N (i + 1 + 1 + 1 + 1) (n) ob T (rS_fE hE hp0 (by decide)) (by rw [egv518.symm]; exact hg519) hlk517 hp3 (fun _ => ⟨(by rw [((eE516 20 (by decide)).trans ((eE507 20 (by decide)).trans ((eE498 20 (by decide)).trans ((eE489 20 (by decide)).trans ((eE357 20 (by decide)).trans ((eE225 20 (by decide)).trans ((eE6 20 (by decide)).trans ec20.symm)))))))]; exact hn20), hl50⟩) (by decide +kernel)) (cwV 1 hg (kgV wt6_239 wt7_1 wp4_15 wt1_14 wt7_2) rfl rfl rfl (by decide +kernel) ⟨by decide, by decide⟩) hK hP hD hS hA mIs [] rfl (wr := []) rfl rfl rfl (fun i h => by cases h) 0 12 rfl rfl rfl hl.1 rfl (Nat.le_of_ble_eq_true rfl) dX12_readOrder_86 ⟨Nat.le_refl _, Nat.le_refl _⟩ (fun u524 H locs hw522 hP hD hS => ?_)
                            have hP : va_P D vwCl (mW K o r u524 a g) H := hP
                            have hD : va_D A (mW K o r u524 a g) := hD
                            have hI : mI u524 a := hw522.1
                            have eE525 : fE [19, 20, 21] u515 u524 := hw522.2.1
                            have hE : fE [19, 20, 21] f u524 := fE_tr hE eE525
                            obtain ⟨ik526, nk526, hgk526, hlek526, hNk526, hck526⟩ := hw522.2.2
                            rcases hck526 with ⟨-, h2k526, h3k526, hGk526⟩ | ⟨-, hbk526, hGk526⟩ | hdk526
                            · obtain ⟨gv527, egv527⟩ : ∃ z : Int32, z = u524 19 := ⟨_, rfl⟩
                              have hg528 : gv527.toInt = ((ik526 : Nat) : Int) := by rw [egv527]; exact hgk526
                              have b529 : kb 0 gv527 400 := kb_tok (rS_fE hE hp0 (by decide)) hNk526 hg528
                              obtain ⟨z530, ez530⟩ : ∃ z : Int32, z = u524 20 := ⟨_, rfl⟩
                              have hzz530 : z530.toInt = (nk526 : Int) := by rw [ez530]; exact h3k526.1
                              exact kV_ret hx hb hr hlocks hK hS dX12_readOrder_89 u524 hP hD ⟨hI, hE, ⟨ik526, nk526, (by rw [egv527.symm]; exact hg528), (Nat.le_trans (Nat.le_succ_of_le (Nat.le_succ_of_le (Nat.le_succ_of_le (Nat.le_succ_of_le (Nat.le_refl i))))) hlek526), hNk526, Or.inl ⟨h21, h2k526, ⟨(by rw [ez530.symm]; exact hzz530), h3k526.2⟩, (pi_13c hTk7 (fun q => q.elim hTk226 hTk358) hm494 (pi_14y hTk499 hm512 (pi_12y hTk517 hGk526)))⟩⟩⟩
                            · obtain ⟨gv531, egv531⟩ : ∃ z : Int32, z = u524 19 := ⟨_, rfl⟩
                              have hg532 : gv531.toInt = ((ik526 : Nat) : Int) := by rw [egv531]; exact hgk526
                              have b533 : kb 0 gv531 400 := kb_tok (rS_fE hE hp0 (by decide)) hNk526 hg532
                              obtain ⟨z534, ez534⟩ : ∃ z : Int32, z = u524 21 := ⟨_, rfl⟩
                              have haz534 : z534 = a 17 (ik526) := by rw [ez534]; exact hbk526.1
                              have hnz534 : ¬ z534 = -1 := by rw [ez534]; exact hbk526.2
                              exact kV_ret hx hb hr hlocks hK hS dX12_readOrder_89 u524 hP hD ⟨hI, hE, ⟨ik526, 0, (by rw [egv531.symm]; exact hg532), (Nat.le_trans (Nat.le_succ_of_le (Nat.le_succ_of_le (Nat.le_succ_of_le (Nat.le_succ_of_le (Nat.le_refl i))))) hlek526), hNk526, Or.inr (Or.inl ⟨h21, ⟨(ez534.symm).trans haz534, (fun q => hnz534 ((ez534.symm).symm.trans q))⟩, (pi_13c hTk7 (fun q => q.elim hTk226 hTk358) hm494 (pi_14y hTk499 hm512 (pi_12y hTk517 hGk526)))⟩)⟩⟩
                            · exact absurd ((eE516 21 (by decide)).trans h2k508) hdk526.1
                        · refine k_top (z := 0) hvk517 ?_
                          obtain ⟨gv535, egv535⟩ : ∃ z : Int32, z = u515 19 := ⟨_, rfl⟩
                          have hg536 : gv535.toInt = ((i + 1 + 1 + 1 : Nat) : Int) := by rw [egv535]; exact hpk517
                          have b537 : kb 0 gv535 400 := kb_tok (rS_fE hE hp0 (by decide)) hlk508 hg536
                          have hTk517 : ¬ T (i + 1 + 1 + 1) = 2003 := fun q => (hnk517 h2k508) (q.trans (by decide +kernel))
                          refine lv_if_eq (tgt := 89) hx hb dX12_readOrder_81 (by decide) (fun c538 => ?_) (fun c538 => ?_)
                          · exact kV_ret hx hb hr hlocks hK hS dX12_readOrder_89 u515 hP hD ⟨hI, hE, ⟨i + 1 + 1 + 1, n, (by rw [egv535.symm]; exact hg536), (Nat.le_succ_of_le (Nat.le_succ_of_le (Nat.le_succ_of_le (Nat.le_refl i)))), hlk508, Or.inl ⟨h21, ((eE516 21 (by decide)).trans h2k508), ⟨(by rw [((eE516 20 (by decide)).trans ((eE507 20 (by decide)).trans ((eE498 20 (by decide)).trans ((eE489 20 (by decide)).trans ((eE357 20 (by decide)).trans ((eE225 20 (by decide)).trans ((eE6 20 (by decide)).trans ec20.symm)))))))]; exact hn20), hl50⟩, (pi_13c hTk7 (fun q => q.elim hTk226 hTk358) hm494 (pi_14y hTk499 hm512 (pi_12n hTk517)))⟩⟩⟩
                          · exact kb_nsame c538 kc_0 kc_0
                      · obtain ⟨z539, ez539⟩ : ∃ z : Int32, z = u506 21 := ⟨_, rfl⟩
                        have haz539 : z539 = a 17 (i + 1 + 1) := by rw [ez539]; exact hbk508.1
                        have hnz539 : ¬ z539 = -1 := by rw [ez539]; exact hbk508.2
                        obtain ⟨gv540, egv540⟩ : ∃ z : Int32, z = u506 19 := ⟨_, rfl⟩
                        have hg541 : gv540.toInt = ((i + 1 + 1 : Nat) : Int) := by rw [egv540]; exact hpk508
                        have b542 : kb 0 gv540 400 := kb_tok (rS_fE hE hp0 (by decide)) hlk499 hg541
                        have hm543 : pInr (T (i + 1 + 1)) 1 20 = false := by have w1 := hGk508; rw [show (1 : Int32).toInt = 1 from by decide +kernel, show (20 : Int32).toInt = 20 from by decide +kernel] at w1; exact w1
                        refine lv_aload_n hx hb dX12_readOrder_76 rfl (lv_at hl 0 rfl) ?_
                        refine lv_iconst (v := 5) hx hb dX12_readOrder_77 (by decide) ?_
                        refine kI.callV (As := [.int 5]) (rest := []) ⟨hx, hb, hml, hown, hg⟩ (q_takes0 l o r u506 a g hI 5 (kb_w kc_5 (by decide) (by decide)) N (i + 1 + 1) ob T (rS_fE hE hp0 (by decide)) (by rw [egv540.symm]; exact hg541) hlk499 hp3 (by decide +kernel)) (cwV 1 hg (kgV wt6_200 wt6_202 wp4_6 wt1_14 wt6_203) rfl rfl rfl (by decide +kernel) ⟨by decide, by decide⟩) hK hP hD hS hA mIs [] rfl (wr := []) rfl rfl rfl (fun i h => by cases h) 0 12 rfl rfl rfl hl.1 rfl (Nat.le_of_ble_eq_true rfl) dX12_readOrder_78 ⟨Nat.le_refl _, Nat.le_refl _⟩ (fun v545 u546 H locs hw544 hP hD hS => ?_)
                        have hP : va_P D vwCl (mW K o r u546 a g) H := hP
                        have hD : va_D A (mW K o r u546 a g) := hD
                        have hI : mI u546 a := hw544.2.1
                        have eE547 : fE [19] u506 u546 := hw544.2.2.1
                        have hE : fE [19, 20, 21] f u546 := fE_tr hE (fE_w (by decide) eE547)
                        obtain ⟨hvk548, hnk548, hpk548⟩ := (hw544.2.2.2).elim (fun q => absurd q.2.1 (fun q => hnz539 ((ez539.symm).symm.trans q))) (fun q => q)
                        refine k_top (z := 0) hvk548 ?_
                        obtain ⟨gv549, egv549⟩ : ∃ z : Int32, z = u546 19 := ⟨_, rfl⟩
                        have hg550 : gv549.toInt = ((i + 1 + 1 : Nat) : Int) := by rw [egv549]; exact hpk548
                        have b551 : kb 0 gv549 400 := kb_tok (rS_fE hE hp0 (by decide)) hlk499 hg550
                        refine lv_if_eq (tgt := 89) hx hb dX12_readOrder_81 (by decide) (fun c552 => ?_) (fun c552 => ?_)
                        · exact kV_ret hx hb hr hlocks hK hS dX12_readOrder_89 u546 hP hD ⟨hI, hE, ⟨i + 1 + 1, 0, (by rw [egv549.symm]; exact hg550), (Nat.le_succ_of_le (Nat.le_succ_of_le (Nat.le_refl i))), hlk499, Or.inr (Or.inl ⟨h21, ⟨(((eE547 21 (by decide)).trans ez539.symm)).trans haz539, (fun q => hnz539 ((((eE547 21 (by decide)).trans ez539.symm)).symm.trans q))⟩, (pi_13c hTk7 (fun q => q.elim hTk226 hTk358) hm494 (pi_14f hTk499 hm543))⟩)⟩⟩
                        · exact kb_nsame c552 kc_0 kc_0
                      · exact absurd ((eE498 21 (by decide)).trans h2k490) hdk508.1
                  · refine k_top (z := 0) hvk499 ?_
                    obtain ⟨gv553, egv553⟩ : ∃ z : Int32, z = u497 19 := ⟨_, rfl⟩
                    have hg554 : gv553.toInt = ((i + 1 : Nat) : Int) := by rw [egv553]; exact hpk499
                    have b555 : kb 0 gv553 400 := kb_tok (rS_fE hE hp0 (by decide)) hlk490 hg554
                    have hTk499 : ¬ T (i + 1) = 2023 := fun q => (hnk499 h2k490) (q.trans (by decide +kernel))
                    refine lv_if_eq (tgt := 76) hx hb dX12_readOrder_66 (by decide) (fun c556 => ?_) (fun c556 => ?_)
                    · refine lv_aload_n hx hb dX12_readOrder_76 rfl (lv_at hl 0 rfl) ?_
                      refine lv_iconst (v := 5) hx hb dX12_readOrder_77 (by decide) ?_
                      refine kI.callV (As := [.int 5]) (rest := []) ⟨hx, hb, hml, hown, hg⟩ (q_takes0 l o r u497 a g hI 5 (kb_w kc_5 (by decide) (by decide)) N (i + 1) ob T (rS_fE hE hp0 (by decide)) (by rw [egv553.symm]; exact hg554) hlk490 hp3 (by decide +kernel)) (cwV 1 hg (kgV wt6_200 wt6_202 wp4_6 wt1_14 wt6_203) rfl rfl rfl (by decide +kernel) ⟨by decide, by decide⟩) hK hP hD hS hA mIs [] rfl (wr := []) rfl rfl rfl (fun i h => by cases h) 0 12 rfl rfl rfl hl.1 rfl (Nat.le_of_ble_eq_true rfl) dX12_readOrder_78 ⟨Nat.le_refl _, Nat.le_refl _⟩ (fun v558 u559 H locs hw557 hP hD hS => ?_)
                      have hP : va_P D vwCl (mW K o r u559 a g) H := hP
                      have hD : va_D A (mW K o r u559 a g) := hD
                      have hI : mI u559 a := hw557.2.1
                      have eE560 : fE [19] u497 u559 := hw557.2.2.1
                      have hE : fE [19, 20, 21] f u559 := fE_tr hE (fE_w (by decide) eE560)
                      rcases hw557.2.2.2 with ⟨hvk561, hbk561, htk561, hpk561, hlk561⟩ | ⟨hvk561, hnk561, hpk561⟩
                      · refine k_top (z := 1) hvk561 ?_
                        obtain ⟨gv562, egv562⟩ : ∃ z : Int32, z = u559 19 := ⟨_, rfl⟩
                        have hg563 : gv562.toInt = ((i + 1 + 1 : Nat) : Int) := by rw [egv562]; exact hpk561
                        have b564 : kb 0 gv562 400 := kb_tok (rS_fE hE hp0 (by decide)) hlk561 hg563
                        have hTk561 : T (i + 1) = 2003 := htk561.trans (by decide +kernel)
                        refine lv_if_eq (tgt := 89) hx hb dX12_readOrder_81 (by decide) (fun c565 => ?_) (fun c565 => ?_)
                        · exact kb_dj c565 kc_1 kc_0 (by decide)
                        · refine lv_aload_n hx hb dX12_readOrder_84 rfl (lv_at hl 0 rfl) ?_
                          refine lv_iconst (v := 0) hx hb dX12_readOrder_85 (by decide) ?_
                          refine kV.callV (As := [.int 0]) (rest := []) ⟨hx, hb, hml, hown, hg⟩ ((q_allRTest 8) l o r u559 a g hI 0 (kb_w kc_0 (by decide) (by decide)) N (i + 1 + 1) (n) ob T (rS_fE hE hp0 (by decide)) (by rw [egv562.symm]; exact hg563) hlk561 hp3 (fun _ => ⟨(by rw [((eE560 20 (by decide)).trans ((eE498 20 (by decide)).trans ((eE489 20 (by decide)).trans ((eE357 20 (by decide)).trans ((eE225 20 (by decide)).trans ((eE6 20 (by decide)).trans ec20.symm))))))]; exact hn20), hl50⟩) (by decide +kernel)) (cwV 1 hg (kgV wt6_239 wt7_1 wp4_15 wt1_14 wt7_2) rfl rfl rfl (by decide +kernel) ⟨by decide, by decide⟩) hK hP hD hS hA mIs [] rfl (wr := []) rfl rfl rfl (fun i h => by cases h) 0 12 rfl rfl rfl hl.1 rfl (Nat.le_of_ble_eq_true rfl) dX12_readOrder_86 ⟨Nat.le_refl _, Nat.le_refl _⟩ (fun u568 H locs hw566 hP hD hS => ?_)
                          have hP : va_P D vwCl (mW K o r u568 a g) H := hP
                          have hD : va_D A (mW K o r u568 a g) := hD
                          have hI : mI u568 a := hw566.1
                          have eE569 : fE [19, 20, 21] u559 u568 := hw566.2.1
                          have hE : fE [19, 20, 21] f u568 := fE_tr hE eE569
                          obtain ⟨ik570, nk570, hgk570, hlek570, hNk570, hck570⟩ := hw566.2.2
                          rcases hck570 with ⟨-, h2k570, h3k570, hGk570⟩ | ⟨-, hbk570, hGk570⟩ | hdk570
                          · obtain ⟨gv571, egv571⟩ : ∃ z : Int32, z = u568 19 := ⟨_, rfl⟩
                            have hg572 : gv571.toInt = ((ik570 : Nat) : Int) := by rw [egv571]; exact hgk570
                            have b573 : kb 0 gv571 400 := kb_tok (rS_fE hE hp0 (by decide)) hNk570 hg572
                            obtain ⟨z574, ez574⟩ : ∃ z : Int32, z = u568 20 := ⟨_, rfl⟩
                            have hzz574 : z574.toInt = (nk570 : Int) := by rw [ez574]; exact h3k570.1
                            exact kV_ret hx hb hr hlocks hK hS dX12_readOrder_89 u568 hP hD ⟨hI, hE, ⟨ik570, nk570, (by rw [egv571.symm]; exact hg572), (Nat.le_trans (Nat.le_succ_of_le (Nat.le_succ_of_le (Nat.le_refl i))) hlek570), hNk570, Or.inl ⟨h21, h2k570, ⟨(by rw [ez574.symm]; exact hzz574), h3k570.2⟩, (pi_13c hTk7 (fun q => q.elim hTk226 hTk358) hm494 (pi_14n hTk499 (pi_12y hTk561 hGk570)))⟩⟩⟩
                          · obtain ⟨gv575, egv575⟩ : ∃ z : Int32, z = u568 19 := ⟨_, rfl⟩
                            have hg576 : gv575.toInt = ((ik570 : Nat) : Int) := by rw [egv575]; exact hgk570
                            have b577 : kb 0 gv575 400 := kb_tok (rS_fE hE hp0 (by decide)) hNk570 hg576
                            obtain ⟨z578, ez578⟩ : ∃ z : Int32, z = u568 21 := ⟨_, rfl⟩
                            have haz578 : z578 = a 17 (ik570) := by rw [ez578]; exact hbk570.1
                            have hnz578 : ¬ z578 = -1 := by rw [ez578]; exact hbk570.2
                            exact kV_ret hx hb hr hlocks hK hS dX12_readOrder_89 u568 hP hD ⟨hI, hE, ⟨ik570, 0, (by rw [egv575.symm]; exact hg576), (Nat.le_trans (Nat.le_succ_of_le (Nat.le_succ_of_le (Nat.le_refl i))) hlek570), hNk570, Or.inr (Or.inl ⟨h21, ⟨(ez578.symm).trans haz578, (fun q => hnz578 ((ez578.symm).symm.trans q))⟩, (pi_13c hTk7 (fun q => q.elim hTk226 hTk358) hm494 (pi_14n hTk499 (pi_12y hTk561 hGk570)))⟩)⟩⟩
                          · exact absurd ((eE560 21 (by decide)).trans ((eE498 21 (by decide)).trans h2k490)) hdk570.1
                      · refine k_top (z := 0) hvk561 ?_
                        obtain ⟨gv579, egv579⟩ : ∃ z : Int32, z = u559 19 := ⟨_, rfl⟩
                        have hg580 : gv579.toInt = ((i + 1 : Nat) : Int) := by rw [egv579]; exact hpk561
                        have b581 : kb 0 gv579 400 := kb_tok (rS_fE hE hp0 (by decide)) hlk490 hg580
                        have hTk561 : ¬ T (i + 1) = 2003 := fun q => (hnk561 ((eE498 21 (by decide)).trans h2k490)) (q.trans (by decide +kernel))
                        refine lv_if_eq (tgt := 89) hx hb dX12_readOrder_81 (by decide) (fun c582 => ?_) (fun c582 => ?_)
                        · exact kV_ret hx hb hr hlocks hK hS dX12_readOrder_89 u559 hP hD ⟨hI, hE, ⟨i + 1, n, (by rw [egv579.symm]; exact hg580), (Nat.le_succ_of_le (Nat.le_refl i)), hlk490, Or.inl ⟨h21, ((eE560 21 (by decide)).trans ((eE498 21 (by decide)).trans h2k490)), ⟨(by rw [((eE560 20 (by decide)).trans ((eE498 20 (by decide)).trans ((eE489 20 (by decide)).trans ((eE357 20 (by decide)).trans ((eE225 20 (by decide)).trans ((eE6 20 (by decide)).trans ec20.symm))))))]; exact hn20), hl50⟩, (pi_13c hTk7 (fun q => q.elim hTk226 hTk358) hm494 (pi_14n hTk499 (pi_12n hTk561)))⟩⟩⟩
                        · exact kb_nsame c582 kc_0 kc_0
                    · exact kb_nsame c556 kc_0 kc_0
                · obtain ⟨z583, ez583⟩ : ∃ z : Int32, z = u488 21 := ⟨_, rfl⟩
                  have haz583 : z583 = a 17 (i) := by rw [ez583]; exact hbk490.1
                  have hnz583 : ¬ z583 = -1 := by rw [ez583]; exact hbk490.2
                  obtain ⟨gv584, egv584⟩ : ∃ z : Int32, z = u488 19 := ⟨_, rfl⟩
                  have hg585 : gv584.toInt = ((i : Nat) : Int) := by rw [egv584]; exact hpk490
                  have b586 : kb 0 gv584 400 := kb_tok (rS_fE hE hp0 (by decide)) hp2 hg585
                  have hm587 : ¬ T (i) = 2021 := fun q => hGk490 (q.trans (by decide +kernel))
                  refine lv_aload_n hx hb dX12_readOrder_60 rfl (lv_at hl 0 rfl) ?_
                  refine lv_bipush (v := 28) hx hb dX12_readOrder_61 (by decide) ?_
                  refine kI.callV (As := [.int 28]) (rest := []) ⟨hx, hb, hml, hown, hg⟩ (q_takes0 l o r u488 a g hI 28 (kb_w kc_28 (by decide) (by decide)) N (i) ob T (rS_fE hE hp0 (by decide)) (by rw [egv584.symm]; exact hg585) hp2 hp3 (by decide +kernel)) (cwV 1 hg (kgV wt6_200 wt6_202 wp4_6 wt1_14 wt6_203) rfl rfl rfl (by decide +kernel) ⟨by decide, by decide⟩) hK hP hD hS hA mIs [] rfl (wr := []) rfl rfl rfl (fun i h => by cases h) 0 12 rfl rfl rfl hl.1 rfl (Nat.le_of_ble_eq_true rfl) dX12_readOrder_63 ⟨Nat.le_refl _, Nat.le_refl _⟩ (fun v589 u590 H locs hw588 hP hD hS => ?_)
                  have hP : va_P D vwCl (mW K o r u590 a g) H := hP
                  have hD : va_D A (mW K o r u590 a g) := hD
                  have hI : mI u590 a := hw588.2.1
                  have eE591 : fE [19] u488 u590 := hw588.2.2.1
                  have hE : fE [19, 20, 21] f u590 := fE_tr hE (fE_w (by decide) eE591)
                  obtain ⟨hvk592, hnk592, hpk592⟩ := (hw588.2.2.2).elim (fun q => absurd q.2.1 (fun q => hnz583 ((ez583.symm).symm.trans q))) (fun q => q)
                  refine k_top (z := 0) hvk592 ?_
                  obtain ⟨gv593, egv593⟩ : ∃ z : Int32, z = u590 19 := ⟨_, rfl⟩
                  have hg594 : gv593.toInt = ((i : Nat) : Int) := by rw [egv593]; exact hpk592
                  have b595 : kb 0 gv593 400 := kb_tok (rS_fE hE hp0 (by decide)) hp2 hg594
                  refine lv_if_eq (tgt := 76) hx hb dX12_readOrder_66 (by decide) (fun c596 => ?_) (fun c596 => ?_)
                  · refine lv_aload_n hx hb dX12_readOrder_76 rfl (lv_at hl 0 rfl) ?_
                    refine lv_iconst (v := 5) hx hb dX12_readOrder_77 (by decide) ?_
                    refine kI.callV (As := [.int 5]) (rest := []) ⟨hx, hb, hml, hown, hg⟩ (q_takes0 l o r u590 a g hI 5 (kb_w kc_5 (by decide) (by decide)) N (i) ob T (rS_fE hE hp0 (by decide)) (by rw [egv593.symm]; exact hg594) hp2 hp3 (by decide +kernel)) (cwV 1 hg (kgV wt6_200 wt6_202 wp4_6 wt1_14 wt6_203) rfl rfl rfl (by decide +kernel) ⟨by decide, by decide⟩) hK hP hD hS hA mIs [] rfl (wr := []) rfl rfl rfl (fun i h => by cases h) 0 12 rfl rfl rfl hl.1 rfl (Nat.le_of_ble_eq_true rfl) dX12_readOrder_78 ⟨Nat.le_refl _, Nat.le_refl _⟩ (fun v598 u599 H locs hw597 hP hD hS => ?_)
                    have hP : va_P D vwCl (mW K o r u599 a g) H := hP
                    have hD : va_D A (mW K o r u599 a g) := hD
                    have hI : mI u599 a := hw597.2.1
                    have eE600 : fE [19] u590 u599 := hw597.2.2.1
                    have hE : fE [19, 20, 21] f u599 := fE_tr hE (fE_w (by decide) eE600)
                    obtain ⟨hvk601, hnk601, hpk601⟩ := (hw597.2.2.2).elim (fun q => absurd q.2.1 (fun q => hnz583 ((((eE591 21 (by decide)).trans ez583.symm)).symm.trans q))) (fun q => q)
                    refine k_top (z := 0) hvk601 ?_
                    obtain ⟨gv602, egv602⟩ : ∃ z : Int32, z = u599 19 := ⟨_, rfl⟩
                    have hg603 : gv602.toInt = ((i : Nat) : Int) := by rw [egv602]; exact hpk601
                    have b604 : kb 0 gv602 400 := kb_tok (rS_fE hE hp0 (by decide)) hp2 hg603
                    refine lv_if_eq (tgt := 89) hx hb dX12_readOrder_81 (by decide) (fun c605 => ?_) (fun c605 => ?_)
                    · exact kV_ret hx hb hr hlocks hK hS dX12_readOrder_89 u599 hP hD ⟨hI, hE, ⟨i, 0, (by rw [egv602.symm]; exact hg603), (Nat.le_refl i), hp2, Or.inr (Or.inl ⟨h21, ⟨(((eE600 21 (by decide)).trans ((eE591 21 (by decide)).trans ez583.symm))).trans haz583, (fun q => hnz583 ((((eE600 21 (by decide)).trans ((eE591 21 (by decide)).trans ez583.symm))).symm.trans q))⟩, (pi_13x hTk7 (fun q => q.elim hTk226 hTk358) hm587)⟩)⟩⟩
                    · exact kb_nsame c605 kc_0 kc_0
                  · exact kb_nsame c596 kc_0 kc_0
                · exact absurd ((eE357 21 (by decide)).trans ((eE225 21 (by decide)).trans ((eE6 21 (by decide)).trans h21))) hdk490.1
              · exact kb_nsame c485 kc_0 kc_0
      · exact kb_nsame c221 kc_0 kc_0
  · obtain ⟨c21, ec21⟩ : ∃ z : Int32, z = f 21 := ⟨_, rfl⟩
    have hn21 : ¬ c21 = -1 := by rw [ec21]; exact h21
    refine lv_aload_n hx hb dX12_readOrder_0 rfl (lv_at hl 0 rfl) ?_
    refine lv_bipush (v := 23) hx hb dX12_readOrder_1 (by decide) ?_
    refine kI.callV (As := [.int 23]) (rest := []) ⟨hx, hb, hml, hown, hg⟩ (q_takes0 l o r f a g hI 23 (kb_w kc_23 (by decide) (by decide)) N (i) ob T (rS_fE hE hp0 (by decide)) (by rw [ec19.symm]; exact hg0) hp2 hp3 (by decide +kernel)) (cwV 1 hg (kgV wt6_200 wt6_202 wp4_6 wt1_14 wt6_203) rfl rfl rfl (by decide +kernel) ⟨by decide, by decide⟩) hK hP hD hS hA mIs [] rfl (wr := []) rfl rfl rfl (fun i h => by cases h) 0 12 rfl rfl rfl hl.1 rfl (Nat.le_of_ble_eq_true rfl) dX12_readOrder_3 ⟨Nat.le_refl _, Nat.le_refl _⟩ (fun v607 u608 H locs hw606 hP hD hS => ?_)
    have hP : va_P D vwCl (mW K o r u608 a g) H := hP
    have hD : va_D A (mW K o r u608 a g) := hD
    have hI : mI u608 a := hw606.2.1
    have eE609 : fE [19] f u608 := hw606.2.2.1
    have hE : fE [19, 20, 21] f u608 := fE_tr hE (fE_w (by decide) eE609)
    obtain ⟨hvk610, hnk610, hpk610⟩ := (hw606.2.2.2).elim (fun q => absurd q.2.1 (fun q => hn21 ((ec21.symm).symm.trans q))) (fun q => q)
    refine k_top (z := 0) hvk610 ?_
    obtain ⟨gv611, egv611⟩ : ∃ z : Int32, z = u608 19 := ⟨_, rfl⟩
    have hg612 : gv611.toInt = ((i : Nat) : Int) := by rw [egv611]; exact hpk610
    have b613 : kb 0 gv611 400 := kb_tok (rS_fE hE hp0 (by decide)) hp2 hg612
    refine lv_if_eq (tgt := 28) hx hb dX12_readOrder_6 (by decide) (fun c614 => ?_) (fun c614 => ?_)
    · refine lv_aload_n hx hb dX12_readOrder_28 rfl (lv_at hl 0 rfl) ?_
      refine lv_bipush (v := 25) hx hb dX12_readOrder_29 (by decide) ?_
      refine kI.callV (As := [.int 25]) (rest := []) ⟨hx, hb, hml, hown, hg⟩ (q_takes0 l o r u608 a g hI 25 (kb_w kc_25 (by decide) (by decide)) N (i) ob T (rS_fE hE hp0 (by decide)) (by rw [egv611.symm]; exact hg612) hp2 hp3 (by decide +kernel)) (cwV 1 hg (kgV wt6_200 wt6_202 wp4_6 wt1_14 wt6_203) rfl rfl rfl (by decide +kernel) ⟨by decide, by decide⟩) hK hP hD hS hA mIs [] rfl (wr := []) rfl rfl rfl (fun i h => by cases h) 0 12 rfl rfl rfl hl.1 rfl (Nat.le_of_ble_eq_true rfl) dX12_readOrder_31 ⟨Nat.le_refl _, Nat.le_refl _⟩ (fun v616 u617 H locs hw615 hP hD hS => ?_)
      have hP : va_P D vwCl (mW K o r u617 a g) H := hP
      have hD : va_D A (mW K o r u617 a g) := hD
      have hI : mI u617 a := hw615.2.1
      have eE618 : fE [19] u608 u617 := hw615.2.2.1
      have hE : fE [19, 20, 21] f u617 := fE_tr hE (fE_w (by decide) eE618)
      obtain ⟨hvk619, hnk619, hpk619⟩ := (hw615.2.2.2).elim (fun q => absurd q.2.1 (fun q => hn21 ((((eE609 21 (by decide)).trans ec21.symm)).symm.trans q))) (fun q => q)
      refine k_top (z := 0) hvk619 ?_
      obtain ⟨gv620, egv620⟩ : ∃ z : Int32, z = u617 19 := ⟨_, rfl⟩
      have hg621 : gv620.toInt = ((i : Nat) : Int) := by rw [egv620]; exact hpk619
      have b622 : kb 0 gv620 400 := kb_tok (rS_fE hE hp0 (by decide)) hp2 hg621
      refine lv_if_ne (tgt := 46) hx hb dX12_readOrder_34 (by decide) (fun c623 => ?_) (fun c623 => ?_)
      · exact kb_nsame c623 kc_0 kc_0
      · refine lv_aload_n hx hb dX12_readOrder_37 rfl (lv_at hl 0 rfl) ?_
        refine lv_bipush (v := 26) hx hb dX12_readOrder_38 (by decide) ?_
        refine kI.callV (As := [.int 26]) (rest := []) ⟨hx, hb, hml, hown, hg⟩ (q_takes0 l o r u617 a g hI 26 (kb_w kc_26 (by decide) (by decide)) N (i) ob T (rS_fE hE hp0 (by decide)) (by rw [egv620.symm]; exact hg621) hp2 hp3 (by decide +kernel)) (cwV 1 hg (kgV wt6_200 wt6_202 wp4_6 wt1_14 wt6_203) rfl rfl rfl (by decide +kernel) ⟨by decide, by decide⟩) hK hP hD hS hA mIs [] rfl (wr := []) rfl rfl rfl (fun i h => by cases h) 0 12 rfl rfl rfl hl.1 rfl (Nat.le_of_ble_eq_true rfl) dX12_readOrder_40 ⟨Nat.le_refl _, Nat.le_refl _⟩ (fun v625 u626 H locs hw624 hP hD hS => ?_)
        have hP : va_P D vwCl (mW K o r u626 a g) H := hP
        have hD : va_D A (mW K o r u626 a g) := hD
        have hI : mI u626 a := hw624.2.1
        have eE627 : fE [19] u617 u626 := hw624.2.2.1
        have hE : fE [19, 20, 21] f u626 := fE_tr hE (fE_w (by decide) eE627)
        obtain ⟨hvk628, hnk628, hpk628⟩ := (hw624.2.2.2).elim (fun q => absurd q.2.1 (fun q => hn21 ((((eE618 21 (by decide)).trans ((eE609 21 (by decide)).trans ec21.symm))).symm.trans q))) (fun q => q)
        refine k_top (z := 0) hvk628 ?_
        obtain ⟨gv629, egv629⟩ : ∃ z : Int32, z = u626 19 := ⟨_, rfl⟩
        have hg630 : gv629.toInt = ((i : Nat) : Int) := by rw [egv629]; exact hpk628
        have b631 : kb 0 gv629 400 := kb_tok (rS_fE hE hp0 (by decide)) hp2 hg630
        refine lv_if_eq (tgt := 54) hx hb dX12_readOrder_43 (by decide) (fun c632 => ?_) (fun c632 => ?_)
        · refine lv_aload_n hx hb dX12_readOrder_54 rfl (lv_at hl 0 rfl) ?_
          refine lv_bipush (v := 27) hx hb dX12_readOrder_55 (by decide) ?_
          refine kV.callV (As := [.int 27]) (rest := []) ⟨hx, hb, hml, hown, hg⟩ (q_must l o r u626 a g hI 27 (kb_w kc_27 (by decide) (by decide)) N (i) ob T (rS_fE hE hp0 (by decide)) (by rw [egv629.symm]; exact hg630) hp2 hp3 (by decide +kernel)) (cwV 1 hg (kgV wt6_227 wt6_229 wp4_12 wt1_14 wt6_230) rfl rfl rfl (by decide +kernel) ⟨by decide, by decide⟩) hK hP hD hS hA mIs [] rfl (wr := []) rfl rfl rfl (fun i h => by cases h) 0 12 rfl rfl rfl hl.1 rfl (Nat.le_of_ble_eq_true rfl) dX12_readOrder_57 ⟨Nat.le_refl _, Nat.le_refl _⟩ (fun u635 H locs hw633 hP hD hS => ?_)
          have hP : va_P D vwCl (mW K o r u635 a g) H := hP
          have hD : va_D A (mW K o r u635 a g) := hD
          have hI : mI u635 a := hw633.1
          have eE636 : fE [19, 21] u626 u635 := hw633.2.1
          have hE : fE [19, 20, 21] f u635 := fE_tr hE (fE_w (by decide) eE636)
          have hdk637 := (hw633.2.2).elim (fun q => absurd q.1 (fun q => hn21 ((((eE627 21 (by decide)).trans ((eE618 21 (by decide)).trans ((eE609 21 (by decide)).trans ec21.symm)))).symm.trans q))) (fun q => q.elim (fun q => absurd q.1 (fun q => hn21 ((((eE627 21 (by decide)).trans ((eE618 21 (by decide)).trans ((eE609 21 (by decide)).trans ec21.symm)))).symm.trans q))) (fun q => q))
          obtain ⟨gv638, egv638⟩ : ∃ z : Int32, z = u635 19 := ⟨_, rfl⟩
          have hg639 : gv638.toInt = ((i : Nat) : Int) := by rw [egv638]; exact hdk637.2.2
          have b640 : kb 0 gv638 400 := kb_tok (rS_fE hE hp0 (by decide)) hp2 hg639
          refine lv_aload_n hx hb dX12_readOrder_60 rfl (lv_at hl 0 rfl) ?_
          refine lv_bipush (v := 28) hx hb dX12_readOrder_61 (by decide) ?_
          refine kI.callV (As := [.int 28]) (rest := []) ⟨hx, hb, hml, hown, hg⟩ (q_takes0 l o r u635 a g hI 28 (kb_w kc_28 (by decide) (by decide)) N (i) ob T (rS_fE hE hp0 (by decide)) (by rw [egv638.symm]; exact hg639) hp2 hp3 (by decide +kernel)) (cwV 1 hg (kgV wt6_200 wt6_202 wp4_6 wt1_14 wt6_203) rfl rfl rfl (by decide +kernel) ⟨by decide, by decide⟩) hK hP hD hS hA mIs [] rfl (wr := []) rfl rfl rfl (fun i h => by cases h) 0 12 rfl rfl rfl hl.1 rfl (Nat.le_of_ble_eq_true rfl) dX12_readOrder_63 ⟨Nat.le_refl _, Nat.le_refl _⟩ (fun v642 u643 H locs hw641 hP hD hS => ?_)
          have hP : va_P D vwCl (mW K o r u643 a g) H := hP
          have hD : va_D A (mW K o r u643 a g) := hD
          have hI : mI u643 a := hw641.2.1
          have eE644 : fE [19] u635 u643 := hw641.2.2.1
          have hE : fE [19, 20, 21] f u643 := fE_tr hE (fE_w (by decide) eE644)
          obtain ⟨hvk645, hnk645, hpk645⟩ := (hw641.2.2.2).elim (fun q => absurd q.2.1 (fun q => hn21 (((hdk637.2.1.trans ((eE627 21 (by decide)).trans ((eE618 21 (by decide)).trans ((eE609 21 (by decide)).trans ec21.symm))))).symm.trans q))) (fun q => q)
          refine k_top (z := 0) hvk645 ?_
          obtain ⟨gv646, egv646⟩ : ∃ z : Int32, z = u643 19 := ⟨_, rfl⟩
          have hg647 : gv646.toInt = ((i : Nat) : Int) := by rw [egv646]; exact hpk645
          have b648 : kb 0 gv646 400 := kb_tok (rS_fE hE hp0 (by decide)) hp2 hg647
          refine lv_if_eq (tgt := 76) hx hb dX12_readOrder_66 (by decide) (fun c649 => ?_) (fun c649 => ?_)
          · refine lv_aload_n hx hb dX12_readOrder_76 rfl (lv_at hl 0 rfl) ?_
            refine lv_iconst (v := 5) hx hb dX12_readOrder_77 (by decide) ?_
            refine kI.callV (As := [.int 5]) (rest := []) ⟨hx, hb, hml, hown, hg⟩ (q_takes0 l o r u643 a g hI 5 (kb_w kc_5 (by decide) (by decide)) N (i) ob T (rS_fE hE hp0 (by decide)) (by rw [egv646.symm]; exact hg647) hp2 hp3 (by decide +kernel)) (cwV 1 hg (kgV wt6_200 wt6_202 wp4_6 wt1_14 wt6_203) rfl rfl rfl (by decide +kernel) ⟨by decide, by decide⟩) hK hP hD hS hA mIs [] rfl (wr := []) rfl rfl rfl (fun i h => by cases h) 0 12 rfl rfl rfl hl.1 rfl (Nat.le_of_ble_eq_true rfl) dX12_readOrder_78 ⟨Nat.le_refl _, Nat.le_refl _⟩ (fun v651 u652 H locs hw650 hP hD hS => ?_)
            have hP : va_P D vwCl (mW K o r u652 a g) H := hP
            have hD : va_D A (mW K o r u652 a g) := hD
            have hI : mI u652 a := hw650.2.1
            have eE653 : fE [19] u643 u652 := hw650.2.2.1
            have hE : fE [19, 20, 21] f u652 := fE_tr hE (fE_w (by decide) eE653)
            obtain ⟨hvk654, hnk654, hpk654⟩ := (hw650.2.2.2).elim (fun q => absurd q.2.1 (fun q => hn21 ((((eE644 21 (by decide)).trans (hdk637.2.1.trans ((eE627 21 (by decide)).trans ((eE618 21 (by decide)).trans ((eE609 21 (by decide)).trans ec21.symm)))))).symm.trans q))) (fun q => q)
            refine k_top (z := 0) hvk654 ?_
            obtain ⟨gv655, egv655⟩ : ∃ z : Int32, z = u652 19 := ⟨_, rfl⟩
            have hg656 : gv655.toInt = ((i : Nat) : Int) := by rw [egv655]; exact hpk654
            have b657 : kb 0 gv655 400 := kb_tok (rS_fE hE hp0 (by decide)) hp2 hg656
            refine lv_if_eq (tgt := 89) hx hb dX12_readOrder_81 (by decide) (fun c658 => ?_) (fun c658 => ?_)
            · exact kV_ret hx hb hr hlocks hK hS dX12_readOrder_89 u652 hP hD ⟨hI, hE, ⟨i, 0, (by rw [egv655.symm]; exact hg656), (Nat.le_refl i), hp2, Or.inr (Or.inr ⟨h21, (((eE653 21 (by decide)).trans ((eE644 21 (by decide)).trans (hdk637.2.1.trans ((eE627 21 (by decide)).trans ((eE618 21 (by decide)).trans ((eE609 21 (by decide)).trans ec21.symm))))))).trans ec21, rfl⟩)⟩⟩
            · exact kb_nsame c658 kc_0 kc_0
          · exact kb_nsame c649 kc_0 kc_0
        · exact kb_nsame c632 kc_0 kc_0
    · exact kb_nsame c614 kc_0 kc_0
set_option maxHeartbeats 4000000 in
set_option maxRecDepth 100000 in
theorem q_readOne  (l : Launch) {D : va_G} {K : Nat → ClassId} (o : Nat) (r : Nat → Nat) (f : Nat → Int32) (a : Nat → Nat → Int32) (g : Nat → Int64) (hI : mI f a)   (N i n : Nat) (ob : Bool) (T : Nat → Int32) (hp0 : rS f a N ob) (hp1 : (f 19).toInt = (i : Int)) (hp2 : i ≤ N) (hp3 : rQ a N T) (hp4 : f 21 = -1 → (f 20).toInt = (n : Int) ∧ n ≤ 50) : kV l yX12_readOne (Cond.code yX12_readOne cX12_readOne 1 none :: kG) (rmD 49 0 0) D (tysK K) [.ref o] (mW K o r f a g) (fun (u : Nat → Int32) => mI u a ∧ fE [19, 20, 21] f u ∧ (∃ i2 n2 : Nat, (u 19).toInt = (i2 : Int) ∧ i ≤ i2 ∧ i2 ≤ N ∧ ((f 21 = -1 ∧ u 21 = -1 ∧ ((u 20).toInt = (n2 : Int) ∧ n2 ≤ 50) ∧ pG ob T 8 (pK ob) i n (true, i2, n2)) ∨ (f 21 = -1 ∧ (u 21 = a 17 i2 ∧ ¬ u 21 = -1) ∧ pG ob T 8 (pK ob) i n (false, i2, 0)) ∨ (¬ f 21 = -1 ∧ u 21 = f 21 ∧ i2 = i)))) (fun u => mW K o r u a g) 0 0 := by
  refine kV.of (cc := cX12_readOne) (maxL := 1) (ret := none) (by decide) rfl (Nat.le_of_ble_eq_true rfl) ?_
  intro p e s m below meth c A hx hb hr hml hown hts hlocks hnm hK hP hD hS hA ls hl
  have hE : fE [19, 20, 21] f f := fE_rf
  have hg : ∀ w ∈ kG, w.before _ s = true := fun w h => hts w (List.mem_cons_of_mem _ h)
  have hown : s.vm.findClass RX12 = some m.cls := hown
  have hl : lv_has ls 1 [(0, .ref o)] := hl
  obtain ⟨c19, ec19⟩ : ∃ z : Int32, z = f 19 := ⟨_, rfl⟩
  have hg0 : c19.toInt = (i : Int) := by rw [ec19]; exact hp1
  have b1 : kb 0 c19 400 := kb_tok hp0 hp2 hg0
  cases ob
  · by_cases h21 : f 21 = -1
    · obtain ⟨c20, ec20⟩ : ∃ z : Int32, z = f 20 := ⟨_, rfl⟩
      have hn20 : c20.toInt = (n : Int) := by rw [ec20]; exact (hp4 h21).1
      have hl50 : n ≤ 50 := (hp4 h21).2
      have b2 : kb 0 c20 50 := ⟨by omega, by omega⟩
      refine lv_aload_n hx hb dX12_readOne_0 rfl (lv_at hl 0 rfl) ?_
      refine va_get (D := D) (ci := 12) (v := .int (f 10)) (C := RX12) (T := TX12) (N := 48) hx hb hg inC12 hown hK hP 0 rfl rfl 10 (by decide) (hg _ wt5_170) (fun _ h9 => h9) rfl dX12_readOne_1 ?_
      refine k_top (z := 0) hp0.2.2.2.1 ?_
      refine lv_if_eq (tgt := 14) hx hb dX12_readOne_4 (by decide) (fun c3 => ?_) (fun c3 => ?_)
      · refine lv_aload_n hx hb dX12_readOne_14 rfl (lv_at hl 0 rfl) ?_
        refine kV.callV (As := []) (rest := []) ⟨hx, hb, hml, hown, hg⟩ (q_readClause l o r f a g hI   N (i) (n) false T (rS_fE hE hp0 (by decide)) (by rw [ec19.symm]; exact hg0) hp2 hp3 (fun _ => ⟨(by rw [ec20.symm]; exact hn20), hl50⟩)) (cwV 0 hg (kgV wt7_11 wt7_13 wp5_2 wt1_14 wt7_14) rfl rfl rfl (by decide +kernel) ⟨by decide, by decide⟩) hK hP hD hS hA mIs [] rfl (wr := []) rfl rfl rfl (fun i h => by cases h) 0 12 rfl rfl rfl hl.1 rfl (Nat.le_of_ble_eq_true rfl) dX12_readOne_15 ⟨Nat.le_refl _, Nat.le_refl _⟩ (fun u6 H locs hw4 hP hD hS => ?_)
        have hP : va_P D vwCl (mW K o r u6 a g) H := hP
        have hD : va_D A (mW K o r u6 a g) := hD
        have hI : mI u6 a := hw4.1
        have eE7 : fE [19, 20, 21] f u6 := hw4.2.1
        have hE : fE [19, 20, 21] f u6 := fE_tr hE eE7
        obtain ⟨ik8, nk8, hgk8, hlek8, hNk8, hck8⟩ := hw4.2.2
        rcases hck8 with ⟨-, h2k8, h3k8, hGk8⟩ | ⟨-, hbk8, hGk8⟩ | hdk8
        · obtain ⟨gv9, egv9⟩ : ∃ z : Int32, z = u6 19 := ⟨_, rfl⟩
          have hg10 : gv9.toInt = ((ik8 : Nat) : Int) := by rw [egv9]; exact hgk8
          have b11 : kb 0 gv9 400 := kb_tok (rS_fE hE hp0 (by decide)) hNk8 hg10
          obtain ⟨z12, ez12⟩ : ∃ z : Int32, z = u6 20 := ⟨_, rfl⟩
          have hzz12 : z12.toInt = (nk8 : Int) := by rw [ez12]; exact h3k8.1
          exact kV_ret hx hb hr hlocks hK hS dX12_readOne_18 u6 hP hD ⟨hI, hE, ⟨ik8, nk8, (by rw [egv9.symm]; exact hg10), (Nat.le_trans (Nat.le_refl i) hlek8), hNk8, Or.inl ⟨h21, h2k8, ⟨(by rw [ez12.symm]; exact hzz12), h3k8.2⟩, hGk8⟩⟩⟩
        · obtain ⟨gv13, egv13⟩ : ∃ z : Int32, z = u6 19 := ⟨_, rfl⟩
          have hg14 : gv13.toInt = ((ik8 : Nat) : Int) := by rw [egv13]; exact hgk8
          have b15 : kb 0 gv13 400 := kb_tok (rS_fE hE hp0 (by decide)) hNk8 hg14
          obtain ⟨z16, ez16⟩ : ∃ z : Int32, z = u6 21 := ⟨_, rfl⟩
          have haz16 : z16 = a 17 (ik8) := by rw [ez16]; exact hbk8.1
          have hnz16 : ¬ z16 = -1 := by rw [ez16]; exact hbk8.2
          exact kV_ret hx hb hr hlocks hK hS dX12_readOne_18 u6 hP hD ⟨hI, hE, ⟨ik8, 0, (by rw [egv13.symm]; exact hg14), (Nat.le_trans (Nat.le_refl i) hlek8), hNk8, Or.inr (Or.inl ⟨h21, ⟨(ez16.symm).trans haz16, (fun q => hnz16 ((ez16.symm).symm.trans q))⟩, hGk8⟩)⟩⟩
        · exact absurd h21 hdk8.1
      · exact kb_nsame c3 kc_0 kc_0
    · obtain ⟨c21, ec21⟩ : ∃ z : Int32, z = f 21 := ⟨_, rfl⟩
      have hn21 : ¬ c21 = -1 := by rw [ec21]; exact h21
      refine lv_aload_n hx hb dX12_readOne_0 rfl (lv_at hl 0 rfl) ?_
      refine va_get (D := D) (ci := 12) (v := .int (f 10)) (C := RX12) (T := TX12) (N := 48) hx hb hg inC12 hown hK hP 0 rfl rfl 10 (by decide) (hg _ wt5_170) (fun _ h9 => h9) rfl dX12_readOne_1 ?_
      refine k_top (z := 0) hp0.2.2.2.1 ?_
      refine lv_if_eq (tgt := 14) hx hb dX12_readOne_4 (by decide) (fun c17 => ?_) (fun c17 => ?_)
      · refine lv_aload_n hx hb dX12_readOne_14 rfl (lv_at hl 0 rfl) ?_
        refine kV.callV (As := []) (rest := []) ⟨hx, hb, hml, hown, hg⟩ (q_readClause l o r f a g hI   N (i) (0) false T (rS_fE hE hp0 (by decide)) (by rw [ec19.symm]; exact hg0) hp2 hp3 (fun q => absurd q (fun q => hn21 ((ec21.symm).symm.trans q)))) (cwV 0 hg (kgV wt7_11 wt7_13 wp5_2 wt1_14 wt7_14) rfl rfl rfl (by decide +kernel) ⟨by decide, by decide⟩) hK hP hD hS hA mIs [] rfl (wr := []) rfl rfl rfl (fun i h => by cases h) 0 12 rfl rfl rfl hl.1 rfl (Nat.le_of_ble_eq_true rfl) dX12_readOne_15 ⟨Nat.le_refl _, Nat.le_refl _⟩ (fun u20 H locs hw18 hP hD hS => ?_)
        have hP : va_P D vwCl (mW K o r u20 a g) H := hP
        have hD : va_D A (mW K o r u20 a g) := hD
        have hI : mI u20 a := hw18.1
        have eE21 : fE [19, 20, 21] f u20 := hw18.2.1
        have hE : fE [19, 20, 21] f u20 := fE_tr hE eE21
        obtain ⟨ik22, nk22, hgk22, hlek22, hNk22, hck22⟩ := hw18.2.2
        have hdk22 := hck22.elim (fun q => absurd q.1 (fun q => hn21 ((ec21.symm).symm.trans q))) (fun q => q.elim (fun q => absurd q.1 (fun q => hn21 ((ec21.symm).symm.trans q))) (fun q => q))
        have hhk22 : (u20 19).toInt = ((i : Nat) : Int) := by rw [← hdk22.2.2]; exact hgk22
        obtain ⟨gv23, egv23⟩ : ∃ z : Int32, z = u20 19 := ⟨_, rfl⟩
        have hg24 : gv23.toInt = ((i : Nat) : Int) := by rw [egv23]; exact hhk22
        have b25 : kb 0 gv23 400 := kb_tok (rS_fE hE hp0 (by decide)) hp2 hg24
        exact kV_ret hx hb hr hlocks hK hS dX12_readOne_18 u20 hP hD ⟨hI, hE, ⟨i, 0, (by rw [egv23.symm]; exact hg24), (Nat.le_refl i), hp2, Or.inr (Or.inr ⟨h21, ((hdk22.2.1.trans ec21.symm)).trans ec21, rfl⟩)⟩⟩
      · exact kb_nsame c17 kc_0 kc_0
  · by_cases h21 : f 21 = -1
    · obtain ⟨c20, ec20⟩ : ∃ z : Int32, z = f 20 := ⟨_, rfl⟩
      have hn20 : c20.toInt = (n : Int) := by rw [ec20]; exact (hp4 h21).1
      have hl50 : n ≤ 50 := (hp4 h21).2
      have b26 : kb 0 c20 50 := ⟨by omega, by omega⟩
      refine lv_aload_n hx hb dX12_readOne_0 rfl (lv_at hl 0 rfl) ?_
      refine va_get (D := D) (ci := 12) (v := .int (f 10)) (C := RX12) (T := TX12) (N := 48) hx hb hg inC12 hown hK hP 0 rfl rfl 10 (by decide) (hg _ wt5_170) (fun _ h9 => h9) rfl dX12_readOne_1 ?_
      refine k_top (z := 1) hp0.2.2.2.1 ?_
      refine lv_if_eq (tgt := 14) hx hb dX12_readOne_4 (by decide) (fun c27 => ?_) (fun c27 => ?_)
      · exact kb_dj c27 kc_1 kc_0 (by decide)
      · refine lv_aload_n hx hb dX12_readOne_7 rfl (lv_at hl 0 rfl) ?_
        refine kV.callV (As := []) (rest := []) ⟨hx, hb, hml, hown, hg⟩ (q_readOrder l o r f a g hI   N (i) (n) true T (rS_fE hE hp0 (by decide)) (by rw [ec19.symm]; exact hg0) hp2 hp3 (fun _ => ⟨(by rw [ec20.symm]; exact hn20), hl50⟩)) (cwV 0 hg (kgV wt6_196 wt6_198 wp4_5 wt1_14 wt6_199) rfl rfl rfl (by decide +kernel) ⟨by decide, by decide⟩) hK hP hD hS hA mIs [] rfl (wr := []) rfl rfl rfl (fun i h => by cases h) 0 12 rfl rfl rfl hl.1 rfl (Nat.le_of_ble_eq_true rfl) dX12_readOne_8 ⟨Nat.le_refl _, Nat.le_refl _⟩ (fun u30 H locs hw28 hP hD hS => ?_)
        have hP : va_P D vwCl (mW K o r u30 a g) H := hP
        have hD : va_D A (mW K o r u30 a g) := hD
        have hI : mI u30 a := hw28.1
        have eE31 : fE [19, 20, 21] f u30 := hw28.2.1
        have hE : fE [19, 20, 21] f u30 := fE_tr hE eE31
        obtain ⟨ik32, nk32, hgk32, hlek32, hNk32, hck32⟩ := hw28.2.2
        rcases hck32 with ⟨-, h2k32, h3k32, hGk32⟩ | ⟨-, hbk32, hGk32⟩ | hdk32
        · obtain ⟨gv33, egv33⟩ : ∃ z : Int32, z = u30 19 := ⟨_, rfl⟩
          have hg34 : gv33.toInt = ((ik32 : Nat) : Int) := by rw [egv33]; exact hgk32
          have b35 : kb 0 gv33 400 := kb_tok (rS_fE hE hp0 (by decide)) hNk32 hg34
          obtain ⟨z36, ez36⟩ : ∃ z : Int32, z = u30 20 := ⟨_, rfl⟩
          have hzz36 : z36.toInt = (nk32 : Int) := by rw [ez36]; exact h3k32.1
          refine lv_goto (tgt := 18) hx hb dX12_readOne_11 (by decide) ?_
          exact kV_ret hx hb hr hlocks hK hS dX12_readOne_18 u30 hP hD ⟨hI, hE, ⟨ik32, nk32, (by rw [egv33.symm]; exact hg34), (Nat.le_trans (Nat.le_refl i) hlek32), hNk32, Or.inl ⟨h21, h2k32, ⟨(by rw [ez36.symm]; exact hzz36), h3k32.2⟩, hGk32⟩⟩⟩
        · obtain ⟨gv37, egv37⟩ : ∃ z : Int32, z = u30 19 := ⟨_, rfl⟩
          have hg38 : gv37.toInt = ((ik32 : Nat) : Int) := by rw [egv37]; exact hgk32
          have b39 : kb 0 gv37 400 := kb_tok (rS_fE hE hp0 (by decide)) hNk32 hg38
          obtain ⟨z40, ez40⟩ : ∃ z : Int32, z = u30 21 := ⟨_, rfl⟩
          have haz40 : z40 = a 17 (ik32) := by rw [ez40]; exact hbk32.1
          have hnz40 : ¬ z40 = -1 := by rw [ez40]; exact hbk32.2
          refine lv_goto (tgt := 18) hx hb dX12_readOne_11 (by decide) ?_
          exact kV_ret hx hb hr hlocks hK hS dX12_readOne_18 u30 hP hD ⟨hI, hE, ⟨ik32, 0, (by rw [egv37.symm]; exact hg38), (Nat.le_trans (Nat.le_refl i) hlek32), hNk32, Or.inr (Or.inl ⟨h21, ⟨(ez40.symm).trans haz40, (fun q => hnz40 ((ez40.symm).symm.trans q))⟩, hGk32⟩)⟩⟩
        · exact absurd h21 hdk32.1
    · obtain ⟨c21, ec21⟩ : ∃ z : Int32, z = f 21 := ⟨_, rfl⟩
      have hn21 : ¬ c21 = -1 := by rw [ec21]; exact h21
      refine lv_aload_n hx hb dX12_readOne_0 rfl (lv_at hl 0 rfl) ?_
      refine va_get (D := D) (ci := 12) (v := .int (f 10)) (C := RX12) (T := TX12) (N := 48) hx hb hg inC12 hown hK hP 0 rfl rfl 10 (by decide) (hg _ wt5_170) (fun _ h9 => h9) rfl dX12_readOne_1 ?_
      refine k_top (z := 1) hp0.2.2.2.1 ?_
      refine lv_if_eq (tgt := 14) hx hb dX12_readOne_4 (by decide) (fun c41 => ?_) (fun c41 => ?_)
      · exact kb_dj c41 kc_1 kc_0 (by decide)
      · refine lv_aload_n hx hb dX12_readOne_7 rfl (lv_at hl 0 rfl) ?_
        refine kV.callV (As := []) (rest := []) ⟨hx, hb, hml, hown, hg⟩ (q_readOrder l o r f a g hI   N (i) (0) true T (rS_fE hE hp0 (by decide)) (by rw [ec19.symm]; exact hg0) hp2 hp3 (fun q => absurd q (fun q => hn21 ((ec21.symm).symm.trans q)))) (cwV 0 hg (kgV wt6_196 wt6_198 wp4_5 wt1_14 wt6_199) rfl rfl rfl (by decide +kernel) ⟨by decide, by decide⟩) hK hP hD hS hA mIs [] rfl (wr := []) rfl rfl rfl (fun i h => by cases h) 0 12 rfl rfl rfl hl.1 rfl (Nat.le_of_ble_eq_true rfl) dX12_readOne_8 ⟨Nat.le_refl _, Nat.le_refl _⟩ (fun u44 H locs hw42 hP hD hS => ?_)
        have hP : va_P D vwCl (mW K o r u44 a g) H := hP
        have hD : va_D A (mW K o r u44 a g) := hD
        have hI : mI u44 a := hw42.1
        have eE45 : fE [19, 20, 21] f u44 := hw42.2.1
        have hE : fE [19, 20, 21] f u44 := fE_tr hE eE45
        obtain ⟨ik46, nk46, hgk46, hlek46, hNk46, hck46⟩ := hw42.2.2
        have hdk46 := hck46.elim (fun q => absurd q.1 (fun q => hn21 ((ec21.symm).symm.trans q))) (fun q => q.elim (fun q => absurd q.1 (fun q => hn21 ((ec21.symm).symm.trans q))) (fun q => q))
        have hhk46 : (u44 19).toInt = ((i : Nat) : Int) := by rw [← hdk46.2.2]; exact hgk46
        obtain ⟨gv47, egv47⟩ : ∃ z : Int32, z = u44 19 := ⟨_, rfl⟩
        have hg48 : gv47.toInt = ((i : Nat) : Int) := by rw [egv47]; exact hhk46
        have b49 : kb 0 gv47 400 := kb_tok (rS_fE hE hp0 (by decide)) hp2 hg48
        refine lv_goto (tgt := 18) hx hb dX12_readOne_11 (by decide) ?_
        exact kV_ret hx hb hr hlocks hK hS dX12_readOne_18 u44 hP hD ⟨hI, hE, ⟨i, 0, (by rw [egv47.symm]; exact hg48), (Nat.le_refl i), hp2, Or.inr (Or.inr ⟨h21, ((hdk46.2.1.trans ec21.symm)).trans ec21, rfl⟩)⟩⟩
