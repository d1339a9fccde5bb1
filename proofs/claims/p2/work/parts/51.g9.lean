theorem dX12_readTest_0 : decode cX12_readTest 0 = .ok (.aload_n 0, 1) := by decide +kernel
theorem dX12_readTest_1 : decode cX12_readTest 1 = .ok (.iload_n 1, 1) := by decide +kernel
theorem dX12_readTest_2 : decode cX12_readTest 2 = .ok (.invokevirtual 201, 3) := by decide +kernel
theorem dX12_readTest_5 : decode cX12_readTest 5 = .ok (.aload_n 0, 1) := by decide +kernel
theorem dX12_readTest_6 : decode cX12_readTest 6 = .ok (.bipush 6, 2) := by decide +kernel
theorem dX12_readTest_8 : decode cX12_readTest 8 = .ok (.invokevirtual 168, 3) := by decide +kernel
theorem dX12_readTest_11 : decode cX12_readTest 11 = .ok (.ifCond .eq 11, 3) := by decide +kernel
theorem dX12_readTest_14 : decode cX12_readTest 14 = .ok (.aload_n 0, 1) := by decide +kernel
theorem dX12_readTest_15 : decode cX12_readTest 15 = .ok (.iload_n 1, 1) := by decide +kernel
theorem dX12_readTest_16 : decode cX12_readTest 16 = .ok (.invokevirtual 201, 3) := by decide +kernel
theorem dX12_readTest_19 : decode cX12_readTest 19 = .ok (.goto (-14), 3) := by decide +kernel
theorem dX12_readTest_22 : decode cX12_readTest 22 = .ok (.return_, 1) := by decide +kernel
theorem dX12_readBoth_0 : decode cX12_readBoth 0 = .ok (.aload_n 0, 1) := by decide +kernel
theorem dX12_readBoth_1 : decode cX12_readBoth 1 = .ok (.iload_n 1, 1) := by decide +kernel
theorem dX12_readBoth_2 : decode cX12_readBoth 2 = .ok (.invokevirtual 204, 3) := by decide +kernel
theorem dX12_readBoth_5 : decode cX12_readBoth 5 = .ok (.aload_n 0, 1) := by decide +kernel
theorem dX12_readBoth_6 : decode cX12_readBoth 6 = .ok (.bipush 7, 2) := by decide +kernel
theorem dX12_readBoth_8 : decode cX12_readBoth 8 = .ok (.invokevirtual 168, 3) := by decide +kernel
theorem dX12_readBoth_11 : decode cX12_readBoth 11 = .ok (.ifCond .eq 11, 3) := by decide +kernel
theorem dX12_readBoth_14 : decode cX12_readBoth 14 = .ok (.aload_n 0, 1) := by decide +kernel
theorem dX12_readBoth_15 : decode cX12_readBoth 15 = .ok (.iload_n 1, 1) := by decide +kernel
theorem dX12_readBoth_16 : decode cX12_readBoth 16 = .ok (.invokevirtual 204, 3) := by decide +kernel
theorem dX12_readBoth_19 : decode cX12_readBoth 19 = .ok (.goto (-14), 3) := by decide +kernel
theorem dX12_readBoth_22 : decode cX12_readBoth 22 = .ok (.return_, 1) := by decide +kernel
theorem dX12_readPlain_0 : decode cX12_readPlain 0 = .ok (.iconst 1, 1) := by decide +kernel
theorem dX12_readPlain_1 : decode cX12_readPlain 1 = .ok (.istore_n 2, 1) := by decide +kernel
theorem dX12_readPlain_2 : decode cX12_readPlain 2 = .ok (.iload_n 2, 1) := by decide +kernel
theorem dX12_readPlain_3 : decode cX12_readPlain 3 = .ok (.ifCond .eq 13, 3) := by decide +kernel
theorem dX12_readPlain_6 : decode cX12_readPlain 6 = .ok (.aload_n 0, 1) := by decide +kernel
theorem dX12_readPlain_7 : decode cX12_readPlain 7 = .ok (.bipush 8, 2) := by decide +kernel
theorem dX12_readPlain_9 : decode cX12_readPlain 9 = .ok (.invokevirtual 168, 3) := by decide +kernel
theorem dX12_readPlain_12 : decode cX12_readPlain 12 = .ok (.istore_n 2, 1) := by decide +kernel
theorem dX12_readPlain_13 : decode cX12_readPlain 13 = .ok (.goto (-11), 3) := by decide +kernel
theorem dX12_readPlain_16 : decode cX12_readPlain 16 = .ok (.aload_n 0, 1) := by decide +kernel
theorem dX12_readPlain_17 : decode cX12_readPlain 17 = .ok (.invokevirtual 161, 3) := by decide +kernel
theorem dX12_readPlain_20 : decode cX12_readPlain 20 = .ok (.ifCond .ne 4, 3) := by decide +kernel
theorem dX12_readPlain_23 : decode cX12_readPlain 23 = .ok (.return_, 1) := by decide +kernel
theorem dX12_readPlain_24 : decode cX12_readPlain 24 = .ok (.aload_n 0, 1) := by decide +kernel
theorem dX12_readPlain_25 : decode cX12_readPlain 25 = .ok (.getfield 50, 3) := by decide +kernel
theorem dX12_readPlain_28 : decode cX12_readPlain 28 = .ok (.aload_n 0, 1) := by decide +kernel
theorem dX12_readPlain_29 : decode cX12_readPlain 29 = .ok (.getfield 165, 3) := by decide +kernel
theorem dX12_readPlain_32 : decode cX12_readPlain 32 = .ok (.iaload, 1) := by decide +kernel
theorem dX12_readPlain_33 : decode cX12_readPlain 33 = .ok (.istore_n 3, 1) := by decide +kernel
theorem dX12_readPlain_34 : decode cX12_readPlain 34 = .ok (.iload_n 3, 1) := by decide +kernel
theorem dX12_readPlain_35 : decode cX12_readPlain 35 = .ok (.bipush 40, 2) := by decide +kernel
theorem dX12_readPlain_37 : decode cX12_readPlain 37 = .ok (.invokestatic 207, 3) := by decide +kernel
theorem dX12_readPlain_40 : decode cX12_readPlain 40 = .ok (.if_icmp .ne 50, 3) := by decide +kernel
theorem dX12_readPlain_43 : decode cX12_readPlain 43 = .ok (.iload_n 1, 1) := by decide +kernel
theorem dX12_readPlain_44 : decode cX12_readPlain 44 = .ok (.bipush 8, 2) := by decide +kernel
theorem dX12_readPlain_46 : decode cX12_readPlain 46 = .ok (.if_icmp .ne 7, 3) := by decide +kernel
theorem dX12_readPlain_49 : decode cX12_readPlain 49 = .ok (.aload_n 0, 1) := by decide +kernel
theorem dX12_readPlain_50 : decode cX12_readPlain 50 = .ok (.invokevirtual 171, 3) := by decide +kernel
theorem dX12_readPlain_53 : decode cX12_readPlain 53 = .ok (.aload_n 0, 1) := by decide +kernel
theorem dX12_readPlain_54 : decode cX12_readPlain 54 = .ok (.invokevirtual 161, 3) := by decide +kernel
theorem dX12_readPlain_57 : decode cX12_readPlain 57 = .ok (.ifCond .ne 4, 3) := by decide +kernel
theorem dX12_readPlain_60 : decode cX12_readPlain 60 = .ok (.return_, 1) := by decide +kernel
theorem dX12_readPlain_61 : decode cX12_readPlain 61 = .ok (.aload_n 0, 1) := by decide +kernel
theorem dX12_readPlain_62 : decode cX12_readPlain 62 = .ok (.dup, 1) := by decide +kernel
theorem dX12_readPlain_63 : decode cX12_readPlain 63 = .ok (.getfield 165, 3) := by decide +kernel
theorem dX12_readPlain_66 : decode cX12_readPlain 66 = .ok (.iconst 1, 1) := by decide +kernel
theorem dX12_readPlain_67 : decode cX12_readPlain 67 = .ok (.iadd, 1) := by decide +kernel
theorem dX12_readPlain_68 : decode cX12_readPlain 68 = .ok (.putfield 165, 3) := by decide +kernel
theorem dX12_readPlain_71 : decode cX12_readPlain 71 = .ok (.aload_n 0, 1) := by decide +kernel
theorem dX12_readPlain_72 : decode cX12_readPlain 72 = .ok (.iload_n 1, 1) := by decide +kernel
theorem dX12_readPlain_73 : decode cX12_readPlain 73 = .ok (.iconst 1, 1) := by decide +kernel
theorem dX12_readPlain_74 : decode cX12_readPlain 74 = .ok (.iadd, 1) := by decide +kernel
theorem dX12_readPlain_75 : decode cX12_readPlain 75 = .ok (.invokevirtual 184, 3) := by decide +kernel
theorem dX12_readPlain_78 : decode cX12_readPlain 78 = .ok (.aload_n 0, 1) := by decide +kernel
theorem dX12_readPlain_79 : decode cX12_readPlain 79 = .ok (.bipush 41, 2) := by decide +kernel
theorem dX12_readPlain_81 : decode cX12_readPlain 81 = .ok (.invokestatic 207, 3) := by decide +kernel
theorem dX12_readPlain_84 : decode cX12_readPlain 84 = .ok (.invokevirtual 181, 3) := by decide +kernel
theorem dX12_readPlain_87 : decode cX12_readPlain 87 = .ok (.goto 46, 3) := by decide +kernel
theorem dX12_readPlain_90 : decode cX12_readPlain 90 = .ok (.aload_n 0, 1) := by decide +kernel
theorem dX12_readPlain_91 : decode cX12_readPlain 91 = .ok (.iload_n 1, 1) := by decide +kernel
theorem dX12_readPlain_92 : decode cX12_readPlain 92 = .ok (.invokevirtual 177, 3) := by decide +kernel
theorem dX12_readPlain_95 : decode cX12_readPlain 95 = .ok (.aload_n 0, 1) := by decide +kernel
theorem dX12_readPlain_96 : decode cX12_readPlain 96 = .ok (.bipush 60, 2) := by decide +kernel
theorem dX12_readPlain_98 : decode cX12_readPlain 98 = .ok (.invokestatic 207, 3) := by decide +kernel
theorem dX12_readPlain_101 : decode cX12_readPlain 101 = .ok (.invokevirtual 168, 3) := by decide +kernel
theorem dX12_readPlain_104 : decode cX12_readPlain 104 = .ok (.ifCond .ne 24, 3) := by decide +kernel
theorem dX12_readPlain_107 : decode cX12_readPlain 107 = .ok (.aload_n 0, 1) := by decide +kernel
theorem dX12_readPlain_108 : decode cX12_readPlain 108 = .ok (.bipush 62, 2) := by decide +kernel
theorem dX12_readPlain_110 : decode cX12_readPlain 110 = .ok (.invokestatic 207, 3) := by decide +kernel
theorem dX12_readPlain_113 : decode cX12_readPlain 113 = .ok (.invokevirtual 168, 3) := by decide +kernel
theorem dX12_readPlain_116 : decode cX12_readPlain 116 = .ok (.ifCond .ne 12, 3) := by decide +kernel
theorem dX12_readPlain_119 : decode cX12_readPlain 119 = .ok (.aload_n 0, 1) := by decide +kernel
theorem dX12_readPlain_120 : decode cX12_readPlain 120 = .ok (.bipush 61, 2) := by decide +kernel
theorem dX12_readPlain_122 : decode cX12_readPlain 122 = .ok (.invokestatic 207, 3) := by decide +kernel
theorem dX12_readPlain_125 : decode cX12_readPlain 125 = .ok (.invokevirtual 181, 3) := by decide +kernel
theorem dX12_readPlain_128 : decode cX12_readPlain 128 = .ok (.aload_n 0, 1) := by decide +kernel
theorem dX12_readPlain_129 : decode cX12_readPlain 129 = .ok (.iload_n 1, 1) := by decide +kernel
theorem dX12_readPlain_130 : decode cX12_readPlain 130 = .ok (.invokevirtual 177, 3) := by decide +kernel
theorem dX12_readPlain_133 : decode cX12_readPlain 133 = .ok (.return_, 1) := by decide +kernel
theorem dX12_readSum_0 : decode cX12_readSum 0 = .ok (.aload_n 0, 1) := by decide +kernel
theorem dX12_readSum_1 : decode cX12_readSum 1 = .ok (.iload_n 1, 1) := by decide +kernel
theorem dX12_readSum_2 : decode cX12_readSum 2 = .ok (.invokevirtual 211, 3) := by decide +kernel
theorem dX12_readSum_5 : decode cX12_readSum 5 = .ok (.aload_n 0, 1) := by decide +kernel
theorem dX12_readSum_6 : decode cX12_readSum 6 = .ok (.bipush 43, 2) := by decide +kernel
theorem dX12_readSum_8 : decode cX12_readSum 8 = .ok (.invokestatic 207, 3) := by decide +kernel
theorem dX12_readSum_11 : decode cX12_readSum 11 = .ok (.invokevirtual 168, 3) := by decide +kernel
theorem dX12_readSum_14 : decode cX12_readSum 14 = .ok (.ifCond .ne 15, 3) := by decide +kernel
theorem dX12_readSum_17 : decode cX12_readSum 17 = .ok (.aload_n 0, 1) := by decide +kernel
theorem dX12_readSum_18 : decode cX12_readSum 18 = .ok (.bipush 45, 2) := by decide +kernel
theorem dX12_readSum_20 : decode cX12_readSum 20 = .ok (.invokestatic 207, 3) := by decide +kernel
theorem dX12_readSum_23 : decode cX12_readSum 23 = .ok (.invokevirtual 168, 3) := by decide +kernel
theorem dX12_readSum_26 : decode cX12_readSum 26 = .ok (.ifCond .eq 11, 3) := by decide +kernel
theorem dX12_readSum_29 : decode cX12_readSum 29 = .ok (.aload_n 0, 1) := by decide +kernel
theorem dX12_readSum_30 : decode cX12_readSum 30 = .ok (.iload_n 1, 1) := by decide +kernel
theorem dX12_readSum_31 : decode cX12_readSum 31 = .ok (.invokevirtual 211, 3) := by decide +kernel
theorem dX12_readSum_34 : decode cX12_readSum 34 = .ok (.goto (-29), 3) := by decide +kernel
theorem dX12_readSum_37 : decode cX12_readSum 37 = .ok (.return_, 1) := by decide +kernel
theorem dX12_readTerm_0 : decode cX12_readTerm 0 = .ok (.aload_n 0, 1) := by decide +kernel
theorem dX12_readTerm_1 : decode cX12_readTerm 1 = .ok (.iload_n 1, 1) := by decide +kernel
theorem dX12_readTerm_2 : decode cX12_readTerm 2 = .ok (.invokevirtual 214, 3) := by decide +kernel
theorem dX12_readTerm_5 : decode cX12_readTerm 5 = .ok (.aload_n 0, 1) := by decide +kernel
theorem dX12_readTerm_6 : decode cX12_readTerm 6 = .ok (.bipush 42, 2) := by decide +kernel
theorem dX12_readTerm_8 : decode cX12_readTerm 8 = .ok (.invokestatic 207, 3) := by decide +kernel
theorem dX12_readTerm_11 : decode cX12_readTerm 11 = .ok (.invokevirtual 168, 3) := by decide +kernel
theorem dX12_readTerm_14 : decode cX12_readTerm 14 = .ok (.ifCond .ne 27, 3) := by decide +kernel
theorem dX12_readTerm_17 : decode cX12_readTerm 17 = .ok (.aload_n 0, 1) := by decide +kernel
theorem dX12_readTerm_18 : decode cX12_readTerm 18 = .ok (.bipush 47, 2) := by decide +kernel
theorem dX12_readTerm_20 : decode cX12_readTerm 20 = .ok (.invokestatic 207, 3) := by decide +kernel
theorem dX12_readTerm_23 : decode cX12_readTerm 23 = .ok (.invokevirtual 168, 3) := by decide +kernel
theorem dX12_readTerm_26 : decode cX12_readTerm 26 = .ok (.ifCond .ne 15, 3) := by decide +kernel
theorem dX12_readTerm_29 : decode cX12_readTerm 29 = .ok (.aload_n 0, 1) := by decide +kernel
theorem dX12_readTerm_30 : decode cX12_readTerm 30 = .ok (.bipush 37, 2) := by decide +kernel
theorem dX12_readTerm_32 : decode cX12_readTerm 32 = .ok (.invokestatic 207, 3) := by decide +kernel
theorem dX12_readTerm_35 : decode cX12_readTerm 35 = .ok (.invokevirtual 168, 3) := by decide +kernel
theorem dX12_readTerm_38 : decode cX12_readTerm 38 = .ok (.ifCond .eq 11, 3) := by decide +kernel
theorem dX12_readTerm_41 : decode cX12_readTerm 41 = .ok (.aload_n 0, 1) := by decide +kernel
theorem dX12_readTerm_42 : decode cX12_readTerm 42 = .ok (.iload_n 1, 1) := by decide +kernel
theorem dX12_readTerm_43 : decode cX12_readTerm 43 = .ok (.invokevirtual 214, 3) := by decide +kernel
theorem dX12_readTerm_46 : decode cX12_readTerm 46 = .ok (.goto (-41), 3) := by decide +kernel
theorem dX12_readTerm_49 : decode cX12_readTerm 49 = .ok (.return_, 1) := by decide +kernel
theorem dX12_readPart_0 : decode cX12_readPart 0 = .ok (.aload_n 0, 1) := by decide +kernel
theorem dX12_readPart_1 : decode cX12_readPart 1 = .ok (.invokevirtual 161, 3) := by decide +kernel
theorem dX12_readPart_4 : decode cX12_readPart 4 = .ok (.ifCond .ne 4, 3) := by decide +kernel
theorem dX12_readPart_7 : decode cX12_readPart 7 = .ok (.return_, 1) := by decide +kernel
theorem dX12_readPart_8 : decode cX12_readPart 8 = .ok (.aload_n 0, 1) := by decide +kernel
theorem dX12_readPart_9 : decode cX12_readPart 9 = .ok (.getfield 50, 3) := by decide +kernel
theorem dX12_readPart_12 : decode cX12_readPart 12 = .ok (.aload_n 0, 1) := by decide +kernel
theorem dX12_readPart_13 : decode cX12_readPart 13 = .ok (.getfield 165, 3) := by decide +kernel
theorem dX12_readPart_16 : decode cX12_readPart 16 = .ok (.iaload, 1) := by decide +kernel
theorem dX12_readPart_17 : decode cX12_readPart 17 = .ok (.istore_n 2, 1) := by decide +kernel
theorem dX12_readPart_18 : decode cX12_readPart 18 = .ok (.iload_n 2, 1) := by decide +kernel
theorem dX12_readPart_19 : decode cX12_readPart 19 = .ok (.bipush 91, 2) := by decide +kernel
theorem dX12_readPart_21 : decode cX12_readPart 21 = .ok (.invokestatic 207, 3) := by decide +kernel
theorem dX12_readPart_24 : decode cX12_readPart 24 = .ok (.if_icmp .ne 50, 3) := by decide +kernel
theorem dX12_readPart_27 : decode cX12_readPart 27 = .ok (.iload_n 1, 1) := by decide +kernel
theorem dX12_readPart_28 : decode cX12_readPart 28 = .ok (.bipush 8, 2) := by decide +kernel
theorem dX12_readPart_30 : decode cX12_readPart 30 = .ok (.if_icmp .ne 7, 3) := by decide +kernel
theorem dX12_readPart_33 : decode cX12_readPart 33 = .ok (.aload_n 0, 1) := by decide +kernel
theorem dX12_readPart_34 : decode cX12_readPart 34 = .ok (.invokevirtual 171, 3) := by decide +kernel
theorem dX12_readPart_37 : decode cX12_readPart 37 = .ok (.aload_n 0, 1) := by decide +kernel
theorem dX12_readPart_38 : decode cX12_readPart 38 = .ok (.invokevirtual 161, 3) := by decide +kernel
theorem dX12_readPart_41 : decode cX12_readPart 41 = .ok (.ifCond .ne 4, 3) := by decide +kernel
theorem dX12_readPart_44 : decode cX12_readPart 44 = .ok (.return_, 1) := by decide +kernel
theorem dX12_readPart_45 : decode cX12_readPart 45 = .ok (.aload_n 0, 1) := by decide +kernel
theorem dX12_readPart_46 : decode cX12_readPart 46 = .ok (.dup, 1) := by decide +kernel
theorem dX12_readPart_47 : decode cX12_readPart 47 = .ok (.getfield 165, 3) := by decide +kernel
theorem dX12_readPart_50 : decode cX12_readPart 50 = .ok (.iconst 1, 1) := by decide +kernel
theorem dX12_readPart_51 : decode cX12_readPart 51 = .ok (.iadd, 1) := by decide +kernel
theorem dX12_readPart_52 : decode cX12_readPart 52 = .ok (.putfield 165, 3) := by decide +kernel
theorem dX12_readPart_55 : decode cX12_readPart 55 = .ok (.aload_n 0, 1) := by decide +kernel
theorem dX12_readPart_56 : decode cX12_readPart 56 = .ok (.iload_n 1, 1) := by decide +kernel
theorem dX12_readPart_57 : decode cX12_readPart 57 = .ok (.iconst 1, 1) := by decide +kernel
theorem dX12_readPart_58 : decode cX12_readPart 58 = .ok (.iadd, 1) := by decide +kernel
theorem dX12_readPart_59 : decode cX12_readPart 59 = .ok (.invokevirtual 177, 3) := by decide +kernel
theorem dX12_readPart_62 : decode cX12_readPart 62 = .ok (.aload_n 0, 1) := by decide +kernel
theorem dX12_readPart_63 : decode cX12_readPart 63 = .ok (.bipush 93, 2) := by decide +kernel
theorem dX12_readPart_65 : decode cX12_readPart 65 = .ok (.invokestatic 207, 3) := by decide +kernel
theorem dX12_readPart_68 : decode cX12_readPart 68 = .ok (.invokevirtual 181, 3) := by decide +kernel
theorem dX12_readPart_71 : decode cX12_readPart 71 = .ok (.goto 96, 3) := by decide +kernel
theorem dX12_readPart_74 : decode cX12_readPart 74 = .ok (.iload_n 2, 1) := by decide +kernel
theorem dX12_readPart_75 : decode cX12_readPart 75 = .ok (.bipush 50, 2) := by decide +kernel
theorem dX12_readPart_77 : decode cX12_readPart 77 = .ok (.if_icmp .ne 18, 3) := by decide +kernel
theorem dX12_readPart_80 : decode cX12_readPart 80 = .ok (.aload_n 0, 1) := by decide +kernel
theorem dX12_readPart_81 : decode cX12_readPart 81 = .ok (.getfield 53, 3) := by decide +kernel
theorem dX12_readPart_84 : decode cX12_readPart 84 = .ok (.aload_n 0, 1) := by decide +kernel
theorem dX12_readPart_85 : decode cX12_readPart 85 = .ok (.getfield 165, 3) := by decide +kernel
theorem dX12_readPart_88 : decode cX12_readPart 88 = .ok (.iaload, 1) := by decide +kernel
theorem dX12_readPart_89 : decode cX12_readPart 89 = .ok (.sipush 1000, 3) := by decide +kernel
theorem dX12_readPart_92 : decode cX12_readPart 92 = .ok (.if_icmp .le 19, 3) := by decide +kernel
theorem dX12_readPart_95 : decode cX12_readPart 95 = .ok (.iload_n 2, 1) := by decide +kernel
theorem dX12_readPart_96 : decode cX12_readPart 96 = .ok (.aload_n 0, 1) := by decide +kernel
theorem dX12_readPart_97 : decode cX12_readPart 97 = .ok (.getfield 217, 3) := by decide +kernel
theorem dX12_readPart_100 : decode cX12_readPart 100 = .ok (.if_icmp .lt 63, 3) := by decide +kernel
theorem dX12_readPart_103 : decode cX12_readPart 103 = .ok (.iload_n 2, 1) := by decide +kernel
theorem dX12_readPart_104 : decode cX12_readPart 104 = .ok (.aload_n 0, 1) := by decide +kernel
theorem dX12_readPart_105 : decode cX12_readPart 105 = .ok (.getfield 220, 3) := by decide +kernel
theorem dX12_readPart_108 : decode cX12_readPart 108 = .ok (.if_icmp .gt 55, 3) := by decide +kernel
theorem dX12_readPart_111 : decode cX12_readPart 111 = .ok (.aload_n 0, 1) := by decide +kernel
theorem dX12_readPart_112 : decode cX12_readPart 112 = .ok (.invokevirtual 223, 3) := by decide +kernel
theorem dX12_readPart_115 : decode cX12_readPart 115 = .ok (.aload_n 0, 1) := by decide +kernel
theorem dX12_readPart_116 : decode cX12_readPart 116 = .ok (.getfield 191, 3) := by decide +kernel
theorem dX12_readPart_119 : decode cX12_readPart 119 = .ok (.ifCond .eq 16, 3) := by decide +kernel
theorem dX12_readPart_122 : decode cX12_readPart 122 = .ok (.iload_n 2, 1) := by decide +kernel
theorem dX12_readPart_123 : decode cX12_readPart 123 = .ok (.bipush 16, 2) := by decide +kernel
theorem dX12_readPart_125 : decode cX12_readPart 125 = .ok (.if_icmp .ne 10, 3) := by decide +kernel
theorem dX12_readPart_128 : decode cX12_readPart 128 = .ok (.aload_n 0, 1) := by decide +kernel
theorem dX12_readPart_129 : decode cX12_readPart 129 = .ok (.iconst 0, 1) := by decide +kernel
theorem dX12_readPart_130 : decode cX12_readPart 130 = .ok (.bipush 9, 2) := by decide +kernel
theorem dX12_readPart_132 : decode cX12_readPart 132 = .ok (.invokevirtual 187, 3) := by decide +kernel
theorem dX12_readPart_135 : decode cX12_readPart 135 = .ok (.aload_n 0, 1) := by decide +kernel
theorem dX12_readPart_136 : decode cX12_readPart 136 = .ok (.getfield 191, 3) := by decide +kernel
theorem dX12_readPart_139 : decode cX12_readPart 139 = .ok (.ifCond .eq 28, 3) := by decide +kernel
theorem dX12_readPart_142 : decode cX12_readPart 142 = .ok (.iload_n 2, 1) := by decide +kernel
theorem dX12_readPart_143 : decode cX12_readPart 143 = .ok (.bipush 17, 2) := by decide +kernel
theorem dX12_readPart_145 : decode cX12_readPart 145 = .ok (.if_icmp .eq 9, 3) := by decide +kernel
theorem dX12_readPart_148 : decode cX12_readPart 148 = .ok (.iload_n 2, 1) := by decide +kernel
theorem dX12_readPart_149 : decode cX12_readPart 149 = .ok (.bipush 22, 2) := by decide +kernel
theorem dX12_readPart_151 : decode cX12_readPart 151 = .ok (.if_icmp .ne 16, 3) := by decide +kernel
theorem dX12_readPart_154 : decode cX12_readPart 154 = .ok (.aload_n 0, 1) := by decide +kernel
theorem dX12_readPart_155 : decode cX12_readPart 155 = .ok (.iconst 0, 1) := by decide +kernel
theorem dX12_readPart_156 : decode cX12_readPart 156 = .ok (.iconst 5, 1) := by decide +kernel
theorem dX12_readPart_157 : decode cX12_readPart 157 = .ok (.invokevirtual 187, 3) := by decide +kernel
theorem dX12_readPart_160 : decode cX12_readPart 160 = .ok (.goto 7, 3) := by decide +kernel
theorem dX12_readPart_163 : decode cX12_readPart 163 = .ok (.aload_n 0, 1) := by decide +kernel
theorem dX12_readPart_164 : decode cX12_readPart 164 = .ok (.invokevirtual 171, 3) := by decide +kernel
theorem dX12_readPart_167 : decode cX12_readPart 167 = .ok (.return_, 1) := by decide +kernel
theorem wt6_211 : Cond.code yX12_readSum cX12_readSum 2 none ∈ kG := kt6 211 rfl rfl
theorem wt6_215 : Cond.code yX12_readTerm cX12_readTerm 2 none ∈ kG := kt6 215 rfl rfl
theorem wt6_219 : Cond.code yX12_readPart cX12_readPart 3 none ∈ kG := kt6 219 rfl rfl
theorem wt7_2 : Cond.code yX12_readTest cX12_readTest 2 none ∈ kG := kt7 2 rfl rfl
theorem wt7_6 : Cond.code yX12_readBoth cX12_readBoth 2 none ∈ kG := kt7 6 rfl rfl
theorem wt7_10 : Cond.code yX12_readPlain cX12_readPlain 4 none ∈ kG := kt7 10 rfl rfl
theorem wt5_168 : Cond.fieldLink RX12 217 "SunriseRoofModel" "firstWord" "I" ∈ kG := kt5 168 rfl rfl
theorem wt5_169 : Cond.fieldLink RX12 220 "SunriseRoofModel" "lastWord" "I" ∈ kG := kt5 169 rfl rfl
theorem wt6_231 : Cond.methodLink RX12 223 yX12_leaf ∈ kG := kt6 231 rfl rfl
theorem wt6_233 : Cond.instanceMethod yX12_leaf ∈ kG := kt6 233 rfl rfl
theorem wp4_13 : Cond.selects RX12 yX12_leaf yX12_leaf ∈ kG := kp4 13 rfl rfl
theorem wt6_234 : Cond.code yX12_leaf cX12_leaf 1 none ∈ kG := kt6 234 rfl rfl
theorem wt5_170 : Cond.fieldLink RX12 191 "SunriseRoofModel" "isOrders" "Z" ∈ kG := kt5 170 rfl rfl
theorem wt6_208 : Cond.methodLink RX12 177 yX12_readSum ∈ kG := kt6 208 rfl rfl
theorem wt6_210 : Cond.instanceMethod yX12_readSum ∈ kG := kt6 210 rfl rfl
theorem wp4_8 : Cond.selects RX12 yX12_readSum yX12_readSum ∈ kG := kp4 8 rfl rfl
theorem wt6_227 : Cond.methodLink RX12 181 yX12_must ∈ kG := kt6 227 rfl rfl
theorem wt6_229 : Cond.instanceMethod yX12_must ∈ kG := kt6 229 rfl rfl
theorem wp4_12 : Cond.selects RX12 yX12_must yX12_must ∈ kG := kp4 12 rfl rfl
theorem wt6_230 : Cond.code yX12_must cX12_must 2 none ∈ kG := kt6 230 rfl rfl
theorem wt6_235 : Cond.methodLink RX12 187 yX12_mustNumber ∈ kG := kt6 235 rfl rfl
theorem wt6_237 : Cond.instanceMethod yX12_mustNumber ∈ kG := kt6 237 rfl rfl
theorem wp4_14 : Cond.selects RX12 yX12_mustNumber yX12_mustNumber ∈ kG := kp4 14 rfl rfl
theorem wt6_238 : Cond.code yX12_mustNumber cX12_mustNumber 3 none ∈ kG := kt6 238 rfl rfl
theorem wt6_216 : Cond.methodLink RX12 214 yX12_readPart ∈ kG := kt6 216 rfl rfl
theorem wt6_218 : Cond.instanceMethod yX12_readPart ∈ kG := kt6 218 rfl rfl
theorem wp4_10 : Cond.selects RX12 yX12_readPart yX12_readPart ∈ kG := kp4 10 rfl rfl
theorem wt6_212 : Cond.methodLink RX12 211 yX12_readTerm ∈ kG := kt6 212 rfl rfl
theorem wt6_214 : Cond.instanceMethod yX12_readTerm ∈ kG := kt6 214 rfl rfl
theorem wp4_9 : Cond.selects RX12 yX12_readTerm yX12_readTerm ∈ kG := kp4 9 rfl rfl
theorem wt6_239 : Cond.methodLink RX12 184 yX12_readTest ∈ kG := kt6 239 rfl rfl
theorem wt7_1 : Cond.instanceMethod yX12_readTest ∈ kG := kt7 1 rfl rfl
theorem wp4_15 : Cond.selects RX12 yX12_readTest yX12_readTest ∈ kG := kp4 15 rfl rfl
theorem wt7_7 : Cond.methodLink RX12 204 yX12_readPlain ∈ kG := kt7 7 rfl rfl
theorem wt7_9 : Cond.instanceMethod yX12_readPlain ∈ kG := kt7 9 rfl rfl
theorem wp5_1 : Cond.selects RX12 yX12_readPlain yX12_readPlain ∈ kG := kp5 1 rfl rfl
theorem wt7_3 : Cond.methodLink RX12 201 yX12_readBoth ∈ kG := kt7 3 rfl rfl
theorem wt7_5 : Cond.instanceMethod yX12_readBoth ∈ kG := kt7 5 rfl rfl
theorem wp5_0 : Cond.selects RX12 yX12_readBoth yX12_readBoth ∈ kG := kp5 0 rfl rfl
theorem kc_1000 : kb 1000 1000 1000 := ⟨by decide +kernel, by decide +kernel⟩
theorem kc_141 : kb 141 141 141 := ⟨by decide +kernel, by decide +kernel⟩
theorem kc_193 : kb 193 193 193 := ⟨by decide +kernel, by decide +kernel⟩
theorem kc_41 : kb 41 41 41 := ⟨by decide +kernel, by decide +kernel⟩
theorem kc_61 : kb 61 61 61 := ⟨by decide +kernel, by decide +kernel⟩
theorem kc_93 : kb 93 93 93 := ⟨by decide +kernel, by decide +kernel⟩
set_option maxHeartbeats 4000000 in
def cRSum (d : Nat) : Prop := ∀ (l : Launch) {D : va_G} {K : Nat → ClassId} (o : Nat) (r : Nat → Nat) (f : Nat → Int32) (a : Nat → Nat → Int32) (g : Nat → Int64) (hI : mI f a) (dp : Int32) (bdp : kb 0 dp 8) (N i : Nat) (ob : Bool) (hp0 : rS f a N ob) (hp1 : (f 19).toInt = (i : Int)) (hp2 : i ≤ N) (hp3 : dp.toInt + (d : Int) = 8), kV l yX12_readSum (Cond.code yX12_readSum cX12_readSum 2 none :: kG) (rmD (3 * d + 8) 0 0) D (tysK K) [.ref o, .int dp] (mW K o r f a g) (fun (u : Nat → Int32) => mI u a ∧ fE [19, 20, 21] f u ∧ (∃ i2 : Nat, (u 19).toInt = (i2 : Int) ∧ i ≤ i2 ∧ i2 ≤ N ∧ (u 21 = -1 → f 21 = -1 ∧ gG ob (rC (a 15) N) d 0 i i2))) (fun u => mW K o r u a g) 0 0
set_option maxHeartbeats 4000000 in
def cRTerm (d : Nat) : Prop := ∀ (l : Launch) {D : va_G} {K : Nat → ClassId} (o : Nat) (r : Nat → Nat) (f : Nat → Int32) (a : Nat → Nat → Int32) (g : Nat → Int64) (hI : mI f a) (dp : Int32) (bdp : kb 0 dp 8) (N i : Nat) (ob : Bool) (hp0 : rS f a N ob) (hp1 : (f 19).toInt = (i : Int)) (hp2 : i ≤ N) (hp3 : dp.toInt + (d : Int) = 8), kV l yX12_readTerm (Cond.code yX12_readTerm cX12_readTerm 2 none :: kG) (rmD (3 * d + 7) 0 0) D (tysK K) [.ref o, .int dp] (mW K o r f a g) (fun (u : Nat → Int32) => mI u a ∧ fE [19, 20, 21] f u ∧ (∃ i2 : Nat, (u 19).toInt = (i2 : Int) ∧ i ≤ i2 ∧ i2 ≤ N ∧ (u 21 = -1 → f 21 = -1 ∧ gG ob (rC (a 15) N) d 1 i i2))) (fun u => mW K o r u a g) 0 0
set_option maxHeartbeats 4000000 in
def cRPart (d : Nat) : Prop := ∀ (l : Launch) {D : va_G} {K : Nat → ClassId} (o : Nat) (r : Nat → Nat) (f : Nat → Int32) (a : Nat → Nat → Int32) (g : Nat → Int64) (hI : mI f a) (dp : Int32) (bdp : kb 0 dp 8) (N i : Nat) (ob : Bool) (hp0 : rS f a N ob) (hp1 : (f 19).toInt = (i : Int)) (hp2 : i ≤ N) (hp3 : dp.toInt + (d : Int) = 8), kV l yX12_readPart (Cond.code yX12_readPart cX12_readPart 3 none :: kG) (rmD (3 * d + 6) 0 0) D (tysK K) [.ref o, .int dp] (mW K o r f a g) (fun (u : Nat → Int32) => mI u a ∧ fE [19, 20, 21] f u ∧ (∃ i2 : Nat, (u 19).toInt = (i2 : Int) ∧ i ≤ i2 ∧ i2 ≤ N ∧ (u 21 = -1 → f 21 = -1 ∧ gG ob (rC (a 15) N) d 2 i i2))) (fun u => mW K o r u a g) 0 0
set_option maxHeartbeats 4000000 in
def cRTest (d : Nat) : Prop := ∀ (l : Launch) {D : va_G} {K : Nat → ClassId} (o : Nat) (r : Nat → Nat) (f : Nat → Int32) (a : Nat → Nat → Int32) (g : Nat → Int64) (hI : mI f a) (dp : Int32) (bdp : kb 0 dp 8) (N i : Nat) (ob : Bool) (hp0 : rS f a N ob) (hp1 : (f 19).toInt = (i : Int)) (hp2 : i ≤ N) (hp3 : dp.toInt + (d : Int) = 8), kV l yX12_readTest (Cond.code yX12_readTest cX12_readTest 2 none :: kG) (rmD (4 * d + 15) 0 0) D (tysK K) [.ref o, .int dp] (mW K o r f a g) (fun (u : Nat → Int32) => mI u a ∧ fE [19, 20, 21] f u ∧ (∃ i2 : Nat, (u 19).toInt = (i2 : Int) ∧ i ≤ i2 ∧ i2 ≤ N ∧ (u 21 = -1 → f 21 = -1 ∧ gG ob (rC (a 15) N) d 3 i i2))) (fun u => mW K o r u a g) 0 0
set_option maxHeartbeats 4000000 in
def cRBoth (d : Nat) : Prop := ∀ (l : Launch) {D : va_G} {K : Nat → ClassId} (o : Nat) (r : Nat → Nat) (f : Nat → Int32) (a : Nat → Nat → Int32) (g : Nat → Int64) (hI : mI f a) (dp : Int32) (bdp : kb 0 dp 8) (N i : Nat) (ob : Bool) (hp0 : rS f a N ob) (hp1 : (f 19).toInt = (i : Int)) (hp2 : i ≤ N) (hp3 : dp.toInt + (d : Int) = 8), kV l yX12_readBoth (Cond.code yX12_readBoth cX12_readBoth 2 none :: kG) (rmD (4 * d + 14) 0 0) D (tysK K) [.ref o, .int dp] (mW K o r f a g) (fun (u : Nat → Int32) => mI u a ∧ fE [19, 20, 21] f u ∧ (∃ i2 : Nat, (u 19).toInt = (i2 : Int) ∧ i ≤ i2 ∧ i2 ≤ N ∧ (u 21 = -1 → f 21 = -1 ∧ gG ob (rC (a 15) N) d 4 i i2))) (fun u => mW K o r u a g) 0 0
set_option maxHeartbeats 4000000 in
def cRPlain (d : Nat) : Prop := ∀ (l : Launch) {D : va_G} {K : Nat → ClassId} (o : Nat) (r : Nat → Nat) (f : Nat → Int32) (a : Nat → Nat → Int32) (g : Nat → Int64) (hI : mI f a) (dp : Int32) (bdp : kb 0 dp 8) (N i : Nat) (ob : Bool) (hp0 : rS f a N ob) (hp1 : (f 19).toInt = (i : Int)) (hp2 : i ≤ N) (hp3 : dp.toInt + (d : Int) = 8), kV l yX12_readPlain (Cond.code yX12_readPlain cX12_readPlain 4 none :: kG) (rmD (4 * d + 13) 0 0) D (tysK K) [.ref o, .int dp] (mW K o r f a g) (fun (u : Nat → Int32) => mI u a ∧ fE [19, 20, 21] f u ∧ (∃ i2 : Nat, (u 19).toInt = (i2 : Int) ∧ i ≤ i2 ∧ i2 ≤ N ∧ (u 21 = -1 → f 21 = -1 ∧ gG ob (rC (a 15) N) d 5 i i2))) (fun u => mW K o r u a g) 0 0
set_option maxHeartbeats 4000000 in
set_option maxRecDepth 100000 in
theorem m_readPart (d : Nat) (ih : ∀ ee, d = ee + 1 → cRSum ee) (l : Launch) {D : va_G} {K : Nat → ClassId} (o : Nat) (r : Nat → Nat) (f : Nat → Int32) (a : Nat → Nat → Int32) (g : Nat → Int64) (hI : mI f a) (dp : Int32) (bdp : kb 0 dp 8) (N i : Nat) (ob : Bool) (hp0 : rS f a N ob) (hp1 : (f 19).toInt = (i : Int)) (hp2 : i ≤ N) (hp3 : dp.toInt + (d : Int) = 8) : kV l yX12_readPart (Cond.code yX12_readPart cX12_readPart 3 none :: kG) (rmD (3 * d + 6) 0 0) D (tysK K) [.ref o, .int dp] (mW K o r f a g) (fun (u : Nat → Int32) => mI u a ∧ fE [19, 20, 21] f u ∧ (∃ i2 : Nat, (u 19).toInt = (i2 : Int) ∧ i ≤ i2 ∧ i2 ≤ N ∧ (u 21 = -1 → f 21 = -1 ∧ gG ob (rC (a 15) N) d 2 i i2))) (fun u => mW K o r u a g) 0 0 := by
  refine kV.of (cc := cX12_readPart) (maxL := 3) (ret := none) (by decide) rfl (Nat.le_of_ble_eq_true rfl) ?_
  intro p e s m below meth c A hx hb hr hml hown hts hlocks hnm hK hP hD hS hA ls hl
  have hE : fE [19, 20, 21] f f := fE_rf
  have hg : ∀ w ∈ kG, w.before _ s = true := fun w h => hts w (List.mem_cons_of_mem _ h)
  have hown : s.vm.findClass RX12 = some m.cls := hown
  have hl : lv_has ls 3 [(0, .ref o), (1, .int dp)] := hl
  obtain ⟨c19, ec19⟩ : ∃ z : Int32, z = f 19 := ⟨_, rfl⟩
  have hg0 : c19.toInt = (i : Int) := by rw [ec19]; exact hp1
  have b1 : kb 0 c19 400 := kb_tok hp0 hp2 hg0
  cases ob
  · refine lv_aload_n hx hb dX12_readPart_0 rfl (lv_at hl 0 rfl) ?_
    refine kI.callV (As := []) (rest := []) ⟨hx, hb, hml, hown, hg⟩ (m_fine l o r f a g hI   ) (cwV 0 hg (kgV wt6_204 wt6_206 wp4_7 wt1_14 wt6_207) rfl rfl rfl (by decide +kernel) ⟨by dsimp only [rmD]; omega, by dsimp only [rmD]; omega⟩) hK hP hD hS hA mIs [] rfl (wr := []) rfl rfl rfl (fun i h => by cases h) 0 12 rfl rfl rfl hl.1 rfl (Nat.le_of_ble_eq_true rfl) dX12_readPart_1 ⟨Nat.le_refl _, Nat.le_refl _⟩ (fun v3 u4 H locs hw2 hP hD hS => ?_)
    have hP : va_P D vwCl (mW K o r f a g) H := hP
    have hD : va_D A (mW K o r f a g) := hD
    rcases hw2.2 with hf5 | hf5
    · refine k_top (z := 1) hf5.1 ?_
      refine lv_if_ne (tgt := 8) hx hb dX12_readPart_4 (by decide) (fun c6 => ?_) (fun c6 => ?_)
      · refine lv_aload_n hx hb dX12_readPart_8 rfl (lv_at hl 0 rfl) ?_
        refine va_get (D := D) (ci := 12) (v := .ref (r 15)) (C := RX12) (T := TX12) (N := 48) hx hb hg inC12 hown hK hP 0 rfl rfl 15 (by decide) (hg _ wt5_175) (fun _ h9 => h9) rfl dX12_readPart_9 ?_
        refine lv_aload_n hx hb dX12_readPart_12 rfl (lv_at hl 0 rfl) ?_
        refine va_get (D := D) (ci := 12) (v := .int (f 19)) (C := RX12) (T := TX12) (N := 48) hx hb hg inC12 hown hK hP 0 rfl rfl 19 (by decide) (hg _ wt5_179) (fun _ h9 => h9) rfl dX12_readPart_13 ?_
        refine k_top (z := c19) ec19.symm ?_
        refine va_iald hx hb hK hP 9 0 rfl rfl (kb_in b1 (by decide) (by decide)) dX12_readPart_16 ?_
        refine lv_topi (fun t7 et7 => ?_)
        have ht8 : t7 = rC (a 15) N (i) := et7.trans (rC_at (rS_fE hE hp0 (by decide)) hp2 hg0)
        refine lv_istore_n (lv' := [(2, .int t7), (0, .ref o), (1, .int dp)]) hx hb dX12_readPart_17 rfl hl (by decide) rfl (fun ls hl => ?_)
        refine lv_iload_n hx hb dX12_readPart_18 rfl (lv_at hl 0 rfl) ?_
        refine lv_bipush (v := 91) hx hb dX12_readPart_19 (by decide) ?_
        refine kN.callS (As := [.int 91]) (rest := [.int t7]) ⟨hx, hb, hml, hown, hg⟩ (m_sign l 91 (kb_w kc_91 (by decide) (by decide))) (va_cwS 1 hg (kgS wt6_220 wt6_221 wt1_14 wt6_222) rfl rfl rfl (by decide +kernel) ⟨by dsimp only [rmD]; omega, by dsimp only [rmD]; omega⟩) hP hS rfl hl.1 rfl (Nat.le_of_ble_eq_true rfl) dX12_readPart_21 ⟨Nat.le_refl _, Nat.le_refl _⟩ (fun v10 H locs hw9 hP hS => ?_)
        refine k_top (z := 191) (Int32.toInt_inj.mp (hw9.2.trans (by decide +kernel))) ?_
        refine lv_icmp_ne (tgt := 74) hx hb dX12_readPart_24 (by decide) (fun c12 => ?_) (fun c12 => ?_)
        · refine lv_iload_n hx hb dX12_readPart_74 rfl (lv_at hl 0 rfl) ?_
          refine lv_bipush (v := 50) hx hb dX12_readPart_75 (by decide) ?_
          refine lv_icmp_ne (tgt := 95) hx hb dX12_readPart_77 (by decide) (fun c13 => ?_) (fun c13 => ?_)
          · refine lv_iload_n hx hb dX12_readPart_95 rfl (lv_at hl 0 rfl) ?_
            refine lv_aload_n hx hb dX12_readPart_96 rfl (lv_at hl 1 rfl) ?_
            refine va_get (D := D) (ci := 12) (v := .int (f 8)) (C := RX12) (T := TX12) (N := 48) hx hb hg inC12 hown hK hP 0 rfl rfl 8 (by decide) (hg _ wt5_168) (fun _ h9 => h9) rfl dX12_readPart_97 ?_
            refine k_top (z := 9) hp0.2.2.2.2.1 ?_
            refine lv_icmp_lt (tgt := 163) hx hb dX12_readPart_100 (by decide) (fun c14 => ?_) (fun c14 => ?_)
            · have h15 := (kc_lt c14)
              have b16 : kb (-2147483648) t7 8 := kr_lt1 h15 (kb_any t7) kc_9 (by decide)
              refine lv_aload_n hx hb dX12_readPart_163 rfl (lv_at hl 1 rfl) ?_
              refine kV.callV (As := []) (rest := []) ⟨hx, hb, hml, hown, hg⟩ (m_faults l o r f a g hI   N (i) false (rS_fE hE hp0 (by decide)) (by rw [ec19.symm]; exact hg0) hp2) (cwV 0 hg (kgV wt6_223 wt6_225 wp4_11 wt1_14 wt6_226) rfl rfl rfl (by decide +kernel) ⟨by dsimp only [rmD]; omega, by dsimp only [rmD]; omega⟩) hK hP hD hS hA mIs [] rfl (wr := []) rfl rfl rfl (fun i h => by cases h) 0 12 rfl rfl rfl hl.1 rfl (Nat.le_of_ble_eq_true rfl) dX12_readPart_164 ⟨Nat.le_refl _, Nat.le_refl _⟩ (fun u19 H locs hw17 hP hD hS => ?_)
              have hP : va_P D vwCl (mW K o r u19 a g) H := hP
              have hD : va_D A (mW K o r u19 a g) := hD
              have hI : mI u19 a := hw17.1
              have eE20 : fE [21] f u19 := hw17.2.1
              have hE : fE [19, 20, 21] f u19 := fE_tr hE (fE_w (by decide) eE20)
              exact kV_ret hx hb hr hlocks hK hS dX12_readPart_167 u19 hP hD ⟨hI, hE, ⟨i, (by rw [((eE20 19 (by decide)).trans ec19.symm)]; exact hg0), (Nat.le_refl i), hp2, (fun hq => by exact absurd hq hw17.2.2)⟩⟩
            · have h21 := (kc_nlt c14)
              have b22 : kb 9 t7 2147483647 := kr_le2 h21 kc_9 (kb_any t7)
              refine lv_iload_n hx hb dX12_readPart_103 rfl (lv_at hl 0 rfl) ?_
              refine lv_aload_n hx hb dX12_readPart_104 rfl (lv_at hl 1 rfl) ?_
              refine va_get (D := D) (ci := 12) (v := .int (f 9)) (C := RX12) (T := TX12) (N := 48) hx hb hg inC12 hown hK hP 0 rfl rfl 9 (by decide) (hg _ wt5_169) (fun _ h9 => h9) rfl dX12_readPart_105 ?_
              refine k_top (z := 18) hp0.2.2.2.2.2 ?_
              refine lv_icmp_gt (tgt := 163) hx hb dX12_readPart_108 (by decide) (fun c23 => ?_) (fun c23 => ?_)
              · have h24 := (kc_lt c23)
                have b25 : kb 19 t7 2147483647 := kr_lt2 h24 kc_18 b22 (by decide)
                refine lv_aload_n hx hb dX12_readPart_163 rfl (lv_at hl 1 rfl) ?_
                refine kV.callV (As := []) (rest := []) ⟨hx, hb, hml, hown, hg⟩ (m_faults l o r f a g hI   N (i) false (rS_fE hE hp0 (by decide)) (by rw [ec19.symm]; exact hg0) hp2) (cwV 0 hg (kgV wt6_223 wt6_225 wp4_11 wt1_14 wt6_226) rfl rfl rfl (by decide +kernel) ⟨by dsimp only [rmD]; omega, by dsimp only [rmD]; omega⟩) hK hP hD hS hA mIs [] rfl (wr := []) rfl rfl rfl (fun i h => by cases h) 0 12 rfl rfl rfl hl.1 rfl (Nat.le_of_ble_eq_true rfl) dX12_readPart_164 ⟨Nat.le_refl _, Nat.le_refl _⟩ (fun u28 H locs hw26 hP hD hS => ?_)
                have hP : va_P D vwCl (mW K o r u28 a g) H := hP
                have hD : va_D A (mW K o r u28 a g) := hD
                have hI : mI u28 a := hw26.1
                have eE29 : fE [21] f u28 := hw26.2.1
                have hE : fE [19, 20, 21] f u28 := fE_tr hE (fE_w (by decide) eE29)
                exact kV_ret hx hb hr hlocks hK hS dX12_readPart_167 u28 hP hD ⟨hI, hE, ⟨i, (by rw [((eE29 19 (by decide)).trans ec19.symm)]; exact hg0), (Nat.le_refl i), hp2, (fun hq => by exact absurd hq hw26.2.2)⟩⟩
              · have h30 := (kc_nlt c23)
                have b31 : kb 9 t7 18 := kr_le1 h30 b22 kc_18
                refine lv_aload_n hx hb dX12_readPart_111 rfl (lv_at hl 1 rfl) ?_
                refine kV.callV (As := []) (rest := []) ⟨hx, hb, hml, hown, hg⟩ (m_leaf l o r f a g hI   N (i) false (rS_fE hE hp0 (by decide)) (by rw [ec19.symm]; exact hg0) hp2 (fun _ => rC_lt (kb_nz (kb_eq ht8.symm b31) (by decide)))) (cwV 0 hg (kgV wt6_231 wt6_233 wp4_13 wt1_14 wt6_234) rfl rfl rfl (by decide +kernel) ⟨by dsimp only [rmD]; omega, by dsimp only [rmD]; omega⟩) hK hP hD hS hA mIs [] rfl (wr := []) rfl rfl rfl (fun i h => by cases h) 0 12 rfl rfl rfl hl.1 rfl (Nat.le_of_ble_eq_true rfl) dX12_readPart_112 ⟨Nat.le_refl _, Nat.le_refl _⟩ (fun u34 H locs hw32 hP hD hS => ?_)
                have hP : va_P D vwCl (mW K o r u34 a g) H := hP
                have hD : va_D A (mW K o r u34 a g) := hD
                have hI : mI u34 a := hw32.1
                have eE35 : fE [19, 20, 21] f u34 := hw32.2.1
                have hE : fE [19, 20, 21] f u34 := fE_tr hE eE35
                obtain ⟨ik36, hgk36, hlek36, hNk36, hik36⟩ := hw32.2.2
                obtain ⟨gv37, egv37⟩ : ∃ z : Int32, z = u34 19 := ⟨_, rfl⟩
                have hg38 : gv37.toInt = ((ik36 : Nat) : Int) := by rw [egv37]; exact hgk36
                have b39 : kb 0 gv37 400 := kb_tok (rS_fE hE hp0 (by decide)) hNk36 hg38
                refine lv_aload_n hx hb dX12_readPart_115 rfl (lv_at hl 1 rfl) ?_
                refine va_get (D := D) (ci := 12) (v := .int (u34 10)) (C := RX12) (T := TX12) (N := 48) hx hb hg inC12 hown hK hP 0 rfl rfl 10 (by decide) (hg _ wt5_170) (fun _ h9 => h9) rfl dX12_readPart_116 ?_
                refine k_top (z := 0) ((eE35 10 (by decide)).trans hp0.2.2.2.1) ?_
                refine lv_if_eq (tgt := 135) hx hb dX12_readPart_119 (by decide) (fun c40 => ?_) (fun c40 => ?_)
                · refine lv_aload_n hx hb dX12_readPart_135 rfl (lv_at hl 1 rfl) ?_
                  refine va_get (D := D) (ci := 12) (v := .int (u34 10)) (C := RX12) (T := TX12) (N := 48) hx hb hg inC12 hown hK hP 0 rfl rfl 10 (by decide) (hg _ wt5_170) (fun _ h9 => h9) rfl dX12_readPart_136 ?_
                  refine k_top (z := 0) ((eE35 10 (by decide)).trans hp0.2.2.2.1) ?_
                  refine lv_if_eq (tgt := 167) hx hb dX12_readPart_139 (by decide) (fun c41 => ?_) (fun c41 => ?_)
                  · exact kV_ret hx hb hr hlocks hK hS dX12_readPart_167 u34 hP hD ⟨hI, hE, ⟨ik36, (by rw [egv37.symm]; exact hg38), (Nat.le_trans (Nat.le_refl i) hlek36), hNk36, (fun hq => by obtain ⟨q42, xk36⟩ := hik36 hq; exact ⟨q42, gi_2l rfl (kb_eq ht8.symm b31) xk36⟩)⟩⟩
                  · exact kb_nsame c41 kc_0 kc_0
                · exact kb_nsame c40 kc_0 kc_0
          · have b43 : kb 50 t7 50 := kb_eq c13 kc_50
            refine lv_aload_n hx hb dX12_readPart_80 rfl (lv_at hl 1 rfl) ?_
            refine va_get (D := D) (ci := 12) (v := .ref (r 16)) (C := RX12) (T := TX12) (N := 48) hx hb hg inC12 hown hK hP 0 rfl rfl 16 (by decide) (hg _ wt5_176) (fun _ h9 => h9) rfl dX12_readPart_81 ?_
            refine lv_aload_n hx hb dX12_readPart_84 rfl (lv_at hl 1 rfl) ?_
            refine va_get (D := D) (ci := 12) (v := .int (f 19)) (C := RX12) (T := TX12) (N := 48) hx hb hg inC12 hown hK hP 0 rfl rfl 19 (by decide) (hg _ wt5_179) (fun _ h9 => h9) rfl dX12_readPart_85 ?_
            refine k_top (z := c19) ec19.symm ?_
            refine va_iald hx hb hK hP 10 0 rfl rfl (kb_in b1 (by decide) (by decide)) dX12_readPart_88 ?_
            refine lv_topi (fun t44 et44 => ?_)
            refine lv_sipush (v := 1000) hx hb dX12_readPart_89 (by decide) ?_
            refine lv_icmp_le (tgt := 111) hx hb dX12_readPart_92 (by decide) (fun c45 => ?_) (fun c45 => ?_)
            · have h46 := (kc_le c45)
              have b47 : kb (-2147483648) t44 1000 := kr_le1 h46 (kb_any t44) kc_1000
              refine lv_aload_n hx hb dX12_readPart_111 rfl (lv_at hl 1 rfl) ?_
              refine kV.callV (As := []) (rest := []) ⟨hx, hb, hml, hown, hg⟩ (m_leaf l o r f a g hI   N (i) false (rS_fE hE hp0 (by decide)) (by rw [ec19.symm]; exact hg0) hp2 (fun _ => rC_lt (kb_nz (kb_eq ht8.symm b43) (by decide)))) (cwV 0 hg (kgV wt6_231 wt6_233 wp4_13 wt1_14 wt6_234) rfl rfl rfl (by decide +kernel) ⟨by dsimp only [rmD]; omega, by dsimp only [rmD]; omega⟩) hK hP hD hS hA mIs [] rfl (wr := []) rfl rfl rfl (fun i h => by cases h) 0 12 rfl rfl rfl hl.1 rfl (Nat.le_of_ble_eq_true rfl) dX12_readPart_112 ⟨Nat.le_refl _, Nat.le_refl _⟩ (fun u50 H locs hw48 hP hD hS => ?_)
              have hP : va_P D vwCl (mW K o r u50 a g) H := hP
              have hD : va_D A (mW K o r u50 a g) := hD
              have hI : mI u50 a := hw48.1
              have eE51 : fE [19, 20, 21] f u50 := hw48.2.1
              have hE : fE [19, 20, 21] f u50 := fE_tr hE eE51
              obtain ⟨ik52, hgk52, hlek52, hNk52, hik52⟩ := hw48.2.2
              obtain ⟨gv53, egv53⟩ : ∃ z : Int32, z = u50 19 := ⟨_, rfl⟩
              have hg54 : gv53.toInt = ((ik52 : Nat) : Int) := by rw [egv53]; exact hgk52
              have b55 : kb 0 gv53 400 := kb_tok (rS_fE hE hp0 (by decide)) hNk52 hg54
              refine lv_aload_n hx hb dX12_readPart_115 rfl (lv_at hl 1 rfl) ?_
              refine va_get (D := D) (ci := 12) (v := .int (u50 10)) (C := RX12) (T := TX12) (N := 48) hx hb hg inC12 hown hK hP 0 rfl rfl 10 (by decide) (hg _ wt5_170) (fun _ h9 => h9) rfl dX12_readPart_116 ?_
              refine k_top (z := 0) ((eE51 10 (by decide)).trans hp0.2.2.2.1) ?_
              refine lv_if_eq (tgt := 135) hx hb dX12_readPart_119 (by decide) (fun c56 => ?_) (fun c56 => ?_)
              · refine lv_aload_n hx hb dX12_readPart_135 rfl (lv_at hl 1 rfl) ?_
                refine va_get (D := D) (ci := 12) (v := .int (u50 10)) (C := RX12) (T := TX12) (N := 48) hx hb hg inC12 hown hK hP 0 rfl rfl 10 (by decide) (hg _ wt5_170) (fun _ h9 => h9) rfl dX12_readPart_136 ?_
                refine k_top (z := 0) ((eE51 10 (by decide)).trans hp0.2.2.2.1) ?_
                refine lv_if_eq (tgt := 167) hx hb dX12_readPart_139 (by decide) (fun c57 => ?_) (fun c57 => ?_)
                · exact kV_ret hx hb hr hlocks hK hS dX12_readPart_167 u50 hP hD ⟨hI, hE, ⟨ik52, (by rw [egv53.symm]; exact hg54), (Nat.le_trans (Nat.le_refl i) hlek52), hNk52, (fun hq => by obtain ⟨q58, xk52⟩ := hik52 hq; exact ⟨q58, gi_2n (ht8.symm.trans c13) xk52⟩)⟩⟩
                · exact kb_nsame c57 kc_0 kc_0
              · exact kb_nsame c56 kc_0 kc_0
            · have h59 := (kc_nle c45)
              have b60 : kb 1001 t44 2147483647 := kr_lt2 h59 kc_1000 (kb_any t44) (by decide)
              refine lv_iload_n hx hb dX12_readPart_95 rfl (lv_at hl 0 rfl) ?_
              refine lv_aload_n hx hb dX12_readPart_96 rfl (lv_at hl 1 rfl) ?_
              refine va_get (D := D) (ci := 12) (v := .int (f 8)) (C := RX12) (T := TX12) (N := 48) hx hb hg inC12 hown hK hP 0 rfl rfl 8 (by decide) (hg _ wt5_168) (fun _ h9 => h9) rfl dX12_readPart_97 ?_
              refine k_top (z := 9) hp0.2.2.2.2.1 ?_
              refine lv_icmp_lt (tgt := 163) hx hb dX12_readPart_100 (by decide) (fun c61 => ?_) (fun c61 => ?_)
              · have h62 := (kc_lt c61)
                exact kb_no (kr_lt1 h62 b43 kc_9 (H := 8) (by decide)) (by decide)
              · have h63 := (kc_nlt c61)
                refine lv_iload_n hx hb dX12_readPart_103 rfl (lv_at hl 0 rfl) ?_
                refine lv_aload_n hx hb dX12_readPart_104 rfl (lv_at hl 1 rfl) ?_
                refine va_get (D := D) (ci := 12) (v := .int (f 9)) (C := RX12) (T := TX12) (N := 48) hx hb hg inC12 hown hK hP 0 rfl rfl 9 (by decide) (hg _ wt5_169) (fun _ h9 => h9) rfl dX12_readPart_105 ?_
                refine k_top (z := 18) hp0.2.2.2.2.2 ?_
                refine lv_icmp_gt (tgt := 163) hx hb dX12_readPart_108 (by decide) (fun c64 => ?_) (fun c64 => ?_)
                · have h65 := (kc_lt c64)
                  refine lv_aload_n hx hb dX12_readPart_163 rfl (lv_at hl 1 rfl) ?_
                  refine kV.callV (As := []) (rest := []) ⟨hx, hb, hml, hown, hg⟩ (m_faults l o r f a g hI   N (i) false (rS_fE hE hp0 (by decide)) (by rw [ec19.symm]; exact hg0) hp2) (cwV 0 hg (kgV wt6_223 wt6_225 wp4_11 wt1_14 wt6_226) rfl rfl rfl (by decide +kernel) ⟨by dsimp only [rmD]; omega, by dsimp only [rmD]; omega⟩) hK hP hD hS hA mIs [] rfl (wr := []) rfl rfl rfl (fun i h => by cases h) 0 12 rfl rfl rfl hl.1 rfl (Nat.le_of_ble_eq_true rfl) dX12_readPart_164 ⟨Nat.le_refl _, Nat.le_refl _⟩ (fun u68 H locs hw66 hP hD hS => ?_)
                  have hP : va_P D vwCl (mW K o r u68 a g) H := hP
                  have hD : va_D A (mW K o r u68 a g) := hD
                  have hI : mI u68 a := hw66.1
                  have eE69 : fE [21] f u68 := hw66.2.1
                  have hE : fE [19, 20, 21] f u68 := fE_tr hE (fE_w (by decide) eE69)
                  exact kV_ret hx hb hr hlocks hK hS dX12_readPart_167 u68 hP hD ⟨hI, hE, ⟨i, (by rw [((eE69 19 (by decide)).trans ec19.symm)]; exact hg0), (Nat.le_refl i), hp2, (fun hq => by exact absurd hq hw66.2.2)⟩⟩
                · have h70 := (kc_nlt c64)
                  exact kb_no (kr_le1 h70 b43 kc_18) (by decide)
        · have b71 : kb 191 t7 191 := kb_eq c12 kc_191
          refine lv_iload_n hx hb dX12_readPart_27 rfl (lv_at hl 2 rfl) ?_
          refine lv_bipush (v := 8) hx hb dX12_readPart_28 (by decide) ?_
          refine lv_icmp_ne (tgt := 37) hx hb dX12_readPart_30 (by decide) (fun c72 => ?_) (fun c72 => ?_)
          · have b73 : kb 0 dp 7 := kr_neh c72 bdp kc_8 (by decide)
            refine lv_aload_n hx hb dX12_readPart_37 rfl (lv_at hl 1 rfl) ?_
            refine kI.callV (As := []) (rest := []) ⟨hx, hb, hml, hown, hg⟩ (m_fine l o r f a g hI   ) (cwV 0 hg (kgV wt6_204 wt6_206 wp4_7 wt1_14 wt6_207) rfl rfl rfl (by decide +kernel) ⟨by dsimp only [rmD]; omega, by dsimp only [rmD]; omega⟩) hK hP hD hS hA mIs [] rfl (wr := []) rfl rfl rfl (fun i h => by cases h) 0 12 rfl rfl rfl hl.1 rfl (Nat.le_of_ble_eq_true rfl) dX12_readPart_38 ⟨Nat.le_refl _, Nat.le_refl _⟩ (fun v75 u76 H locs hw74 hP hD hS => ?_)
            have hP : va_P D vwCl (mW K o r f a g) H := hP
            have hD : va_D A (mW K o r f a g) := hD
            rcases hw74.2 with hf77 | hf77
            · refine k_top (z := 1) hf77.1 ?_
              refine lv_if_ne (tgt := 45) hx hb dX12_readPart_41 (by decide) (fun c78 => ?_) (fun c78 => ?_)
              · have b79 : kb 0 c19 399 := kb_tok1 (rS_fE hE hp0 (by decide)) (rC_lt (ne_0 (ht8.symm.trans c12) (by decide +kernel))) hg0
                obtain ⟨ee, hd⟩ : ∃ ee, d = ee + 1 := ⟨d - 1, by have w1 := hp3; have w2 := (b73).2; omega⟩
                refine lv_aload_n hx hb dX12_readPart_45 rfl (lv_at hl 1 rfl) ?_
                refine lv_dup hx hb dX12_readPart_46 rfl ?_
                refine va_get (D := D) (ci := 12) (v := .int (f 19)) (C := RX12) (T := TX12) (N := 48) hx hb hg inC12 hown hK hP 0 rfl rfl 19 (by decide) (hg _ wt5_179) (fun _ h9 => h9) rfl dX12_readPart_47 ?_
                refine k_top (z := c19) ec19.symm ?_
                refine lv_iconst (v := 1) hx hb dX12_readPart_50 (by decide) ?_
                refine lv_iadd hx hb dX12_readPart_51 ?_
                refine lv_topi (fun t80 et80 => ?_)
                have b81 : kb 1 t80 400 := kb_eq et80 (kb_add b79 kc_1 (by decide) (by decide))
                have qt80 : t80.toInt = c19.toInt + 1 := by rw [et80]; exact kt_addc b79 kc_1 (by decide) (by decide)
                have hg82 : t80.toInt = ((i + 1 : Nat) : Int) := by rw [qt80, hg0]; omega
                refine va_put (D := D) (ci := 12) (v := .int t80) (ty := .int) (C := RX12) (T := TX12) (N := 48) hx hb hg inC12 tyX12 tyX12_ok nmX12 hown hK hP hD hS 0 rfl rfl 19 (by decide) (hg _ wt5_179) (fun _ h9 => h9) rfl (by decide +kernel) rfl rfl (Nat.le_of_ble_eq_true rfl) dX12_readPart_52 (fun H locs hP hD hS => ?_)
                have hP : va_P D vwCl (mW K o r (upd f 19 t80) a g) H := hP
                have hD : va_D A (mW K o r (upd f 19 t80) a g) := hD
                refine k_gen (P := fun z => va_P D vwCl (mW K o r z a g) H ∧ va_D A (mW K o r z a g) ∧ (mI z a) ∧ (fE [19, 20, 21] f z)) (upd f 19 t80) ⟨hP, hD, (mI_f hI (fI_st hI.1 19 b81 (by decide) (by decide))), (fE_f hE (by decide))⟩ (fun f_83 ef_83 hq => ?_)
                obtain ⟨hP, hD, hI, hE⟩ := hq
                refine lv_aload_n hx hb dX12_readPart_55 rfl (lv_at hl 1 rfl) ?_
                refine lv_iload_n hx hb dX12_readPart_56 rfl (lv_at hl 2 rfl) ?_
                refine lv_iconst (v := 1) hx hb dX12_readPart_57 (by decide) ?_
                refine lv_iadd hx hb dX12_readPart_58 ?_
                refine lv_topi (fun t84 et84 => ?_)
                have b85 : kb 1 t84 8 := kb_eq et84 (kb_add b73 kc_1 (by decide) (by decide))
                have qt84 : t84.toInt = dp.toInt + 1 := by rw [et84]; exact kt_addc b73 kc_1 (by decide) (by decide)
                refine kV.callV (As := [.int t84]) (rest := []) ⟨hx, hb, hml, hown, hg⟩ ((ih ee hd) l o r f_83 a g hI t84 (kb_w b85 (by decide) (by decide)) N (i + 1) false (rS_fE hE hp0 (by decide)) (by rw [(show f_83 19 = t80 from by rw [← ef_83]; rfl)]; exact hg82) (rC_lt (ne_0 (ht8.symm.trans c12) (by decide +kernel))) (by have w1 := hp3; have w2 := qt84; omega)) (cwV 1 hg (kgV wt6_208 wt6_210 wp4_8 wt1_14 wt6_211) rfl rfl rfl (by decide +kernel) ⟨by dsimp only [rmD]; omega, by dsimp only [rmD]; omega⟩) hK hP hD hS hA mIs [] rfl (wr := []) rfl rfl rfl (fun i h => by cases h) 0 12 rfl rfl rfl hl.1 rfl (Nat.le_of_ble_eq_true rfl) dX12_readPart_59 ⟨Nat.le_refl _, Nat.le_refl _⟩ (fun u88 H locs hw86 hP hD hS => ?_)
                have hP : va_P D vwCl (mW K o r u88 a g) H := hP
                have hD : va_D A (mW K o r u88 a g) := hD
                have hI : mI u88 a := hw86.1
                have eE89 : fE [19, 20, 21] f_83 u88 := hw86.2.1
                have hE : fE [19, 20, 21] f u88 := fE_tr hE eE89
                obtain ⟨ik90, hgk90, hlek90, hNk90, hik90⟩ := hw86.2.2
                obtain ⟨gv91, egv91⟩ : ∃ z : Int32, z = u88 19 := ⟨_, rfl⟩
                have hg92 : gv91.toInt = ((ik90 : Nat) : Int) := by rw [egv91]; exact hgk90
                have b93 : kb 0 gv91 400 := kb_tok (rS_fE hE hp0 (by decide)) hNk90 hg92
                refine lv_aload_n hx hb dX12_readPart_62 rfl (lv_at hl 1 rfl) ?_
                refine lv_bipush (v := 93) hx hb dX12_readPart_63 (by decide) ?_
                refine kN.callS (As := [.int 93]) (rest := [.ref o]) ⟨hx, hb, hml, hown, hg⟩ (m_sign l 93 (kb_w kc_93 (by decide) (by decide))) (va_cwS 1 hg (kgS wt6_220 wt6_221 wt1_14 wt6_222) rfl rfl rfl (by decide +kernel) ⟨by dsimp only [rmD]; omega, by dsimp only [rmD]; omega⟩) hP hS rfl hl.1 rfl (Nat.le_of_ble_eq_true rfl) dX12_readPart_65 ⟨Nat.le_refl _, Nat.le_refl _⟩ (fun v95 H locs hw94 hP hS => ?_)
                refine k_top (z := 193) (Int32.toInt_inj.mp (hw94.2.trans (by decide +kernel))) ?_
                refine kV.callV (As := [.int 193]) (rest := []) ⟨hx, hb, hml, hown, hg⟩ (m_must l o r u88 a g hI 193 (kb_w kc_193 (by decide) (by decide)) N (ik90) false (rS_fE hE hp0 (by decide)) (by rw [egv91.symm]; exact hg92) hNk90) (cwV 1 hg (kgV wt6_227 wt6_229 wp4_12 wt1_14 wt6_230) rfl rfl rfl (by decide +kernel) ⟨by dsimp only [rmD]; omega, by dsimp only [rmD]; omega⟩) hK hP hD hS hA mIs [] rfl (wr := []) rfl rfl rfl (fun i h => by cases h) 0 12 rfl rfl rfl hl.1 rfl (Nat.le_of_ble_eq_true rfl) dX12_readPart_68 ⟨Nat.le_refl _, Nat.le_refl _⟩ (fun u99 H locs hw97 hP hD hS => ?_)
                have hP : va_P D vwCl (mW K o r u99 a g) H := hP
                have hD : va_D A (mW K o r u99 a g) := hD
                have hI : mI u99 a := hw97.1
                have eE100 : fE [19, 20, 21] u88 u99 := hw97.2.1
                have hE : fE [19, 20, 21] f u99 := fE_tr hE eE100
                obtain ⟨ik101, hgk101, hlek101, hNk101, hik101⟩ := hw97.2.2
                obtain ⟨gv102, egv102⟩ : ∃ z : Int32, z = u99 19 := ⟨_, rfl⟩
                have hg103 : gv102.toInt = ((ik101 : Nat) : Int) := by rw [egv102]; exact hgk101
                have b104 : kb 0 gv102 400 := kb_tok (rS_fE hE hp0 (by decide)) hNk101 hg103
                refine lv_goto (tgt := 167) hx hb dX12_readPart_71 (by decide) ?_
                exact kV_ret hx hb hr hlocks hK hS dX12_readPart_167 u99 hP hD ⟨hI, hE, ⟨ik101, (by rw [egv102.symm]; exact hg103), (Nat.le_trans (Nat.le_trans (Nat.le_succ_of_le (Nat.le_refl i)) hlek90) hlek101), hNk101, (fun hq => by obtain ⟨q105, xk101⟩ := hik101 hq; obtain ⟨q106, xk90⟩ := hik90 q105; have q107 := ((show f_83 21 = f 21 from by rw [← ef_83]; rfl)).symm.trans q106; exact ⟨q107, gi_2a (ht8.symm.trans c12) hd xk90 xk101.1 xk101.2⟩)⟩⟩
              · exact kb_dj c78 kc_1 kc_0 (by decide)
            · refine k_top (z := 0) hf77.1 ?_
              refine lv_if_ne (tgt := 45) hx hb dX12_readPart_41 (by decide) (fun c108 => ?_) (fun c108 => ?_)
              · exact kb_nsame c108 kc_0 kc_0
              · exact kV_ret hx hb hr hlocks hK hS dX12_readPart_44 f hP hD ⟨hI, hE, ⟨i, (by rw [ec19.symm]; exact hg0), (Nat.le_refl i), hp2, (fun hq => by exact absurd hq hf77.2)⟩⟩
          · have b109 : kb 8 dp 8 := kb_eq c72 kc_8
            refine lv_aload_n hx hb dX12_readPart_33 rfl (lv_at hl 1 rfl) ?_
            refine kV.callV (As := []) (rest := []) ⟨hx, hb, hml, hown, hg⟩ (m_faults l o r f a g hI   N (i) false (rS_fE hE hp0 (by decide)) (by rw [ec19.symm]; exact hg0) hp2) (cwV 0 hg (kgV wt6_223 wt6_225 wp4_11 wt1_14 wt6_226) rfl rfl rfl (by decide +kernel) ⟨by dsimp only [rmD]; omega, by dsimp only [rmD]; omega⟩) hK hP hD hS hA mIs [] rfl (wr := []) rfl rfl rfl (fun i h => by cases h) 0 12 rfl rfl rfl hl.1 rfl (Nat.le_of_ble_eq_true rfl) dX12_readPart_34 ⟨Nat.le_refl _, Nat.le_refl _⟩ (fun u112 H locs hw110 hP hD hS => ?_)
            have hP : va_P D vwCl (mW K o r u112 a g) H := hP
            have hD : va_D A (mW K o r u112 a g) := hD
            have hI : mI u112 a := hw110.1
            have eE113 : fE [21] f u112 := hw110.2.1
            have hE : fE [19, 20, 21] f u112 := fE_tr hE (fE_w (by decide) eE113)
            refine lv_aload_n hx hb dX12_readPart_37 rfl (lv_at hl 1 rfl) ?_
            refine kI.callV (As := []) (rest := []) ⟨hx, hb, hml, hown, hg⟩ (m_fine l o r u112 a g hI   ) (cwV 0 hg (kgV wt6_204 wt6_206 wp4_7 wt1_14 wt6_207) rfl rfl rfl (by decide +kernel) ⟨by dsimp only [rmD]; omega, by dsimp only [rmD]; omega⟩) hK hP hD hS hA mIs [] rfl (wr := []) rfl rfl rfl (fun i h => by cases h) 0 12 rfl rfl rfl hl.1 rfl (Nat.le_of_ble_eq_true rfl) dX12_readPart_38 ⟨Nat.le_refl _, Nat.le_refl _⟩ (fun v115 u116 H locs hw114 hP hD hS => ?_)
            have hP : va_P D vwCl (mW K o r u112 a g) H := hP
            have hD : va_D A (mW K o r u112 a g) := hD
            rcases hw114.2 with hf117 | hf117
            · refine k_top (z := 1) hf117.1 ?_
              exact absurd hf117.2 hw110.2.2
            · refine k_top (z := 0) hf117.1 ?_
              refine lv_if_ne (tgt := 45) hx hb dX12_readPart_41 (by decide) (fun c118 => ?_) (fun c118 => ?_)
              · exact kb_nsame c118 kc_0 kc_0
              · exact kV_ret hx hb hr hlocks hK hS dX12_readPart_44 u112 hP hD ⟨hI, hE, ⟨i, (by rw [((eE113 19 (by decide)).trans ec19.symm)]; exact hg0), (Nat.le_refl i), hp2, (fun hq => by exact absurd hq hf117.2)⟩⟩
      · exact kb_dj c6 kc_1 kc_0 (by decide)
    · refine k_top (z := 0) hf5.1 ?_
      refine lv_if_ne (tgt := 8) hx hb dX12_readPart_4 (by decide) (fun c119 => ?_) (fun c119 => ?_)
      · exact kb_nsame c119 kc_0 kc_0
      · exact kV_ret hx hb hr hlocks hK hS dX12_readPart_7 f hP hD ⟨hI, hE, ⟨i, (by rw [ec19.symm]; exact hg0), (Nat.le_refl i), hp2, (fun hq => by exact absurd hq hf5.2)⟩⟩
  · refine lv_aload_n hx hb dX12_readPart_0 rfl (lv_at hl 0 rfl) ?_
    refine kI.callV (As := []) (rest := []) ⟨hx, hb, hml, hown, hg⟩ (m_fine l o r f a g hI   ) (cwV 0 hg (kgV wt6_204 wt6_206 wp4_7 wt1_14 wt6_207) rfl rfl rfl (by decide +kernel) ⟨by dsimp only [rmD]; omega, by dsimp only [rmD]; omega⟩) hK hP hD hS hA mIs [] rfl (wr := []) rfl rfl rfl (fun i h => by cases h) 0 12 rfl rfl rfl hl.1 rfl (Nat.le_of_ble_eq_true rfl) dX12_readPart_1 ⟨Nat.le_refl _, Nat.le_refl _⟩ (fun v121 u122 H locs hw120 hP hD hS => ?_)
    have hP : va_P D vwCl (mW K o r f a g) H := hP
    have hD : va_D A (mW K o r f a g) := hD
    rcases hw120.2 with hf123 | hf123
    · refine k_top (z := 1) hf123.1 ?_
      refine lv_if_ne (tgt := 8) hx hb dX12_readPart_4 (by decide) (fun c124 => ?_) (fun c124 => ?_)
      · refine lv_aload_n hx hb dX12_readPart_8 rfl (lv_at hl 0 rfl) ?_
        refine va_get (D := D) (ci := 12) (v := .ref (r 15)) (C := RX12) (T := TX12) (N := 48) hx hb hg inC12 hown hK hP 0 rfl rfl 15 (by decide) (hg _ wt5_175) (fun _ h9 => h9) rfl dX12_readPart_9 ?_
        refine lv_aload_n hx hb dX12_readPart_12 rfl (lv_at hl 0 rfl) ?_
        refine va_get (D := D) (ci := 12) (v := .int (f 19)) (C := RX12) (T := TX12) (N := 48) hx hb hg inC12 hown hK hP 0 rfl rfl 19 (by decide) (hg _ wt5_179) (fun _ h9 => h9) rfl dX12_readPart_13 ?_
        refine k_top (z := c19) ec19.symm ?_
        refine va_iald hx hb hK hP 9 0 rfl rfl (kb_in b1 (by decide) (by decide)) dX12_readPart_16 ?_
        refine lv_topi (fun t125 et125 => ?_)
        have ht126 : t125 = rC (a 15) N (i) := et125.trans (rC_at (rS_fE hE hp0 (by decide)) hp2 hg0)
        refine lv_istore_n (lv' := [(2, .int t125), (0, .ref o), (1, .int dp)]) hx hb dX12_readPart_17 rfl hl (by decide) rfl (fun ls hl => ?_)
        refine lv_iload_n hx hb dX12_readPart_18 rfl (lv_at hl 0 rfl) ?_
        refine lv_bipush (v := 91) hx hb dX12_readPart_19 (by decide) ?_
        refine kN.callS (As := [.int 91]) (rest := [.int t125]) ⟨hx, hb, hml, hown, hg⟩ (m_sign l 91 (kb_w kc_91 (by decide) (by decide))) (va_cwS 1 hg (kgS wt6_220 wt6_221 wt1_14 wt6_222) rfl rfl rfl (by decide +kernel) ⟨by dsimp only [rmD]; omega, by dsimp only [rmD]; omega⟩) hP hS rfl hl.1 rfl (Nat.le_of_ble_eq_true rfl) dX12_readPart_21 ⟨Nat.le_refl _, Nat.le_refl _⟩ (fun v128 H locs hw127 hP hS => ?_)
        refine k_top (z := 191) (Int32.toInt_inj.mp (hw127.2.trans (by decide +kernel))) ?_
        refine lv_icmp_ne (tgt := 74) hx hb dX12_readPart_24 (by decide) (fun c130 => ?_) (fun c130 => ?_)
        · refine lv_iload_n hx hb dX12_readPart_74 rfl (lv_at hl 0 rfl) ?_
          refine lv_bipush (v := 50) hx hb dX12_readPart_75 (by decide) ?_
          refine lv_icmp_ne (tgt := 95) hx hb dX12_readPart_77 (by decide) (fun c131 => ?_) (fun c131 => ?_)
          · refine lv_iload_n hx hb dX12_readPart_95 rfl (lv_at hl 0 rfl) ?_
            refine lv_aload_n hx hb dX12_readPart_96 rfl (lv_at hl 1 rfl) ?_
            refine va_get (D := D) (ci := 12) (v := .int (f 8)) (C := RX12) (T := TX12) (N := 48) hx hb hg inC12 hown hK hP 0 rfl rfl 8 (by decide) (hg _ wt5_168) (fun _ h9 => h9) rfl dX12_readPart_97 ?_
            refine k_top (z := 16) hp0.2.2.2.2.1 ?_
            refine lv_icmp_lt (tgt := 163) hx hb dX12_readPart_100 (by decide) (fun c132 => ?_) (fun c132 => ?_)
            · have h133 := (kc_lt c132)
              have b134 : kb (-2147483648) t125 15 := kr_lt1 h133 (kb_any t125) kc_16 (by decide)
              refine lv_aload_n hx hb dX12_readPart_163 rfl (lv_at hl 1 rfl) ?_
              refine kV.callV (As := []) (rest := []) ⟨hx, hb, hml, hown, hg⟩ (m_faults l o r f a g hI   N (i) true (rS_fE hE hp0 (by decide)) (by rw [ec19.symm]; exact hg0) hp2) (cwV 0 hg (kgV wt6_223 wt6_225 wp4_11 wt1_14 wt6_226) rfl rfl rfl (by decide +kernel) ⟨by dsimp only [rmD]; omega, by dsimp only [rmD]; omega⟩) hK hP hD hS hA mIs [] rfl (wr := []) rfl rfl rfl (fun i h => by cases h) 0 12 rfl rfl rfl hl.1 rfl (Nat.le_of_ble_eq_true rfl) dX12_readPart_164 ⟨Nat.le_refl _, Nat.le_refl _⟩ (fun u137 H locs hw135 hP hD hS => ?_)
              have hP : va_P D vwCl (mW K o r u137 a g) H := hP
              have hD : va_D A (mW K o r u137 a g) := hD
              have hI : mI u137 a := hw135.1
              have eE138 : fE [21] f u137 := hw135.2.1
              have hE : fE [19, 20, 21] f u137 := fE_tr hE (fE_w (by decide) eE138)
              exact kV_ret hx hb hr hlocks hK hS dX12_readPart_167 u137 hP hD ⟨hI, hE, ⟨i, (by rw [((eE138 19 (by decide)).trans ec19.symm)]; exact hg0), (Nat.le_refl i), hp2, (fun hq => by exact absurd hq hw135.2.2)⟩⟩
            · have h139 := (kc_nlt c132)
              have b140 : kb 16 t125 2147483647 := kr_le2 h139 kc_16 (kb_any t125)
              refine lv_iload_n hx hb dX12_readPart_103 rfl (lv_at hl 0 rfl) ?_
              refine lv_aload_n hx hb dX12_readPart_104 rfl (lv_at hl 1 rfl) ?_
              refine va_get (D := D) (ci := 12) (v := .int (f 9)) (C := RX12) (T := TX12) (N := 48) hx hb hg inC12 hown hK hP 0 rfl rfl 9 (by decide) (hg _ wt5_169) (fun _ h9 => h9) rfl dX12_readPart_105 ?_
              refine k_top (z := 22) hp0.2.2.2.2.2 ?_
              refine lv_icmp_gt (tgt := 163) hx hb dX12_readPart_108 (by decide) (fun c141 => ?_) (fun c141 => ?_)
              · have h142 := (kc_lt c141)
                have b143 : kb 23 t125 2147483647 := kr_lt2 h142 kc_22 b140 (by decide)
                refine lv_aload_n hx hb dX12_readPart_163 rfl (lv_at hl 1 rfl) ?_
                refine kV.callV (As := []) (rest := []) ⟨hx, hb, hml, hown, hg⟩ (m_faults l o r f a g hI   N (i) true (rS_fE hE hp0 (by decide)) (by rw [ec19.symm]; exact hg0) hp2) (cwV 0 hg (kgV wt6_223 wt6_225 wp4_11 wt1_14 wt6_226) rfl rfl rfl (by decide +kernel) ⟨by dsimp only [rmD]; omega, by dsimp only [rmD]; omega⟩) hK hP hD hS hA mIs [] rfl (wr := []) rfl rfl rfl (fun i h => by cases h) 0 12 rfl rfl rfl hl.1 rfl (Nat.le_of_ble_eq_true rfl) dX12_readPart_164 ⟨Nat.le_refl _, Nat.le_refl _⟩ (fun u146 H locs hw144 hP hD hS => ?_)
                have hP : va_P D vwCl (mW K o r u146 a g) H := hP
                have hD : va_D A (mW K o r u146 a g) := hD
                have hI : mI u146 a := hw144.1
                have eE147 : fE [21] f u146 := hw144.2.1
                have hE : fE [19, 20, 21] f u146 := fE_tr hE (fE_w (by decide) eE147)
                exact kV_ret hx hb hr hlocks hK hS dX12_readPart_167 u146 hP hD ⟨hI, hE, ⟨i, (by rw [((eE147 19 (by decide)).trans ec19.symm)]; exact hg0), (Nat.le_refl i), hp2, (fun hq => by exact absurd hq hw144.2.2)⟩⟩
              · have h148 := (kc_nlt c141)
                have b149 : kb 16 t125 22 := kr_le1 h148 b140 kc_22
                refine lv_aload_n hx hb dX12_readPart_111 rfl (lv_at hl 1 rfl) ?_
                refine kV.callV (As := []) (rest := []) ⟨hx, hb, hml, hown, hg⟩ (m_leaf l o r f a g hI   N (i) true (rS_fE hE hp0 (by decide)) (by rw [ec19.symm]; exact hg0) hp2 (fun _ => rC_lt (kb_nz (kb_eq ht126.symm b149) (by decide)))) (cwV 0 hg (kgV wt6_231 wt6_233 wp4_13 wt1_14 wt6_234) rfl rfl rfl (by decide +kernel) ⟨by dsimp only [rmD]; omega, by dsimp only [rmD]; omega⟩) hK hP hD hS hA mIs [] rfl (wr := []) rfl rfl rfl (fun i h => by cases h) 0 12 rfl rfl rfl hl.1 rfl (Nat.le_of_ble_eq_true rfl) dX12_readPart_112 ⟨Nat.le_refl _, Nat.le_refl _⟩ (fun u152 H locs hw150 hP hD hS => ?_)
                have hP : va_P D vwCl (mW K o r u152 a g) H := hP
                have hD : va_D A (mW K o r u152 a g) := hD
                have hI : mI u152 a := hw150.1
                have eE153 : fE [19, 20, 21] f u152 := hw150.2.1
                have hE : fE [19, 20, 21] f u152 := fE_tr hE eE153
                obtain ⟨ik154, hgk154, hlek154, hNk154, hik154⟩ := hw150.2.2
                obtain ⟨gv155, egv155⟩ : ∃ z : Int32, z = u152 19 := ⟨_, rfl⟩
                have hg156 : gv155.toInt = ((ik154 : Nat) : Int) := by rw [egv155]; exact hgk154
                have b157 : kb 0 gv155 400 := kb_tok (rS_fE hE hp0 (by decide)) hNk154 hg156
                refine lv_aload_n hx hb dX12_readPart_115 rfl (lv_at hl 1 rfl) ?_
                refine va_get (D := D) (ci := 12) (v := .int (u152 10)) (C := RX12) (T := TX12) (N := 48) hx hb hg inC12 hown hK hP 0 rfl rfl 10 (by decide) (hg _ wt5_170) (fun _ h9 => h9) rfl dX12_readPart_116 ?_
                refine k_top (z := 1) ((eE153 10 (by decide)).trans hp0.2.2.2.1) ?_
                refine lv_if_eq (tgt := 135) hx hb dX12_readPart_119 (by decide) (fun c158 => ?_) (fun c158 => ?_)
                · exact kb_dj c158 kc_1 kc_0 (by decide)
                · refine lv_iload_n hx hb dX12_readPart_122 rfl (lv_at hl 0 rfl) ?_
                  refine lv_bipush (v := 16) hx hb dX12_readPart_123 (by decide) ?_
                  refine lv_icmp_ne (tgt := 135) hx hb dX12_readPart_125 (by decide) (fun c159 => ?_) (fun c159 => ?_)
                  · have b160 : kb 17 t125 22 := kr_nel c159 b149 kc_16 (by decide)
                    refine lv_aload_n hx hb dX12_readPart_135 rfl (lv_at hl 1 rfl) ?_
                    refine va_get (D := D) (ci := 12) (v := .int (u152 10)) (C := RX12) (T := TX12) (N := 48) hx hb hg inC12 hown hK hP 0 rfl rfl 10 (by decide) (hg _ wt5_170) (fun _ h9 => h9) rfl dX12_readPart_136 ?_
                    refine k_top (z := 1) ((eE153 10 (by decide)).trans hp0.2.2.2.1) ?_
                    refine lv_if_eq (tgt := 167) hx hb dX12_readPart_139 (by decide) (fun c161 => ?_) (fun c161 => ?_)
                    · exact kb_dj c161 kc_1 kc_0 (by decide)
                    · refine lv_iload_n hx hb dX12_readPart_142 rfl (lv_at hl 0 rfl) ?_
                      refine lv_bipush (v := 17) hx hb dX12_readPart_143 (by decide) ?_
                      refine lv_icmp_eq (tgt := 154) hx hb dX12_readPart_145 (by decide) (fun c162 => ?_) (fun c162 => ?_)
                      · have b163 : kb 17 t125 17 := kb_eq c162 kc_17
                        refine lv_aload_n hx hb dX12_readPart_154 rfl (lv_at hl 1 rfl) ?_
                        refine lv_iconst (v := 0) hx hb dX12_readPart_155 (by decide) ?_
                        refine lv_iconst (v := 5) hx hb dX12_readPart_156 (by decide) ?_
                        refine kV.callV (As := [.int 0, .int 5]) (rest := []) ⟨hx, hb, hml, hown, hg⟩ (m_mustNumber l o r u152 a g hI 0 5  N (ik154) true (rS_fE hE hp0 (by decide)) (by rw [egv155.symm]; exact hg156) hNk154) (cwV 2 hg (kgV wt6_235 wt6_237 wp4_14 wt1_14 wt6_238) rfl rfl rfl (by decide +kernel) ⟨by dsimp only [rmD]; omega, by dsimp only [rmD]; omega⟩) hK hP hD hS hA mIs [] rfl (wr := []) rfl rfl rfl (fun i h => by cases h) 0 12 rfl rfl rfl hl.1 rfl (Nat.le_of_ble_eq_true rfl) dX12_readPart_157 ⟨Nat.le_refl _, Nat.le_refl _⟩ (fun u166 H locs hw164 hP hD hS => ?_)
                        have hP : va_P D vwCl (mW K o r u166 a g) H := hP
                        have hD : va_D A (mW K o r u166 a g) := hD
                        have hI : mI u166 a := hw164.1
                        have eE167 : fE [19, 20, 21] u152 u166 := hw164.2.1
                        have hE : fE [19, 20, 21] f u166 := fE_tr hE eE167
                        obtain ⟨ik168, hgk168, hlek168, hNk168, hik168⟩ := hw164.2.2
                        obtain ⟨gv169, egv169⟩ : ∃ z : Int32, z = u166 19 := ⟨_, rfl⟩
                        have hg170 : gv169.toInt = ((ik168 : Nat) : Int) := by rw [egv169]; exact hgk168
                        have b171 : kb 0 gv169 400 := kb_tok (rS_fE hE hp0 (by decide)) hNk168 hg170
                        refine lv_goto (tgt := 167) hx hb dX12_readPart_160 (by decide) ?_
                        exact kV_ret hx hb hr hlocks hK hS dX12_readPart_167 u166 hP hD ⟨hI, hE, ⟨ik168, (by rw [egv169.symm]; exact hg170), (Nat.le_trans (Nat.le_trans (Nat.le_refl i) hlek154) hlek168), hNk168, (fun hq => by obtain ⟨q172, xk168⟩ := hik168 hq; obtain ⟨q173, xk154⟩ := hik154 q172; exact ⟨q173, gi_2p rfl (Or.inr (Or.inl (ht126.symm.trans c162))) xk154 xk168.1 xk168.2⟩)⟩⟩
                      · have b174 : kb 18 t125 22 := kr_nel c162 b160 kc_17 (by decide)
                        refine lv_iload_n hx hb dX12_readPart_148 rfl (lv_at hl 0 rfl) ?_
                        refine lv_bipush (v := 22) hx hb dX12_readPart_149 (by decide) ?_
                        refine lv_icmp_ne (tgt := 167) hx hb dX12_readPart_151 (by decide) (fun c175 => ?_) (fun c175 => ?_)
                        · have b176 : kb 18 t125 21 := kr_neh c175 b174 kc_22 (by decide)
                          exact kV_ret hx hb hr hlocks hK hS dX12_readPart_167 u152 hP hD ⟨hI, hE, ⟨ik154, (by rw [egv155.symm]; exact hg156), (Nat.le_trans (Nat.le_refl i) hlek154), hNk154, (fun hq => by obtain ⟨q177, xk154⟩ := hik154 hq; exact ⟨q177, gi_2o rfl (kb_eq ht126.symm (kb_w b176 (by decide) (by decide))) (fun q => q.elim (fun q => c159 (ht126.trans q)) (fun q => q.elim (fun q => c162 (ht126.trans q)) (fun q => c175 (ht126.trans q)))) xk154⟩)⟩⟩
                        · have b178 : kb 22 t125 22 := kb_eq c175 kc_22
                          refine lv_aload_n hx hb dX12_readPart_154 rfl (lv_at hl 1 rfl) ?_
                          refine lv_iconst (v := 0) hx hb dX12_readPart_155 (by decide) ?_
                          refine lv_iconst (v := 5) hx hb dX12_readPart_156 (by decide) ?_
                          refine kV.callV (As := [.int 0, .int 5]) (rest := []) ⟨hx, hb, hml, hown, hg⟩ (m_mustNumber l o r u152 a g hI 0 5  N (ik154) true (rS_fE hE hp0 (by decide)) (by rw [egv155.symm]; exact hg156) hNk154) (cwV 2 hg (kgV wt6_235 wt6_237 wp4_14 wt1_14 wt6_238) rfl rfl rfl (by decide +kernel) ⟨by dsimp only [rmD]; omega, by dsimp only [rmD]; omega⟩) hK hP hD hS hA mIs [] rfl (wr := []) rfl rfl rfl (fun i h => by cases h) 0 12 rfl rfl rfl hl.1 rfl (Nat.le_of_ble_eq_true rfl) dX12_readPart_157 ⟨Nat.le_refl _, Nat.le_refl _⟩ (fun u181 H locs hw179 hP hD hS => ?_)
                          have hP : va_P D vwCl (mW K o r u181 a g) H := hP
                          have hD : va_D A (mW K o r u181 a g) := hD
                          have hI : mI u181 a := hw179.1
                          have eE182 : fE [19, 20, 21] u152 u181 := hw179.2.1
                          have hE : fE [19, 20, 21] f u181 := fE_tr hE eE182
                          obtain ⟨ik183, hgk183, hlek183, hNk183, hik183⟩ := hw179.2.2
                          obtain ⟨gv184, egv184⟩ : ∃ z : Int32, z = u181 19 := ⟨_, rfl⟩
                          have hg185 : gv184.toInt = ((ik183 : Nat) : Int) := by rw [egv184]; exact hgk183
                          have b186 : kb 0 gv184 400 := kb_tok (rS_fE hE hp0 (by decide)) hNk183 hg185
                          refine lv_goto (tgt := 167) hx hb dX12_readPart_160 (by decide) ?_
                          exact kV_ret hx hb hr hlocks hK hS dX12_readPart_167 u181 hP hD ⟨hI, hE, ⟨ik183, (by rw [egv184.symm]; exact hg185), (Nat.le_trans (Nat.le_trans (Nat.le_refl i) hlek154) hlek183), hNk183, (fun hq => by obtain ⟨q187, xk183⟩ := hik183 hq; obtain ⟨q188, xk154⟩ := hik154 q187; exact ⟨q188, gi_2p rfl (Or.inr (Or.inr (ht126.symm.trans c175))) xk154 xk183.1 xk183.2⟩)⟩⟩
                  · have b189 : kb 16 t125 16 := kb_eq c159 kc_16
                    refine lv_aload_n hx hb dX12_readPart_128 rfl (lv_at hl 1 rfl) ?_
                    refine lv_iconst (v := 0) hx hb dX12_readPart_129 (by decide) ?_
                    refine lv_bipush (v := 9) hx hb dX12_readPart_130 (by decide) ?_
                    refine kV.callV (As := [.int 0, .int 9]) (rest := []) ⟨hx, hb, hml, hown, hg⟩ (m_mustNumber l o r u152 a g hI 0 9  N (ik154) true (rS_fE hE hp0 (by decide)) (by rw [egv155.symm]; exact hg156) hNk154) (cwV 2 hg (kgV wt6_235 wt6_237 wp4_14 wt1_14 wt6_238) rfl rfl rfl (by decide +kernel) ⟨by dsimp only [rmD]; omega, by dsimp only [rmD]; omega⟩) hK hP hD hS hA mIs [] rfl (wr := []) rfl rfl rfl (fun i h => by cases h) 0 12 rfl rfl rfl hl.1 rfl (Nat.le_of_ble_eq_true rfl) dX12_readPart_132 ⟨Nat.le_refl _, Nat.le_refl _⟩ (fun u192 H locs hw190 hP hD hS => ?_)
                    have hP : va_P D vwCl (mW K o r u192 a g) H := hP
                    have hD : va_D A (mW K o r u192 a g) := hD
                    have hI : mI u192 a := hw190.1
                    have eE193 : fE [19, 20, 21] u152 u192 := hw190.2.1
                    have hE : fE [19, 20, 21] f u192 := fE_tr hE eE193
                    obtain ⟨ik194, hgk194, hlek194, hNk194, hik194⟩ := hw190.2.2
                    obtain ⟨gv195, egv195⟩ : ∃ z : Int32, z = u192 19 := ⟨_, rfl⟩
                    have hg196 : gv195.toInt = ((ik194 : Nat) : Int) := by rw [egv195]; exact hgk194
                    have b197 : kb 0 gv195 400 := kb_tok (rS_fE hE hp0 (by decide)) hNk194 hg196
                    refine lv_aload_n hx hb dX12_readPart_135 rfl (lv_at hl 1 rfl) ?_
                    refine va_get (D := D) (ci := 12) (v := .int (u192 10)) (C := RX12) (T := TX12) (N := 48) hx hb hg inC12 hown hK hP 0 rfl rfl 10 (by decide) (hg _ wt5_170) (fun _ h9 => h9) rfl dX12_readPart_136 ?_
                    refine k_top (z := 1) ((eE193 10 (by decide)).trans ((eE153 10 (by decide)).trans hp0.2.2.2.1)) ?_
                    refine lv_if_eq (tgt := 167) hx hb dX12_readPart_139 (by decide) (fun c198 => ?_) (fun c198 => ?_)
                    · exact kb_dj c198 kc_1 kc_0 (by decide)
                    · refine lv_iload_n hx hb dX12_readPart_142 rfl (lv_at hl 0 rfl) ?_
                      refine lv_bipush (v := 17) hx hb dX12_readPart_143 (by decide) ?_
                      refine lv_icmp_eq (tgt := 154) hx hb dX12_readPart_145 (by decide) (fun c199 => ?_) (fun c199 => ?_)
                      · exact kb_dj c199 b189 kc_17 (by decide)
                      · refine lv_iload_n hx hb dX12_readPart_148 rfl (lv_at hl 0 rfl) ?_
                        refine lv_bipush (v := 22) hx hb dX12_readPart_149 (by decide) ?_
                        refine lv_icmp_ne (tgt := 167) hx hb dX12_readPart_151 (by decide) (fun c200 => ?_) (fun c200 => ?_)
                        · exact kV_ret hx hb hr hlocks hK hS dX12_readPart_167 u192 hP hD ⟨hI, hE, ⟨ik194, (by rw [egv195.symm]; exact hg196), (Nat.le_trans (Nat.le_trans (Nat.le_refl i) hlek154) hlek194), hNk194, (fun hq => by obtain ⟨q201, xk194⟩ := hik194 hq; obtain ⟨q202, xk154⟩ := hik154 q201; exact ⟨q202, gi_2p rfl (Or.inl (ht126.symm.trans c159)) xk154 xk194.1 xk194.2⟩)⟩⟩
                        · exact kb_dj c200 b189 kc_22 (by decide)
          · have b203 : kb 50 t125 50 := kb_eq c131 kc_50
            refine lv_aload_n hx hb dX12_readPart_80 rfl (lv_at hl 1 rfl) ?_
            refine va_get (D := D) (ci := 12) (v := .ref (r 16)) (C := RX12) (T := TX12) (N := 48) hx hb hg inC12 hown hK hP 0 rfl rfl 16 (by decide) (hg _ wt5_176) (fun _ h9 => h9) rfl dX12_readPart_81 ?_
            refine lv_aload_n hx hb dX12_readPart_84 rfl (lv_at hl 1 rfl) ?_
            refine va_get (D := D) (ci := 12) (v := .int (f 19)) (C := RX12) (T := TX12) (N := 48) hx hb hg inC12 hown hK hP 0 rfl rfl 19 (by decide) (hg _ wt5_179) (fun _ h9 => h9) rfl dX12_readPart_85 ?_
            refine k_top (z := c19) ec19.symm ?_
            refine va_iald hx hb hK hP 10 0 rfl rfl (kb_in b1 (by decide) (by decide)) dX12_readPart_88 ?_
            refine lv_topi (fun t204 et204 => ?_)
            refine lv_sipush (v := 1000) hx hb dX12_readPart_89 (by decide) ?_
            refine lv_icmp_le (tgt := 111) hx hb dX12_readPart_92 (by decide) (fun c205 => ?_) (fun c205 => ?_)
            · have h206 := (kc_le c205)
              have b207 : kb (-2147483648) t204 1000 := kr_le1 h206 (kb_any t204) kc_1000
              refine lv_aload_n hx hb dX12_readPart_111 rfl (lv_at hl 1 rfl) ?_
              refine kV.callV (As := []) (rest := []) ⟨hx, hb, hml, hown, hg⟩ (m_leaf l o r f a g hI   N (i) true (rS_fE hE hp0 (by decide)) (by rw [ec19.symm]; exact hg0) hp2 (fun _ => rC_lt (kb_nz (kb_eq ht126.symm b203) (by decide)))) (cwV 0 hg (kgV wt6_231 wt6_233 wp4_13 wt1_14 wt6_234) rfl rfl rfl (by decide +kernel) ⟨by dsimp only [rmD]; omega, by dsimp only [rmD]; omega⟩) hK hP hD hS hA mIs [] rfl (wr := []) rfl rfl rfl (fun i h => by cases h) 0 12 rfl rfl rfl hl.1 rfl (Nat.le_of_ble_eq_true rfl) dX12_readPart_112 ⟨Nat.le_refl _, Nat.le_refl _⟩ (fun u210 H locs hw208 hP hD hS => ?_)
              have hP : va_P D vwCl (mW K o r u210 a g) H := hP
              have hD : va_D A (mW K o r u210 a g) := hD
              have hI : mI u210 a := hw208.1
              have eE211 : fE [19, 20, 21] f u210 := hw208.2.1
              have hE : fE [19, 20, 21] f u210 := fE_tr hE eE211
              obtain ⟨ik212, hgk212, hlek212, hNk212, hik212⟩ := hw208.2.2
              obtain ⟨gv213, egv213⟩ : ∃ z : Int32, z = u210 19 := ⟨_, rfl⟩
              have hg214 : gv213.toInt = ((ik212 : Nat) : Int) := by rw [egv213]; exact hgk212
              have b215 : kb 0 gv213 400 := kb_tok (rS_fE hE hp0 (by decide)) hNk212 hg214
              refine lv_aload_n hx hb dX12_readPart_115 rfl (lv_at hl 1 rfl) ?_
              refine va_get (D := D) (ci := 12) (v := .int (u210 10)) (C := RX12) (T := TX12) (N := 48) hx hb hg inC12 hown hK hP 0 rfl rfl 10 (by decide) (hg _ wt5_170) (fun _ h9 => h9) rfl dX12_readPart_116 ?_
              refine k_top (z := 1) ((eE211 10 (by decide)).trans hp0.2.2.2.1) ?_
              refine lv_if_eq (tgt := 135) hx hb dX12_readPart_119 (by decide) (fun c216 => ?_) (fun c216 => ?_)
              · exact kb_dj c216 kc_1 kc_0 (by decide)
              · refine lv_iload_n hx hb dX12_readPart_122 rfl (lv_at hl 0 rfl) ?_
                refine lv_bipush (v := 16) hx hb dX12_readPart_123 (by decide) ?_
                refine lv_icmp_ne (tgt := 135) hx hb dX12_readPart_125 (by decide) (fun c217 => ?_) (fun c217 => ?_)
                · refine lv_aload_n hx hb dX12_readPart_135 rfl (lv_at hl 1 rfl) ?_
                  refine va_get (D := D) (ci := 12) (v := .int (u210 10)) (C := RX12) (T := TX12) (N := 48) hx hb hg inC12 hown hK hP 0 rfl rfl 10 (by decide) (hg _ wt5_170) (fun _ h9 => h9) rfl dX12_readPart_136 ?_
                  refine k_top (z := 1) ((eE211 10 (by decide)).trans hp0.2.2.2.1) ?_
                  refine lv_if_eq (tgt := 167) hx hb dX12_readPart_139 (by decide) (fun c218 => ?_) (fun c218 => ?_)
                  · exact kb_dj c218 kc_1 kc_0 (by decide)
                  · refine lv_iload_n hx hb dX12_readPart_142 rfl (lv_at hl 0 rfl) ?_
                    refine lv_bipush (v := 17) hx hb dX12_readPart_143 (by decide) ?_
                    refine lv_icmp_eq (tgt := 154) hx hb dX12_readPart_145 (by decide) (fun c219 => ?_) (fun c219 => ?_)
                    · exact kb_dj c219 b203 kc_17 (by decide)
                    · refine lv_iload_n hx hb dX12_readPart_148 rfl (lv_at hl 0 rfl) ?_
                      refine lv_bipush (v := 22) hx hb dX12_readPart_149 (by decide) ?_
                      refine lv_icmp_ne (tgt := 167) hx hb dX12_readPart_151 (by decide) (fun c220 => ?_) (fun c220 => ?_)
                      · exact kV_ret hx hb hr hlocks hK hS dX12_readPart_167 u210 hP hD ⟨hI, hE, ⟨ik212, (by rw [egv213.symm]; exact hg214), (Nat.le_trans (Nat.le_refl i) hlek212), hNk212, (fun hq => by obtain ⟨q221, xk212⟩ := hik212 hq; exact ⟨q221, gi_2n (ht126.symm.trans c131) xk212⟩)⟩⟩
                      · exact kb_dj c220 b203 kc_22 (by decide)
                · exact kb_dj c217 b203 kc_16 (by decide)
            · have h222 := (kc_nle c205)
              have b223 : kb 1001 t204 2147483647 := kr_lt2 h222 kc_1000 (kb_any t204) (by decide)
              refine lv_iload_n hx hb dX12_readPart_95 rfl (lv_at hl 0 rfl) ?_
              refine lv_aload_n hx hb dX12_readPart_96 rfl (lv_at hl 1 rfl) ?_
              refine va_get (D := D) (ci := 12) (v := .int (f 8)) (C := RX12) (T := TX12) (N := 48) hx hb hg inC12 hown hK hP 0 rfl rfl 8 (by decide) (hg _ wt5_168) (fun _ h9 => h9) rfl dX12_readPart_97 ?_
              refine k_top (z := 16) hp0.2.2.2.2.1 ?_
              refine lv_icmp_lt (tgt := 163) hx hb dX12_readPart_100 (by decide) (fun c224 => ?_) (fun c224 => ?_)
              · have h225 := (kc_lt c224)
                exact kb_no (kr_lt1 h225 b203 kc_16 (H := 15) (by decide)) (by decide)
              · have h226 := (kc_nlt c224)
                refine lv_iload_n hx hb dX12_readPart_103 rfl (lv_at hl 0 rfl) ?_
                refine lv_aload_n hx hb dX12_readPart_104 rfl (lv_at hl 1 rfl) ?_
                refine va_get (D := D) (ci := 12) (v := .int (f 9)) (C := RX12) (T := TX12) (N := 48) hx hb hg inC12 hown hK hP 0 rfl rfl 9 (by decide) (hg _ wt5_169) (fun _ h9 => h9) rfl dX12_readPart_105 ?_
                refine k_top (z := 22) hp0.2.2.2.2.2 ?_
                refine lv_icmp_gt (tgt := 163) hx hb dX12_readPart_108 (by decide) (fun c227 => ?_) (fun c227 => ?_)
                · have h228 := (kc_lt c227)
                  refine lv_aload_n hx hb dX12_readPart_163 rfl (lv_at hl 1 rfl) ?_
                  refine kV.callV (As := []) (rest := []) ⟨hx, hb, hml, hown, hg⟩ (m_faults l o r f a g hI   N (i) true (rS_fE hE hp0 (by decide)) (by rw [ec19.symm]; exact hg0) hp2) (cwV 0 hg (kgV wt6_223 wt6_225 wp4_11 wt1_14 wt6_226) rfl rfl rfl (by decide +kernel) ⟨by dsimp only [rmD]; omega, by dsimp only [rmD]; omega⟩) hK hP hD hS hA mIs [] rfl (wr := []) rfl rfl rfl (fun i h => by cases h) 0 12 rfl rfl rfl hl.1 rfl (Nat.le_of_ble_eq_true rfl) dX12_readPart_164 ⟨Nat.le_refl _, Nat.le_refl _⟩ (fun u231 H locs hw229 hP hD hS => ?_)
                  have hP : va_P D vwCl (mW K o r u231 a g) H := hP
                  have hD : va_D A (mW K o r u231 a g) := hD
                  have hI : mI u231 a := hw229.1
                  have eE232 : fE [21] f u231 := hw229.2.1
                  have hE : fE [19, 20, 21] f u231 := fE_tr hE (fE_w (by decide) eE232)
                  exact kV_ret hx hb hr hlocks hK hS dX12_readPart_167 u231 hP hD ⟨hI, hE, ⟨i, (by rw [((eE232 19 (by decide)).trans ec19.symm)]; exact hg0), (Nat.le_refl i), hp2, (fun hq => by exact absurd hq hw229.2.2)⟩⟩
                · have h233 := (kc_nlt c227)
                  exact kb_no (kr_le1 h233 b203 kc_22) (by decide)
        · have b234 : kb 191 t125 191 := kb_eq c130 kc_191
          refine lv_iload_n hx hb dX12_readPart_27 rfl (lv_at hl 2 rfl) ?_
          refine lv_bipush (v := 8) hx hb dX12_readPart_28 (by decide) ?_
          refine lv_icmp_ne (tgt := 37) hx hb dX12_readPart_30 (by decide) (fun c235 => ?_) (fun c235 => ?_)
          · have b236 : kb 0 dp 7 := kr_neh c235 bdp kc_8 (by decide)
            refine lv_aload_n hx hb dX12_readPart_37 rfl (lv_at hl 1 rfl) ?_
            refine kI.callV (As := []) (rest := []) ⟨hx, hb, hml, hown, hg⟩ (m_fine l o r f a g hI   ) (cwV 0 hg (kgV wt6_204 wt6_206 wp4_7 wt1_14 wt6_207) rfl rfl rfl (by decide +kernel) ⟨by dsimp only [rmD]; omega, by dsimp only [rmD]; omega⟩) hK hP hD hS hA mIs [] rfl (wr := []) rfl rfl rfl (fun i h => by cases h) 0 12 rfl rfl rfl hl.1 rfl (Nat.le_of_ble_eq_true rfl) dX12_readPart_38 ⟨Nat.le_refl _, Nat.le_refl _⟩ (fun v238 u239 H locs hw237 hP hD hS => ?_)
            have hP : va_P D vwCl (mW K o r f a g) H := hP
            have hD : va_D A (mW K o r f a g) := hD
            rcases hw237.2 with hf240 | hf240
            · refine k_top (z := 1) hf240.1 ?_
              refine lv_if_ne (tgt := 45) hx hb dX12_readPart_41 (by decide) (fun c241 => ?_) (fun c241 => ?_)
              · have b242 : kb 0 c19 399 := kb_tok1 (rS_fE hE hp0 (by decide)) (rC_lt (ne_0 (ht126.symm.trans c130) (by decide +kernel))) hg0
                obtain ⟨ee, hd⟩ : ∃ ee, d = ee + 1 := ⟨d - 1, by have w1 := hp3; have w2 := (b236).2; omega⟩
                refine lv_aload_n hx hb dX12_readPart_45 rfl (lv_at hl 1 rfl) ?_
                refine lv_dup hx hb dX12_readPart_46 rfl ?_
                refine va_get (D := D) (ci := 12) (v := .int (f 19)) (C := RX12) (T := TX12) (N := 48) hx hb hg inC12 hown hK hP 0 rfl rfl 19 (by decide) (hg _ wt5_179) (fun _ h9 => h9) rfl dX12_readPart_47 ?_
                refine k_top (z := c19) ec19.symm ?_
                refine lv_iconst (v := 1) hx hb dX12_readPart_50 (by decide) ?_
                refine lv_iadd hx hb dX12_readPart_51 ?_
                refine lv_topi (fun t243 et243 => ?_)
                have b244 : kb 1 t243 400 := kb_eq et243 (kb_add b242 kc_1 (by decide) (by decide))
                have qt243 : t243.toInt = c19.toInt + 1 := by rw [et243]; exact kt_addc b242 kc_1 (by decide) (by decide)
                have hg245 : t243.toInt = ((i + 1 : Nat) : Int) := by rw [qt243, hg0]; omega
                refine va_put (D := D) (ci := 12) (v := .int t243) (ty := .int) (C := RX12) (T := TX12) (N := 48) hx hb hg inC12 tyX12 tyX12_ok nmX12 hown hK hP hD hS 0 rfl rfl 19 (by decide) (hg _ wt5_179) (fun _ h9 => h9) rfl (by decide +kernel) rfl rfl (Nat.le_of_ble_eq_true rfl) dX12_readPart_52 (fun H locs hP hD hS => ?_)
                have hP : va_P D vwCl (mW K o r (upd f 19 t243) a g) H := hP
                have hD : va_D A (mW K o r (upd f 19 t243) a g) := hD
                refine k_gen (P := fun z => va_P D vwCl (mW K o r z a g) H ∧ va_D A (mW K o r z a g) ∧ (mI z a) ∧ (fE [19, 20, 21] f z)) (upd f 19 t243) ⟨hP, hD, (mI_f hI (fI_st hI.1 19 b244 (by decide) (by decide))), (fE_f hE (by decide))⟩ (fun f_246 ef_246 hq => ?_)
                obtain ⟨hP, hD, hI, hE⟩ := hq
                refine lv_aload_n hx hb dX12_readPart_55 rfl (lv_at hl 1 rfl) ?_
                refine lv_iload_n hx hb dX12_readPart_56 rfl (lv_at hl 2 rfl) ?_
                refine lv_iconst (v := 1) hx hb dX12_readPart_57 (by decide) ?_
                refine lv_iadd hx hb dX12_readPart_58 ?_
                refine lv_topi (fun t247 et247 => ?_)
                have b248 : kb 1 t247 8 := kb_eq et247 (kb_add b236 kc_1 (by decide) (by decide))
                have qt247 : t247.toInt = dp.toInt + 1 := by rw [et247]; exact kt_addc b236 kc_1 (by decide) (by decide)
                refine kV.callV (As := [.int t247]) (rest := []) ⟨hx, hb, hml, hown, hg⟩ ((ih ee hd) l o r f_246 a g hI t247 (kb_w b248 (by decide) (by decide)) N (i + 1) true (rS_fE hE hp0 (by decide)) (by rw [(show f_246 19 = t243 from by rw [← ef_246]; rfl)]; exact hg245) (rC_lt (ne_0 (ht126.symm.trans c130) (by decide +kernel))) (by have w1 := hp3; have w2 := qt247; omega)) (cwV 1 hg (kgV wt6_208 wt6_210 wp4_8 wt1_14 wt6_211) rfl rfl rfl (by decide +kernel) ⟨by dsimp only [rmD]; omega, by dsimp only [rmD]; omega⟩) hK hP hD hS hA mIs [] rfl (wr := []) rfl rfl rfl (fun i h => by cases h) 0 12 rfl rfl rfl hl.1 rfl (Nat.le_of_ble_eq_true rfl) dX12_readPart_59 ⟨Nat.le_refl _, Nat.le_refl _⟩ (fun u251 H locs hw249 hP hD hS => ?_)
                have hP : va_P D vwCl (mW K o r u251 a g) H := hP
                have hD : va_D A (mW K o r u251 a g) := hD
                have hI : mI u251 a := hw249.1
                have eE252 : fE [19, 20, 21] f_246 u251 := hw249.2.1
                have hE : fE [19, 20, 21] f u251 := fE_tr hE eE252
                obtain ⟨ik253, hgk253, hlek253, hNk253, hik253⟩ := hw249.2.2
                obtain ⟨gv254, egv254⟩ : ∃ z : Int32, z = u251 19 := ⟨_, rfl⟩
                have hg255 : gv254.toInt = ((ik253 : Nat) : Int) := by rw [egv254]; exact hgk253
                have b256 : kb 0 gv254 400 := kb_tok (rS_fE hE hp0 (by decide)) hNk253 hg255
                refine lv_aload_n hx hb dX12_readPart_62 rfl (lv_at hl 1 rfl) ?_
                refine lv_bipush (v := 93) hx hb dX12_readPart_63 (by decide) ?_
                refine kN.callS (As := [.int 93]) (rest := [.ref o]) ⟨hx, hb, hml, hown, hg⟩ (m_sign l 93 (kb_w kc_93 (by decide) (by decide))) (va_cwS 1 hg (kgS wt6_220 wt6_221 wt1_14 wt6_222) rfl rfl rfl (by decide +kernel) ⟨by dsimp only [rmD]; omega, by dsimp only [rmD]; omega⟩) hP hS rfl hl.1 rfl (Nat.le_of_ble_eq_true rfl) dX12_readPart_65 ⟨Nat.le_refl _, Nat.le_refl _⟩ (fun v258 H locs hw257 hP hS => ?_)
                refine k_top (z := 193) (Int32.toInt_inj.mp (hw257.2.trans (by decide +kernel))) ?_
                refine kV.callV (As := [.int 193]) (rest := []) ⟨hx, hb, hml, hown, hg⟩ (m_must l o r u251 a g hI 193 (kb_w kc_193 (by decide) (by decide)) N (ik253) true (rS_fE hE hp0 (by decide)) (by rw [egv254.symm]; exact hg255) hNk253) (cwV 1 hg (kgV wt6_227 wt6_229 wp4_12 wt1_14 wt6_230) rfl rfl rfl (by decide +kernel) ⟨by dsimp only [rmD]; omega, by dsimp only [rmD]; omega⟩) hK hP hD hS hA mIs [] rfl (wr := []) rfl rfl rfl (fun i h => by cases h) 0 12 rfl rfl rfl hl.1 rfl (Nat.le_of_ble_eq_true rfl) dX12_readPart_68 ⟨Nat.le_refl _, Nat.le_refl _⟩ (fun u262 H locs hw260 hP hD hS => ?_)
                have hP : va_P D vwCl (mW K o r u262 a g) H := hP
                have hD : va_D A (mW K o r u262 a g) := hD
                have hI : mI u262 a := hw260.1
                have eE263 : fE [19, 20, 21] u251 u262 := hw260.2.1
                have hE : fE [19, 20, 21] f u262 := fE_tr hE eE263
                obtain ⟨ik264, hgk264, hlek264, hNk264, hik264⟩ := hw260.2.2
                obtain ⟨gv265, egv265⟩ : ∃ z : Int32, z = u262 19 := ⟨_, rfl⟩
                have hg266 : gv265.toInt = ((ik264 : Nat) : Int) := by rw [egv265]; exact hgk264
                have b267 : kb 0 gv265 400 := kb_tok (rS_fE hE hp0 (by decide)) hNk264 hg266
                refine lv_goto (tgt := 167) hx hb dX12_readPart_71 (by decide) ?_
                exact kV_ret hx hb hr hlocks hK hS dX12_readPart_167 u262 hP hD ⟨hI, hE, ⟨ik264, (by rw [egv265.symm]; exact hg266), (Nat.le_trans (Nat.le_trans (Nat.le_succ_of_le (Nat.le_refl i)) hlek253) hlek264), hNk264, (fun hq => by obtain ⟨q268, xk264⟩ := hik264 hq; obtain ⟨q269, xk253⟩ := hik253 q268; have q270 := ((show f_246 21 = f 21 from by rw [← ef_246]; rfl)).symm.trans q269; exact ⟨q270, gi_2a (ht126.symm.trans c130) hd xk253 xk264.1 xk264.2⟩)⟩⟩
              · exact kb_dj c241 kc_1 kc_0 (by decide)
            · refine k_top (z := 0) hf240.1 ?_
              refine lv_if_ne (tgt := 45) hx hb dX12_readPart_41 (by decide) (fun c271 => ?_) (fun c271 => ?_)
              · exact kb_nsame c271 kc_0 kc_0
              · exact kV_ret hx hb hr hlocks hK hS dX12_readPart_44 f hP hD ⟨hI, hE, ⟨i, (by rw [ec19.symm]; exact hg0), (Nat.le_refl i), hp2, (fun hq => by exact absurd hq hf240.2)⟩⟩
          · have b272 : kb 8 dp 8 := kb_eq c235 kc_8
            refine lv_aload_n hx hb dX12_readPart_33 rfl (lv_at hl 1 rfl) ?_
            refine kV.callV (As := []) (rest := []) ⟨hx, hb, hml, hown, hg⟩ (m_faults l o r f a g hI   N (i) true (rS_fE hE hp0 (by decide)) (by rw [ec19.symm]; exact hg0) hp2) (cwV 0 hg (kgV wt6_223 wt6_225 wp4_11 wt1_14 wt6_226) rfl rfl rfl (by decide +kernel) ⟨by dsimp only [rmD]; omega, by dsimp only [rmD]; omega⟩) hK hP hD hS hA mIs [] rfl (wr := []) rfl rfl rfl (fun i h => by cases h) 0 12 rfl rfl rfl hl.1 rfl (Nat.le_of_ble_eq_true rfl) dX12_readPart_34 ⟨Nat.le_refl _, Nat.le_refl _⟩ (fun u275 H locs hw273 hP hD hS => ?_)
            have hP : va_P D vwCl (mW K o r u275 a g) H := hP
            have hD : va_D A (mW K o r u275 a g) := hD
            have hI : mI u275 a := hw273.1
            have eE276 : fE [21] f u275 := hw273.2.1
            have hE : fE [19, 20, 21] f u275 := fE_tr hE (fE_w (by decide) eE276)
            refine lv_aload_n hx hb dX12_readPart_37 rfl (lv_at hl 1 rfl) ?_
            refine kI.callV (As := []) (rest := []) ⟨hx, hb, hml, hown, hg⟩ (m_fine l o r u275 a g hI   ) (cwV 0 hg (kgV wt6_204 wt6_206 wp4_7 wt1_14 wt6_207) rfl rfl rfl (by decide +kernel) ⟨by dsimp only [rmD]; omega, by dsimp only [rmD]; omega⟩) hK hP hD hS hA mIs [] rfl (wr := []) rfl rfl rfl (fun i h => by cases h) 0 12 rfl rfl rfl hl.1 rfl (Nat.le_of_ble_eq_true rfl) dX12_readPart_38 ⟨Nat.le_refl _, Nat.le_refl _⟩ (fun v278 u279 H locs hw277 hP hD hS => ?_)
            have hP : va_P D vwCl (mW K o r u275 a g) H := hP
            have hD : va_D A (mW K o r u275 a g) := hD
            rcases hw277.2 with hf280 | hf280
            · refine k_top (z := 1) hf280.1 ?_
              exact absurd hf280.2 hw273.2.2
            · refine k_top (z := 0) hf280.1 ?_
              refine lv_if_ne (tgt := 45) hx hb dX12_readPart_41 (by decide) (fun c281 => ?_) (fun c281 => ?_)
              · exact kb_nsame c281 kc_0 kc_0
              · exact kV_ret hx hb hr hlocks hK hS dX12_readPart_44 u275 hP hD ⟨hI, hE, ⟨i, (by rw [((eE276 19 (by decide)).trans ec19.symm)]; exact hg0), (Nat.le_refl i), hp2, (fun hq => by exact absurd hq hf280.2)⟩⟩
      · exact kb_dj c124 kc_1 kc_0 (by decide)
    · refine k_top (z := 0) hf123.1 ?_
      refine lv_if_ne (tgt := 8) hx hb dX12_readPart_4 (by decide) (fun c282 => ?_) (fun c282 => ?_)
      · exact kb_nsame c282 kc_0 kc_0
      · exact kV_ret hx hb hr hlocks hK hS dX12_readPart_7 f hP hD ⟨hI, hE, ⟨i, (by rw [ec19.symm]; exact hg0), (Nat.le_refl i), hp2, (fun hq => by exact absurd hq hf123.2)⟩⟩
set_option maxHeartbeats 4000000 in
set_option maxRecDepth 100000 in
theorem m_readTerm (d : Nat) (hpart : cRPart d) (l : Launch) {D : va_G} {K : Nat → ClassId} (o : Nat) (r : Nat → Nat) (f : Nat → Int32) (a : Nat → Nat → Int32) (g : Nat → Int64) (hI : mI f a) (dp : Int32) (bdp : kb 0 dp 8) (N i : Nat) (ob : Bool) (hp0 : rS f a N ob) (hp1 : (f 19).toInt = (i : Int)) (hp2 : i ≤ N) (hp3 : dp.toInt + (d : Int) = 8) : kV l yX12_readTerm (Cond.code yX12_readTerm cX12_readTerm 2 none :: kG) (rmD (3 * d + 7) 0 0) D (tysK K) [.ref o, .int dp] (mW K o r f a g) (fun (u : Nat → Int32) => mI u a ∧ fE [19, 20, 21] f u ∧ (∃ i2 : Nat, (u 19).toInt = (i2 : Int) ∧ i ≤ i2 ∧ i2 ≤ N ∧ (u 21 = -1 → f 21 = -1 ∧ gG ob (rC (a 15) N) d 1 i i2))) (fun u => mW K o r u a g) 0 0 := by
  refine kV.of (cc := cX12_readTerm) (maxL := 2) (ret := none) (by decide) rfl (Nat.le_of_ble_eq_true rfl) ?_
  intro p e s m below meth c A hx hb hr hml hown hts hlocks hnm hK hP hD hS hA ls hl
  have hE : fE [19, 20, 21] f f := fE_rf
  have hg : ∀ w ∈ kG, w.before _ s = true := fun w h => hts w (List.mem_cons_of_mem _ h)
  have hown : s.vm.findClass RX12 = some m.cls := hown
  have hl : lv_has ls 2 [(0, .ref o), (1, .int dp)] := hl
  obtain ⟨c19, ec19⟩ : ∃ z : Int32, z = f 19 := ⟨_, rfl⟩
  have hg0 : c19.toInt = (i : Int) := by rw [ec19]; exact hp1
  have b1 : kb 0 c19 400 := kb_tok hp0 hp2 hg0
  refine lv_aload_n hx hb dX12_readTerm_0 rfl (lv_at hl 0 rfl) ?_
  refine lv_iload_n hx hb dX12_readTerm_1 rfl (lv_at hl 1 rfl) ?_
  refine kV.callV (As := [.int dp]) (rest := []) ⟨hx, hb, hml, hown, hg⟩ (hpart l o r f a g hI dp bdp N (i) ob (rS_fE hE hp0 (by decide)) (by rw [ec19.symm]; exact hg0) hp2 hp3) (cwV 1 hg (kgV wt6_216 wt6_218 wp4_10 wt1_14 wt6_219) rfl rfl rfl (by decide +kernel) ⟨by dsimp only [rmD]; omega, by dsimp only [rmD]; omega⟩) hK hP hD hS hA mIs [] rfl (wr := []) rfl rfl rfl (fun i h => by cases h) 0 12 rfl rfl rfl hl.1 rfl (Nat.le_of_ble_eq_true rfl) dX12_readTerm_2 ⟨Nat.le_refl _, Nat.le_refl _⟩ (fun u4 H locs hw2 hP hD hS => ?_)
  have hP : va_P D vwCl (mW K o r u4 a g) H := hP
  have hD : va_D A (mW K o r u4 a g) := hD
  have hI : mI u4 a := hw2.1
  have eE5 : fE [19, 20, 21] f u4 := hw2.2.1
  have hE : fE [19, 20, 21] f u4 := fE_tr hE eE5
  obtain ⟨ik6, hgk6, hlek6, hNk6, hik6⟩ := hw2.2.2
  obtain ⟨gv7, egv7⟩ : ∃ z : Int32, z = u4 19 := ⟨_, rfl⟩
  have hg8 : gv7.toInt = ((ik6 : Nat) : Int) := by rw [egv7]; exact hgk6
  have b9 : kb 0 gv7 400 := kb_tok (rS_fE hE hp0 (by decide)) hNk6 hg8
  have lp11 : ∀ (n12 : Nat) (i7 : Nat) (F10 : Nat → Int32) (H : Heap) (locs : List Loc) (ls : Array Slot), ((N : Int) < (i7 : Int) + (n12 : Int)) → (mI F10 a) → (fE [19, 20, 21] f F10) → ((F10 19).toInt = (i7 : Int)) → (i ≤ i7 ∧ i7 ≤ N) → (F10 21 = -1 → f 21 = -1 ∧ ∀ j, gG ob (rC (a 15) N) d 7 i7 j → gG ob (rC (a 15) N) d 1 i j) → va_P D vwCl (mW K o r F10 a g) H → va_D A (mW K o r F10 a g) → va_S A s.heap H locs → lv_has ls 2 [(0, .ref o), (1, .int dp)] → W p l e (rmD (3 * d + 7) 0 0) s m ([.ref o, .int dp] : List Value).toArray below meth c H locs 0 0 (kQv D (tysK K) (fun (u : Nat → Int32) => mI u a ∧ fE [19, 20, 21] f u ∧ (∃ i2 : Nat, (u 19).toInt = (i2 : Int) ∧ i ≤ i2 ∧ i2 ≤ N ∧ (u 21 = -1 → f 21 = -1 ∧ gG ob (rC (a 15) N) d 1 i i2))) (fun u => mW K o r u a g) A below ([.ref o, .int dp] : List Value).toArray s 0 0) (F0 m 5 ls []) := by
    intro n12
    induction n12 with
    | zero =>
      intro i7 F10  H locs ls  hmlp11 hI hE hvlp11_0 hvlp11_1 hvlp11_2 hP hD hS hl
      exact (by have w1 := hmlp11; have w2 := hvlp11_1.2; omega : False).elim
    | succ n12 ihlp11 =>
      intro i7 F10  H locs ls  hmlp11 hI hE hvlp11_0 hvlp11_1 hvlp11_2 hP hD hS hl
      obtain ⟨gv13, egv13⟩ : ∃ z : Int32, z = F10 19 := ⟨_, rfl⟩
      have hg14 : gv13.toInt = ((i7 : Nat) : Int) := by rw [egv13]; exact hvlp11_0
      have b15 : kb 0 gv13 400 := kb_tok (rS_fE hE hp0 (by decide)) hvlp11_1.2 hg14
      refine lv_aload_n hx hb dX12_readTerm_5 rfl (lv_at hl 0 rfl) ?_
      refine lv_bipush (v := 42) hx hb dX12_readTerm_6 (by decide) ?_
      refine kN.callS (As := [.int 42]) (rest := [.ref o]) ⟨hx, hb, hml, hown, hg⟩ (m_sign l 42 (kb_w kc_42 (by decide) (by decide))) (va_cwS 1 hg (kgS wt6_220 wt6_221 wt1_14 wt6_222) rfl rfl rfl (by decide +kernel) ⟨by dsimp only [rmD]; omega, by dsimp only [rmD]; omega⟩) hP hS rfl hl.1 rfl (Nat.le_of_ble_eq_true rfl) dX12_readTerm_8 ⟨Nat.le_refl _, Nat.le_refl _⟩ (fun v17 H locs hw16 hP hS => ?_)
      refine k_top (z := 142) (Int32.toInt_inj.mp (hw16.2.trans (by decide +kernel))) ?_
      refine kI.callV (As := [.int 142]) (rest := []) ⟨hx, hb, hml, hown, hg⟩ (m_takes0 l o r F10 a g hI 142 (kb_w kc_142 (by decide) (by decide)) N (i7) ob (rS_fE hE hp0 (by decide)) (by rw [egv13.symm]; exact hg14) hvlp11_1.2) (cwV 1 hg (kgV wt6_200 wt6_202 wp4_6 wt1_14 wt6_203) rfl rfl rfl (by decide +kernel) ⟨by dsimp only [rmD]; omega, by dsimp only [rmD]; omega⟩) hK hP hD hS hA mIs [] rfl (wr := []) rfl rfl rfl (fun i h => by cases h) 0 12 rfl rfl rfl hl.1 rfl (Nat.le_of_ble_eq_true rfl) dX12_readTerm_11 ⟨Nat.le_refl _, Nat.le_refl _⟩ (fun v20 u21 H locs hw19 hP hD hS => ?_)
      have hP : va_P D vwCl (mW K o r u21 a g) H := hP
      have hD : va_D A (mW K o r u21 a g) := hD
      have hI : mI u21 a := hw19.2.1
      have eE22 : fE [19] F10 u21 := hw19.2.2.1
      have hE : fE [19, 20, 21] f u21 := fE_tr hE (fE_w (by decide) eE22)
      rcases hw19.2.2.2 with ⟨hvk23, hbk23, htk23, hpk23, hlk23⟩ | ⟨hvk23, hnk23, hpk23⟩
      · refine k_top (z := 1) hvk23 ?_
        obtain ⟨gv24, egv24⟩ : ∃ z : Int32, z = u21 19 := ⟨_, rfl⟩
        have hg25 : gv24.toInt = ((i7 + 1 : Nat) : Int) := by rw [egv24]; exact hpk23
        have b26 : kb 0 gv24 400 := kb_tok (rS_fE hE hp0 (by decide)) hlk23 hg25
        refine lv_if_ne (tgt := 41) hx hb dX12_readTerm_14 (by decide) (fun c27 => ?_) (fun c27 => ?_)
        · refine lv_aload_n hx hb dX12_readTerm_41 rfl (lv_at hl 0 rfl) ?_
          refine lv_iload_n hx hb dX12_readTerm_42 rfl (lv_at hl 1 rfl) ?_
          refine kV.callV (As := [.int dp]) (rest := []) ⟨hx, hb, hml, hown, hg⟩ (hpart l o r u21 a g hI dp bdp N (i7 + 1) ob (rS_fE hE hp0 (by decide)) (by rw [egv24.symm]; exact hg25) hlk23 hp3) (cwV 1 hg (kgV wt6_216 wt6_218 wp4_10 wt1_14 wt6_219) rfl rfl rfl (by decide +kernel) ⟨by dsimp only [rmD]; omega, by dsimp only [rmD]; omega⟩) hK hP hD hS hA mIs [] rfl (wr := []) rfl rfl rfl (fun i h => by cases h) 0 12 rfl rfl rfl hl.1 rfl (Nat.le_of_ble_eq_true rfl) dX12_readTerm_43 ⟨Nat.le_refl _, Nat.le_refl _⟩ (fun u30 H locs hw28 hP hD hS => ?_)
          have hP : va_P D vwCl (mW K o r u30 a g) H := hP
          have hD : va_D A (mW K o r u30 a g) := hD
          have hI : mI u30 a := hw28.1
          have eE31 : fE [19, 20, 21] u21 u30 := hw28.2.1
          have hE : fE [19, 20, 21] f u30 := fE_tr hE eE31
          obtain ⟨ik32, hgk32, hlek32, hNk32, hik32⟩ := hw28.2.2
          obtain ⟨gv33, egv33⟩ : ∃ z : Int32, z = u30 19 := ⟨_, rfl⟩
          have hg34 : gv33.toInt = ((ik32 : Nat) : Int) := by rw [egv33]; exact hgk32
          have b35 : kb 0 gv33 400 := kb_tok (rS_fE hE hp0 (by decide)) hNk32 hg34
          refine lv_goto (tgt := 5) hx hb dX12_readTerm_46 (by decide) ?_
          exact ihlp11 (ik32) u30 _ _ _  (by omega) hI hE (by rw [egv33.symm]; exact hg34) (⟨(Nat.le_trans (Nat.le_succ_of_le hvlp11_1.1) hlek32), hNk32⟩) (fun hq => by obtain ⟨q36, xk32⟩ := hik32 hq; have q37 := (eE22 21 (by decide)).symm.trans q36; obtain ⟨q38, xc⟩ := hvlp11_2 q37; exact ⟨q38, fun j h6 => xc j (gi_7y (Or.inl htk23) xk32 h6)⟩) hP hD hS (lv_sub hl [0, 1] rfl)
        · exact kb_dj c27 kc_1 kc_0 (by decide)
      · refine k_top (z := 0) hvk23 ?_
        obtain ⟨gv39, egv39⟩ : ∃ z : Int32, z = u21 19 := ⟨_, rfl⟩
        have hg40 : gv39.toInt = ((i7 : Nat) : Int) := by rw [egv39]; exact hpk23
        have b41 : kb 0 gv39 400 := kb_tok (rS_fE hE hp0 (by decide)) hvlp11_1.2 hg40
        refine lv_if_ne (tgt := 41) hx hb dX12_readTerm_14 (by decide) (fun c42 => ?_) (fun c42 => ?_)
        · exact kb_nsame c42 kc_0 kc_0
        · refine lv_aload_n hx hb dX12_readTerm_17 rfl (lv_at hl 0 rfl) ?_
          refine lv_bipush (v := 47) hx hb dX12_readTerm_18 (by decide) ?_
          refine kN.callS (As := [.int 47]) (rest := [.ref o]) ⟨hx, hb, hml, hown, hg⟩ (m_sign l 47 (kb_w kc_47 (by decide) (by decide))) (va_cwS 1 hg (kgS wt6_220 wt6_221 wt1_14 wt6_222) rfl rfl rfl (by decide +kernel) ⟨by dsimp only [rmD]; omega, by dsimp only [rmD]; omega⟩) hP hS rfl hl.1 rfl (Nat.le_of_ble_eq_true rfl) dX12_readTerm_20 ⟨Nat.le_refl _, Nat.le_refl _⟩ (fun v44 H locs hw43 hP hS => ?_)
          refine k_top (z := 147) (Int32.toInt_inj.mp (hw43.2.trans (by decide +kernel))) ?_
          refine kI.callV (As := [.int 147]) (rest := []) ⟨hx, hb, hml, hown, hg⟩ (m_takes0 l o r u21 a g hI 147 (kb_w kc_147 (by decide) (by decide)) N (i7) ob (rS_fE hE hp0 (by decide)) (by rw [egv39.symm]; exact hg40) hvlp11_1.2) (cwV 1 hg (kgV wt6_200 wt6_202 wp4_6 wt1_14 wt6_203) rfl rfl rfl (by decide +kernel) ⟨by dsimp only [rmD]; omega, by dsimp only [rmD]; omega⟩) hK hP hD hS hA mIs [] rfl (wr := []) rfl rfl rfl (fun i h => by cases h) 0 12 rfl rfl rfl hl.1 rfl (Nat.le_of_ble_eq_true rfl) dX12_readTerm_23 ⟨Nat.le_refl _, Nat.le_refl _⟩ (fun v47 u48 H locs hw46 hP hD hS => ?_)
          have hP : va_P D vwCl (mW K o r u48 a g) H := hP
          have hD : va_D A (mW K o r u48 a g) := hD
          have hI : mI u48 a := hw46.2.1
          have eE49 : fE [19] u21 u48 := hw46.2.2.1
          have hE : fE [19, 20, 21] f u48 := fE_tr hE (fE_w (by decide) eE49)
          rcases hw46.2.2.2 with ⟨hvk50, hbk50, htk50, hpk50, hlk50⟩ | ⟨hvk50, hnk50, hpk50⟩
          · refine k_top (z := 1) hvk50 ?_
            obtain ⟨gv51, egv51⟩ : ∃ z : Int32, z = u48 19 := ⟨_, rfl⟩
            have hg52 : gv51.toInt = ((i7 + 1 : Nat) : Int) := by rw [egv51]; exact hpk50
            have b53 : kb 0 gv51 400 := kb_tok (rS_fE hE hp0 (by decide)) hlk50 hg52
            refine lv_if_ne (tgt := 41) hx hb dX12_readTerm_26 (by decide) (fun c54 => ?_) (fun c54 => ?_)
            · refine lv_aload_n hx hb dX12_readTerm_41 rfl (lv_at hl 0 rfl) ?_
              refine lv_iload_n hx hb dX12_readTerm_42 rfl (lv_at hl 1 rfl) ?_
              refine kV.callV (As := [.int dp]) (rest := []) ⟨hx, hb, hml, hown, hg⟩ (hpart l o r u48 a g hI dp bdp N (i7 + 1) ob (rS_fE hE hp0 (by decide)) (by rw [egv51.symm]; exact hg52) hlk50 hp3) (cwV 1 hg (kgV wt6_216 wt6_218 wp4_10 wt1_14 wt6_219) rfl rfl rfl (by decide +kernel) ⟨by dsimp only [rmD]; omega, by dsimp only [rmD]; omega⟩) hK hP hD hS hA mIs [] rfl (wr := []) rfl rfl rfl (fun i h => by cases h) 0 12 rfl rfl rfl hl.1 rfl (Nat.le_of_ble_eq_true rfl) dX12_readTerm_43 ⟨Nat.le_refl _, Nat.le_refl _⟩ (fun u57 H locs hw55 hP hD hS => ?_)
              have hP : va_P D vwCl (mW K o r u57 a g) H := hP
              have hD : va_D A (mW K o r u57 a g) := hD
              have hI : mI u57 a := hw55.1
              have eE58 : fE [19, 20, 21] u48 u57 := hw55.2.1
              have hE : fE [19, 20, 21] f u57 := fE_tr hE eE58
              obtain ⟨ik59, hgk59, hlek59, hNk59, hik59⟩ := hw55.2.2
              obtain ⟨gv60, egv60⟩ : ∃ z : Int32, z = u57 19 := ⟨_, rfl⟩
              have hg61 : gv60.toInt = ((ik59 : Nat) : Int) := by rw [egv60]; exact hgk59
              have b62 : kb 0 gv60 400 := kb_tok (rS_fE hE hp0 (by decide)) hNk59 hg61
              refine lv_goto (tgt := 5) hx hb dX12_readTerm_46 (by decide) ?_
              exact ihlp11 (ik59) u57 _ _ _  (by omega) hI hE (by rw [egv60.symm]; exact hg61) (⟨(Nat.le_trans (Nat.le_succ_of_le hvlp11_1.1) hlek59), hNk59⟩) (fun hq => by obtain ⟨q63, xk59⟩ := hik59 hq; have q64 := (eE49 21 (by decide)).symm.trans q63; have q65 := (eE22 21 (by decide)).symm.trans q64; have nnk23 := hnk23 q65; obtain ⟨q66, xc⟩ := hvlp11_2 q65; exact ⟨q66, fun j h6 => xc j (gi_7y (Or.inr (Or.inl htk50)) xk59 h6)⟩) hP hD hS (lv_sub hl [0, 1] rfl)
            · exact kb_dj c54 kc_1 kc_0 (by decide)
          · refine k_top (z := 0) hvk50 ?_
            obtain ⟨gv67, egv67⟩ : ∃ z : Int32, z = u48 19 := ⟨_, rfl⟩
            have hg68 : gv67.toInt = ((i7 : Nat) : Int) := by rw [egv67]; exact hpk50
            have b69 : kb 0 gv67 400 := kb_tok (rS_fE hE hp0 (by decide)) hvlp11_1.2 hg68
            refine lv_if_ne (tgt := 41) hx hb dX12_readTerm_26 (by decide) (fun c70 => ?_) (fun c70 => ?_)
            · exact kb_nsame c70 kc_0 kc_0
            · refine lv_aload_n hx hb dX12_readTerm_29 rfl (lv_at hl 0 rfl) ?_
              refine lv_bipush (v := 37) hx hb dX12_readTerm_30 (by decide) ?_
              refine kN.callS (As := [.int 37]) (rest := [.ref o]) ⟨hx, hb, hml, hown, hg⟩ (m_sign l 37 (kb_w kc_37 (by decide) (by decide))) (va_cwS 1 hg (kgS wt6_220 wt6_221 wt1_14 wt6_222) rfl rfl rfl (by decide +kernel) ⟨by dsimp only [rmD]; omega, by dsimp only [rmD]; omega⟩) hP hS rfl hl.1 rfl (Nat.le_of_ble_eq_true rfl) dX12_readTerm_32 ⟨Nat.le_refl _, Nat.le_refl _⟩ (fun v72 H locs hw71 hP hS => ?_)
              refine k_top (z := 137) (Int32.toInt_inj.mp (hw71.2.trans (by decide +kernel))) ?_
              refine kI.callV (As := [.int 137]) (rest := []) ⟨hx, hb, hml, hown, hg⟩ (m_takes0 l o r u48 a g hI 137 (kb_w kc_137 (by decide) (by decide)) N (i7) ob (rS_fE hE hp0 (by decide)) (by rw [egv67.symm]; exact hg68) hvlp11_1.2) (cwV 1 hg (kgV wt6_200 wt6_202 wp4_6 wt1_14 wt6_203) rfl rfl rfl (by decide +kernel) ⟨by dsimp only [rmD]; omega, by dsimp only [rmD]; omega⟩) hK hP hD hS hA mIs [] rfl (wr := []) rfl rfl rfl (fun i h => by cases h) 0 12 rfl rfl rfl hl.1 rfl (Nat.le_of_ble_eq_true rfl) dX12_readTerm_35 ⟨Nat.le_refl _, Nat.le_refl _⟩ (fun v75 u76 H locs hw74 hP hD hS => ?_)
              have hP : va_P D vwCl (mW K o r u76 a g) H := hP
              have hD : va_D A (mW K o r u76 a g) := hD
              have hI : mI u76 a := hw74.2.1
              have eE77 : fE [19] u48 u76 := hw74.2.2.1
              have hE : fE [19, 20, 21] f u76 := fE_tr hE (fE_w (by decide) eE77)
              rcases hw74.2.2.2 with ⟨hvk78, hbk78, htk78, hpk78, hlk78⟩ | ⟨hvk78, hnk78, hpk78⟩
              · refine k_top (z := 1) hvk78 ?_
                obtain ⟨gv79, egv79⟩ : ∃ z : Int32, z = u76 19 := ⟨_, rfl⟩
                have hg80 : gv79.toInt = ((i7 + 1 : Nat) : Int) := by rw [egv79]; exact hpk78
                have b81 : kb 0 gv79 400 := kb_tok (rS_fE hE hp0 (by decide)) hlk78 hg80
                refine lv_if_eq (tgt := 49) hx hb dX12_readTerm_38 (by decide) (fun c82 => ?_) (fun c82 => ?_)
                · exact kb_dj c82 kc_1 kc_0 (by decide)
                · refine lv_aload_n hx hb dX12_readTerm_41 rfl (lv_at hl 0 rfl) ?_
                  refine lv_iload_n hx hb dX12_readTerm_42 rfl (lv_at hl 1 rfl) ?_
                  refine kV.callV (As := [.int dp]) (rest := []) ⟨hx, hb, hml, hown, hg⟩ (hpart l o r u76 a g hI dp bdp N (i7 + 1) ob (rS_fE hE hp0 (by decide)) (by rw [egv79.symm]; exact hg80) hlk78 hp3) (cwV 1 hg (kgV wt6_216 wt6_218 wp4_10 wt1_14 wt6_219) rfl rfl rfl (by decide +kernel) ⟨by dsimp only [rmD]; omega, by dsimp only [rmD]; omega⟩) hK hP hD hS hA mIs [] rfl (wr := []) rfl rfl rfl (fun i h => by cases h) 0 12 rfl rfl rfl hl.1 rfl (Nat.le_of_ble_eq_true rfl) dX12_readTerm_43 ⟨Nat.le_refl _, Nat.le_refl _⟩ (fun u85 H locs hw83 hP hD hS => ?_)
                  have hP : va_P D vwCl (mW K o r u85 a g) H := hP
                  have hD : va_D A (mW K o r u85 a g) := hD
                  have hI : mI u85 a := hw83.1
                  have eE86 : fE [19, 20, 21] u76 u85 := hw83.2.1
                  have hE : fE [19, 20, 21] f u85 := fE_tr hE eE86
                  obtain ⟨ik87, hgk87, hlek87, hNk87, hik87⟩ := hw83.2.2
                  obtain ⟨gv88, egv88⟩ : ∃ z : Int32, z = u85 19 := ⟨_, rfl⟩
                  have hg89 : gv88.toInt = ((ik87 : Nat) : Int) := by rw [egv88]; exact hgk87
                  have b90 : kb 0 gv88 400 := kb_tok (rS_fE hE hp0 (by decide)) hNk87 hg89
                  refine lv_goto (tgt := 5) hx hb dX12_readTerm_46 (by decide) ?_
                  exact ihlp11 (ik87) u85 _ _ _  (by omega) hI hE (by rw [egv88.symm]; exact hg89) (⟨(Nat.le_trans (Nat.le_succ_of_le hvlp11_1.1) hlek87), hNk87⟩) (fun hq => by obtain ⟨q91, xk87⟩ := hik87 hq; have q92 := (eE77 21 (by decide)).symm.trans q91; have q93 := (eE49 21 (by decide)).symm.trans q92; have nnk50 := hnk50 q93; have q94 := (eE22 21 (by decide)).symm.trans q93; have nnk23 := hnk23 q94; obtain ⟨q95, xc⟩ := hvlp11_2 q94; exact ⟨q95, fun j h6 => xc j (gi_7y (Or.inr (Or.inr (htk78))) xk87 h6)⟩) hP hD hS (lv_sub hl [0, 1] rfl)
              · refine k_top (z := 0) hvk78 ?_
                obtain ⟨gv96, egv96⟩ : ∃ z : Int32, z = u76 19 := ⟨_, rfl⟩
                have hg97 : gv96.toInt = ((i7 : Nat) : Int) := by rw [egv96]; exact hpk78
                have b98 : kb 0 gv96 400 := kb_tok (rS_fE hE hp0 (by decide)) hvlp11_1.2 hg97
                refine lv_if_eq (tgt := 49) hx hb dX12_readTerm_38 (by decide) (fun c99 => ?_) (fun c99 => ?_)
                · exact kV_ret hx hb hr hlocks hK hS dX12_readTerm_49 u76 hP hD ⟨hI, hE, ⟨i7, (by rw [egv96.symm]; exact hg97), hvlp11_1.1, hvlp11_1.2, (fun hq => by have q100 := (eE77 21 (by decide)).symm.trans hq; have nnk78 := hnk78 q100; have q101 := (eE49 21 (by decide)).symm.trans q100; have nnk50 := hnk50 q101; have q102 := (eE22 21 (by decide)).symm.trans q101; have nnk23 := hnk23 q102; obtain ⟨q103, xc⟩ := hvlp11_2 q102; exact ⟨q103, xc _ (gi_7n (fun q => q.elim nnk23 (fun q => q.elim nnk50 nnk78)))⟩)⟩⟩
                · exact kb_nsame c99 kc_0 kc_0
  exact lp11 (N + 1) (ik6) u4 _ _ _  (by omega) hI hE (by rw [egv7.symm]; exact hg8) (⟨(Nat.le_trans (Nat.le_refl i) hlek6), hNk6⟩) (fun hq => by obtain ⟨q104, xk6⟩ := hik6 hq; exact ⟨q104, fun j h6 => gi_1 xk6 h6⟩) hP hD hS (lv_sub hl [0, 1] rfl)
set_option maxHeartbeats 4000000 in
set_option maxRecDepth 100000 in
theorem m_readSum (d : Nat) (hterm : cRTerm d) (l : Launch) {D : va_G} {K : Nat → ClassId} (o : Nat) (r : Nat → Nat) (f : Nat → Int32) (a : Nat → Nat → Int32) (g : Nat → Int64) (hI : mI f a) (dp : Int32) (bdp : kb 0 dp 8) (N i : Nat) (ob : Bool) (hp0 : rS f a N ob) (hp1 : (f 19).toInt = (i : Int)) (hp2 : i ≤ N) (hp3 : dp.toInt + (d : Int) = 8) : kV l yX12_readSum (Cond.code yX12_readSum cX12_readSum 2 none :: kG) (rmD (3 * d + 8) 0 0) D (tysK K) [.ref o, .int dp] (mW K o r f a g) (fun (u : Nat → Int32) => mI u a ∧ fE [19, 20, 21] f u ∧ (∃ i2 : Nat, (u 19).toInt = (i2 : Int) ∧ i ≤ i2 ∧ i2 ≤ N ∧ (u 21 = -1 → f 21 = -1 ∧ gG ob (rC (a 15) N) d 0 i i2))) (fun u => mW K o r u a g) 0 0 := by
  refine kV.of (cc := cX12_readSum) (maxL := 2) (ret := none) (by decide) rfl (Nat.le_of_ble_eq_true rfl) ?_
  intro p e s m below meth c A hx hb hr hml hown hts hlocks hnm hK hP hD hS hA ls hl
  have hE : fE [19, 20, 21] f f := fE_rf
  have hg : ∀ w ∈ kG, w.before _ s = true := fun w h => hts w (List.mem_cons_of_mem _ h)
  have hown : s.vm.findClass RX12 = some m.cls := hown
  have hl : lv_has ls 2 [(0, .ref o), (1, .int dp)] := hl
  obtain ⟨c19, ec19⟩ : ∃ z : Int32, z = f 19 := ⟨_, rfl⟩
  have hg0 : c19.toInt = (i : Int) := by rw [ec19]; exact hp1
  have b1 : kb 0 c19 400 := kb_tok hp0 hp2 hg0
  refine lv_aload_n hx hb dX12_readSum_0 rfl (lv_at hl 0 rfl) ?_
  refine lv_iload_n hx hb dX12_readSum_1 rfl (lv_at hl 1 rfl) ?_
  refine kV.callV (As := [.int dp]) (rest := []) ⟨hx, hb, hml, hown, hg⟩ (hterm l o r f a g hI dp bdp N (i) ob (rS_fE hE hp0 (by decide)) (by rw [ec19.symm]; exact hg0) hp2 hp3) (cwV 1 hg (kgV wt6_212 wt6_214 wp4_9 wt1_14 wt6_215) rfl rfl rfl (by decide +kernel) ⟨by dsimp only [rmD]; omega, by dsimp only [rmD]; omega⟩) hK hP hD hS hA mIs [] rfl (wr := []) rfl rfl rfl (fun i h => by cases h) 0 12 rfl rfl rfl hl.1 rfl (Nat.le_of_ble_eq_true rfl) dX12_readSum_2 ⟨Nat.le_refl _, Nat.le_refl _⟩ (fun u4 H locs hw2 hP hD hS => ?_)
  have hP : va_P D vwCl (mW K o r u4 a g) H := hP
  have hD : va_D A (mW K o r u4 a g) := hD
  have hI : mI u4 a := hw2.1
  have eE5 : fE [19, 20, 21] f u4 := hw2.2.1
  have hE : fE [19, 20, 21] f u4 := fE_tr hE eE5
  obtain ⟨ik6, hgk6, hlek6, hNk6, hik6⟩ := hw2.2.2
  obtain ⟨gv7, egv7⟩ : ∃ z : Int32, z = u4 19 := ⟨_, rfl⟩
  have hg8 : gv7.toInt = ((ik6 : Nat) : Int) := by rw [egv7]; exact hgk6
  have b9 : kb 0 gv7 400 := kb_tok (rS_fE hE hp0 (by decide)) hNk6 hg8
  have lp11 : ∀ (n12 : Nat) (i6 : Nat) (F10 : Nat → Int32) (H : Heap) (locs : List Loc) (ls : Array Slot), ((N : Int) < (i6 : Int) + (n12 : Int)) → (mI F10 a) → (fE [19, 20, 21] f F10) → ((F10 19).toInt = (i6 : Int)) → (i ≤ i6 ∧ i6 ≤ N) → (F10 21 = -1 → f 21 = -1 ∧ ∀ j, gG ob (rC (a 15) N) d 6 i6 j → gG ob (rC (a 15) N) d 0 i j) → va_P D vwCl (mW K o r F10 a g) H → va_D A (mW K o r F10 a g) → va_S A s.heap H locs → lv_has ls 2 [(0, .ref o), (1, .int dp)] → W p l e (rmD (3 * d + 8) 0 0) s m ([.ref o, .int dp] : List Value).toArray below meth c H locs 0 0 (kQv D (tysK K) (fun (u : Nat → Int32) => mI u a ∧ fE [19, 20, 21] f u ∧ (∃ i2 : Nat, (u 19).toInt = (i2 : Int) ∧ i ≤ i2 ∧ i2 ≤ N ∧ (u 21 = -1 → f 21 = -1 ∧ gG ob (rC (a 15) N) d 0 i i2))) (fun u => mW K o r u a g) A below ([.ref o, .int dp] : List Value).toArray s 0 0) (F0 m 5 ls []) := by
    intro n12
    induction n12 with
    | zero =>
      intro i6 F10  H locs ls  hmlp11 hI hE hvlp11_0 hvlp11_1 hvlp11_2 hP hD hS hl
      exact (by have w1 := hmlp11; have w2 := hvlp11_1.2; omega : False).elim
    | succ n12 ihlp11 =>
      intro i6 F10  H locs ls  hmlp11 hI hE hvlp11_0 hvlp11_1 hvlp11_2 hP hD hS hl
      obtain ⟨gv13, egv13⟩ : ∃ z : Int32, z = F10 19 := ⟨_, rfl⟩
      have hg14 : gv13.toInt = ((i6 : Nat) : Int) := by rw [egv13]; exact hvlp11_0
      have b15 : kb 0 gv13 400 := kb_tok (rS_fE hE hp0 (by decide)) hvlp11_1.2 hg14
      refine lv_aload_n hx hb dX12_readSum_5 rfl (lv_at hl 0 rfl) ?_
      refine lv_bipush (v := 43) hx hb dX12_readSum_6 (by decide) ?_
      refine kN.callS (As := [.int 43]) (rest := [.ref o]) ⟨hx, hb, hml, hown, hg⟩ (m_sign l 43 (kb_w kc_43 (by decide) (by decide))) (va_cwS 1 hg (kgS wt6_220 wt6_221 wt1_14 wt6_222) rfl rfl rfl (by decide +kernel) ⟨by dsimp only [rmD]; omega, by dsimp only [rmD]; omega⟩) hP hS rfl hl.1 rfl (Nat.le_of_ble_eq_true rfl) dX12_readSum_8 ⟨Nat.le_refl _, Nat.le_refl _⟩ (fun v17 H locs hw16 hP hS => ?_)
      refine k_top (z := 143) (Int32.toInt_inj.mp (hw16.2.trans (by decide +kernel))) ?_
      refine kI.callV (As := [.int 143]) (rest := []) ⟨hx, hb, hml, hown, hg⟩ (m_takes0 l o r F10 a g hI 143 (kb_w kc_143 (by decide) (by decide)) N (i6) ob (rS_fE hE hp0 (by decide)) (by rw [egv13.symm]; exact hg14) hvlp11_1.2) (cwV 1 hg (kgV wt6_200 wt6_202 wp4_6 wt1_14 wt6_203) rfl rfl rfl (by decide +kernel) ⟨by dsimp only [rmD]; omega, by dsimp only [rmD]; omega⟩) hK hP hD hS hA mIs [] rfl (wr := []) rfl rfl rfl (fun i h => by cases h) 0 12 rfl rfl rfl hl.1 rfl (Nat.le_of_ble_eq_true rfl) dX12_readSum_11 ⟨Nat.le_refl _, Nat.le_refl _⟩ (fun v20 u21 H locs hw19 hP hD hS => ?_)
      have hP : va_P D vwCl (mW K o r u21 a g) H := hP
      have hD : va_D A (mW K o r u21 a g) := hD
      have hI : mI u21 a := hw19.2.1
      have eE22 : fE [19] F10 u21 := hw19.2.2.1
      have hE : fE [19, 20, 21] f u21 := fE_tr hE (fE_w (by decide) eE22)
      rcases hw19.2.2.2 with ⟨hvk23, hbk23, htk23, hpk23, hlk23⟩ | ⟨hvk23, hnk23, hpk23⟩
      · refine k_top (z := 1) hvk23 ?_
        obtain ⟨gv24, egv24⟩ : ∃ z : Int32, z = u21 19 := ⟨_, rfl⟩
        have hg25 : gv24.toInt = ((i6 + 1 : Nat) : Int) := by rw [egv24]; exact hpk23
        have b26 : kb 0 gv24 400 := kb_tok (rS_fE hE hp0 (by decide)) hlk23 hg25
        refine lv_if_ne (tgt := 29) hx hb dX12_readSum_14 (by decide) (fun c27 => ?_) (fun c27 => ?_)
        · refine lv_aload_n hx hb dX12_readSum_29 rfl (lv_at hl 0 rfl) ?_
          refine lv_iload_n hx hb dX12_readSum_30 rfl (lv_at hl 1 rfl) ?_
          refine kV.callV (As := [.int dp]) (rest := []) ⟨hx, hb, hml, hown, hg⟩ (hterm l o r u21 a g hI dp bdp N (i6 + 1) ob (rS_fE hE hp0 (by decide)) (by rw [egv24.symm]; exact hg25) hlk23 hp3) (cwV 1 hg (kgV wt6_212 wt6_214 wp4_9 wt1_14 wt6_215) rfl rfl rfl (by decide +kernel) ⟨by dsimp only [rmD]; omega, by dsimp only [rmD]; omega⟩) hK hP hD hS hA mIs [] rfl (wr := []) rfl rfl rfl (fun i h => by cases h) 0 12 rfl rfl rfl hl.1 rfl (Nat.le_of_ble_eq_true rfl) dX12_readSum_31 ⟨Nat.le_refl _, Nat.le_refl _⟩ (fun u30 H locs hw28 hP hD hS => ?_)
          have hP : va_P D vwCl (mW K o r u30 a g) H := hP
          have hD : va_D A (mW K o r u30 a g) := hD
          have hI : mI u30 a := hw28.1
          have eE31 : fE [19, 20, 21] u21 u30 := hw28.2.1
          have hE : fE [19, 20, 21] f u30 := fE_tr hE eE31
          obtain ⟨ik32, hgk32, hlek32, hNk32, hik32⟩ := hw28.2.2
          obtain ⟨gv33, egv33⟩ : ∃ z : Int32, z = u30 19 := ⟨_, rfl⟩
          have hg34 : gv33.toInt = ((ik32 : Nat) : Int) := by rw [egv33]; exact hgk32
          have b35 : kb 0 gv33 400 := kb_tok (rS_fE hE hp0 (by decide)) hNk32 hg34
          refine lv_goto (tgt := 5) hx hb dX12_readSum_34 (by decide) ?_
          exact ihlp11 (ik32) u30 _ _ _  (by omega) hI hE (by rw [egv33.symm]; exact hg34) (⟨(Nat.le_trans (Nat.le_succ_of_le hvlp11_1.1) hlek32), hNk32⟩) (fun hq => by obtain ⟨q36, xk32⟩ := hik32 hq; have q37 := (eE22 21 (by decide)).symm.trans q36; obtain ⟨q38, xc⟩ := hvlp11_2 q37; exact ⟨q38, fun j h6 => xc j (gi_6y (Or.inl htk23) xk32 h6)⟩) hP hD hS (lv_sub hl [0, 1] rfl)
        · exact kb_dj c27 kc_1 kc_0 (by decide)
      · refine k_top (z := 0) hvk23 ?_
        obtain ⟨gv39, egv39⟩ : ∃ z : Int32, z = u21 19 := ⟨_, rfl⟩
        have hg40 : gv39.toInt = ((i6 : Nat) : Int) := by rw [egv39]; exact hpk23
        have b41 : kb 0 gv39 400 := kb_tok (rS_fE hE hp0 (by decide)) hvlp11_1.2 hg40
        refine lv_if_ne (tgt := 29) hx hb dX12_readSum_14 (by decide) (fun c42 => ?_) (fun c42 => ?_)
        · exact kb_nsame c42 kc_0 kc_0
        · refine lv_aload_n hx hb dX12_readSum_17 rfl (lv_at hl 0 rfl) ?_
          refine lv_bipush (v := 45) hx hb dX12_readSum_18 (by decide) ?_
          refine kN.callS (As := [.int 45]) (rest := [.ref o]) ⟨hx, hb, hml, hown, hg⟩ (m_sign l 45 (kb_w kc_45 (by decide) (by decide))) (va_cwS 1 hg (kgS wt6_220 wt6_221 wt1_14 wt6_222) rfl rfl rfl (by decide +kernel) ⟨by dsimp only [rmD]; omega, by dsimp only [rmD]; omega⟩) hP hS rfl hl.1 rfl (Nat.le_of_ble_eq_true rfl) dX12_readSum_20 ⟨Nat.le_refl _, Nat.le_refl _⟩ (fun v44 H locs hw43 hP hS => ?_)
          refine k_top (z := 145) (Int32.toInt_inj.mp (hw43.2.trans (by decide +kernel))) ?_
          refine kI.callV (As := [.int 145]) (rest := []) ⟨hx, hb, hml, hown, hg⟩ (m_takes0 l o r u21 a g hI 145 (kb_w kc_145 (by decide) (by decide)) N (i6) ob (rS_fE hE hp0 (by decide)) (by rw [egv39.symm]; exact hg40) hvlp11_1.2) (cwV 1 hg (kgV wt6_200 wt6_202 wp4_6 wt1_14 wt6_203) rfl rfl rfl (by decide +kernel) ⟨by dsimp only [rmD]; omega, by dsimp only [rmD]; omega⟩) hK hP hD hS hA mIs [] rfl (wr := []) rfl rfl rfl (fun i h => by cases h) 0 12 rfl rfl rfl hl.1 rfl (Nat.le_of_ble_eq_true rfl) dX12_readSum_23 ⟨Nat.le_refl _, Nat.le_refl _⟩ (fun v47 u48 H locs hw46 hP hD hS => ?_)
          have hP : va_P D vwCl (mW K o r u48 a g) H := hP
          have hD : va_D A (mW K o r u48 a g) := hD
          have hI : mI u48 a := hw46.2.1
          have eE49 : fE [19] u21 u48 := hw46.2.2.1
          have hE : fE [19, 20, 21] f u48 := fE_tr hE (fE_w (by decide) eE49)
          rcases hw46.2.2.2 with ⟨hvk50, hbk50, htk50, hpk50, hlk50⟩ | ⟨hvk50, hnk50, hpk50⟩
          · refine k_top (z := 1) hvk50 ?_
            obtain ⟨gv51, egv51⟩ : ∃ z : Int32, z = u48 19 := ⟨_, rfl⟩
            have hg52 : gv51.toInt = ((i6 + 1 : Nat) : Int) := by rw [egv51]; exact hpk50
            have b53 : kb 0 gv51 400 := kb_tok (rS_fE hE hp0 (by decide)) hlk50 hg52
            refine lv_if_eq (tgt := 37) hx hb dX12_readSum_26 (by decide) (fun c54 => ?_) (fun c54 => ?_)
            · exact kb_dj c54 kc_1 kc_0 (by decide)
            · refine lv_aload_n hx hb dX12_readSum_29 rfl (lv_at hl 0 rfl) ?_
              refine lv_iload_n hx hb dX12_readSum_30 rfl (lv_at hl 1 rfl) ?_
              refine kV.callV (As := [.int dp]) (rest := []) ⟨hx, hb, hml, hown, hg⟩ (hterm l o r u48 a g hI dp bdp N (i6 + 1) ob (rS_fE hE hp0 (by decide)) (by rw [egv51.symm]; exact hg52) hlk50 hp3) (cwV 1 hg (kgV wt6_212 wt6_214 wp4_9 wt1_14 wt6_215) rfl rfl rfl (by decide +kernel) ⟨by dsimp only [rmD]; omega, by dsimp only [rmD]; omega⟩) hK hP hD hS hA mIs [] rfl (wr := []) rfl rfl rfl (fun i h => by cases h) 0 12 rfl rfl rfl hl.1 rfl (Nat.le_of_ble_eq_true rfl) dX12_readSum_31 ⟨Nat.le_refl _, Nat.le_refl _⟩ (fun u57 H locs hw55 hP hD hS => ?_)
              have hP : va_P D vwCl (mW K o r u57 a g) H := hP
              have hD : va_D A (mW K o r u57 a g) := hD
              have hI : mI u57 a := hw55.1
              have eE58 : fE [19, 20, 21] u48 u57 := hw55.2.1
              have hE : fE [19, 20, 21] f u57 := fE_tr hE eE58
              obtain ⟨ik59, hgk59, hlek59, hNk59, hik59⟩ := hw55.2.2
              obtain ⟨gv60, egv60⟩ : ∃ z : Int32, z = u57 19 := ⟨_, rfl⟩
              have hg61 : gv60.toInt = ((ik59 : Nat) : Int) := by rw [egv60]; exact hgk59
              have b62 : kb 0 gv60 400 := kb_tok (rS_fE hE hp0 (by decide)) hNk59 hg61
              refine lv_goto (tgt := 5) hx hb dX12_readSum_34 (by decide) ?_
              exact ihlp11 (ik59) u57 _ _ _  (by omega) hI hE (by rw [egv60.symm]; exact hg61) (⟨(Nat.le_trans (Nat.le_succ_of_le hvlp11_1.1) hlek59), hNk59⟩) (fun hq => by obtain ⟨q63, xk59⟩ := hik59 hq; have q64 := (eE49 21 (by decide)).symm.trans q63; have q65 := (eE22 21 (by decide)).symm.trans q64; have nnk23 := hnk23 q65; obtain ⟨q66, xc⟩ := hvlp11_2 q65; exact ⟨q66, fun j h6 => xc j (gi_6y (Or.inr (htk50)) xk59 h6)⟩) hP hD hS (lv_sub hl [0, 1] rfl)
          · refine k_top (z := 0) hvk50 ?_
            obtain ⟨gv67, egv67⟩ : ∃ z : Int32, z = u48 19 := ⟨_, rfl⟩
            have hg68 : gv67.toInt = ((i6 : Nat) : Int) := by rw [egv67]; exact hpk50
            have b69 : kb 0 gv67 400 := kb_tok (rS_fE hE hp0 (by decide)) hvlp11_1.2 hg68
            refine lv_if_eq (tgt := 37) hx hb dX12_readSum_26 (by decide) (fun c70 => ?_) (fun c70 => ?_)
            · exact kV_ret hx hb hr hlocks hK hS dX12_readSum_37 u48 hP hD ⟨hI, hE, ⟨i6, (by rw [egv67.symm]; exact hg68), hvlp11_1.1, hvlp11_1.2, (fun hq => by have q71 := (eE49 21 (by decide)).symm.trans hq; have nnk50 := hnk50 q71; have q72 := (eE22 21 (by decide)).symm.trans q71; have nnk23 := hnk23 q72; obtain ⟨q73, xc⟩ := hvlp11_2 q72; exact ⟨q73, xc _ (gi_6n (fun q => q.elim nnk23 nnk50))⟩)⟩⟩
            · exact kb_nsame c70 kc_0 kc_0
  exact lp11 (N + 1) (ik6) u4 _ _ _  (by omega) hI hE (by rw [egv7.symm]; exact hg8) (⟨(Nat.le_trans (Nat.le_refl i) hlek6), hNk6⟩) (fun hq => by obtain ⟨q74, xk6⟩ := hik6 hq; exact ⟨q74, fun j h6 => gi_0 xk6 h6⟩) hP hD hS (lv_sub hl [0, 1] rfl)
set_option maxHeartbeats 4000000 in
set_option maxRecDepth 100000 in
theorem m_readPlain (d : Nat) (ih : ∀ ee, d = ee + 1 → cRTest ee) (hsum : cRSum d) (l : Launch) {D : va_G} {K : Nat → ClassId} (o : Nat) (r : Nat → Nat) (f : Nat → Int32) (a : Nat → Nat → Int32) (g : Nat → Int64) (hI : mI f a) (dp : Int32) (bdp : kb 0 dp 8) (N i : Nat) (ob : Bool) (hp0 : rS f a N ob) (hp1 : (f 19).toInt = (i : Int)) (hp2 : i ≤ N) (hp3 : dp.toInt + (d : Int) = 8) : kV l yX12_readPlain (Cond.code yX12_readPlain cX12_readPlain 4 none :: kG) (rmD (4 * d + 13) 0 0) D (tysK K) [.ref o, .int dp] (mW K o r f a g) (fun (u : Nat → Int32) => mI u a ∧ fE [19, 20, 21] f u ∧ (∃ i2 : Nat, (u 19).toInt = (i2 : Int) ∧ i ≤ i2 ∧ i2 ≤ N ∧ (u 21 = -1 → f 21 = -1 ∧ gG ob (rC (a 15) N) d 5 i i2))) (fun u => mW K o r u a g) 0 0 := by
  refine kV.of (cc := cX12_readPlain) (maxL := 4) (ret := none) (by decide) rfl (Nat.le_of_ble_eq_true rfl) ?_
  intro p e s m below meth c A hx hb hr hml hown hts hlocks hnm hK hP hD hS hA ls hl
  have hE : fE [19, 20, 21] f f := fE_rf
  have hg : ∀ w ∈ kG, w.before _ s = true := fun w h => hts w (List.mem_cons_of_mem _ h)
  have hown : s.vm.findClass RX12 = some m.cls := hown
  have hl : lv_has ls 4 [(0, .ref o), (1, .int dp)] := hl
  obtain ⟨c19, ec19⟩ : ∃ z : Int32, z = f 19 := ⟨_, rfl⟩
  have hg0 : c19.toInt = (i : Int) := by rw [ec19]; exact hp1
  have b1 : kb 0 c19 400 := kb_tok hp0 hp2 hg0
  refine lv_iconst (v := 1) hx hb dX12_readPlain_0 (by decide) ?_
  refine lv_istore_n (lv' := [(2, .int 1), (0, .ref o), (1, .int dp)]) hx hb dX12_readPlain_1 rfl hl (by decide) rfl (fun ls hl => ?_)
  have lp4 : ∀ (n5 : Nat) (i5 : Nat) (F3 : Nat → Int32) (H : Heap) (locs : List Loc) (ls : Array Slot) (y2 : Int32), ((N : Int) + 1 < (i5 : Int) + (n5 : Int) + (if y2 = 0 then 1 else 0)) → (mI F3 a) → (fE [19, 20, 21] f F3) → (kb 0 y2 1) → ((F3 19).toInt = (i5 : Int)) → (i ≤ i5 ∧ i5 ≤ N) → (F3 21 = -1 → f 21 = -1 ∧ (∀ j, gG ob (rC (a 15) N) d 5 i5 j → gG ob (rC (a 15) N) d 5 i j) ∧ (y2 = 0 → ¬ rC (a 15) N i5 = 8)) → va_P D vwCl (mW K o r F3 a g) H → va_D A (mW K o r F3 a g) → va_S A s.heap H locs → lv_has ls 4 [(2, .int y2), (0, .ref o), (1, .int dp)] → W p l e (rmD (4 * d + 13) 0 0) s m ([.ref o, .int dp] : List Value).toArray below meth c H locs 0 0 (kQv D (tysK K) (fun (u : Nat → Int32) => mI u a ∧ fE [19, 20, 21] f u ∧ (∃ i2 : Nat, (u 19).toInt = (i2 : Int) ∧ i ≤ i2 ∧ i2 ≤ N ∧ (u 21 = -1 → f 21 = -1 ∧ gG ob (rC (a 15) N) d 5 i i2))) (fun u => mW K o r u a g) A below ([.ref o, .int dp] : List Value).toArray s 0 0) (F0 m 2 ls []) := by
    intro n5
    induction n5 with
    | zero =>
      intro i5 F3  H locs ls y2 hmlp4 hI hE b6 hvlp4_0 hvlp4_1 hvlp4_2 hP hD hS hl
      exact (by have w1 := hmlp4; have w2 := hvlp4_1.2; split at w1 <;> omega : False).elim
    | succ n5 ihlp4 =>
      intro i5 F3  H locs ls y2 hmlp4 hI hE b6 hvlp4_0 hvlp4_1 hvlp4_2 hP hD hS hl
      obtain ⟨gv7, egv7⟩ : ∃ z : Int32, z = F3 19 := ⟨_, rfl⟩
      have hg8 : gv7.toInt = ((i5 : Nat) : Int) := by rw [egv7]; exact hvlp4_0
      have b9 : kb 0 gv7 400 := kb_tok (rS_fE hE hp0 (by decide)) hvlp4_1.2 hg8
      refine lv_iload_n hx hb dX12_readPlain_2 rfl (lv_at hl 0 rfl) ?_
      refine lv_if_eq (tgt := 16) hx hb dX12_readPlain_3 (by decide) (fun c10 => ?_) (fun c10 => ?_)
      · have b11 : kb 0 y2 0 := kb_eq c10 kc_0
        refine lv_aload_n hx hb dX12_readPlain_16 rfl (lv_at hl 1 rfl) ?_
        refine kI.callV (As := []) (rest := []) ⟨hx, hb, hml, hown, hg⟩ (m_fine l o r F3 a g hI   ) (cwV 0 hg (kgV wt6_204 wt6_206 wp4_7 wt1_14 wt6_207) rfl rfl rfl (by decide +kernel) ⟨by dsimp only [rmD]; omega, by dsimp only [rmD]; omega⟩) hK hP hD hS hA mIs [] rfl (wr := []) rfl rfl rfl (fun i h => by cases h) 0 12 rfl rfl rfl hl.1 rfl (Nat.le_of_ble_eq_true rfl) dX12_readPlain_17 ⟨Nat.le_refl _, Nat.le_refl _⟩ (fun v13 u14 H locs hw12 hP hD hS => ?_)
        have hP : va_P D vwCl (mW K o r F3 a g) H := hP
        have hD : va_D A (mW K o r F3 a g) := hD
        rcases hw12.2 with hf15 | hf15
        · refine k_top (z := 1) hf15.1 ?_
          obtain ⟨q16, xc⟩ := hvlp4_2 hf15.2
          refine lv_if_ne (tgt := 24) hx hb dX12_readPlain_20 (by decide) (fun c17 => ?_) (fun c17 => ?_)
          · refine lv_aload_n hx hb dX12_readPlain_24 rfl (lv_at hl 1 rfl) ?_
            refine va_get (D := D) (ci := 12) (v := .ref (r 15)) (C := RX12) (T := TX12) (N := 48) hx hb hg inC12 hown hK hP 0 rfl rfl 15 (by decide) (hg _ wt5_175) (fun _ h9 => h9) rfl dX12_readPlain_25 ?_
            refine lv_aload_n hx hb dX12_readPlain_28 rfl (lv_at hl 1 rfl) ?_
            refine va_get (D := D) (ci := 12) (v := .int (F3 19)) (C := RX12) (T := TX12) (N := 48) hx hb hg inC12 hown hK hP 0 rfl rfl 19 (by decide) (hg _ wt5_179) (fun _ h9 => h9) rfl dX12_readPlain_29 ?_
            refine k_top (z := gv7) egv7.symm ?_
            refine va_iald hx hb hK hP 9 0 rfl rfl (kb_in b9 (by decide) (by decide)) dX12_readPlain_32 ?_
            refine lv_topi (fun t18 et18 => ?_)
            have ht19 : t18 = rC (a 15) N (i5) := et18.trans (rC_at (rS_fE hE hp0 (by decide)) hvlp4_1.2 hg8)
            refine lv_istore_n (lv' := [(3, .int t18), (2, .int y2), (0, .ref o), (1, .int dp)]) hx hb dX12_readPlain_33 rfl hl (by decide) rfl (fun ls hl => ?_)
            refine lv_iload_n hx hb dX12_readPlain_34 rfl (lv_at hl 0 rfl) ?_
            refine lv_bipush (v := 40) hx hb dX12_readPlain_35 (by decide) ?_
            refine kN.callS (As := [.int 40]) (rest := [.int t18]) ⟨hx, hb, hml, hown, hg⟩ (m_sign l 40 (kb_w kc_40 (by decide) (by decide))) (va_cwS 1 hg (kgS wt6_220 wt6_221 wt1_14 wt6_222) rfl rfl rfl (by decide +kernel) ⟨by dsimp only [rmD]; omega, by dsimp only [rmD]; omega⟩) hP hS rfl hl.1 rfl (Nat.le_of_ble_eq_true rfl) dX12_readPlain_37 ⟨Nat.le_refl _, Nat.le_refl _⟩ (fun v21 H locs hw20 hP hS => ?_)
            refine k_top (z := 140) (Int32.toInt_inj.mp (hw20.2.trans (by decide +kernel))) ?_
            refine lv_icmp_ne (tgt := 90) hx hb dX12_readPlain_40 (by decide) (fun c23 => ?_) (fun c23 => ?_)
            · refine lv_aload_n hx hb dX12_readPlain_90 rfl (lv_at hl 2 rfl) ?_
              refine lv_iload_n hx hb dX12_readPlain_91 rfl (lv_at hl 3 rfl) ?_
              refine kV.callV (As := [.int dp]) (rest := []) ⟨hx, hb, hml, hown, hg⟩ (hsum l o r F3 a g hI dp bdp N (i5) ob (rS_fE hE hp0 (by decide)) (by rw [egv7.symm]; exact hg8) hvlp4_1.2 hp3) (cwV 1 hg (kgV wt6_208 wt6_210 wp4_8 wt1_14 wt6_211) rfl rfl rfl (by decide +kernel) ⟨by dsimp only [rmD]; omega, by dsimp only [rmD]; omega⟩) hK hP hD hS hA mIs [] rfl (wr := []) rfl rfl rfl (fun i h => by cases h) 0 12 rfl rfl rfl hl.1 rfl (Nat.le_of_ble_eq_true rfl) dX12_readPlain_92 ⟨Nat.le_refl _, Nat.le_refl _⟩ (fun u26 H locs hw24 hP hD hS => ?_)
              have hP : va_P D vwCl (mW K o r u26 a g) H := hP
              have hD : va_D A (mW K o r u26 a g) := hD
              have hI : mI u26 a := hw24.1
              have eE27 : fE [19, 20, 21] F3 u26 := hw24.2.1
              have hE : fE [19, 20, 21] f u26 := fE_tr hE eE27
              obtain ⟨ik28, hgk28, hlek28, hNk28, hik28⟩ := hw24.2.2
              obtain ⟨gv29, egv29⟩ : ∃ z : Int32, z = u26 19 := ⟨_, rfl⟩
              have hg30 : gv29.toInt = ((ik28 : Nat) : Int) := by rw [egv29]; exact hgk28
              have b31 : kb 0 gv29 400 := kb_tok (rS_fE hE hp0 (by decide)) hNk28 hg30
              refine lv_aload_n hx hb dX12_readPlain_95 rfl (lv_at hl 2 rfl) ?_
              refine lv_bipush (v := 60) hx hb dX12_readPlain_96 (by decide) ?_
              refine kN.callS (As := [.int 60]) (rest := [.ref o]) ⟨hx, hb, hml, hown, hg⟩ (m_sign l 60 (kb_w kc_60 (by decide) (by decide))) (va_cwS 1 hg (kgS wt6_220 wt6_221 wt1_14 wt6_222) rfl rfl rfl (by decide +kernel) ⟨by dsimp only [rmD]; omega, by dsimp only [rmD]; omega⟩) hP hS rfl hl.1 rfl (Nat.le_of_ble_eq_true rfl) dX12_readPlain_98 ⟨Nat.le_refl _, Nat.le_refl _⟩ (fun v33 H locs hw32 hP hS => ?_)
              refine k_top (z := 160) (Int32.toInt_inj.mp (hw32.2.trans (by decide +kernel))) ?_
              refine kI.callV (As := [.int 160]) (rest := []) ⟨hx, hb, hml, hown, hg⟩ (m_takes0 l o r u26 a g hI 160 (kb_w kc_160 (by decide) (by decide)) N (ik28) ob (rS_fE hE hp0 (by decide)) (by rw [egv29.symm]; exact hg30) hNk28) (cwV 1 hg (kgV wt6_200 wt6_202 wp4_6 wt1_14 wt6_203) rfl rfl rfl (by decide +kernel) ⟨by dsimp only [rmD]; omega, by dsimp only [rmD]; omega⟩) hK hP hD hS hA mIs [] rfl (wr := []) rfl rfl rfl (fun i h => by cases h) 0 12 rfl rfl rfl hl.1 rfl (Nat.le_of_ble_eq_true rfl) dX12_readPlain_101 ⟨Nat.le_refl _, Nat.le_refl _⟩ (fun v36 u37 H locs hw35 hP hD hS => ?_)
              have hP : va_P D vwCl (mW K o r u37 a g) H := hP
              have hD : va_D A (mW K o r u37 a g) := hD
              have hI : mI u37 a := hw35.2.1
              have eE38 : fE [19] u26 u37 := hw35.2.2.1
              have hE : fE [19, 20, 21] f u37 := fE_tr hE (fE_w (by decide) eE38)
              rcases hw35.2.2.2 with ⟨hvk39, hbk39, htk39, hpk39, hlk39⟩ | ⟨hvk39, hnk39, hpk39⟩
              · refine k_top (z := 1) hvk39 ?_
                obtain ⟨gv40, egv40⟩ : ∃ z : Int32, z = u37 19 := ⟨_, rfl⟩
                have hg41 : gv40.toInt = ((ik28 + 1 : Nat) : Int) := by rw [egv40]; exact hpk39
                have b42 : kb 0 gv40 400 := kb_tok (rS_fE hE hp0 (by decide)) hlk39 hg41
                refine lv_if_ne (tgt := 128) hx hb dX12_readPlain_104 (by decide) (fun c43 => ?_) (fun c43 => ?_)
                · refine lv_aload_n hx hb dX12_readPlain_128 rfl (lv_at hl 2 rfl) ?_
                  refine lv_iload_n hx hb dX12_readPlain_129 rfl (lv_at hl 3 rfl) ?_
                  refine kV.callV (As := [.int dp]) (rest := []) ⟨hx, hb, hml, hown, hg⟩ (hsum l o r u37 a g hI dp bdp N (ik28 + 1) ob (rS_fE hE hp0 (by decide)) (by rw [egv40.symm]; exact hg41) hlk39 hp3) (cwV 1 hg (kgV wt6_208 wt6_210 wp4_8 wt1_14 wt6_211) rfl rfl rfl (by decide +kernel) ⟨by dsimp only [rmD]; omega, by dsimp only [rmD]; omega⟩) hK hP hD hS hA mIs [] rfl (wr := []) rfl rfl rfl (fun i h => by cases h) 0 12 rfl rfl rfl hl.1 rfl (Nat.le_of_ble_eq_true rfl) dX12_readPlain_130 ⟨Nat.le_refl _, Nat.le_refl _⟩ (fun u46 H locs hw44 hP hD hS => ?_)
                  have hP : va_P D vwCl (mW K o r u46 a g) H := hP
                  have hD : va_D A (mW K o r u46 a g) := hD
                  have hI : mI u46 a := hw44.1
                  have eE47 : fE [19, 20, 21] u37 u46 := hw44.2.1
                  have hE : fE [19, 20, 21] f u46 := fE_tr hE eE47
                  obtain ⟨ik48, hgk48, hlek48, hNk48, hik48⟩ := hw44.2.2
                  obtain ⟨gv49, egv49⟩ : ∃ z : Int32, z = u46 19 := ⟨_, rfl⟩
                  have hg50 : gv49.toInt = ((ik48 : Nat) : Int) := by rw [egv49]; exact hgk48
                  have b51 : kb 0 gv49 400 := kb_tok (rS_fE hE hp0 (by decide)) hNk48 hg50
                  exact kV_ret hx hb hr hlocks hK hS dX12_readPlain_133 u46 hP hD ⟨hI, hE, ⟨ik48, (by rw [egv49.symm]; exact hg50), (Nat.le_trans (Nat.le_succ_of_le (Nat.le_trans hvlp4_1.1 hlek28)) hlek48), hNk48, (fun hq => by obtain ⟨q52, xk48⟩ := hik48 hq; have q53 := (eE38 21 (by decide)).symm.trans q52; obtain ⟨q54, xk28⟩ := hik28 q53; obtain ⟨q55, xc⟩ := hvlp4_2 q54; exact ⟨q55, xc.1 _ (gi_5n (xc.2 c10) (gi_10b (fun q => c23 (ht19.trans q)) xk28 (Or.inl htk39) rfl xk48))⟩)⟩⟩
                · exact kb_dj c43 kc_1 kc_0 (by decide)
              · refine k_top (z := 0) hvk39 ?_
                obtain ⟨gv56, egv56⟩ : ∃ z : Int32, z = u37 19 := ⟨_, rfl⟩
                have hg57 : gv56.toInt = ((ik28 : Nat) : Int) := by rw [egv56]; exact hpk39
                have b58 : kb 0 gv56 400 := kb_tok (rS_fE hE hp0 (by decide)) hNk28 hg57
                refine lv_if_ne (tgt := 128) hx hb dX12_readPlain_104 (by decide) (fun c59 => ?_) (fun c59 => ?_)
                · exact kb_nsame c59 kc_0 kc_0
                · refine lv_aload_n hx hb dX12_readPlain_107 rfl (lv_at hl 2 rfl) ?_
                  refine lv_bipush (v := 62) hx hb dX12_readPlain_108 (by decide) ?_
                  refine kN.callS (As := [.int 62]) (rest := [.ref o]) ⟨hx, hb, hml, hown, hg⟩ (m_sign l 62 (kb_w kc_62 (by decide) (by decide))) (va_cwS 1 hg (kgS wt6_220 wt6_221 wt1_14 wt6_222) rfl rfl rfl (by decide +kernel) ⟨by dsimp only [rmD]; omega, by dsimp only [rmD]; omega⟩) hP hS rfl hl.1 rfl (Nat.le_of_ble_eq_true rfl) dX12_readPlain_110 ⟨Nat.le_refl _, Nat.le_refl _⟩ (fun v61 H locs hw60 hP hS => ?_)
                  refine k_top (z := 162) (Int32.toInt_inj.mp (hw60.2.trans (by decide +kernel))) ?_
                  refine kI.callV (As := [.int 162]) (rest := []) ⟨hx, hb, hml, hown, hg⟩ (m_takes0 l o r u37 a g hI 162 (kb_w kc_162 (by decide) (by decide)) N (ik28) ob (rS_fE hE hp0 (by decide)) (by rw [egv56.symm]; exact hg57) hNk28) (cwV 1 hg (kgV wt6_200 wt6_202 wp4_6 wt1_14 wt6_203) rfl rfl rfl (by decide +kernel) ⟨by dsimp only [rmD]; omega, by dsimp only [rmD]; omega⟩) hK hP hD hS hA mIs [] rfl (wr := []) rfl rfl rfl (fun i h => by cases h) 0 12 rfl rfl rfl hl.1 rfl (Nat.le_of_ble_eq_true rfl) dX12_readPlain_113 ⟨Nat.le_refl _, Nat.le_refl _⟩ (fun v64 u65 H locs hw63 hP hD hS => ?_)
                  have hP : va_P D vwCl (mW K o r u65 a g) H := hP
                  have hD : va_D A (mW K o r u65 a g) := hD
                  have hI : mI u65 a := hw63.2.1
                  have eE66 : fE [19] u37 u65 := hw63.2.2.1
                  have hE : fE [19, 20, 21] f u65 := fE_tr hE (fE_w (by decide) eE66)
                  rcases hw63.2.2.2 with ⟨hvk67, hbk67, htk67, hpk67, hlk67⟩ | ⟨hvk67, hnk67, hpk67⟩
                  · refine k_top (z := 1) hvk67 ?_
                    obtain ⟨gv68, egv68⟩ : ∃ z : Int32, z = u65 19 := ⟨_, rfl⟩
                    have hg69 : gv68.toInt = ((ik28 + 1 : Nat) : Int) := by rw [egv68]; exact hpk67
                    have b70 : kb 0 gv68 400 := kb_tok (rS_fE hE hp0 (by decide)) hlk67 hg69
                    refine lv_if_ne (tgt := 128) hx hb dX12_readPlain_116 (by decide) (fun c71 => ?_) (fun c71 => ?_)
                    · refine lv_aload_n hx hb dX12_readPlain_128 rfl (lv_at hl 2 rfl) ?_
                      refine lv_iload_n hx hb dX12_readPlain_129 rfl (lv_at hl 3 rfl) ?_
                      refine kV.callV (As := [.int dp]) (rest := []) ⟨hx, hb, hml, hown, hg⟩ (hsum l o r u65 a g hI dp bdp N (ik28 + 1) ob (rS_fE hE hp0 (by decide)) (by rw [egv68.symm]; exact hg69) hlk67 hp3) (cwV 1 hg (kgV wt6_208 wt6_210 wp4_8 wt1_14 wt6_211) rfl rfl rfl (by decide +kernel) ⟨by dsimp only [rmD]; omega, by dsimp only [rmD]; omega⟩) hK hP hD hS hA mIs [] rfl (wr := []) rfl rfl rfl (fun i h => by cases h) 0 12 rfl rfl rfl hl.1 rfl (Nat.le_of_ble_eq_true rfl) dX12_readPlain_130 ⟨Nat.le_refl _, Nat.le_refl _⟩ (fun u74 H locs hw72 hP hD hS => ?_)
                      have hP : va_P D vwCl (mW K o r u74 a g) H := hP
                      have hD : va_D A (mW K o r u74 a g) := hD
                      have hI : mI u74 a := hw72.1
                      have eE75 : fE [19, 20, 21] u65 u74 := hw72.2.1
                      have hE : fE [19, 20, 21] f u74 := fE_tr hE eE75
                      obtain ⟨ik76, hgk76, hlek76, hNk76, hik76⟩ := hw72.2.2
                      obtain ⟨gv77, egv77⟩ : ∃ z : Int32, z = u74 19 := ⟨_, rfl⟩
                      have hg78 : gv77.toInt = ((ik76 : Nat) : Int) := by rw [egv77]; exact hgk76
                      have b79 : kb 0 gv77 400 := kb_tok (rS_fE hE hp0 (by decide)) hNk76 hg78
                      exact kV_ret hx hb hr hlocks hK hS dX12_readPlain_133 u74 hP hD ⟨hI, hE, ⟨ik76, (by rw [egv77.symm]; exact hg78), (Nat.le_trans (Nat.le_succ_of_le (Nat.le_trans hvlp4_1.1 hlek28)) hlek76), hNk76, (fun hq => by obtain ⟨q80, xk76⟩ := hik76 hq; have q81 := (eE66 21 (by decide)).symm.trans q80; have q82 := (eE38 21 (by decide)).symm.trans q81; have nnk39 := hnk39 q82; obtain ⟨q83, xk28⟩ := hik28 q82; obtain ⟨q84, xc⟩ := hvlp4_2 q83; exact ⟨q84, xc.1 _ (gi_5n (xc.2 c10) (gi_10b (fun q => c23 (ht19.trans q)) xk28 (Or.inr (Or.inl htk67)) rfl xk76))⟩)⟩⟩
                    · exact kb_dj c71 kc_1 kc_0 (by decide)
                  · refine k_top (z := 0) hvk67 ?_
                    obtain ⟨gv85, egv85⟩ : ∃ z : Int32, z = u65 19 := ⟨_, rfl⟩
                    have hg86 : gv85.toInt = ((ik28 : Nat) : Int) := by rw [egv85]; exact hpk67
                    have b87 : kb 0 gv85 400 := kb_tok (rS_fE hE hp0 (by decide)) hNk28 hg86
                    refine lv_if_ne (tgt := 128) hx hb dX12_readPlain_116 (by decide) (fun c88 => ?_) (fun c88 => ?_)
                    · exact kb_nsame c88 kc_0 kc_0
                    · refine lv_aload_n hx hb dX12_readPlain_119 rfl (lv_at hl 2 rfl) ?_
                      refine lv_bipush (v := 61) hx hb dX12_readPlain_120 (by decide) ?_
                      refine kN.callS (As := [.int 61]) (rest := [.ref o]) ⟨hx, hb, hml, hown, hg⟩ (m_sign l 61 (kb_w kc_61 (by decide) (by decide))) (va_cwS 1 hg (kgS wt6_220 wt6_221 wt1_14 wt6_222) rfl rfl rfl (by decide +kernel) ⟨by dsimp only [rmD]; omega, by dsimp only [rmD]; omega⟩) hP hS rfl hl.1 rfl (Nat.le_of_ble_eq_true rfl) dX12_readPlain_122 ⟨Nat.le_refl _, Nat.le_refl _⟩ (fun v90 H locs hw89 hP hS => ?_)
                      refine k_top (z := 161) (Int32.toInt_inj.mp (hw89.2.trans (by decide +kernel))) ?_
                      refine kV.callV (As := [.int 161]) (rest := []) ⟨hx, hb, hml, hown, hg⟩ (m_must l o r u65 a g hI 161 (kb_w kc_161 (by decide) (by decide)) N (ik28) ob (rS_fE hE hp0 (by decide)) (by rw [egv85.symm]; exact hg86) hNk28) (cwV 1 hg (kgV wt6_227 wt6_229 wp4_12 wt1_14 wt6_230) rfl rfl rfl (by decide +kernel) ⟨by dsimp only [rmD]; omega, by dsimp only [rmD]; omega⟩) hK hP hD hS hA mIs [] rfl (wr := []) rfl rfl rfl (fun i h => by cases h) 0 12 rfl rfl rfl hl.1 rfl (Nat.le_of_ble_eq_true rfl) dX12_readPlain_125 ⟨Nat.le_refl _, Nat.le_refl _⟩ (fun u94 H locs hw92 hP hD hS => ?_)
                      have hP : va_P D vwCl (mW K o r u94 a g) H := hP
                      have hD : va_D A (mW K o r u94 a g) := hD
                      have hI : mI u94 a := hw92.1
                      have eE95 : fE [19, 20, 21] u65 u94 := hw92.2.1
                      have hE : fE [19, 20, 21] f u94 := fE_tr hE eE95
                      obtain ⟨ik96, hgk96, hlek96, hNk96, hik96⟩ := hw92.2.2
                      obtain ⟨gv97, egv97⟩ : ∃ z : Int32, z = u94 19 := ⟨_, rfl⟩
                      have hg98 : gv97.toInt = ((ik96 : Nat) : Int) := by rw [egv97]; exact hgk96
                      have b99 : kb 0 gv97 400 := kb_tok (rS_fE hE hp0 (by decide)) hNk96 hg98
                      refine lv_aload_n hx hb dX12_readPlain_128 rfl (lv_at hl 2 rfl) ?_
                      refine lv_iload_n hx hb dX12_readPlain_129 rfl (lv_at hl 3 rfl) ?_
                      refine kV.callV (As := [.int dp]) (rest := []) ⟨hx, hb, hml, hown, hg⟩ (hsum l o r u94 a g hI dp bdp N (ik96) ob (rS_fE hE hp0 (by decide)) (by rw [egv97.symm]; exact hg98) hNk96 hp3) (cwV 1 hg (kgV wt6_208 wt6_210 wp4_8 wt1_14 wt6_211) rfl rfl rfl (by decide +kernel) ⟨by dsimp only [rmD]; omega, by dsimp only [rmD]; omega⟩) hK hP hD hS hA mIs [] rfl (wr := []) rfl rfl rfl (fun i h => by cases h) 0 12 rfl rfl rfl hl.1 rfl (Nat.le_of_ble_eq_true rfl) dX12_readPlain_130 ⟨Nat.le_refl _, Nat.le_refl _⟩ (fun u102 H locs hw100 hP hD hS => ?_)
                      have hP : va_P D vwCl (mW K o r u102 a g) H := hP
                      have hD : va_D A (mW K o r u102 a g) := hD
                      have hI : mI u102 a := hw100.1
                      have eE103 : fE [19, 20, 21] u94 u102 := hw100.2.1
                      have hE : fE [19, 20, 21] f u102 := fE_tr hE eE103
                      obtain ⟨ik104, hgk104, hlek104, hNk104, hik104⟩ := hw100.2.2
                      obtain ⟨gv105, egv105⟩ : ∃ z : Int32, z = u102 19 := ⟨_, rfl⟩
                      have hg106 : gv105.toInt = ((ik104 : Nat) : Int) := by rw [egv105]; exact hgk104
                      have b107 : kb 0 gv105 400 := kb_tok (rS_fE hE hp0 (by decide)) hNk104 hg106
                      exact kV_ret hx hb hr hlocks hK hS dX12_readPlain_133 u102 hP hD ⟨hI, hE, ⟨ik104, (by rw [egv105.symm]; exact hg106), (Nat.le_trans (Nat.le_trans (Nat.le_trans hvlp4_1.1 hlek28) hlek96) hlek104), hNk104, (fun hq => by obtain ⟨q108, xk104⟩ := hik104 hq; obtain ⟨q109, xk96⟩ := hik96 q108; have q110 := (eE66 21 (by decide)).symm.trans q109; have nnk67 := hnk67 q110; have q111 := (eE38 21 (by decide)).symm.trans q110; have nnk39 := hnk39 q111; obtain ⟨q112, xk28⟩ := hik28 q111; obtain ⟨q113, xc⟩ := hvlp4_2 q112; exact ⟨q113, xc.1 _ (gi_5n (xc.2 c10) (gi_10b (fun q => c23 (ht19.trans q)) xk28 (Or.inr (Or.inr xk96.1)) xk96.2 xk104))⟩)⟩⟩
            · have b114 : kb 140 t18 140 := kb_eq c23 kc_140
              refine lv_iload_n hx hb dX12_readPlain_43 rfl (lv_at hl 3 rfl) ?_
              refine lv_bipush (v := 8) hx hb dX12_readPlain_44 (by decide) ?_
              refine lv_icmp_ne (tgt := 53) hx hb dX12_readPlain_46 (by decide) (fun c115 => ?_) (fun c115 => ?_)
              · have b116 : kb 0 dp 7 := kr_neh c115 bdp kc_8 (by decide)
                refine lv_aload_n hx hb dX12_readPlain_53 rfl (lv_at hl 2 rfl) ?_
                refine kI.callV (As := []) (rest := []) ⟨hx, hb, hml, hown, hg⟩ (m_fine l o r F3 a g hI   ) (cwV 0 hg (kgV wt6_204 wt6_206 wp4_7 wt1_14 wt6_207) rfl rfl rfl (by decide +kernel) ⟨by dsimp only [rmD]; omega, by dsimp only [rmD]; omega⟩) hK hP hD hS hA mIs [] rfl (wr := []) rfl rfl rfl (fun i h => by cases h) 0 12 rfl rfl rfl hl.1 rfl (Nat.le_of_ble_eq_true rfl) dX12_readPlain_54 ⟨Nat.le_refl _, Nat.le_refl _⟩ (fun v118 u119 H locs hw117 hP hD hS => ?_)
                have hP : va_P D vwCl (mW K o r F3 a g) H := hP
                have hD : va_D A (mW K o r F3 a g) := hD
                rcases hw117.2 with hf120 | hf120
                · refine k_top (z := 1) hf120.1 ?_
                  obtain ⟨q121, xc⟩ := hvlp4_2 hf120.2
                  refine lv_if_ne (tgt := 61) hx hb dX12_readPlain_57 (by decide) (fun c122 => ?_) (fun c122 => ?_)
                  · have b123 : kb 0 gv7 399 := kb_tok1 (rS_fE hE hp0 (by decide)) (rC_lt (ne_0 (ht19.symm.trans c23) (by decide +kernel))) hg8
                    obtain ⟨ee, hd⟩ : ∃ ee, d = ee + 1 := ⟨d - 1, by have w1 := hp3; have w2 := (b116).2; omega⟩
                    refine lv_aload_n hx hb dX12_readPlain_61 rfl (lv_at hl 2 rfl) ?_
                    refine lv_dup hx hb dX12_readPlain_62 rfl ?_
                    refine va_get (D := D) (ci := 12) (v := .int (F3 19)) (C := RX12) (T := TX12) (N := 48) hx hb hg inC12 hown hK hP 0 rfl rfl 19 (by decide) (hg _ wt5_179) (fun _ h9 => h9) rfl dX12_readPlain_63 ?_
                    refine k_top (z := gv7) egv7.symm ?_
                    refine lv_iconst (v := 1) hx hb dX12_readPlain_66 (by decide) ?_
                    refine lv_iadd hx hb dX12_readPlain_67 ?_
                    refine lv_topi (fun t124 et124 => ?_)
                    have b125 : kb 1 t124 400 := kb_eq et124 (kb_add b123 kc_1 (by decide) (by decide))
                    have qt124 : t124.toInt = gv7.toInt + 1 := by rw [et124]; exact kt_addc b123 kc_1 (by decide) (by decide)
                    have hg126 : t124.toInt = ((i5 + 1 : Nat) : Int) := by rw [qt124, hg8]; omega
                    refine va_put (D := D) (ci := 12) (v := .int t124) (ty := .int) (C := RX12) (T := TX12) (N := 48) hx hb hg inC12 tyX12 tyX12_ok nmX12 hown hK hP hD hS 0 rfl rfl 19 (by decide) (hg _ wt5_179) (fun _ h9 => h9) rfl (by decide +kernel) rfl rfl (Nat.le_of_ble_eq_true rfl) dX12_readPlain_68 (fun H locs hP hD hS => ?_)
                    have hP : va_P D vwCl (mW K o r (upd F3 19 t124) a g) H := hP
                    have hD : va_D A (mW K o r (upd F3 19 t124) a g) := hD
                    refine k_gen (P := fun z => va_P D vwCl (mW K o r z a g) H ∧ va_D A (mW K o r z a g) ∧ (mI z a) ∧ (fE [19, 20, 21] f z)) (upd F3 19 t124) ⟨hP, hD, (mI_f hI (fI_st hI.1 19 b125 (by decide) (by decide))), (fE_f hE (by decide))⟩ (fun f_127 ef_127 hq => ?_)
                    obtain ⟨hP, hD, hI, hE⟩ := hq
                    refine lv_aload_n hx hb dX12_readPlain_71 rfl (lv_at hl 2 rfl) ?_
                    refine lv_iload_n hx hb dX12_readPlain_72 rfl (lv_at hl 3 rfl) ?_
                    refine lv_iconst (v := 1) hx hb dX12_readPlain_73 (by decide) ?_
                    refine lv_iadd hx hb dX12_readPlain_74 ?_
                    refine lv_topi (fun t128 et128 => ?_)
                    have b129 : kb 1 t128 8 := kb_eq et128 (kb_add b116 kc_1 (by decide) (by decide))
                    have qt128 : t128.toInt = dp.toInt + 1 := by rw [et128]; exact kt_addc b116 kc_1 (by decide) (by decide)
                    refine kV.callV (As := [.int t128]) (rest := []) ⟨hx, hb, hml, hown, hg⟩ ((ih ee hd) l o r f_127 a g hI t128 (kb_w b129 (by decide) (by decide)) N (i5 + 1) ob (rS_fE hE hp0 (by decide)) (by rw [(show f_127 19 = t124 from by rw [← ef_127]; rfl)]; exact hg126) (rC_lt (ne_0 (ht19.symm.trans c23) (by decide +kernel))) (by have w1 := hp3; have w2 := qt128; omega)) (cwV 1 hg (kgV wt6_239 wt7_1 wp4_15 wt1_14 wt7_2) rfl rfl rfl (by decide +kernel) ⟨by dsimp only [rmD]; omega, by dsimp only [rmD]; omega⟩) hK hP hD hS hA mIs [] rfl (wr := []) rfl rfl rfl (fun i h => by cases h) 0 12 rfl rfl rfl hl.1 rfl (Nat.le_of_ble_eq_true rfl) dX12_readPlain_75 ⟨Nat.le_refl _, Nat.le_refl _⟩ (fun u132 H locs hw130 hP hD hS => ?_)
                    have hP : va_P D vwCl (mW K o r u132 a g) H := hP
                    have hD : va_D A (mW K o r u132 a g) := hD
                    have hI : mI u132 a := hw130.1
                    have eE133 : fE [19, 20, 21] f_127 u132 := hw130.2.1
                    have hE : fE [19, 20, 21] f u132 := fE_tr hE eE133
                    obtain ⟨ik134, hgk134, hlek134, hNk134, hik134⟩ := hw130.2.2
                    obtain ⟨gv135, egv135⟩ : ∃ z : Int32, z = u132 19 := ⟨_, rfl⟩
                    have hg136 : gv135.toInt = ((ik134 : Nat) : Int) := by rw [egv135]; exact hgk134
                    have b137 : kb 0 gv135 400 := kb_tok (rS_fE hE hp0 (by decide)) hNk134 hg136
                    refine lv_aload_n hx hb dX12_readPlain_78 rfl (lv_at hl 2 rfl) ?_
                    refine lv_bipush (v := 41) hx hb dX12_readPlain_79 (by decide) ?_
                    refine kN.callS (As := [.int 41]) (rest := [.ref o]) ⟨hx, hb, hml, hown, hg⟩ (m_sign l 41 (kb_w kc_41 (by decide) (by decide))) (va_cwS 1 hg (kgS wt6_220 wt6_221 wt1_14 wt6_222) rfl rfl rfl (by decide +kernel) ⟨by dsimp only [rmD]; omega, by dsimp only [rmD]; omega⟩) hP hS rfl hl.1 rfl (Nat.le_of_ble_eq_true rfl) dX12_readPlain_81 ⟨Nat.le_refl _, Nat.le_refl _⟩ (fun v139 H locs hw138 hP hS => ?_)
                    refine k_top (z := 141) (Int32.toInt_inj.mp (hw138.2.trans (by decide +kernel))) ?_
                    refine kV.callV (As := [.int 141]) (rest := []) ⟨hx, hb, hml, hown, hg⟩ (m_must l o r u132 a g hI 141 (kb_w kc_141 (by decide) (by decide)) N (ik134) ob (rS_fE hE hp0 (by decide)) (by rw [egv135.symm]; exact hg136) hNk134) (cwV 1 hg (kgV wt6_227 wt6_229 wp4_12 wt1_14 wt6_230) rfl rfl rfl (by decide +kernel) ⟨by dsimp only [rmD]; omega, by dsimp only [rmD]; omega⟩) hK hP hD hS hA mIs [] rfl (wr := []) rfl rfl rfl (fun i h => by cases h) 0 12 rfl rfl rfl hl.1 rfl (Nat.le_of_ble_eq_true rfl) dX12_readPlain_84 ⟨Nat.le_refl _, Nat.le_refl _⟩ (fun u143 H locs hw141 hP hD hS => ?_)
                    have hP : va_P D vwCl (mW K o r u143 a g) H := hP
                    have hD : va_D A (mW K o r u143 a g) := hD
                    have hI : mI u143 a := hw141.1
                    have eE144 : fE [19, 20, 21] u132 u143 := hw141.2.1
                    have hE : fE [19, 20, 21] f u143 := fE_tr hE eE144
                    obtain ⟨ik145, hgk145, hlek145, hNk145, hik145⟩ := hw141.2.2
                    obtain ⟨gv146, egv146⟩ : ∃ z : Int32, z = u143 19 := ⟨_, rfl⟩
                    have hg147 : gv146.toInt = ((ik145 : Nat) : Int) := by rw [egv146]; exact hgk145
                    have b148 : kb 0 gv146 400 := kb_tok (rS_fE hE hp0 (by decide)) hNk145 hg147
                    refine lv_goto (tgt := 133) hx hb dX12_readPlain_87 (by decide) ?_
                    exact kV_ret hx hb hr hlocks hK hS dX12_readPlain_133 u143 hP hD ⟨hI, hE, ⟨ik145, (by rw [egv146.symm]; exact hg147), (Nat.le_trans (Nat.le_trans (Nat.le_succ_of_le hvlp4_1.1) hlek134) hlek145), hNk145, (fun hq => by obtain ⟨q149, xk145⟩ := hik145 hq; obtain ⟨q150, xk134⟩ := hik134 q149; have q151 := ((show f_127 21 = F3 21 from by rw [← ef_127]; rfl)).symm.trans q150; obtain ⟨q152, xc⟩ := hvlp4_2 q151; exact ⟨q152, xc.1 _ (gi_5n (xc.2 c10) (gi_10a (ht19.symm.trans c23) hd xk134 xk145.1 xk145.2))⟩)⟩⟩
                  · exact kb_dj c122 kc_1 kc_0 (by decide)
                · refine k_top (z := 0) hf120.1 ?_
                  refine lv_if_ne (tgt := 61) hx hb dX12_readPlain_57 (by decide) (fun c153 => ?_) (fun c153 => ?_)
                  · exact kb_nsame c153 kc_0 kc_0
                  · exact kV_ret hx hb hr hlocks hK hS dX12_readPlain_60 F3 hP hD ⟨hI, hE, ⟨i5, (by rw [egv7.symm]; exact hg8), hvlp4_1.1, hvlp4_1.2, (fun hq => by exact absurd hq hf120.2)⟩⟩
              · have b154 : kb 8 dp 8 := kb_eq c115 kc_8
                refine lv_aload_n hx hb dX12_readPlain_49 rfl (lv_at hl 2 rfl) ?_
                refine kV.callV (As := []) (rest := []) ⟨hx, hb, hml, hown, hg⟩ (m_faults l o r F3 a g hI   N (i5) ob (rS_fE hE hp0 (by decide)) (by rw [egv7.symm]; exact hg8) hvlp4_1.2) (cwV 0 hg (kgV wt6_223 wt6_225 wp4_11 wt1_14 wt6_226) rfl rfl rfl (by decide +kernel) ⟨by dsimp only [rmD]; omega, by dsimp only [rmD]; omega⟩) hK hP hD hS hA mIs [] rfl (wr := []) rfl rfl rfl (fun i h => by cases h) 0 12 rfl rfl rfl hl.1 rfl (Nat.le_of_ble_eq_true rfl) dX12_readPlain_50 ⟨Nat.le_refl _, Nat.le_refl _⟩ (fun u157 H locs hw155 hP hD hS => ?_)
                have hP : va_P D vwCl (mW K o r u157 a g) H := hP
                have hD : va_D A (mW K o r u157 a g) := hD
                have hI : mI u157 a := hw155.1
                have eE158 : fE [21] F3 u157 := hw155.2.1
                have hE : fE [19, 20, 21] f u157 := fE_tr hE (fE_w (by decide) eE158)
                refine lv_aload_n hx hb dX12_readPlain_53 rfl (lv_at hl 2 rfl) ?_
                refine kI.callV (As := []) (rest := []) ⟨hx, hb, hml, hown, hg⟩ (m_fine l o r u157 a g hI   ) (cwV 0 hg (kgV wt6_204 wt6_206 wp4_7 wt1_14 wt6_207) rfl rfl rfl (by decide +kernel) ⟨by dsimp only [rmD]; omega, by dsimp only [rmD]; omega⟩) hK hP hD hS hA mIs [] rfl (wr := []) rfl rfl rfl (fun i h => by cases h) 0 12 rfl rfl rfl hl.1 rfl (Nat.le_of_ble_eq_true rfl) dX12_readPlain_54 ⟨Nat.le_refl _, Nat.le_refl _⟩ (fun v160 u161 H locs hw159 hP hD hS => ?_)
                have hP : va_P D vwCl (mW K o r u157 a g) H := hP
                have hD : va_D A (mW K o r u157 a g) := hD
                rcases hw159.2 with hf162 | hf162
                · refine k_top (z := 1) hf162.1 ?_
                  exact absurd hf162.2 hw155.2.2
                · refine k_top (z := 0) hf162.1 ?_
                  refine lv_if_ne (tgt := 61) hx hb dX12_readPlain_57 (by decide) (fun c163 => ?_) (fun c163 => ?_)
                  · exact kb_nsame c163 kc_0 kc_0
                  · exact kV_ret hx hb hr hlocks hK hS dX12_readPlain_60 u157 hP hD ⟨hI, hE, ⟨i5, (by rw [((eE158 19 (by decide)).trans egv7.symm)]; exact hg8), hvlp4_1.1, hvlp4_1.2, (fun hq => by exact absurd hq hf162.2)⟩⟩
          · exact kb_dj c17 kc_1 kc_0 (by decide)
        · refine k_top (z := 0) hf15.1 ?_
          refine lv_if_ne (tgt := 24) hx hb dX12_readPlain_20 (by decide) (fun c164 => ?_) (fun c164 => ?_)
          · exact kb_nsame c164 kc_0 kc_0
          · exact kV_ret hx hb hr hlocks hK hS dX12_readPlain_23 F3 hP hD ⟨hI, hE, ⟨i5, (by rw [egv7.symm]; exact hg8), hvlp4_1.1, hvlp4_1.2, (fun hq => by exact absurd hq hf15.2)⟩⟩
      · have b165 : kb 1 y2 1 := kr_nel c10 b6 kc_0 (by decide)
        refine lv_aload_n hx hb dX12_readPlain_6 rfl (lv_at hl 1 rfl) ?_
        refine lv_bipush (v := 8) hx hb dX12_readPlain_7 (by decide) ?_
        refine kI.callV (As := [.int 8]) (rest := []) ⟨hx, hb, hml, hown, hg⟩ (m_takes0 l o r F3 a g hI 8 (kb_w kc_8 (by decide) (by decide)) N (i5) ob (rS_fE hE hp0 (by decide)) (by rw [egv7.symm]; exact hg8) hvlp4_1.2) (cwV 1 hg (kgV wt6_200 wt6_202 wp4_6 wt1_14 wt6_203) rfl rfl rfl (by decide +kernel) ⟨by dsimp only [rmD]; omega, by dsimp only [rmD]; omega⟩) hK hP hD hS hA mIs [] rfl (wr := []) rfl rfl rfl (fun i h => by cases h) 0 12 rfl rfl rfl hl.1 rfl (Nat.le_of_ble_eq_true rfl) dX12_readPlain_9 ⟨Nat.le_refl _, Nat.le_refl _⟩ (fun v167 u168 H locs hw166 hP hD hS => ?_)
        have hP : va_P D vwCl (mW K o r u168 a g) H := hP
        have hD : va_D A (mW K o r u168 a g) := hD
        have hI : mI u168 a := hw166.2.1
        have eE169 : fE [19] F3 u168 := hw166.2.2.1
        have hE : fE [19, 20, 21] f u168 := fE_tr hE (fE_w (by decide) eE169)
        rcases hw166.2.2.2 with ⟨hvk170, hbk170, htk170, hpk170, hlk170⟩ | ⟨hvk170, hnk170, hpk170⟩
        · refine k_top (z := 1) hvk170 ?_
          obtain ⟨gv171, egv171⟩ : ∃ z : Int32, z = u168 19 := ⟨_, rfl⟩
          have hg172 : gv171.toInt = ((i5 + 1 : Nat) : Int) := by rw [egv171]; exact hpk170
          have b173 : kb 0 gv171 400 := kb_tok (rS_fE hE hp0 (by decide)) hlk170 hg172
          refine lv_istore_n (lv' := [(2, .int 1), (0, .ref o), (1, .int dp)]) hx hb dX12_readPlain_12 rfl hl (by decide) rfl (fun ls hl => ?_)
          refine lv_goto (tgt := 2) hx hb dX12_readPlain_13 (by decide) ?_
          exact ihlp4 (i5 + 1) u168 _ _ _ 1 (by rw [if_neg (by decide +kernel)]; rw [if_neg c10] at hmlp4; omega) hI hE (kb_w kc_1 (by decide) (by decide)) (by rw [egv171.symm]; exact hg172) (⟨(Nat.le_succ_of_le hvlp4_1.1), hlk170⟩) (fun hq => by have q174 := (eE169 21 (by decide)).symm.trans hq; obtain ⟨q175, xc⟩ := hvlp4_2 q174; exact ⟨q175, fun j h => xc.1 j (gi_5y htk170 h), fun q => absurd q (by decide +kernel)⟩) hP hD hS (lv_sub hl [0, 1, 2] rfl)
        · refine k_top (z := 0) hvk170 ?_
          obtain ⟨gv176, egv176⟩ : ∃ z : Int32, z = u168 19 := ⟨_, rfl⟩
          have hg177 : gv176.toInt = ((i5 : Nat) : Int) := by rw [egv176]; exact hpk170
          have b178 : kb 0 gv176 400 := kb_tok (rS_fE hE hp0 (by decide)) hvlp4_1.2 hg177
          refine lv_istore_n (lv' := [(2, .int 0), (0, .ref o), (1, .int dp)]) hx hb dX12_readPlain_12 rfl hl (by decide) rfl (fun ls hl => ?_)
          refine lv_goto (tgt := 2) hx hb dX12_readPlain_13 (by decide) ?_
          exact ihlp4 (i5) u168 _ _ _ 0 (by rw [if_pos rfl]; rw [if_neg c10] at hmlp4; omega) hI hE (kb_w kc_0 (by decide) (by decide)) (by rw [egv176.symm]; exact hg177) (⟨hvlp4_1.1, hvlp4_1.2⟩) (fun hq => by have q179 := (eE169 21 (by decide)).symm.trans hq; have nnk170 := hnk170 q179; obtain ⟨q180, xc⟩ := hvlp4_2 q179; exact ⟨q180, xc.1, fun _ => nnk170⟩) hP hD hS (lv_sub hl [0, 1, 2] rfl)
  exact lp4 (N + 2) (i) f _ _ _ 1 (by rw [if_neg (by decide +kernel)]; omega) hI hE (kb_w kc_1 (by decide) (by decide)) (by rw [ec19.symm]; exact hg0) (⟨(Nat.le_refl i), hp2⟩) (fun hq => ⟨hq, fun j h => h, fun q => absurd q (by decide +kernel)⟩) hP hD hS (lv_sub hl [0, 1, 2] rfl)
set_option maxHeartbeats 4000000 in
set_option maxRecDepth 100000 in
theorem m_readBoth (d : Nat) (hplain : cRPlain d) (l : Launch) {D : va_G} {K : Nat → ClassId} (o : Nat) (r : Nat → Nat) (f : Nat → Int32) (a : Nat → Nat → Int32) (g : Nat → Int64) (hI : mI f a) (dp : Int32) (bdp : kb 0 dp 8) (N i : Nat) (ob : Bool) (hp0 : rS f a N ob) (hp1 : (f 19).toInt = (i : Int)) (hp2 : i ≤ N) (hp3 : dp.toInt + (d : Int) = 8) : kV l yX12_readBoth (Cond.code yX12_readBoth cX12_readBoth 2 none :: kG) (rmD (4 * d + 14) 0 0) D (tysK K) [.ref o, .int dp] (mW K o r f a g) (fun (u : Nat → Int32) => mI u a ∧ fE [19, 20, 21] f u ∧ (∃ i2 : Nat, (u 19).toInt = (i2 : Int) ∧ i ≤ i2 ∧ i2 ≤ N ∧ (u 21 = -1 → f 21 = -1 ∧ gG ob (rC (a 15) N) d 4 i i2))) (fun u => mW K o r u a g) 0 0 := by
  refine kV.of (cc := cX12_readBoth) (maxL := 2) (ret := none) (by decide) rfl (Nat.le_of_ble_eq_true rfl) ?_
  intro p e s m below meth c A hx hb hr hml hown hts hlocks hnm hK hP hD hS hA ls hl
  have hE : fE [19, 20, 21] f f := fE_rf
  have hg : ∀ w ∈ kG, w.before _ s = true := fun w h => hts w (List.mem_cons_of_mem _ h)
  have hown : s.vm.findClass RX12 = some m.cls := hown
  have hl : lv_has ls 2 [(0, .ref o), (1, .int dp)] := hl
  obtain ⟨c19, ec19⟩ : ∃ z : Int32, z = f 19 := ⟨_, rfl⟩
  have hg0 : c19.toInt = (i : Int) := by rw [ec19]; exact hp1
  have b1 : kb 0 c19 400 := kb_tok hp0 hp2 hg0
  refine lv_aload_n hx hb dX12_readBoth_0 rfl (lv_at hl 0 rfl) ?_
  refine lv_iload_n hx hb dX12_readBoth_1 rfl (lv_at hl 1 rfl) ?_
  refine kV.callV (As := [.int dp]) (rest := []) ⟨hx, hb, hml, hown, hg⟩ (hplain l o r f a g hI dp bdp N (i) ob (rS_fE hE hp0 (by decide)) (by rw [ec19.symm]; exact hg0) hp2 hp3) (cwV 1 hg (kgV wt7_7 wt7_9 wp5_1 wt1_14 wt7_10) rfl rfl rfl (by decide +kernel) ⟨by dsimp only [rmD]; omega, by dsimp only [rmD]; omega⟩) hK hP hD hS hA mIs [] rfl (wr := []) rfl rfl rfl (fun i h => by cases h) 0 12 rfl rfl rfl hl.1 rfl (Nat.le_of_ble_eq_true rfl) dX12_readBoth_2 ⟨Nat.le_refl _, Nat.le_refl _⟩ (fun u4 H locs hw2 hP hD hS => ?_)
  have hP : va_P D vwCl (mW K o r u4 a g) H := hP
  have hD : va_D A (mW K o r u4 a g) := hD
  have hI : mI u4 a := hw2.1
  have eE5 : fE [19, 20, 21] f u4 := hw2.2.1
  have hE : fE [19, 20, 21] f u4 := fE_tr hE eE5
  obtain ⟨ik6, hgk6, hlek6, hNk6, hik6⟩ := hw2.2.2
  obtain ⟨gv7, egv7⟩ : ∃ z : Int32, z = u4 19 := ⟨_, rfl⟩
  have hg8 : gv7.toInt = ((ik6 : Nat) : Int) := by rw [egv7]; exact hgk6
  have b9 : kb 0 gv7 400 := kb_tok (rS_fE hE hp0 (by decide)) hNk6 hg8
  have lp11 : ∀ (n12 : Nat) (i9 : Nat) (F10 : Nat → Int32) (H : Heap) (locs : List Loc) (ls : Array Slot), ((N : Int) < (i9 : Int) + (n12 : Int)) → (mI F10 a) → (fE [19, 20, 21] f F10) → ((F10 19).toInt = (i9 : Int)) → (i ≤ i9 ∧ i9 ≤ N) → (F10 21 = -1 → f 21 = -1 ∧ ∀ j, gG ob (rC (a 15) N) d 9 i9 j → gG ob (rC (a 15) N) d 4 i j) → va_P D vwCl (mW K o r F10 a g) H → va_D A (mW K o r F10 a g) → va_S A s.heap H locs → lv_has ls 2 [(0, .ref o), (1, .int dp)] → W p l e (rmD (4 * d + 14) 0 0) s m ([.ref o, .int dp] : List Value).toArray below meth c H locs 0 0 (kQv D (tysK K) (fun (u : Nat → Int32) => mI u a ∧ fE [19, 20, 21] f u ∧ (∃ i2 : Nat, (u 19).toInt = (i2 : Int) ∧ i ≤ i2 ∧ i2 ≤ N ∧ (u 21 = -1 → f 21 = -1 ∧ gG ob (rC (a 15) N) d 4 i i2))) (fun u => mW K o r u a g) A below ([.ref o, .int dp] : List Value).toArray s 0 0) (F0 m 5 ls []) := by
    intro n12
    induction n12 with
    | zero =>
      intro i9 F10  H locs ls  hmlp11 hI hE hvlp11_0 hvlp11_1 hvlp11_2 hP hD hS hl
      exact (by have w1 := hmlp11; have w2 := hvlp11_1.2; omega : False).elim
    | succ n12 ihlp11 =>
      intro i9 F10  H locs ls  hmlp11 hI hE hvlp11_0 hvlp11_1 hvlp11_2 hP hD hS hl
      obtain ⟨gv13, egv13⟩ : ∃ z : Int32, z = F10 19 := ⟨_, rfl⟩
      have hg14 : gv13.toInt = ((i9 : Nat) : Int) := by rw [egv13]; exact hvlp11_0
      have b15 : kb 0 gv13 400 := kb_tok (rS_fE hE hp0 (by decide)) hvlp11_1.2 hg14
      refine lv_aload_n hx hb dX12_readBoth_5 rfl (lv_at hl 0 rfl) ?_
      refine lv_bipush (v := 7) hx hb dX12_readBoth_6 (by decide) ?_
      refine kI.callV (As := [.int 7]) (rest := []) ⟨hx, hb, hml, hown, hg⟩ (m_takes0 l o r F10 a g hI 7 (kb_w kc_7 (by decide) (by decide)) N (i9) ob (rS_fE hE hp0 (by decide)) (by rw [egv13.symm]; exact hg14) hvlp11_1.2) (cwV 1 hg (kgV wt6_200 wt6_202 wp4_6 wt1_14 wt6_203) rfl rfl rfl (by decide +kernel) ⟨by dsimp only [rmD]; omega, by dsimp only [rmD]; omega⟩) hK hP hD hS hA mIs [] rfl (wr := []) rfl rfl rfl (fun i h => by cases h) 0 12 rfl rfl rfl hl.1 rfl (Nat.le_of_ble_eq_true rfl) dX12_readBoth_8 ⟨Nat.le_refl _, Nat.le_refl _⟩ (fun v17 u18 H locs hw16 hP hD hS => ?_)
      have hP : va_P D vwCl (mW K o r u18 a g) H := hP
      have hD : va_D A (mW K o r u18 a g) := hD
      have hI : mI u18 a := hw16.2.1
      have eE19 : fE [19] F10 u18 := hw16.2.2.1
      have hE : fE [19, 20, 21] f u18 := fE_tr hE (fE_w (by decide) eE19)
      rcases hw16.2.2.2 with ⟨hvk20, hbk20, htk20, hpk20, hlk20⟩ | ⟨hvk20, hnk20, hpk20⟩
      · refine k_top (z := 1) hvk20 ?_
        obtain ⟨gv21, egv21⟩ : ∃ z : Int32, z = u18 19 := ⟨_, rfl⟩
        have hg22 : gv21.toInt = ((i9 + 1 : Nat) : Int) := by rw [egv21]; exact hpk20
        have b23 : kb 0 gv21 400 := kb_tok (rS_fE hE hp0 (by decide)) hlk20 hg22
        refine lv_if_eq (tgt := 22) hx hb dX12_readBoth_11 (by decide) (fun c24 => ?_) (fun c24 => ?_)
        · exact kb_dj c24 kc_1 kc_0 (by decide)
        · refine lv_aload_n hx hb dX12_readBoth_14 rfl (lv_at hl 0 rfl) ?_
          refine lv_iload_n hx hb dX12_readBoth_15 rfl (lv_at hl 1 rfl) ?_
          refine kV.callV (As := [.int dp]) (rest := []) ⟨hx, hb, hml, hown, hg⟩ (hplain l o r u18 a g hI dp bdp N (i9 + 1) ob (rS_fE hE hp0 (by decide)) (by rw [egv21.symm]; exact hg22) hlk20 hp3) (cwV 1 hg (kgV wt7_7 wt7_9 wp5_1 wt1_14 wt7_10) rfl rfl rfl (by decide +kernel) ⟨by dsimp only [rmD]; omega, by dsimp only [rmD]; omega⟩) hK hP hD hS hA mIs [] rfl (wr := []) rfl rfl rfl (fun i h => by cases h) 0 12 rfl rfl rfl hl.1 rfl (Nat.le_of_ble_eq_true rfl) dX12_readBoth_16 ⟨Nat.le_refl _, Nat.le_refl _⟩ (fun u27 H locs hw25 hP hD hS => ?_)
          have hP : va_P D vwCl (mW K o r u27 a g) H := hP
          have hD : va_D A (mW K o r u27 a g) := hD
          have hI : mI u27 a := hw25.1
          have eE28 : fE [19, 20, 21] u18 u27 := hw25.2.1
          have hE : fE [19, 20, 21] f u27 := fE_tr hE eE28
          obtain ⟨ik29, hgk29, hlek29, hNk29, hik29⟩ := hw25.2.2
          obtain ⟨gv30, egv30⟩ : ∃ z : Int32, z = u27 19 := ⟨_, rfl⟩
          have hg31 : gv30.toInt = ((ik29 : Nat) : Int) := by rw [egv30]; exact hgk29
          have b32 : kb 0 gv30 400 := kb_tok (rS_fE hE hp0 (by decide)) hNk29 hg31
          refine lv_goto (tgt := 5) hx hb dX12_readBoth_19 (by decide) ?_
          exact ihlp11 (ik29) u27 _ _ _  (by omega) hI hE (by rw [egv30.symm]; exact hg31) (⟨(Nat.le_trans (Nat.le_succ_of_le hvlp11_1.1) hlek29), hNk29⟩) (fun hq => by obtain ⟨q33, xk29⟩ := hik29 hq; have q34 := (eE19 21 (by decide)).symm.trans q33; obtain ⟨q35, xc⟩ := hvlp11_2 q34; exact ⟨q35, fun j h6 => xc j (gi_9y htk20 xk29 h6)⟩) hP hD hS (lv_sub hl [0, 1] rfl)
      · refine k_top (z := 0) hvk20 ?_
        obtain ⟨gv36, egv36⟩ : ∃ z : Int32, z = u18 19 := ⟨_, rfl⟩
        have hg37 : gv36.toInt = ((i9 : Nat) : Int) := by rw [egv36]; exact hpk20
        have b38 : kb 0 gv36 400 := kb_tok (rS_fE hE hp0 (by decide)) hvlp11_1.2 hg37
        refine lv_if_eq (tgt := 22) hx hb dX12_readBoth_11 (by decide) (fun c39 => ?_) (fun c39 => ?_)
        · exact kV_ret hx hb hr hlocks hK hS dX12_readBoth_22 u18 hP hD ⟨hI, hE, ⟨i9, (by rw [egv36.symm]; exact hg37), hvlp11_1.1, hvlp11_1.2, (fun hq => by have q40 := (eE19 21 (by decide)).symm.trans hq; have nnk20 := hnk20 q40; obtain ⟨q41, xc⟩ := hvlp11_2 q40; exact ⟨q41, xc _ (gi_9n nnk20)⟩)⟩⟩
        · exact kb_nsame c39 kc_0 kc_0
  exact lp11 (N + 1) (ik6) u4 _ _ _  (by omega) hI hE (by rw [egv7.symm]; exact hg8) (⟨(Nat.le_trans (Nat.le_refl i) hlek6), hNk6⟩) (fun hq => by obtain ⟨q42, xk6⟩ := hik6 hq; exact ⟨q42, fun j h6 => gi_4 xk6 h6⟩) hP hD hS (lv_sub hl [0, 1] rfl)
set_option maxHeartbeats 4000000 in
set_option maxRecDepth 100000 in
theorem m_readTest (d : Nat) (hboth : cRBoth d) (l : Launch) {D : va_G} {K : Nat → ClassId} (o : Nat) (r : Nat → Nat) (f : Nat → Int32) (a : Nat → Nat → Int32) (g : Nat → Int64) (hI : mI f a) (dp : Int32) (bdp : kb 0 dp 8) (N i : Nat) (ob : Bool) (hp0 : rS f a N ob) (hp1 : (f 19).toInt = (i : Int)) (hp2 : i ≤ N) (hp3 : dp.toInt + (d : Int) = 8) : kV l yX12_readTest (Cond.code yX12_readTest cX12_readTest 2 none :: kG) (rmD (4 * d + 15) 0 0) D (tysK K) [.ref o, .int dp] (mW K o r f a g) (fun (u : Nat → Int32) => mI u a ∧ fE [19, 20, 21] f u ∧ (∃ i2 : Nat, (u 19).toInt = (i2 : Int) ∧ i ≤ i2 ∧ i2 ≤ N ∧ (u 21 = -1 → f 21 = -1 ∧ gG ob (rC (a 15) N) d 3 i i2))) (fun u => mW K o r u a g) 0 0 := by
  refine kV.of (cc := cX12_readTest) (maxL := 2) (ret := none) (by decide) rfl (Nat.le_of_ble_eq_true rfl) ?_
  intro p e s m below meth c A hx hb hr hml hown hts hlocks hnm hK hP hD hS hA ls hl
  have hE : fE [19, 20, 21] f f := fE_rf
  have hg : ∀ w ∈ kG, w.before _ s = true := fun w h => hts w (List.mem_cons_of_mem _ h)
  have hown : s.vm.findClass RX12 = some m.cls := hown
  have hl : lv_has ls 2 [(0, .ref o), (1, .int dp)] := hl
  obtain ⟨c19, ec19⟩ : ∃ z : Int32, z = f 19 := ⟨_, rfl⟩
  have hg0 : c19.toInt = (i : Int) := by rw [ec19]; exact hp1
  have b1 : kb 0 c19 400 := kb_tok hp0 hp2 hg0
  refine lv_aload_n hx hb dX12_readTest_0 rfl (lv_at hl 0 rfl) ?_
  refine lv_iload_n hx hb dX12_readTest_1 rfl (lv_at hl 1 rfl) ?_
  refine kV.callV (As := [.int dp]) (rest := []) ⟨hx, hb, hml, hown, hg⟩ (hboth l o r f a g hI dp bdp N (i) ob (rS_fE hE hp0 (by decide)) (by rw [ec19.symm]; exact hg0) hp2 hp3) (cwV 1 hg (kgV wt7_3 wt7_5 wp5_0 wt1_14 wt7_6) rfl rfl rfl (by decide +kernel) ⟨by dsimp only [rmD]; omega, by dsimp only [rmD]; omega⟩) hK hP hD hS hA mIs [] rfl (wr := []) rfl rfl rfl (fun i h => by cases h) 0 12 rfl rfl rfl hl.1 rfl (Nat.le_of_ble_eq_true rfl) dX12_readTest_2 ⟨Nat.le_refl _, Nat.le_refl _⟩ (fun u4 H locs hw2 hP hD hS => ?_)
  have hP : va_P D vwCl (mW K o r u4 a g) H := hP
  have hD : va_D A (mW K o r u4 a g) := hD
  have hI : mI u4 a := hw2.1
  have eE5 : fE [19, 20, 21] f u4 := hw2.2.1
  have hE : fE [19, 20, 21] f u4 := fE_tr hE eE5
  obtain ⟨ik6, hgk6, hlek6, hNk6, hik6⟩ := hw2.2.2
  obtain ⟨gv7, egv7⟩ : ∃ z : Int32, z = u4 19 := ⟨_, rfl⟩
  have hg8 : gv7.toInt = ((ik6 : Nat) : Int) := by rw [egv7]; exact hgk6
  have b9 : kb 0 gv7 400 := kb_tok (rS_fE hE hp0 (by decide)) hNk6 hg8
  have lp11 : ∀ (n12 : Nat) (i8 : Nat) (F10 : Nat → Int32) (H : Heap) (locs : List Loc) (ls : Array Slot), ((N : Int) < (i8 : Int) + (n12 : Int)) → (mI F10 a) → (fE [19, 20, 21] f F10) → ((F10 19).toInt = (i8 : Int)) → (i ≤ i8 ∧ i8 ≤ N) → (F10 21 = -1 → f 21 = -1 ∧ ∀ j, gG ob (rC (a 15) N) d 8 i8 j → gG ob (rC (a 15) N) d 3 i j) → va_P D vwCl (mW K o r F10 a g) H → va_D A (mW K o r F10 a g) → va_S A s.heap H locs → lv_has ls 2 [(0, .ref o), (1, .int dp)] → W p l e (rmD (4 * d + 15) 0 0) s m ([.ref o, .int dp] : List Value).toArray below meth c H locs 0 0 (kQv D (tysK K) (fun (u : Nat → Int32) => mI u a ∧ fE [19, 20, 21] f u ∧ (∃ i2 : Nat, (u 19).toInt = (i2 : Int) ∧ i ≤ i2 ∧ i2 ≤ N ∧ (u 21 = -1 → f 21 = -1 ∧ gG ob (rC (a 15) N) d 3 i i2))) (fun u => mW K o r u a g) A below ([.ref o, .int dp] : List Value).toArray s 0 0) (F0 m 5 ls []) := by
    intro n12
    induction n12 with
    | zero =>
      intro i8 F10  H locs ls  hmlp11 hI hE hvlp11_0 hvlp11_1 hvlp11_2 hP hD hS hl
      exact (by have w1 := hmlp11; have w2 := hvlp11_1.2; omega : False).elim
    | succ n12 ihlp11 =>
      intro i8 F10  H locs ls  hmlp11 hI hE hvlp11_0 hvlp11_1 hvlp11_2 hP hD hS hl
      obtain ⟨gv13, egv13⟩ : ∃ z : Int32, z = F10 19 := ⟨_, rfl⟩
      have hg14 : gv13.toInt = ((i8 : Nat) : Int) := by rw [egv13]; exact hvlp11_0
      have b15 : kb 0 gv13 400 := kb_tok (rS_fE hE hp0 (by decide)) hvlp11_1.2 hg14
      refine lv_aload_n hx hb dX12_readTest_5 rfl (lv_at hl 0 rfl) ?_
      refine lv_bipush (v := 6) hx hb dX12_readTest_6 (by decide) ?_
      refine kI.callV (As := [.int 6]) (rest := []) ⟨hx, hb, hml, hown, hg⟩ (m_takes0 l o r F10 a g hI 6 (kb_w kc_6 (by decide) (by decide)) N (i8) ob (rS_fE hE hp0 (by decide)) (by rw [egv13.symm]; exact hg14) hvlp11_1.2) (cwV 1 hg (kgV wt6_200 wt6_202 wp4_6 wt1_14 wt6_203) rfl rfl rfl (by decide +kernel) ⟨by dsimp only [rmD]; omega, by dsimp only [rmD]; omega⟩) hK hP hD hS hA mIs [] rfl (wr := []) rfl rfl rfl (fun i h => by cases h) 0 12 rfl rfl rfl hl.1 rfl (Nat.le_of_ble_eq_true rfl) dX12_readTest_8 ⟨Nat.le_refl _, Nat.le_refl _⟩ (fun v17 u18 H locs hw16 hP hD hS => ?_)
      have hP : va_P D vwCl (mW K o r u18 a g) H := hP
      have hD : va_D A (mW K o r u18 a g) := hD
      have hI : mI u18 a := hw16.2.1
      have eE19 : fE [19] F10 u18 := hw16.2.2.1
      have hE : fE [19, 20, 21] f u18 := fE_tr hE (fE_w (by decide) eE19)
      rcases hw16.2.2.2 with ⟨hvk20, hbk20, htk20, hpk20, hlk20⟩ | ⟨hvk20, hnk20, hpk20⟩
      · refine k_top (z := 1) hvk20 ?_
        obtain ⟨gv21, egv21⟩ : ∃ z : Int32, z = u18 19 := ⟨_, rfl⟩
        have hg22 : gv21.toInt = ((i8 + 1 : Nat) : Int) := by rw [egv21]; exact hpk20
        have b23 : kb 0 gv21 400 := kb_tok (rS_fE hE hp0 (by decide)) hlk20 hg22
        refine lv_if_eq (tgt := 22) hx hb dX12_readTest_11 (by decide) (fun c24 => ?_) (fun c24 => ?_)
        · exact kb_dj c24 kc_1 kc_0 (by decide)
        · refine lv_aload_n hx hb dX12_readTest_14 rfl (lv_at hl 0 rfl) ?_
          refine lv_iload_n hx hb dX12_readTest_15 rfl (lv_at hl 1 rfl) ?_
          refine kV.callV (As := [.int dp]) (rest := []) ⟨hx, hb, hml, hown, hg⟩ (hboth l o r u18 a g hI dp bdp N (i8 + 1) ob (rS_fE hE hp0 (by decide)) (by rw [egv21.symm]; exact hg22) hlk20 hp3) (cwV 1 hg (kgV wt7_3 wt7_5 wp5_0 wt1_14 wt7_6) rfl rfl rfl (by decide +kernel) ⟨by dsimp only [rmD]; omega, by dsimp only [rmD]; omega⟩) hK hP hD hS hA mIs [] rfl (wr := []) rfl rfl rfl (fun i h => by cases h) 0 12 rfl rfl rfl hl.1 rfl (Nat.le_of_ble_eq_true rfl) dX12_readTest_16 ⟨Nat.le_refl _, Nat.le_refl _⟩ (fun u27 H locs hw25 hP hD hS => ?_)
          have hP : va_P D vwCl (mW K o r u27 a g) H := hP
          have hD : va_D A (mW K o r u27 a g) := hD
          have hI : mI u27 a := hw25.1
          have eE28 : fE [19, 20, 21] u18 u27 := hw25.2.1
          have hE : fE [19, 20, 21] f u27 := fE_tr hE eE28
          obtain ⟨ik29, hgk29, hlek29, hNk29, hik29⟩ := hw25.2.2
          obtain ⟨gv30, egv30⟩ : ∃ z : Int32, z = u27 19 := ⟨_, rfl⟩
          have hg31 : gv30.toInt = ((ik29 : Nat) : Int) := by rw [egv30]; exact hgk29
          have b32 : kb 0 gv30 400 := kb_tok (rS_fE hE hp0 (by decide)) hNk29 hg31
          refine lv_goto (tgt := 5) hx hb dX12_readTest_19 (by decide) ?_
          exact ihlp11 (ik29) u27 _ _ _  (by omega) hI hE (by rw [egv30.symm]; exact hg31) (⟨(Nat.le_trans (Nat.le_succ_of_le hvlp11_1.1) hlek29), hNk29⟩) (fun hq => by obtain ⟨q33, xk29⟩ := hik29 hq; have q34 := (eE19 21 (by decide)).symm.trans q33; obtain ⟨q35, xc⟩ := hvlp11_2 q34; exact ⟨q35, fun j h6 => xc j (gi_8y htk20 xk29 h6)⟩) hP hD hS (lv_sub hl [0, 1] rfl)
      · refine k_top (z := 0) hvk20 ?_
        obtain ⟨gv36, egv36⟩ : ∃ z : Int32, z = u18 19 := ⟨_, rfl⟩
        have hg37 : gv36.toInt = ((i8 : Nat) : Int) := by rw [egv36]; exact hpk20
        have b38 : kb 0 gv36 400 := kb_tok (rS_fE hE hp0 (by decide)) hvlp11_1.2 hg37
        refine lv_if_eq (tgt := 22) hx hb dX12_readTest_11 (by decide) (fun c39 => ?_) (fun c39 => ?_)
        · exact kV_ret hx hb hr hlocks hK hS dX12_readTest_22 u18 hP hD ⟨hI, hE, ⟨i8, (by rw [egv36.symm]; exact hg37), hvlp11_1.1, hvlp11_1.2, (fun hq => by have q40 := (eE19 21 (by decide)).symm.trans hq; have nnk20 := hnk20 q40; obtain ⟨q41, xc⟩ := hvlp11_2 q40; exact ⟨q41, xc _ (gi_8n nnk20)⟩)⟩⟩
        · exact kb_nsame c39 kc_0 kc_0
  exact lp11 (N + 1) (ik6) u4 _ _ _  (by omega) hI hE (by rw [egv7.symm]; exact hg8) (⟨(Nat.le_trans (Nat.le_refl i) hlek6), hNk6⟩) (fun hq => by obtain ⟨q42, xk6⟩ := hik6 hq; exact ⟨q42, fun j h6 => gi_3 xk6 h6⟩) hP hD hS (lv_sub hl [0, 1] rfl)
set_option maxHeartbeats 4000000 in
theorem m_allRSum : ∀ d, cRSum d := by
  intro d
  induction d with
  | zero => exact m_readSum 0 (m_readTerm 0 (m_readPart 0 (fun e h => absurd h (by omega))))
  | succ d ih => exact m_readSum _ (m_readTerm _ (m_readPart _ (fun e h => (Nat.succ.inj h) ▸ ih)))
set_option maxHeartbeats 4000000 in
theorem m_allRTest : ∀ d, cRTest d := by
  intro d
  induction d with
  | zero => exact m_readTest 0 (m_readBoth 0 (m_readPlain 0 (fun e h => absurd h (by omega)) (m_allRSum 0)))
  | succ d ih => exact m_readTest _ (m_readBoth _ (m_readPlain _ (fun e h => (Nat.succ.inj h) ▸ ih) (m_allRSum _)))
