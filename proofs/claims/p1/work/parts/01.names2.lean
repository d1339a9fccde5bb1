theorem dX7_addPart_129 : decode cX7_addPart 129 = .ok (.getfield 9, 3) := by decide +kernel
theorem dX7_addPart_132 : decode cX7_addPart 132 = .ok (.iconst 1, 1) := by decide +kernel
theorem dX7_addPart_133 : decode cX7_addPart 133 = .ok (.iadd, 1) := by decide +kernel
theorem dX7_addPart_134 : decode cX7_addPart 134 = .ok (.putfield 9, 3) := by decide +kernel
theorem dX7_addPart_137 : decode cX7_addPart 137 = .ok (.aload_n 0, 1) := by decide +kernel
theorem dX7_addPart_138 : decode cX7_addPart 138 = .ok (.getfield 9, 3) := by decide +kernel
theorem dX7_addPart_141 : decode cX7_addPart 141 = .ok (.iconst 1, 1) := by decide +kernel
theorem dX7_addPart_142 : decode cX7_addPart 142 = .ok (.isub, 1) := by decide +kernel
theorem dX7_addPart_143 : decode cX7_addPart 143 = .ok (.ireturn, 1) := by decide +kernel
theorem dX7_addBuilder_0 : decode cX7_addBuilder 0 = .ok (.iload_n 1, 1) := by decide +kernel
theorem dX7_addBuilder_1 : decode cX7_addBuilder 1 = .ok (.iconst 1, 1) := by decide +kernel
theorem dX7_addBuilder_2 : decode cX7_addBuilder 2 = .ok (.if_icmp .lt 20, 3) := by decide +kernel
theorem dX7_addBuilder_5 : decode cX7_addBuilder 5 = .ok (.iload_n 1, 1) := by decide +kernel
theorem dX7_addBuilder_6 : decode cX7_addBuilder 6 = .ok (.bipush 15, 2) := by decide +kernel
theorem dX7_addBuilder_8 : decode cX7_addBuilder 8 = .ok (.if_icmp .gt 14, 3) := by decide +kernel
theorem dX7_addBuilder_11 : decode cX7_addBuilder 11 = .ok (.iload_n 2, 1) := by decide +kernel
theorem dX7_addBuilder_12 : decode cX7_addBuilder 12 = .ok (.iconst 1, 1) := by decide +kernel
theorem dX7_addBuilder_13 : decode cX7_addBuilder 13 = .ok (.if_icmp .lt 9, 3) := by decide +kernel
theorem dX7_addBuilder_16 : decode cX7_addBuilder 16 = .ok (.iload_n 2, 1) := by decide +kernel
theorem dX7_addBuilder_17 : decode cX7_addBuilder 17 = .ok (.bipush 9, 2) := by decide +kernel
theorem dX7_addBuilder_19 : decode cX7_addBuilder 19 = .ok (.if_icmp .le 5, 3) := by decide +kernel
theorem dX7_addBuilder_22 : decode cX7_addBuilder 22 = .ok (.iconst (-1), 1) := by decide +kernel
theorem dX7_addBuilder_23 : decode cX7_addBuilder 23 = .ok (.ireturn, 1) := by decide +kernel
theorem dX7_addBuilder_24 : decode cX7_addBuilder 24 = .ok (.aload_n 0, 1) := by decide +kernel
theorem dX7_addBuilder_25 : decode cX7_addBuilder 25 = .ok (.getfield 31, 3) := by decide +kernel
theorem dX7_addBuilder_28 : decode cX7_addBuilder 28 = .ok (.ifCond .lt 12, 3) := by decide +kernel
theorem dX7_addBuilder_31 : decode cX7_addBuilder 31 = .ok (.aload_n 0, 1) := by decide +kernel
theorem dX7_addBuilder_32 : decode cX7_addBuilder 32 = .ok (.getfield 31, 3) := by decide +kernel
theorem dX7_addBuilder_35 : decode cX7_addBuilder 35 = .ok (.bipush 6, 2) := by decide +kernel
theorem dX7_addBuilder_37 : decode cX7_addBuilder 37 = .ok (.if_icmp .lt 6, 3) := by decide +kernel
theorem dX7_addBuilder_40 : decode cX7_addBuilder 40 = .ok (.bipush (-5), 2) := by decide +kernel
theorem dX7_addBuilder_42 : decode cX7_addBuilder 42 = .ok (.ireturn, 1) := by decide +kernel
theorem dX7_addBuilder_43 : decode cX7_addBuilder 43 = .ok (.aload_n 0, 1) := by decide +kernel
theorem dX7_addBuilder_44 : decode cX7_addBuilder 44 = .ok (.getfield 34, 3) := by decide +kernel
theorem dX7_addBuilder_47 : decode cX7_addBuilder 47 = .ok (.aload_n 0, 1) := by decide +kernel
theorem dX7_addBuilder_48 : decode cX7_addBuilder 48 = .ok (.getfield 31, 3) := by decide +kernel
theorem dX7_addBuilder_51 : decode cX7_addBuilder 51 = .ok (.iload_n 1, 1) := by decide +kernel
theorem dX7_addBuilder_52 : decode cX7_addBuilder 52 = .ok (.iastore, 1) := by decide +kernel
theorem dX7_addBuilder_53 : decode cX7_addBuilder 53 = .ok (.aload_n 0, 1) := by decide +kernel
theorem dX7_addBuilder_54 : decode cX7_addBuilder 54 = .ok (.getfield 37, 3) := by decide +kernel
theorem dX7_addBuilder_57 : decode cX7_addBuilder 57 = .ok (.aload_n 0, 1) := by decide +kernel
theorem dX7_addBuilder_58 : decode cX7_addBuilder 58 = .ok (.getfield 31, 3) := by decide +kernel
theorem dX7_addBuilder_61 : decode cX7_addBuilder 61 = .ok (.iload_n 2, 1) := by decide +kernel
theorem dX7_addBuilder_62 : decode cX7_addBuilder 62 = .ok (.iastore, 1) := by decide +kernel
theorem dX7_addBuilder_63 : decode cX7_addBuilder 63 = .ok (.aload_n 0, 1) := by decide +kernel
theorem dX7_addBuilder_64 : decode cX7_addBuilder 64 = .ok (.getfield 40, 3) := by decide +kernel
theorem dX7_addBuilder_67 : decode cX7_addBuilder 67 = .ok (.aload_n 0, 1) := by decide +kernel
theorem dX7_addBuilder_68 : decode cX7_addBuilder 68 = .ok (.getfield 31, 3) := by decide +kernel
theorem dX7_addBuilder_71 : decode cX7_addBuilder 71 = .ok (.iconst 0, 1) := by decide +kernel
theorem dX7_addBuilder_72 : decode cX7_addBuilder 72 = .ok (.iastore, 1) := by decide +kernel
theorem dX7_addBuilder_73 : decode cX7_addBuilder 73 = .ok (.aload_n 0, 1) := by decide +kernel
theorem dX7_addBuilder_74 : decode cX7_addBuilder 74 = .ok (.getfield 43, 3) := by decide +kernel
theorem dX7_addBuilder_77 : decode cX7_addBuilder 77 = .ok (.aload_n 0, 1) := by decide +kernel
theorem dX7_addBuilder_78 : decode cX7_addBuilder 78 = .ok (.getfield 31, 3) := by decide +kernel
theorem dX7_addBuilder_81 : decode cX7_addBuilder 81 = .ok (.iconst (-1), 1) := by decide +kernel
theorem dX7_addBuilder_82 : decode cX7_addBuilder 82 = .ok (.iastore, 1) := by decide +kernel
theorem dX7_addBuilder_83 : decode cX7_addBuilder 83 = .ok (.aload_n 0, 1) := by decide +kernel
theorem dX7_addBuilder_84 : decode cX7_addBuilder 84 = .ok (.dup, 1) := by decide +kernel
theorem dX7_addBuilder_85 : decode cX7_addBuilder 85 = .ok (.getfield 31, 3) := by decide +kernel
theorem dX7_addBuilder_88 : decode cX7_addBuilder 88 = .ok (.iconst 1, 1) := by decide +kernel
theorem dX7_addBuilder_89 : decode cX7_addBuilder 89 = .ok (.iadd, 1) := by decide +kernel
theorem dX7_addBuilder_90 : decode cX7_addBuilder 90 = .ok (.putfield 31, 3) := by decide +kernel
theorem dX7_addBuilder_93 : decode cX7_addBuilder 93 = .ok (.aload_n 0, 1) := by decide +kernel
theorem dX7_addBuilder_94 : decode cX7_addBuilder 94 = .ok (.getfield 31, 3) := by decide +kernel
theorem dX7_addBuilder_97 : decode cX7_addBuilder 97 = .ok (.iconst 1, 1) := by decide +kernel
theorem dX7_addBuilder_98 : decode cX7_addBuilder 98 = .ok (.isub, 1) := by decide +kernel
theorem dX7_addBuilder_99 : decode cX7_addBuilder 99 = .ok (.ireturn, 1) := by decide +kernel
theorem dX7_upMask_0 : decode cX7_upMask 0 = .ok (.iconst 0, 1) := by decide +kernel
theorem dX7_upMask_1 : decode cX7_upMask 1 = .ok (.istore_n 1, 1) := by decide +kernel
theorem dX7_upMask_2 : decode cX7_upMask 2 = .ok (.iconst 0, 1) := by decide +kernel
theorem dX7_upMask_3 : decode cX7_upMask 3 = .ok (.istore_n 2, 1) := by decide +kernel
theorem dX7_upMask_4 : decode cX7_upMask 4 = .ok (.iload_n 2, 1) := by decide +kernel
theorem dX7_upMask_5 : decode cX7_upMask 5 = .ok (.aload_n 0, 1) := by decide +kernel
theorem dX7_upMask_6 : decode cX7_upMask 6 = .ok (.getfield 9, 3) := by decide +kernel
theorem dX7_upMask_9 : decode cX7_upMask 9 = .ok (.if_icmp .ge 30, 3) := by decide +kernel
theorem dX7_upMask_12 : decode cX7_upMask 12 = .ok (.iload_n 2, 1) := by decide +kernel
theorem dX7_upMask_13 : decode cX7_upMask 13 = .ok (.bipush 10, 2) := by decide +kernel
theorem dX7_upMask_15 : decode cX7_upMask 15 = .ok (.if_icmp .ge 24, 3) := by decide +kernel
theorem dX7_upMask_18 : decode cX7_upMask 18 = .ok (.aload_n 0, 1) := by decide +kernel
theorem dX7_upMask_19 : decode cX7_upMask 19 = .ok (.getfield 28, 3) := by decide +kernel
theorem dX7_upMask_22 : decode cX7_upMask 22 = .ok (.iload_n 2, 1) := by decide +kernel
theorem dX7_upMask_23 : decode cX7_upMask 23 = .ok (.iaload, 1) := by decide +kernel
theorem dX7_upMask_24 : decode cX7_upMask 24 = .ok (.ifCond .ne 9, 3) := by decide +kernel
theorem dX7_upMask_27 : decode cX7_upMask 27 = .ok (.iload_n 1, 1) := by decide +kernel
theorem dX7_upMask_28 : decode cX7_upMask 28 = .ok (.iconst 1, 1) := by decide +kernel
theorem dX7_upMask_29 : decode cX7_upMask 29 = .ok (.iload_n 2, 1) := by decide +kernel
theorem dX7_upMask_30 : decode cX7_upMask 30 = .ok (.ishl, 1) := by decide +kernel
theorem dX7_upMask_31 : decode cX7_upMask 31 = .ok (.ior, 1) := by decide +kernel
theorem dX7_upMask_32 : decode cX7_upMask 32 = .ok (.istore_n 1, 1) := by decide +kernel
theorem dX7_upMask_33 : decode cX7_upMask 33 = .ok (.iinc 2 1, 3) := by decide +kernel
theorem dX7_upMask_36 : decode cX7_upMask 36 = .ok (.goto (-32), 3) := by decide +kernel
theorem dX7_upMask_39 : decode cX7_upMask 39 = .ok (.iload_n 1, 1) := by decide +kernel
theorem dX7_upMask_40 : decode cX7_upMask 40 = .ok (.ireturn, 1) := by decide +kernel
set_option maxRecDepth 20000 in
theorem ggX7_readyMask_X7_upMask : GoodIn wsX7_readyMask wsX7_upMask := goodIn_r _ [8, 1, 2, 9, 10, 11, 12, 13, 14, 15, 16, 17, 18, 19, 20, 21, 22, 23, 24, 25, 26, 27, 28] (by decide +kernel) (by decide +kernel)
set_option maxRecDepth 20000 in
theorem gX7_readyMask_X7_upMask : GoodIn wsX7_readyMask (wsV RX7 94 RX7 yX7_upMask wsX7_upMask) := goodIn_app (goodIn_of _ (by decide +kernel)) ggX7_readyMask_X7_upMask
theorem dX7_readyMask_0 : decode cX7_readyMask 0 = .ok (.aload_n 0, 1) := by decide +kernel
theorem dX7_readyMask_1 : decode cX7_readyMask 1 = .ok (.invokevirtual 94, 3) := by decide +kernel
theorem dX7_readyMask_4 : decode cX7_readyMask 4 = .ok (.istore_n 1, 1) := by decide +kernel
theorem dX7_readyMask_5 : decode cX7_readyMask 5 = .ok (.iconst 0, 1) := by decide +kernel
theorem dX7_readyMask_6 : decode cX7_readyMask 6 = .ok (.istore_n 2, 1) := by decide +kernel
theorem dX7_readyMask_7 : decode cX7_readyMask 7 = .ok (.iconst 0, 1) := by decide +kernel
theorem dX7_readyMask_8 : decode cX7_readyMask 8 = .ok (.istore_n 3, 1) := by decide +kernel
theorem dX7_readyMask_9 : decode cX7_readyMask 9 = .ok (.iload_n 3, 1) := by decide +kernel
theorem dX7_readyMask_10 : decode cX7_readyMask 10 = .ok (.aload_n 0, 1) := by decide +kernel
theorem dX7_readyMask_11 : decode cX7_readyMask 11 = .ok (.getfield 9, 3) := by decide +kernel
theorem dX7_readyMask_14 : decode cX7_readyMask 14 = .ok (.if_icmp .ge 43, 3) := by decide +kernel
theorem dX7_readyMask_17 : decode cX7_readyMask 17 = .ok (.iload_n 3, 1) := by decide +kernel
theorem dX7_readyMask_18 : decode cX7_readyMask 18 = .ok (.bipush 10, 2) := by decide +kernel
theorem dX7_readyMask_20 : decode cX7_readyMask 20 = .ok (.if_icmp .ge 37, 3) := by decide +kernel
theorem dX7_readyMask_23 : decode cX7_readyMask 23 = .ok (.aload_n 0, 1) := by decide +kernel
theorem dX7_readyMask_24 : decode cX7_readyMask 24 = .ok (.getfield 28, 3) := by decide +kernel
theorem dX7_readyMask_27 : decode cX7_readyMask 27 = .ok (.iload_n 3, 1) := by decide +kernel
theorem dX7_readyMask_28 : decode cX7_readyMask 28 = .ok (.iaload, 1) := by decide +kernel
theorem dX7_readyMask_29 : decode cX7_readyMask 29 = .ok (.ifCond .eq 22, 3) := by decide +kernel
theorem dX7_readyMask_32 : decode cX7_readyMask 32 = .ok (.aload_n 0, 1) := by decide +kernel
theorem dX7_readyMask_33 : decode cX7_readyMask 33 = .ok (.getfield 19, 3) := by decide +kernel
theorem dX7_readyMask_36 : decode cX7_readyMask 36 = .ok (.iload_n 3, 1) := by decide +kernel
theorem dX7_readyMask_37 : decode cX7_readyMask 37 = .ok (.iaload, 1) := by decide +kernel
theorem dX7_readyMask_38 : decode cX7_readyMask 38 = .ok (.iload_n 1, 1) := by decide +kernel
theorem dX7_readyMask_39 : decode cX7_readyMask 39 = .ok (.iconst (-1), 1) := by decide +kernel
theorem dX7_readyMask_40 : decode cX7_readyMask 40 = .ok (.ixor, 1) := by decide +kernel
theorem dX7_readyMask_41 : decode cX7_readyMask 41 = .ok (.iand, 1) := by decide +kernel
theorem dX7_readyMask_42 : decode cX7_readyMask 42 = .ok (.ifCond .ne 9, 3) := by decide +kernel
theorem dX7_readyMask_45 : decode cX7_readyMask 45 = .ok (.iload_n 2, 1) := by decide +kernel
theorem dX7_readyMask_46 : decode cX7_readyMask 46 = .ok (.iconst 1, 1) := by decide +kernel
theorem dX7_readyMask_47 : decode cX7_readyMask 47 = .ok (.iload_n 3, 1) := by decide +kernel
theorem dX7_readyMask_48 : decode cX7_readyMask 48 = .ok (.ishl, 1) := by decide +kernel
theorem dX7_readyMask_49 : decode cX7_readyMask 49 = .ok (.ior, 1) := by decide +kernel
theorem dX7_readyMask_50 : decode cX7_readyMask 50 = .ok (.istore_n 2, 1) := by decide +kernel
theorem dX7_readyMask_51 : decode cX7_readyMask 51 = .ok (.iinc 3 1, 3) := by decide +kernel
theorem dX7_readyMask_54 : decode cX7_readyMask 54 = .ok (.goto (-45), 3) := by decide +kernel
theorem dX7_readyMask_57 : decode cX7_readyMask 57 = .ok (.iload_n 2, 1) := by decide +kernel
theorem dX7_readyMask_58 : decode cX7_readyMask 58 = .ok (.ireturn, 1) := by decide +kernel
theorem dX7_reckonChains_0 : decode cX7_reckonChains 0 = .ok (.iconst 0, 1) := by decide +kernel
theorem dX7_reckonChains_1 : decode cX7_reckonChains 1 = .ok (.istore_n 1, 1) := by decide +kernel
theorem dX7_reckonChains_2 : decode cX7_reckonChains 2 = .ok (.aload_n 0, 1) := by decide +kernel
theorem dX7_reckonChains_3 : decode cX7_reckonChains 3 = .ok (.getfield 9, 3) := by decide +kernel
theorem dX7_reckonChains_6 : decode cX7_reckonChains 6 = .ok (.bipush 10, 2) := by decide +kernel
theorem dX7_reckonChains_8 : decode cX7_reckonChains 8 = .ok (.invokestatic 98, 3) := by decide +kernel
theorem dX7_reckonChains_11 : decode cX7_reckonChains 11 = .ok (.iconst 1, 1) := by decide +kernel
theorem dX7_reckonChains_12 : decode cX7_reckonChains 12 = .ok (.isub, 1) := by decide +kernel
theorem dX7_reckonChains_13 : decode cX7_reckonChains 13 = .ok (.istore_n 2, 1) := by decide +kernel
theorem dX7_reckonChains_14 : decode cX7_reckonChains 14 = .ok (.iload_n 2, 1) := by decide +kernel
theorem dX7_reckonChains_15 : decode cX7_reckonChains 15 = .ok (.ifCond .lt 119, 3) := by decide +kernel
theorem dX7_reckonChains_18 : decode cX7_reckonChains 18 = .ok (.iconst 0, 1) := by decide +kernel
theorem dX7_reckonChains_19 : decode cX7_reckonChains 19 = .ok (.istore_n 3, 1) := by decide +kernel
theorem dX7_reckonChains_20 : decode cX7_reckonChains 20 = .ok (.iload_n 2, 1) := by decide +kernel
theorem dX7_reckonChains_21 : decode cX7_reckonChains 21 = .ok (.iconst 1, 1) := by decide +kernel
theorem dX7_reckonChains_22 : decode cX7_reckonChains 22 = .ok (.iadd, 1) := by decide +kernel
theorem dX7_reckonChains_23 : decode cX7_reckonChains 23 = .ok (.istore 4, 2) := by decide +kernel
theorem dX7_reckonChains_25 : decode cX7_reckonChains 25 = .ok (.iload 4, 2) := by decide +kernel
theorem dX7_reckonChains_27 : decode cX7_reckonChains 27 = .ok (.aload_n 0, 1) := by decide +kernel
theorem dX7_reckonChains_28 : decode cX7_reckonChains 28 = .ok (.getfield 9, 3) := by decide +kernel
theorem dX7_reckonChains_31 : decode cX7_reckonChains 31 = .ok (.if_icmp .ge 66, 3) := by decide +kernel
theorem dX7_reckonChains_34 : decode cX7_reckonChains 34 = .ok (.iload 4, 2) := by decide +kernel
theorem dX7_reckonChains_36 : decode cX7_reckonChains 36 = .ok (.bipush 10, 2) := by decide +kernel
theorem dX7_reckonChains_38 : decode cX7_reckonChains 38 = .ok (.if_icmp .ge 59, 3) := by decide +kernel
theorem dX7_reckonChains_41 : decode cX7_reckonChains 41 = .ok (.aload_n 0, 1) := by decide +kernel
theorem dX7_reckonChains_42 : decode cX7_reckonChains 42 = .ok (.getfield 19, 3) := by decide +kernel
theorem dX7_reckonChains_45 : decode cX7_reckonChains 45 = .ok (.iload 4, 2) := by decide +kernel
theorem dX7_reckonChains_47 : decode cX7_reckonChains 47 = .ok (.iaload, 1) := by decide +kernel
theorem dX7_reckonChains_48 : decode cX7_reckonChains 48 = .ok (.iload_n 2, 1) := by decide +kernel
theorem dX7_reckonChains_49 : decode cX7_reckonChains 49 = .ok (.ishr, 1) := by decide +kernel
theorem dX7_reckonChains_50 : decode cX7_reckonChains 50 = .ok (.iconst 1, 1) := by decide +kernel
theorem dX7_reckonChains_51 : decode cX7_reckonChains 51 = .ok (.iand, 1) := by decide +kernel
theorem dX7_reckonChains_52 : decode cX7_reckonChains 52 = .ok (.iconst 1, 1) := by decide +kernel
theorem dX7_reckonChains_53 : decode cX7_reckonChains 53 = .ok (.if_icmp .ne 38, 3) := by decide +kernel
theorem dX7_reckonChains_56 : decode cX7_reckonChains 56 = .ok (.aload_n 0, 1) := by decide +kernel
theorem dX7_reckonChains_57 : decode cX7_reckonChains 57 = .ok (.getfield 28, 3) := by decide +kernel
theorem dX7_reckonChains_60 : decode cX7_reckonChains 60 = .ok (.iload 4, 2) := by decide +kernel
theorem dX7_reckonChains_62 : decode cX7_reckonChains 62 = .ok (.iaload, 1) := by decide +kernel
theorem dX7_reckonChains_63 : decode cX7_reckonChains 63 = .ok (.ifCond .eq 28, 3) := by decide +kernel
theorem dX7_reckonChains_66 : decode cX7_reckonChains 66 = .ok (.aload_n 0, 1) := by decide +kernel
theorem dX7_reckonChains_67 : decode cX7_reckonChains 67 = .ok (.getfield 84, 3) := by decide +kernel
theorem dX7_reckonChains_70 : decode cX7_reckonChains 70 = .ok (.getfield 104, 3) := by decide +kernel
theorem dX7_reckonChains_73 : decode cX7_reckonChains 73 = .ok (.iload 4, 2) := by decide +kernel
theorem dX7_reckonChains_75 : decode cX7_reckonChains 75 = .ok (.iaload, 1) := by decide +kernel
theorem dX7_reckonChains_76 : decode cX7_reckonChains 76 = .ok (.iload_n 3, 1) := by decide +kernel
theorem dX7_reckonChains_77 : decode cX7_reckonChains 77 = .ok (.if_icmp .le 14, 3) := by decide +kernel
theorem dX7_reckonChains_80 : decode cX7_reckonChains 80 = .ok (.aload_n 0, 1) := by decide +kernel
theorem dX7_reckonChains_81 : decode cX7_reckonChains 81 = .ok (.getfield 84, 3) := by decide +kernel
theorem dX7_reckonChains_84 : decode cX7_reckonChains 84 = .ok (.getfield 104, 3) := by decide +kernel
theorem dX7_reckonChains_87 : decode cX7_reckonChains 87 = .ok (.iload 4, 2) := by decide +kernel
theorem dX7_reckonChains_89 : decode cX7_reckonChains 89 = .ok (.iaload, 1) := by decide +kernel
theorem dX7_reckonChains_90 : decode cX7_reckonChains 90 = .ok (.istore_n 3, 1) := by decide +kernel
theorem dX7_reckonChains_91 : decode cX7_reckonChains 91 = .ok (.iinc 4 1, 3) := by decide +kernel
theorem dX7_reckonChains_94 : decode cX7_reckonChains 94 = .ok (.goto (-69), 3) := by decide +kernel
theorem dX7_reckonChains_97 : decode cX7_reckonChains 97 = .ok (.aload_n 0, 1) := by decide +kernel
theorem dX7_reckonChains_98 : decode cX7_reckonChains 98 = .ok (.getfield 84, 3) := by decide +kernel
theorem dX7_reckonChains_101 : decode cX7_reckonChains 101 = .ok (.getfield 104, 3) := by decide +kernel
theorem dX7_reckonChains_104 : decode cX7_reckonChains 104 = .ok (.iload_n 2, 1) := by decide +kernel
theorem dX7_reckonChains_105 : decode cX7_reckonChains 105 = .ok (.aload_n 0, 1) := by decide +kernel
theorem dX7_reckonChains_106 : decode cX7_reckonChains 106 = .ok (.getfield 28, 3) := by decide +kernel
theorem dX7_reckonChains_109 : decode cX7_reckonChains 109 = .ok (.iload_n 2, 1) := by decide +kernel
theorem dX7_reckonChains_110 : decode cX7_reckonChains 110 = .ok (.iaload, 1) := by decide +kernel
theorem dX7_reckonChains_111 : decode cX7_reckonChains 111 = .ok (.iload_n 3, 1) := by decide +kernel
theorem dX7_reckonChains_112 : decode cX7_reckonChains 112 = .ok (.iadd, 1) := by decide +kernel
theorem dX7_reckonChains_113 : decode cX7_reckonChains 113 = .ok (.iastore, 1) := by decide +kernel
theorem dX7_reckonChains_114 : decode cX7_reckonChains 114 = .ok (.iload_n 1, 1) := by decide +kernel
theorem dX7_reckonChains_115 : decode cX7_reckonChains 115 = .ok (.aload_n 0, 1) := by decide +kernel
theorem dX7_reckonChains_116 : decode cX7_reckonChains 116 = .ok (.getfield 84, 3) := by decide +kernel
theorem dX7_reckonChains_119 : decode cX7_reckonChains 119 = .ok (.getfield 104, 3) := by decide +kernel
theorem dX7_reckonChains_122 : decode cX7_reckonChains 122 = .ok (.iload_n 2, 1) := by decide +kernel
theorem dX7_reckonChains_123 : decode cX7_reckonChains 123 = .ok (.iaload, 1) := by decide +kernel
theorem dX7_reckonChains_124 : decode cX7_reckonChains 124 = .ok (.invokestatic 107, 3) := by decide +kernel
theorem dX7_reckonChains_127 : decode cX7_reckonChains 127 = .ok (.istore_n 1, 1) := by decide +kernel
theorem dX7_reckonChains_128 : decode cX7_reckonChains 128 = .ok (.iinc 2 (-1), 3) := by decide +kernel
theorem dX7_reckonChains_131 : decode cX7_reckonChains 131 = .ok (.goto (-117), 3) := by decide +kernel
theorem dX7_reckonChains_134 : decode cX7_reckonChains 134 = .ok (.iload_n 1, 1) := by decide +kernel
theorem dX7_reckonChains_135 : decode cX7_reckonChains 135 = .ok (.ireturn, 1) := by decide +kernel
set_option maxRecDepth 20000 in
theorem ggX7_asked_X7_hasBuilder : GoodIn wsX7_asked wsX7_hasBuilder := goodIn_r _ [23, 24, 63, 64, 65, 66, 67, 68, 69, 70, 71, 72, 73, 74, 75, 76, 77, 78, 79, 80, 81, 82] (by decide +kernel) (by decide +kernel)
set_option maxRecDepth 20000 in
theorem gX7_asked_X7_hasBuilder : GoodIn wsX7_asked (wsV RX7 113 RX7 yX7_hasBuilder wsX7_hasBuilder) := goodIn_app (goodIn_of _ (by decide +kernel)) ggX7_asked_X7_hasBuilder
set_option maxRecDepth 20000 in
theorem ggX7_asked_X7_hasPart : GoodIn wsX7_asked wsX7_hasPart := goodIn_r _ [28, 29, 63, 64, 65, 66, 67, 68, 69, 70, 71, 72, 73, 74, 75, 76, 77, 78, 79, 80, 81, 82] (by decide +kernel) (by decide +kernel)
set_option maxRecDepth 20000 in
theorem gX7_asked_X7_hasPart : GoodIn wsX7_asked (wsV RX7 117 RX7 yX7_hasPart wsX7_hasPart) := goodIn_app (goodIn_of _ (by decide +kernel)) ggX7_asked_X7_hasPart
set_option maxRecDepth 20000 in
theorem ggX7_asked_X7_withoutLaw : GoodIn wsX7_asked wsX7_withoutLaw := goodIn_r _ [33, 34, 35, 36, 37, 22, 38, 39, 40, 63, 64, 65, 66, 67, 68, 69, 70, 71, 72, 73, 74, 75, 76, 77, 78, 79, 80, 81, 82] (by decide +kernel) (by decide +kernel)
set_option maxRecDepth 20000 in
theorem gX7_asked_X7_withoutLaw : GoodIn wsX7_asked (wsV RX7 120 RX7 yX7_withoutLaw wsX7_withoutLaw) := goodIn_app (goodIn_of _ (by decide +kernel)) ggX7_asked_X7_withoutLaw
set_option maxRecDepth 20000 in
theorem ggX7_asked_X7_writeWords : GoodIn wsX7_asked wsX7_writeWords := goodIn_r _ [44, 24, 45, 9, 10, 34, 46, 39, 40, 47, 48, 49, 63, 64, 65, 66, 67, 68, 69, 70, 71, 72, 73, 74, 75, 76, 77, 78, 79, 80, 81, 82, 89, 90, 91, 92, 93] (by decide +kernel) (by decide +kernel)
set_option maxRecDepth 20000 in
theorem gX7_asked_X7_writeWords : GoodIn wsX7_asked (wsV RX7 130 RX7 yX7_writeWords wsX7_writeWords) := goodIn_app (goodIn_of _ (by decide +kernel)) ggX7_asked_X7_writeWords
set_option maxRecDepth 20000 in
theorem ggX7_asked_X10_reckon : GoodIn wsX7_asked wsX10_reckon := goodIn_r _ [54, 55, 56, 57, 58, 59, 53, 60, 61, 62, 83, 84, 85, 86, 87, 88] (by decide +kernel) (by decide +kernel)
set_option maxRecDepth 20000 in
theorem gX7_asked_X10_reckon : GoodIn wsX7_asked (wsV RX7 141 RX10 yX10_reckon wsX10_reckon) := goodIn_app (goodIn_of _ (by decide +kernel)) ggX7_asked_X10_reckon
theorem dX7_asked_0 : decode cX7_asked 0 = .ok (.iload_n 1, 1) := by decide +kernel
theorem dX7_asked_1 : decode cX7_asked 1 = .ok (.ifCond .lt 27, 3) := by decide +kernel
theorem dX7_asked_4 : decode cX7_asked 4 = .ok (.iload_n 1, 1) := by decide +kernel
theorem dX7_asked_5 : decode cX7_asked 5 = .ok (.getstatic 110, 3) := by decide +kernel
theorem dX7_asked_8 : decode cX7_asked 8 = .ok (.arraylength, 1) := by decide +kernel
theorem dX7_asked_9 : decode cX7_asked 9 = .ok (.if_icmp .ge 19, 3) := by decide +kernel
theorem dX7_asked_12 : decode cX7_asked 12 = .ok (.aload_n 0, 1) := by decide +kernel
theorem dX7_asked_13 : decode cX7_asked 13 = .ok (.iload_n 2, 1) := by decide +kernel
theorem dX7_asked_14 : decode cX7_asked 14 = .ok (.invokevirtual 113, 3) := by decide +kernel
theorem dX7_asked_17 : decode cX7_asked 17 = .ok (.ifCond .eq 11, 3) := by decide +kernel
theorem dX7_asked_20 : decode cX7_asked 20 = .ok (.aload_n 0, 1) := by decide +kernel
theorem dX7_asked_21 : decode cX7_asked 21 = .ok (.iload_n 3, 1) := by decide +kernel
theorem dX7_asked_22 : decode cX7_asked 22 = .ok (.invokevirtual 117, 3) := by decide +kernel
theorem dX7_asked_25 : decode cX7_asked 25 = .ok (.ifCond .ne 5, 3) := by decide +kernel
theorem dX7_asked_28 : decode cX7_asked 28 = .ok (.iconst 0, 1) := by decide +kernel
theorem dX7_asked_29 : decode cX7_asked 29 = .ok (.ireturn, 1) := by decide +kernel
theorem dX7_asked_30 : decode cX7_asked 30 = .ok (.aload_n 0, 1) := by decide +kernel
theorem dX7_asked_31 : decode cX7_asked 31 = .ok (.getfield 78, 3) := by decide +kernel
theorem dX7_asked_34 : decode cX7_asked 34 = .ok (.ifCond .lt 24, 3) := by decide +kernel
theorem dX7_asked_37 : decode cX7_asked 37 = .ok (.aload_n 0, 1) := by decide +kernel
theorem dX7_asked_38 : decode cX7_asked 38 = .ok (.getfield 78, 3) := by decide +kernel
theorem dX7_asked_41 : decode cX7_asked 41 = .ok (.bipush 6, 2) := by decide +kernel
theorem dX7_asked_43 : decode cX7_asked 43 = .ok (.if_icmp .ge 15, 3) := by decide +kernel
theorem dX7_asked_46 : decode cX7_asked 46 = .ok (.aload_n 0, 1) := by decide +kernel
theorem dX7_asked_47 : decode cX7_asked 47 = .ok (.getfield 71, 3) := by decide +kernel
theorem dX7_asked_50 : decode cX7_asked 50 = .ok (.aload_n 0, 1) := by decide +kernel
theorem dX7_asked_51 : decode cX7_asked 51 = .ok (.getfield 78, 3) := by decide +kernel
theorem dX7_asked_54 : decode cX7_asked 54 = .ok (.aaload, 1) := by decide +kernel
theorem dX7_asked_55 : decode cX7_asked 55 = .ok (.goto 4, 3) := by decide +kernel
theorem dX7_asked_58 : decode cX7_asked 58 = .ok (.aconst_null, 1) := by decide +kernel
theorem dX7_asked_59 : decode cX7_asked 59 = .ok (.astore 4, 2) := by decide +kernel
theorem dX7_asked_61 : decode cX7_asked 61 = .ok (.aload 4, 2) := by decide +kernel
theorem dX7_asked_63 : decode cX7_asked 63 = .ok (.ifnonnull 11, 3) := by decide +kernel
theorem dX7_asked_66 : decode cX7_asked 66 = .ok (.aload_n 0, 1) := by decide +kernel
theorem dX7_asked_67 : decode cX7_asked 67 = .ok (.iload_n 1, 1) := by decide +kernel
theorem dX7_asked_68 : decode cX7_asked 68 = .ok (.iload_n 2, 1) := by decide +kernel
theorem dX7_asked_69 : decode cX7_asked 69 = .ok (.iload_n 3, 1) := by decide +kernel
theorem dX7_asked_70 : decode cX7_asked 70 = .ok (.invokevirtual 120, 3) := by decide +kernel
theorem dX7_asked_73 : decode cX7_asked 73 = .ok (.ireturn, 1) := by decide +kernel
theorem dX7_asked_74 : decode cX7_asked 74 = .ok (.iconst 0, 1) := by decide +kernel
theorem dX7_asked_75 : decode cX7_asked 75 = .ok (.istore 5, 2) := by decide +kernel
theorem dX7_asked_77 : decode cX7_asked 77 = .ok (.aload 4, 2) := by decide +kernel
theorem dX7_asked_79 : decode cX7_asked 79 = .ok (.getfield 124, 3) := by decide +kernel
theorem dX7_asked_82 : decode cX7_asked 82 = .ok (.bipush 12, 2) := by decide +kernel
theorem dX7_asked_84 : decode cX7_asked 84 = .ok (.invokestatic 98, 3) := by decide +kernel
theorem dX7_asked_87 : decode cX7_asked 87 = .ok (.iconst 1, 1) := by decide +kernel
theorem dX7_asked_88 : decode cX7_asked 88 = .ok (.isub, 1) := by decide +kernel
theorem dX7_asked_89 : decode cX7_asked 89 = .ok (.istore 6, 2) := by decide +kernel
theorem dX7_asked_91 : decode cX7_asked 91 = .ok (.iload 6, 2) := by decide +kernel
theorem dX7_asked_93 : decode cX7_asked 93 = .ok (.ifCond .lt 115, 3) := by decide +kernel
theorem dX7_asked_96 : decode cX7_asked 96 = .ok (.aload 4, 2) := by decide +kernel
theorem dX7_asked_98 : decode cX7_asked 98 = .ok (.getfield 127, 3) := by decide +kernel
theorem dX7_asked_101 : decode cX7_asked 101 = .ok (.iload 6, 2) := by decide +kernel
theorem dX7_asked_103 : decode cX7_asked 103 = .ok (.iaload, 1) := by decide +kernel
theorem dX7_asked_104 : decode cX7_asked 104 = .ok (.iload_n 1, 1) := by decide +kernel
theorem dX7_asked_105 : decode cX7_asked 105 = .ok (.if_icmp .eq 6, 3) := by decide +kernel
theorem dX7_asked_108 : decode cX7_asked 108 = .ok (.goto 94, 3) := by decide +kernel
theorem dX7_asked_111 : decode cX7_asked 111 = .ok (.iload 5, 2) := by decide +kernel
theorem dX7_asked_113 : decode cX7_asked 113 = .ok (.ifCond .ne 12, 3) := by decide +kernel
theorem dX7_asked_116 : decode cX7_asked 116 = .ok (.aload_n 0, 1) := by decide +kernel
theorem dX7_asked_117 : decode cX7_asked 117 = .ok (.iload_n 2, 1) := by decide +kernel
theorem dX7_asked_118 : decode cX7_asked 118 = .ok (.iload_n 3, 1) := by decide +kernel
theorem dX7_asked_119 : decode cX7_asked 119 = .ok (.invokevirtual 130, 3) := by decide +kernel
theorem dX7_asked_122 : decode cX7_asked 122 = .ok (.iconst 1, 1) := by decide +kernel
theorem dX7_asked_123 : decode cX7_asked 123 = .ok (.istore 5, 2) := by decide +kernel
theorem dX7_asked_125 : decode cX7_asked 125 = .ok (.aload 4, 2) := by decide +kernel
theorem dX7_asked_127 : decode cX7_asked 127 = .ok (.iload 6, 2) := by decide +kernel
theorem dX7_asked_129 : decode cX7_asked 129 = .ok (.iconst 2, 1) := by decide +kernel
theorem dX7_asked_130 : decode cX7_asked 130 = .ok (.aload_n 0, 1) := by decide +kernel
theorem dX7_asked_131 : decode cX7_asked 131 = .ok (.getfield 84, 3) := by decide +kernel
theorem dX7_asked_134 : decode cX7_asked 134 = .ok (.getfield 134, 3) := by decide +kernel
theorem dX7_asked_137 : decode cX7_asked 137 = .ok (.aload_n 0, 1) := by decide +kernel
theorem dX7_asked_138 : decode cX7_asked 138 = .ok (.getfield 84, 3) := by decide +kernel
theorem dX7_asked_141 : decode cX7_asked 141 = .ok (.getfield 138, 3) := by decide +kernel
theorem dX7_asked_144 : decode cX7_asked 144 = .ok (.invokevirtual 141, 3) := by decide +kernel
theorem dX7_asked_147 : decode cX7_asked 147 = .ok (.lconst 1, 1) := by decide +kernel
theorem dX7_asked_148 : decode cX7_asked 148 = .ok (.lcmp, 1) := by decide +kernel
theorem dX7_asked_149 : decode cX7_asked 149 = .ok (.ifCond .ne 53, 3) := by decide +kernel
theorem dX7_asked_152 : decode cX7_asked 152 = .ok (.aload 4, 2) := by decide +kernel
theorem dX7_asked_154 : decode cX7_asked 154 = .ok (.iload 6, 2) := by decide +kernel
theorem dX7_asked_156 : decode cX7_asked 156 = .ok (.iconst 0, 1) := by decide +kernel
theorem dX7_asked_157 : decode cX7_asked 157 = .ok (.aload_n 0, 1) := by decide +kernel
theorem dX7_asked_158 : decode cX7_asked 158 = .ok (.getfield 84, 3) := by decide +kernel
theorem dX7_asked_161 : decode cX7_asked 161 = .ok (.getfield 134, 3) := by decide +kernel
theorem dX7_asked_164 : decode cX7_asked 164 = .ok (.aload_n 0, 1) := by decide +kernel
theorem dX7_asked_165 : decode cX7_asked 165 = .ok (.getfield 84, 3) := by decide +kernel
theorem dX7_asked_168 : decode cX7_asked 168 = .ok (.getfield 138, 3) := by decide +kernel
theorem dX7_asked_171 : decode cX7_asked 171 = .ok (.invokevirtual 141, 3) := by decide +kernel
theorem dX7_asked_174 : decode cX7_asked 174 = .ok (.lstore 7, 2) := by decide +kernel
theorem dX7_asked_176 : decode cX7_asked 176 = .ok (.lload 7, 2) := by decide +kernel
theorem dX7_asked_178 : decode cX7_asked 178 = .ok (.ldc2_w 145, 3) := by decide +kernel
theorem dX7_asked_181 : decode cX7_asked 181 = .ok (.lcmp, 1) := by decide +kernel
theorem dX7_asked_182 : decode cX7_asked 182 = .ok (.ifCond .eq 20, 3) := by decide +kernel
theorem dX7_asked_185 : decode cX7_asked 185 = .ok (.lconst 0, 1) := by decide +kernel
theorem dX7_asked_186 : decode cX7_asked 186 = .ok (.getstatic 110, 3) := by decide +kernel
theorem dX7_asked_189 : decode cX7_asked 189 = .ok (.iload_n 1, 1) := by decide +kernel
theorem dX7_asked_190 : decode cX7_asked 190 = .ok (.iaload, 1) := by decide +kernel
theorem dX7_asked_191 : decode cX7_asked 191 = .ok (.i2l, 1) := by decide +kernel
theorem dX7_asked_192 : decode cX7_asked 192 = .ok (.lload 7, 2) := by decide +kernel
theorem dX7_asked_194 : decode cX7_asked 194 = .ok (.invokestatic 147, 3) := by decide +kernel
theorem dX7_asked_197 : decode cX7_asked 197 = .ok (.invokestatic 150, 3) := by decide +kernel
theorem dX7_asked_200 : decode cX7_asked 200 = .ok (.l2i, 1) := by decide +kernel
theorem dX7_asked_201 : decode cX7_asked 201 = .ok (.ireturn, 1) := by decide +kernel
theorem dX7_asked_202 : decode cX7_asked 202 = .ok (.iinc 6 (-1), 3) := by decide +kernel
theorem dX7_asked_205 : decode cX7_asked 205 = .ok (.goto (-114), 3) := by decide +kernel
theorem dX7_asked_208 : decode cX7_asked 208 = .ok (.aload_n 0, 1) := by decide +kernel
theorem dX7_asked_209 : decode cX7_asked 209 = .ok (.iload_n 1, 1) := by decide +kernel
theorem dX7_asked_210 : decode cX7_asked 210 = .ok (.iload_n 2, 1) := by decide +kernel
theorem dX7_asked_211 : decode cX7_asked 211 = .ok (.iload_n 3, 1) := by decide +kernel
theorem dX7_asked_212 : decode cX7_asked 212 = .ok (.invokevirtual 120, 3) := by decide +kernel
theorem dX7_asked_215 : decode cX7_asked 215 = .ok (.ireturn, 1) := by decide +kernel
set_option maxRecDepth 20000 in
theorem ggX7_withoutLaw_X7_hasCraft : GoodIn wsX7_withoutLaw wsX7_hasCraft := goodIn_r _ [6, 7, 8, 9, 10, 11, 12, 13, 14, 15, 16, 17, 18, 19, 20, 21, 22, 23, 24, 25, 26, 27, 28] (by decide +kernel) (by decide +kernel)
set_option maxRecDepth 20000 in
theorem gX7_withoutLaw_X7_hasCraft : GoodIn wsX7_withoutLaw (wsV RX7 152 RX7 yX7_hasCraft wsX7_hasCraft) := goodIn_app (goodIn_of _ (by decide +kernel)) ggX7_withoutLaw_X7_hasCraft
theorem dX7_withoutLaw_0 : decode cX7_withoutLaw 0 = .ok (.iload_n 1, 1) := by decide +kernel
theorem dX7_withoutLaw_1 : decode cX7_withoutLaw 1 = .ok (.ifCond .ne 23, 3) := by decide +kernel
theorem dX7_withoutLaw_4 : decode cX7_withoutLaw 4 = .ok (.aload_n 0, 1) := by decide +kernel
theorem dX7_withoutLaw_5 : decode cX7_withoutLaw 5 = .ok (.iload_n 2, 1) := by decide +kernel
theorem dX7_withoutLaw_6 : decode cX7_withoutLaw 6 = .ok (.iload_n 3, 1) := by decide +kernel
theorem dX7_withoutLaw_7 : decode cX7_withoutLaw 7 = .ok (.invokevirtual 152, 3) := by decide +kernel
theorem dX7_withoutLaw_10 : decode cX7_withoutLaw 10 = .ok (.ifCond .eq 12, 3) := by decide +kernel
theorem dX7_withoutLaw_13 : decode cX7_withoutLaw 13 = .ok (.aload_n 0, 1) := by decide +kernel
theorem dX7_withoutLaw_14 : decode cX7_withoutLaw 14 = .ok (.getfield 37, 3) := by decide +kernel
theorem dX7_withoutLaw_17 : decode cX7_withoutLaw 17 = .ok (.iload_n 2, 1) := by decide +kernel
theorem dX7_withoutLaw_18 : decode cX7_withoutLaw 18 = .ok (.iaload, 1) := by decide +kernel
theorem dX7_withoutLaw_19 : decode cX7_withoutLaw 19 = .ok (.goto 4, 3) := by decide +kernel
theorem dX7_withoutLaw_22 : decode cX7_withoutLaw 22 = .ok (.iconst 0, 1) := by decide +kernel
theorem dX7_withoutLaw_23 : decode cX7_withoutLaw 23 = .ok (.ireturn, 1) := by decide +kernel
theorem dX7_withoutLaw_24 : decode cX7_withoutLaw 24 = .ok (.iload_n 1, 1) := by decide +kernel
theorem dX7_withoutLaw_25 : decode cX7_withoutLaw 25 = .ok (.iconst 3, 1) := by decide +kernel
theorem dX7_withoutLaw_26 : decode cX7_withoutLaw 26 = .ok (.if_icmp .ne 7, 3) := by decide +kernel
theorem dX7_withoutLaw_29 : decode cX7_withoutLaw 29 = .ok (.iconst 0, 1) := by decide +kernel
theorem dX7_withoutLaw_30 : decode cX7_withoutLaw 30 = .ok (.goto 4, 3) := by decide +kernel
theorem dX7_withoutLaw_33 : decode cX7_withoutLaw 33 = .ok (.iconst 1, 1) := by decide +kernel
theorem dX7_withoutLaw_34 : decode cX7_withoutLaw 34 = .ok (.ireturn, 1) := by decide +kernel
theorem dX7_hasCraft_0 : decode cX7_hasCraft 0 = .ok (.aload_n 0, 1) := by decide +kernel
theorem dX7_hasCraft_1 : decode cX7_hasCraft 1 = .ok (.getfield 34, 3) := by decide +kernel
theorem dX7_hasCraft_4 : decode cX7_hasCraft 4 = .ok (.iload_n 1, 1) := by decide +kernel
theorem dX7_hasCraft_5 : decode cX7_hasCraft 5 = .ok (.iaload, 1) := by decide +kernel
theorem dX7_hasCraft_6 : decode cX7_hasCraft 6 = .ok (.aload_n 0, 1) := by decide +kernel
theorem dX7_hasCraft_7 : decode cX7_hasCraft 7 = .ok (.getfield 22, 3) := by decide +kernel
theorem dX7_hasCraft_10 : decode cX7_hasCraft 10 = .ok (.iload_n 2, 1) := by decide +kernel
theorem dX7_hasCraft_11 : decode cX7_hasCraft 11 = .ok (.iaload, 1) := by decide +kernel
theorem dX7_hasCraft_12 : decode cX7_hasCraft 12 = .ok (.ishr, 1) := by decide +kernel
theorem dX7_hasCraft_13 : decode cX7_hasCraft 13 = .ok (.iconst 1, 1) := by decide +kernel
theorem dX7_hasCraft_14 : decode cX7_hasCraft 14 = .ok (.iand, 1) := by decide +kernel
theorem dX7_hasCraft_15 : decode cX7_hasCraft 15 = .ok (.iconst 1, 1) := by decide +kernel
theorem dX7_hasCraft_16 : decode cX7_hasCraft 16 = .ok (.if_icmp .ne 7, 3) := by decide +kernel
theorem dX7_hasCraft_19 : decode cX7_hasCraft 19 = .ok (.iconst 1, 1) := by decide +kernel
theorem dX7_hasCraft_20 : decode cX7_hasCraft 20 = .ok (.goto 4, 3) := by decide +kernel
theorem dX7_hasCraft_23 : decode cX7_hasCraft 23 = .ok (.iconst 0, 1) := by decide +kernel
theorem dX7_hasCraft_24 : decode cX7_hasCraft 24 = .ok (.ireturn, 1) := by decide +kernel
theorem dX7_writeWords_0 : decode cX7_writeWords 0 = .ok (.iconst 0, 1) := by decide +kernel
theorem dX7_writeWords_1 : decode cX7_writeWords 1 = .ok (.istore_n 3, 1) := by decide +kernel
theorem dX7_writeWords_2 : decode cX7_writeWords 2 = .ok (.iconst 0, 1) := by decide +kernel
theorem dX7_writeWords_3 : decode cX7_writeWords 3 = .ok (.istore 4, 2) := by decide +kernel
theorem dX7_writeWords_5 : decode cX7_writeWords 5 = .ok (.iload 4, 2) := by decide +kernel
theorem dX7_writeWords_7 : decode cX7_writeWords 7 = .ok (.aload_n 0, 1) := by decide +kernel
theorem dX7_writeWords_8 : decode cX7_writeWords 8 = .ok (.getfield 31, 3) := by decide +kernel
theorem dX7_writeWords_11 : decode cX7_writeWords 11 = .ok (.if_icmp .ge 36, 3) := by decide +kernel
theorem dX7_writeWords_14 : decode cX7_writeWords 14 = .ok (.iload 4, 2) := by decide +kernel
theorem dX7_writeWords_16 : decode cX7_writeWords 16 = .ok (.bipush 6, 2) := by decide +kernel
theorem dX7_writeWords_18 : decode cX7_writeWords 18 = .ok (.if_icmp .ge 29, 3) := by decide +kernel
theorem dX7_writeWords_21 : decode cX7_writeWords 21 = .ok (.iload 4, 2) := by decide +kernel
theorem dX7_writeWords_23 : decode cX7_writeWords 23 = .ok (.iload_n 1, 1) := by decide +kernel
theorem dX7_writeWords_24 : decode cX7_writeWords 24 = .ok (.if_icmp .eq 17, 3) := by decide +kernel
theorem dX7_writeWords_27 : decode cX7_writeWords 27 = .ok (.aload_n 0, 1) := by decide +kernel
theorem dX7_writeWords_28 : decode cX7_writeWords 28 = .ok (.getfield 43, 3) := by decide +kernel
theorem dX7_writeWords_31 : decode cX7_writeWords 31 = .ok (.iload 4, 2) := by decide +kernel
theorem dX7_writeWords_33 : decode cX7_writeWords 33 = .ok (.iaload, 1) := by decide +kernel
theorem dX7_writeWords_34 : decode cX7_writeWords 34 = .ok (.iload_n 2, 1) := by decide +kernel
theorem dX7_writeWords_35 : decode cX7_writeWords 35 = .ok (.if_icmp .ne 6, 3) := by decide +kernel
theorem dX7_writeWords_38 : decode cX7_writeWords 38 = .ok (.iinc 3 1, 3) := by decide +kernel
theorem dX7_writeWords_41 : decode cX7_writeWords 41 = .ok (.iinc 4 1, 3) := by decide +kernel
theorem dX7_writeWords_44 : decode cX7_writeWords 44 = .ok (.goto (-39), 3) := by decide +kernel
theorem dX7_writeWords_47 : decode cX7_writeWords 47 = .ok (.aload_n 0, 1) := by decide +kernel
theorem dX7_writeWords_48 : decode cX7_writeWords 48 = .ok (.getfield 84, 3) := by decide +kernel
theorem dX7_writeWords_51 : decode cX7_writeWords 51 = .ok (.getfield 134, 3) := by decide +kernel
theorem dX7_writeWords_54 : decode cX7_writeWords 54 = .ok (.iconst 0, 1) := by decide +kernel
theorem dX7_writeWords_55 : decode cX7_writeWords 55 = .ok (.iload_n 1, 1) := by decide +kernel
theorem dX7_writeWords_56 : decode cX7_writeWords 56 = .ok (.i2l, 1) := by decide +kernel
theorem dX7_writeWords_57 : decode cX7_writeWords 57 = .ok (.lastore, 1) := by decide +kernel
theorem dX7_writeWords_58 : decode cX7_writeWords 58 = .ok (.aload_n 0, 1) := by decide +kernel
theorem dX7_writeWords_59 : decode cX7_writeWords 59 = .ok (.getfield 84, 3) := by decide +kernel
theorem dX7_writeWords_62 : decode cX7_writeWords 62 = .ok (.getfield 134, 3) := by decide +kernel
theorem dX7_writeWords_65 : decode cX7_writeWords 65 = .ok (.iconst 1, 1) := by decide +kernel
theorem dX7_writeWords_66 : decode cX7_writeWords 66 = .ok (.aload_n 0, 1) := by decide +kernel
theorem dX7_writeWords_67 : decode cX7_writeWords 67 = .ok (.getfield 37, 3) := by decide +kernel
theorem dX7_writeWords_70 : decode cX7_writeWords 70 = .ok (.iload_n 1, 1) := by decide +kernel
theorem dX7_writeWords_71 : decode cX7_writeWords 71 = .ok (.iaload, 1) := by decide +kernel
theorem dX7_writeWords_72 : decode cX7_writeWords 72 = .ok (.i2l, 1) := by decide +kernel
theorem dX7_writeWords_73 : decode cX7_writeWords 73 = .ok (.lastore, 1) := by decide +kernel
theorem dX7_writeWords_74 : decode cX7_writeWords 74 = .ok (.aload_n 0, 1) := by decide +kernel
theorem dX7_writeWords_75 : decode cX7_writeWords 75 = .ok (.getfield 84, 3) := by decide +kernel
theorem dX7_writeWords_78 : decode cX7_writeWords 78 = .ok (.getfield 134, 3) := by decide +kernel
theorem dX7_writeWords_81 : decode cX7_writeWords 81 = .ok (.iconst 2, 1) := by decide +kernel
theorem dX7_writeWords_82 : decode cX7_writeWords 82 = .ok (.aload_n 0, 1) := by decide +kernel
theorem dX7_writeWords_83 : decode cX7_writeWords 83 = .ok (.getfield 40, 3) := by decide +kernel
theorem dX7_writeWords_86 : decode cX7_writeWords 86 = .ok (.iload_n 1, 1) := by decide +kernel
theorem dX7_writeWords_87 : decode cX7_writeWords 87 = .ok (.iaload, 1) := by decide +kernel
theorem dX7_writeWords_88 : decode cX7_writeWords 88 = .ok (.i2l, 1) := by decide +kernel
theorem dX7_writeWords_89 : decode cX7_writeWords 89 = .ok (.lastore, 1) := by decide +kernel
theorem dX7_writeWords_90 : decode cX7_writeWords 90 = .ok (.aload_n 0, 1) := by decide +kernel
theorem dX7_writeWords_91 : decode cX7_writeWords 91 = .ok (.getfield 84, 3) := by decide +kernel
theorem dX7_writeWords_94 : decode cX7_writeWords 94 = .ok (.getfield 134, 3) := by decide +kernel
theorem dX7_writeWords_97 : decode cX7_writeWords 97 = .ok (.iconst 3, 1) := by decide +kernel
theorem dX7_writeWords_98 : decode cX7_writeWords 98 = .ok (.iload_n 2, 1) := by decide +kernel
theorem dX7_writeWords_99 : decode cX7_writeWords 99 = .ok (.i2l, 1) := by decide +kernel
theorem dX7_writeWords_100 : decode cX7_writeWords 100 = .ok (.lastore, 1) := by decide +kernel
theorem dX7_writeWords_101 : decode cX7_writeWords 101 = .ok (.aload_n 0, 1) := by decide +kernel
theorem dX7_writeWords_102 : decode cX7_writeWords 102 = .ok (.getfield 84, 3) := by decide +kernel
theorem dX7_writeWords_105 : decode cX7_writeWords 105 = .ok (.getfield 134, 3) := by decide +kernel
theorem dX7_writeWords_108 : decode cX7_writeWords 108 = .ok (.iconst 4, 1) := by decide +kernel
theorem dX7_writeWords_109 : decode cX7_writeWords 109 = .ok (.aload_n 0, 1) := by decide +kernel
theorem dX7_writeWords_110 : decode cX7_writeWords 110 = .ok (.getfield 34, 3) := by decide +kernel
theorem dX7_writeWords_113 : decode cX7_writeWords 113 = .ok (.iload_n 1, 1) := by decide +kernel
theorem dX7_writeWords_114 : decode cX7_writeWords 114 = .ok (.iaload, 1) := by decide +kernel
theorem dX7_writeWords_115 : decode cX7_writeWords 115 = .ok (.aload_n 0, 1) := by decide +kernel
theorem dX7_writeWords_116 : decode cX7_writeWords 116 = .ok (.getfield 22, 3) := by decide +kernel
theorem dX7_writeWords_119 : decode cX7_writeWords 119 = .ok (.iload_n 2, 1) := by decide +kernel
theorem dX7_writeWords_120 : decode cX7_writeWords 120 = .ok (.iaload, 1) := by decide +kernel
theorem dX7_writeWords_121 : decode cX7_writeWords 121 = .ok (.ishr, 1) := by decide +kernel
theorem dX7_writeWords_122 : decode cX7_writeWords 122 = .ok (.iconst 1, 1) := by decide +kernel
theorem dX7_writeWords_123 : decode cX7_writeWords 123 = .ok (.iand, 1) := by decide +kernel
theorem dX7_writeWords_124 : decode cX7_writeWords 124 = .ok (.i2l, 1) := by decide +kernel
theorem dX7_writeWords_125 : decode cX7_writeWords 125 = .ok (.lastore, 1) := by decide +kernel
theorem dX7_writeWords_126 : decode cX7_writeWords 126 = .ok (.aload_n 0, 1) := by decide +kernel
theorem dX7_writeWords_127 : decode cX7_writeWords 127 = .ok (.getfield 84, 3) := by decide +kernel
theorem dX7_writeWords_130 : decode cX7_writeWords 130 = .ok (.getfield 134, 3) := by decide +kernel
theorem dX7_writeWords_133 : decode cX7_writeWords 133 = .ok (.iconst 5, 1) := by decide +kernel
theorem dX7_writeWords_134 : decode cX7_writeWords 134 = .ok (.aload_n 0, 1) := by decide +kernel
theorem dX7_writeWords_135 : decode cX7_writeWords 135 = .ok (.getfield 25, 3) := by decide +kernel
theorem dX7_writeWords_138 : decode cX7_writeWords 138 = .ok (.iload_n 2, 1) := by decide +kernel
theorem dX7_writeWords_139 : decode cX7_writeWords 139 = .ok (.iaload, 1) := by decide +kernel
theorem dX7_writeWords_140 : decode cX7_writeWords 140 = .ok (.i2l, 1) := by decide +kernel
theorem dX7_writeWords_141 : decode cX7_writeWords 141 = .ok (.lastore, 1) := by decide +kernel
theorem dX7_writeWords_142 : decode cX7_writeWords 142 = .ok (.aload_n 0, 1) := by decide +kernel
theorem dX7_writeWords_143 : decode cX7_writeWords 143 = .ok (.getfield 84, 3) := by decide +kernel
theorem dX7_writeWords_146 : decode cX7_writeWords 146 = .ok (.getfield 134, 3) := by decide +kernel
theorem dX7_writeWords_149 : decode cX7_writeWords 149 = .ok (.bipush 6, 2) := by decide +kernel
theorem dX7_writeWords_151 : decode cX7_writeWords 151 = .ok (.aload_n 0, 1) := by decide +kernel
theorem dX7_writeWords_152 : decode cX7_writeWords 152 = .ok (.getfield 28, 3) := by decide +kernel
theorem dX7_writeWords_155 : decode cX7_writeWords 155 = .ok (.iload_n 2, 1) := by decide +kernel
theorem dX7_writeWords_156 : decode cX7_writeWords 156 = .ok (.iaload, 1) := by decide +kernel
theorem dX7_writeWords_157 : decode cX7_writeWords 157 = .ok (.i2l, 1) := by decide +kernel
theorem dX7_writeWords_158 : decode cX7_writeWords 158 = .ok (.lastore, 1) := by decide +kernel
theorem dX7_writeWords_159 : decode cX7_writeWords 159 = .ok (.aload_n 0, 1) := by decide +kernel
theorem dX7_writeWords_160 : decode cX7_writeWords 160 = .ok (.getfield 84, 3) := by decide +kernel
theorem dX7_writeWords_163 : decode cX7_writeWords 163 = .ok (.getfield 134, 3) := by decide +kernel
theorem dX7_writeWords_166 : decode cX7_writeWords 166 = .ok (.bipush 7, 2) := by decide +kernel
theorem dX7_writeWords_168 : decode cX7_writeWords 168 = .ok (.iload_n 3, 1) := by decide +kernel
theorem dX7_writeWords_169 : decode cX7_writeWords 169 = .ok (.i2l, 1) := by decide +kernel
theorem dX7_writeWords_170 : decode cX7_writeWords 170 = .ok (.lastore, 1) := by decide +kernel
theorem dX7_writeWords_171 : decode cX7_writeWords 171 = .ok (.aload_n 0, 1) := by decide +kernel
theorem dX7_writeWords_172 : decode cX7_writeWords 172 = .ok (.getfield 84, 3) := by decide +kernel
theorem dX7_writeWords_175 : decode cX7_writeWords 175 = .ok (.getfield 134, 3) := by decide +kernel
theorem dX7_writeWords_178 : decode cX7_writeWords 178 = .ok (.bipush 8, 2) := by decide +kernel
theorem dX7_writeWords_180 : decode cX7_writeWords 180 = .ok (.aload_n 0, 1) := by decide +kernel
theorem dX7_writeWords_181 : decode cX7_writeWords 181 = .ok (.getfield 54, 3) := by decide +kernel
theorem dX7_writeWords_184 : decode cX7_writeWords 184 = .ok (.iconst 0, 1) := by decide +kernel
theorem dX7_writeWords_185 : decode cX7_writeWords 185 = .ok (.iaload, 1) := by decide +kernel
theorem dX7_writeWords_186 : decode cX7_writeWords 186 = .ok (.i2l, 1) := by decide +kernel
theorem dX7_writeWords_187 : decode cX7_writeWords 187 = .ok (.lastore, 1) := by decide +kernel
theorem dX7_writeWords_188 : decode cX7_writeWords 188 = .ok (.aload_n 0, 1) := by decide +kernel
theorem dX7_writeWords_189 : decode cX7_writeWords 189 = .ok (.getfield 84, 3) := by decide +kernel
theorem dX7_writeWords_192 : decode cX7_writeWords 192 = .ok (.getfield 134, 3) := by decide +kernel
theorem dX7_writeWords_195 : decode cX7_writeWords 195 = .ok (.bipush 9, 2) := by decide +kernel
theorem dX7_writeWords_197 : decode cX7_writeWords 197 = .ok (.aload_n 0, 1) := by decide +kernel
theorem dX7_writeWords_198 : decode cX7_writeWords 198 = .ok (.getfield 54, 3) := by decide +kernel
theorem dX7_writeWords_201 : decode cX7_writeWords 201 = .ok (.iconst 3, 1) := by decide +kernel
theorem dX7_writeWords_202 : decode cX7_writeWords 202 = .ok (.iaload, 1) := by decide +kernel
theorem dX7_writeWords_203 : decode cX7_writeWords 203 = .ok (.i2l, 1) := by decide +kernel
theorem dX7_writeWords_204 : decode cX7_writeWords 204 = .ok (.lastore, 1) := by decide +kernel
theorem dX7_writeWords_205 : decode cX7_writeWords 205 = .ok (.return_, 1) := by decide +kernel
set_option maxRecDepth 20000 in
theorem ggX7_workOneTick_X7_hasPart : GoodIn wsX7_workOneTick wsX7_hasPart := goodIn_r _ [20, 21, 83, 84, 85, 86, 87, 88, 89, 90, 91, 92, 93, 94, 95, 96, 97, 98, 99, 100, 101, 102] (by decide +kernel) (by decide +kernel)
set_option maxRecDepth 20000 in
theorem gX7_workOneTick_X7_hasPart : GoodIn wsX7_workOneTick (wsV RX7 117 RX7 yX7_hasPart wsX7_hasPart) := goodIn_app (goodIn_of _ (by decide +kernel)) ggX7_workOneTick_X7_hasPart
set_option maxRecDepth 20000 in
theorem ggX7_workOneTick_X7_asked : GoodIn wsX7_workOneTick wsX7_asked := goodIn_r _ [25, 26, 27, 28, 12, 13, 9, 14, 29, 3, 30, 31, 32, 33, 34, 35, 36, 37, 38, 39, 40, 41, 19, 42, 1, 16, 17, 18, 20, 21, 43, 44, 45, 46, 47, 48, 49, 50, 51, 52, 53, 54, 55, 56, 57, 2, 11, 58, 6, 15, 59, 60, 61, 62, 63, 64, 65, 66, 67, 68, 69, 70, 71, 83, 84, 85, 86, 87, 88, 89, 90, 91, 92, 93, 94, 95, 96, 97, 98, 99, 100, 101, 102, 108, 109, 110, 111, 112, 113, 103, 104, 105, 106, 107] (by decide +kernel) (by decide +kernel)
set_option maxRecDepth 20000 in
theorem gX7_workOneTick_X7_asked : GoodIn wsX7_workOneTick (wsV RX7 159 RX7 yX7_asked wsX7_asked) := goodIn_app (goodIn_of _ (by decide +kernel)) ggX7_workOneTick_X7_asked
set_option maxRecDepth 20000 in
theorem ggX7_workOneTick_X7_upMask : GoodIn wsX7_workOneTick wsX7_upMask := goodIn_r _ [75, 21, 6, 83, 84, 85, 86, 87, 88, 89, 90, 91, 92, 93, 94, 95, 96, 97, 98, 99, 100, 101, 102] (by decide +kernel) (by decide +kernel)
set_option maxRecDepth 20000 in
theorem gX7_workOneTick_X7_upMask : GoodIn wsX7_workOneTick (wsV RX7 94 RX7 yX7_upMask wsX7_upMask) := goodIn_app (goodIn_of _ (by decide +kernel)) ggX7_workOneTick_X7_upMask
set_option maxRecDepth 20000 in
theorem ggX7_workOneTick_J6_bitCount_0f7a4 : GoodIn wsX7_workOneTick wsJ6_bitCount_0f7a4 := goodIn_r _ [79, 80, 81, 82] (by decide +kernel) (by decide +kernel)
set_option maxRecDepth 20000 in
theorem gX7_workOneTick_J6_bitCount_0f7a4 : GoodIn wsX7_workOneTick (va_wsS RX7 165 yJ6_bitCount_0f7a4 wsJ6_bitCount_0f7a4) := goodIn_app (goodIn_of _ (by decide +kernel)) ggX7_workOneTick_J6_bitCount_0f7a4
theorem dX7_workOneTick_0 : decode cX7_workOneTick 0 = .ok (.iconst 0, 1) := by decide +kernel
theorem dX7_workOneTick_1 : decode cX7_workOneTick 1 = .ok (.istore_n 1, 1) := by decide +kernel
theorem dX7_workOneTick_2 : decode cX7_workOneTick 2 = .ok (.iload_n 1, 1) := by decide +kernel
theorem dX7_workOneTick_3 : decode cX7_workOneTick 3 = .ok (.aload_n 0, 1) := by decide +kernel
theorem dX7_workOneTick_4 : decode cX7_workOneTick 4 = .ok (.getfield 31, 3) := by decide +kernel
theorem dX7_workOneTick_7 : decode cX7_workOneTick 7 = .ok (.if_icmp .ge 70, 3) := by decide +kernel
theorem dX7_workOneTick_10 : decode cX7_workOneTick 10 = .ok (.iload_n 1, 1) := by decide +kernel
theorem dX7_workOneTick_11 : decode cX7_workOneTick 11 = .ok (.bipush 6, 2) := by decide +kernel
theorem dX7_workOneTick_13 : decode cX7_workOneTick 13 = .ok (.if_icmp .ge 64, 3) := by decide +kernel
theorem dX7_workOneTick_16 : decode cX7_workOneTick 16 = .ok (.aload_n 0, 1) := by decide +kernel
theorem dX7_workOneTick_17 : decode cX7_workOneTick 17 = .ok (.aload_n 0, 1) := by decide +kernel
theorem dX7_workOneTick_18 : decode cX7_workOneTick 18 = .ok (.getfield 43, 3) := by decide +kernel
theorem dX7_workOneTick_21 : decode cX7_workOneTick 21 = .ok (.iload_n 1, 1) := by decide +kernel
theorem dX7_workOneTick_22 : decode cX7_workOneTick 22 = .ok (.iaload, 1) := by decide +kernel
theorem dX7_workOneTick_23 : decode cX7_workOneTick 23 = .ok (.invokevirtual 117, 3) := by decide +kernel
theorem dX7_workOneTick_26 : decode cX7_workOneTick 26 = .ok (.ifCond .eq 45, 3) := by decide +kernel
theorem dX7_workOneTick_29 : decode cX7_workOneTick 29 = .ok (.aload_n 0, 1) := by decide +kernel
theorem dX7_workOneTick_30 : decode cX7_workOneTick 30 = .ok (.getfield 84, 3) := by decide +kernel
theorem dX7_workOneTick_33 : decode cX7_workOneTick 33 = .ok (.getfield 156, 3) := by decide +kernel
theorem dX7_workOneTick_36 : decode cX7_workOneTick 36 = .ok (.iload_n 1, 1) := by decide +kernel
theorem dX7_workOneTick_37 : decode cX7_workOneTick 37 = .ok (.aload_n 0, 1) := by decide +kernel
theorem dX7_workOneTick_38 : decode cX7_workOneTick 38 = .ok (.iconst 0, 1) := by decide +kernel
theorem dX7_workOneTick_39 : decode cX7_workOneTick 39 = .ok (.iload_n 1, 1) := by decide +kernel
theorem dX7_workOneTick_40 : decode cX7_workOneTick 40 = .ok (.aload_n 0, 1) := by decide +kernel
theorem dX7_workOneTick_41 : decode cX7_workOneTick 41 = .ok (.getfield 43, 3) := by decide +kernel
theorem dX7_workOneTick_44 : decode cX7_workOneTick 44 = .ok (.iload_n 1, 1) := by decide +kernel
theorem dX7_workOneTick_45 : decode cX7_workOneTick 45 = .ok (.iaload, 1) := by decide +kernel
theorem dX7_workOneTick_46 : decode cX7_workOneTick 46 = .ok (.invokevirtual 159, 3) := by decide +kernel
theorem dX7_workOneTick_49 : decode cX7_workOneTick 49 = .ok (.iastore, 1) := by decide +kernel
theorem dX7_workOneTick_50 : decode cX7_workOneTick 50 = .ok (.aload_n 0, 1) := by decide +kernel
theorem dX7_workOneTick_51 : decode cX7_workOneTick 51 = .ok (.getfield 84, 3) := by decide +kernel
theorem dX7_workOneTick_54 : decode cX7_workOneTick 54 = .ok (.getfield 162, 3) := by decide +kernel
theorem dX7_workOneTick_57 : decode cX7_workOneTick 57 = .ok (.iload_n 1, 1) := by decide +kernel
theorem dX7_workOneTick_58 : decode cX7_workOneTick 58 = .ok (.aload_n 0, 1) := by decide +kernel
theorem dX7_workOneTick_59 : decode cX7_workOneTick 59 = .ok (.iconst 1, 1) := by decide +kernel
theorem dX7_workOneTick_60 : decode cX7_workOneTick 60 = .ok (.iload_n 1, 1) := by decide +kernel
theorem dX7_workOneTick_61 : decode cX7_workOneTick 61 = .ok (.aload_n 0, 1) := by decide +kernel
theorem dX7_workOneTick_62 : decode cX7_workOneTick 62 = .ok (.getfield 43, 3) := by decide +kernel
theorem dX7_workOneTick_65 : decode cX7_workOneTick 65 = .ok (.iload_n 1, 1) := by decide +kernel
theorem dX7_workOneTick_66 : decode cX7_workOneTick 66 = .ok (.iaload, 1) := by decide +kernel
theorem dX7_workOneTick_67 : decode cX7_workOneTick 67 = .ok (.invokevirtual 159, 3) := by decide +kernel
theorem dX7_workOneTick_70 : decode cX7_workOneTick 70 = .ok (.iastore, 1) := by decide +kernel
theorem dX7_workOneTick_71 : decode cX7_workOneTick 71 = .ok (.iinc 1 1, 3) := by decide +kernel
theorem dX7_workOneTick_74 : decode cX7_workOneTick 74 = .ok (.goto (-72), 3) := by decide +kernel
theorem dX7_workOneTick_77 : decode cX7_workOneTick 77 = .ok (.aload_n 0, 1) := by decide +kernel
theorem dX7_workOneTick_78 : decode cX7_workOneTick 78 = .ok (.invokevirtual 94, 3) := by decide +kernel
theorem dX7_workOneTick_81 : decode cX7_workOneTick 81 = .ok (.istore_n 1, 1) := by decide +kernel
theorem dX7_workOneTick_82 : decode cX7_workOneTick 82 = .ok (.iconst 0, 1) := by decide +kernel
theorem dX7_workOneTick_83 : decode cX7_workOneTick 83 = .ok (.istore_n 2, 1) := by decide +kernel
theorem dX7_workOneTick_84 : decode cX7_workOneTick 84 = .ok (.iload_n 2, 1) := by decide +kernel
theorem dX7_workOneTick_85 : decode cX7_workOneTick 85 = .ok (.aload_n 0, 1) := by decide +kernel
theorem dX7_workOneTick_86 : decode cX7_workOneTick 86 = .ok (.getfield 31, 3) := by decide +kernel
theorem dX7_workOneTick_89 : decode cX7_workOneTick 89 = .ok (.if_icmp .ge 104, 3) := by decide +kernel
theorem dX7_workOneTick_92 : decode cX7_workOneTick 92 = .ok (.iload_n 2, 1) := by decide +kernel
theorem dX7_workOneTick_93 : decode cX7_workOneTick 93 = .ok (.bipush 6, 2) := by decide +kernel
theorem dX7_workOneTick_95 : decode cX7_workOneTick 95 = .ok (.if_icmp .ge 98, 3) := by decide +kernel
theorem dX7_workOneTick_98 : decode cX7_workOneTick 98 = .ok (.aload_n 0, 1) := by decide +kernel
theorem dX7_workOneTick_99 : decode cX7_workOneTick 99 = .ok (.getfield 43, 3) := by decide +kernel
theorem dX7_workOneTick_102 : decode cX7_workOneTick 102 = .ok (.iload_n 2, 1) := by decide +kernel
theorem dX7_workOneTick_103 : decode cX7_workOneTick 103 = .ok (.iaload, 1) := by decide +kernel
theorem dX7_workOneTick_104 : decode cX7_workOneTick 104 = .ok (.istore_n 3, 1) := by decide +kernel
theorem dX7_workOneTick_105 : decode cX7_workOneTick 105 = .ok (.aload_n 0, 1) := by decide +kernel
theorem dX7_workOneTick_106 : decode cX7_workOneTick 106 = .ok (.iload_n 3, 1) := by decide +kernel
theorem dX7_workOneTick_107 : decode cX7_workOneTick 107 = .ok (.invokevirtual 117, 3) := by decide +kernel
theorem dX7_workOneTick_110 : decode cX7_workOneTick 110 = .ok (.ifCond .eq 59, 3) := by decide +kernel
theorem dX7_workOneTick_113 : decode cX7_workOneTick 113 = .ok (.aload_n 0, 1) := by decide +kernel
theorem dX7_workOneTick_114 : decode cX7_workOneTick 114 = .ok (.getfield 28, 3) := by decide +kernel
theorem dX7_workOneTick_117 : decode cX7_workOneTick 117 = .ok (.iload_n 3, 1) := by decide +kernel
theorem dX7_workOneTick_118 : decode cX7_workOneTick 118 = .ok (.iconst 0, 1) := by decide +kernel
theorem dX7_workOneTick_119 : decode cX7_workOneTick 119 = .ok (.aload_n 0, 1) := by decide +kernel
theorem dX7_workOneTick_120 : decode cX7_workOneTick 120 = .ok (.getfield 28, 3) := by decide +kernel
theorem dX7_workOneTick_123 : decode cX7_workOneTick 123 = .ok (.iload_n 3, 1) := by decide +kernel
theorem dX7_workOneTick_124 : decode cX7_workOneTick 124 = .ok (.iaload, 1) := by decide +kernel
theorem dX7_workOneTick_125 : decode cX7_workOneTick 125 = .ok (.aload_n 0, 1) := by decide +kernel
theorem dX7_workOneTick_126 : decode cX7_workOneTick 126 = .ok (.getfield 84, 3) := by decide +kernel
theorem dX7_workOneTick_129 : decode cX7_workOneTick 129 = .ok (.getfield 156, 3) := by decide +kernel
theorem dX7_workOneTick_132 : decode cX7_workOneTick 132 = .ok (.iload_n 2, 1) := by decide +kernel
theorem dX7_workOneTick_133 : decode cX7_workOneTick 133 = .ok (.iaload, 1) := by decide +kernel
theorem dX7_workOneTick_134 : decode cX7_workOneTick 134 = .ok (.isub, 1) := by decide +kernel
theorem dX7_workOneTick_135 : decode cX7_workOneTick 135 = .ok (.invokestatic 107, 3) := by decide +kernel
theorem dX7_workOneTick_138 : decode cX7_workOneTick 138 = .ok (.iastore, 1) := by decide +kernel
theorem dX7_workOneTick_139 : decode cX7_workOneTick 139 = .ok (.aload_n 0, 1) := by decide +kernel
theorem dX7_workOneTick_140 : decode cX7_workOneTick 140 = .ok (.getfield 40, 3) := by decide +kernel
theorem dX7_workOneTick_143 : decode cX7_workOneTick 143 = .ok (.iload_n 2, 1) := by decide +kernel
theorem dX7_workOneTick_144 : decode cX7_workOneTick 144 = .ok (.bipush 99, 2) := by decide +kernel
theorem dX7_workOneTick_146 : decode cX7_workOneTick 146 = .ok (.aload_n 0, 1) := by decide +kernel
theorem dX7_workOneTick_147 : decode cX7_workOneTick 147 = .ok (.getfield 40, 3) := by decide +kernel
theorem dX7_workOneTick_150 : decode cX7_workOneTick 150 = .ok (.iload_n 2, 1) := by decide +kernel
theorem dX7_workOneTick_151 : decode cX7_workOneTick 151 = .ok (.iaload, 1) := by decide +kernel
theorem dX7_workOneTick_152 : decode cX7_workOneTick 152 = .ok (.aload_n 0, 1) := by decide +kernel
theorem dX7_workOneTick_153 : decode cX7_workOneTick 153 = .ok (.getfield 84, 3) := by decide +kernel
theorem dX7_workOneTick_156 : decode cX7_workOneTick 156 = .ok (.getfield 162, 3) := by decide +kernel
theorem dX7_workOneTick_159 : decode cX7_workOneTick 159 = .ok (.iload_n 2, 1) := by decide +kernel
theorem dX7_workOneTick_160 : decode cX7_workOneTick 160 = .ok (.iaload, 1) := by decide +kernel
theorem dX7_workOneTick_161 : decode cX7_workOneTick 161 = .ok (.iadd, 1) := by decide +kernel
theorem dX7_workOneTick_162 : decode cX7_workOneTick 162 = .ok (.invokestatic 98, 3) := by decide +kernel
theorem dX7_workOneTick_165 : decode cX7_workOneTick 165 = .ok (.iastore, 1) := by decide +kernel
theorem dX7_workOneTick_166 : decode cX7_workOneTick 166 = .ok (.goto 21, 3) := by decide +kernel
theorem dX7_workOneTick_169 : decode cX7_workOneTick 169 = .ok (.aload_n 0, 1) := by decide +kernel
theorem dX7_workOneTick_170 : decode cX7_workOneTick 170 = .ok (.getfield 40, 3) := by decide +kernel
theorem dX7_workOneTick_173 : decode cX7_workOneTick 173 = .ok (.iload_n 2, 1) := by decide +kernel
theorem dX7_workOneTick_174 : decode cX7_workOneTick 174 = .ok (.iconst 0, 1) := by decide +kernel
theorem dX7_workOneTick_175 : decode cX7_workOneTick 175 = .ok (.aload_n 0, 1) := by decide +kernel
theorem dX7_workOneTick_176 : decode cX7_workOneTick 176 = .ok (.getfield 40, 3) := by decide +kernel
theorem dX7_workOneTick_179 : decode cX7_workOneTick 179 = .ok (.iload_n 2, 1) := by decide +kernel
theorem dX7_workOneTick_180 : decode cX7_workOneTick 180 = .ok (.iaload, 1) := by decide +kernel
theorem dX7_workOneTick_181 : decode cX7_workOneTick 181 = .ok (.iconst 2, 1) := by decide +kernel
theorem dX7_workOneTick_182 : decode cX7_workOneTick 182 = .ok (.isub, 1) := by decide +kernel
theorem dX7_workOneTick_183 : decode cX7_workOneTick 183 = .ok (.invokestatic 107, 3) := by decide +kernel
theorem dX7_workOneTick_186 : decode cX7_workOneTick 186 = .ok (.iastore, 1) := by decide +kernel
theorem dX7_workOneTick_187 : decode cX7_workOneTick 187 = .ok (.iinc 2 1, 3) := by decide +kernel
theorem dX7_workOneTick_190 : decode cX7_workOneTick 190 = .ok (.goto (-106), 3) := by decide +kernel
theorem dX7_workOneTick_193 : decode cX7_workOneTick 193 = .ok (.iconst 0, 1) := by decide +kernel
theorem dX7_workOneTick_194 : decode cX7_workOneTick 194 = .ok (.istore_n 2, 1) := by decide +kernel
theorem dX7_workOneTick_195 : decode cX7_workOneTick 195 = .ok (.iload_n 2, 1) := by decide +kernel
theorem dX7_workOneTick_196 : decode cX7_workOneTick 196 = .ok (.aload_n 0, 1) := by decide +kernel
theorem dX7_workOneTick_197 : decode cX7_workOneTick 197 = .ok (.getfield 31, 3) := by decide +kernel
theorem dX7_workOneTick_200 : decode cX7_workOneTick 200 = .ok (.if_icmp .ge 49, 3) := by decide +kernel
theorem dX7_workOneTick_203 : decode cX7_workOneTick 203 = .ok (.iload_n 2, 1) := by decide +kernel
theorem dX7_workOneTick_204 : decode cX7_workOneTick 204 = .ok (.bipush 6, 2) := by decide +kernel
theorem dX7_workOneTick_206 : decode cX7_workOneTick 206 = .ok (.if_icmp .ge 43, 3) := by decide +kernel
theorem dX7_workOneTick_209 : decode cX7_workOneTick 209 = .ok (.aload_n 0, 1) := by decide +kernel
theorem dX7_workOneTick_210 : decode cX7_workOneTick 210 = .ok (.aload_n 0, 1) := by decide +kernel
theorem dX7_workOneTick_211 : decode cX7_workOneTick 211 = .ok (.getfield 43, 3) := by decide +kernel
theorem dX7_workOneTick_214 : decode cX7_workOneTick 214 = .ok (.iload_n 2, 1) := by decide +kernel
theorem dX7_workOneTick_215 : decode cX7_workOneTick 215 = .ok (.iaload, 1) := by decide +kernel
theorem dX7_workOneTick_216 : decode cX7_workOneTick 216 = .ok (.invokevirtual 117, 3) := by decide +kernel
theorem dX7_workOneTick_219 : decode cX7_workOneTick 219 = .ok (.ifCond .eq 24, 3) := by decide +kernel
theorem dX7_workOneTick_222 : decode cX7_workOneTick 222 = .ok (.aload_n 0, 1) := by decide +kernel
theorem dX7_workOneTick_223 : decode cX7_workOneTick 223 = .ok (.getfield 28, 3) := by decide +kernel
theorem dX7_workOneTick_226 : decode cX7_workOneTick 226 = .ok (.aload_n 0, 1) := by decide +kernel
theorem dX7_workOneTick_227 : decode cX7_workOneTick 227 = .ok (.getfield 43, 3) := by decide +kernel
theorem dX7_workOneTick_230 : decode cX7_workOneTick 230 = .ok (.iload_n 2, 1) := by decide +kernel
theorem dX7_workOneTick_231 : decode cX7_workOneTick 231 = .ok (.iaload, 1) := by decide +kernel
theorem dX7_workOneTick_232 : decode cX7_workOneTick 232 = .ok (.iaload, 1) := by decide +kernel
theorem dX7_workOneTick_233 : decode cX7_workOneTick 233 = .ok (.ifCond .ne 10, 3) := by decide +kernel
theorem dX7_workOneTick_236 : decode cX7_workOneTick 236 = .ok (.aload_n 0, 1) := by decide +kernel
theorem dX7_workOneTick_237 : decode cX7_workOneTick 237 = .ok (.getfield 43, 3) := by decide +kernel
theorem dX7_workOneTick_240 : decode cX7_workOneTick 240 = .ok (.iload_n 2, 1) := by decide +kernel
theorem dX7_workOneTick_241 : decode cX7_workOneTick 241 = .ok (.iconst (-1), 1) := by decide +kernel
theorem dX7_workOneTick_242 : decode cX7_workOneTick 242 = .ok (.iastore, 1) := by decide +kernel
theorem dX7_workOneTick_243 : decode cX7_workOneTick 243 = .ok (.iinc 2 1, 3) := by decide +kernel
theorem dX7_workOneTick_246 : decode cX7_workOneTick 246 = .ok (.goto (-51), 3) := by decide +kernel
theorem dX7_workOneTick_249 : decode cX7_workOneTick 249 = .ok (.aload_n 0, 1) := by decide +kernel
theorem dX7_workOneTick_250 : decode cX7_workOneTick 250 = .ok (.getfield 54, 3) := by decide +kernel
theorem dX7_workOneTick_253 : decode cX7_workOneTick 253 = .ok (.iconst 0, 1) := by decide +kernel
theorem dX7_workOneTick_254 : decode cX7_workOneTick 254 = .ok (.dup2, 1) := by decide +kernel
theorem dX7_workOneTick_255 : decode cX7_workOneTick 255 = .ok (.iaload, 1) := by decide +kernel
theorem dX7_workOneTick_256 : decode cX7_workOneTick 256 = .ok (.iconst 1, 1) := by decide +kernel
theorem dX7_workOneTick_257 : decode cX7_workOneTick 257 = .ok (.iadd, 1) := by decide +kernel
theorem dX7_workOneTick_258 : decode cX7_workOneTick 258 = .ok (.iastore, 1) := by decide +kernel
theorem dX7_workOneTick_259 : decode cX7_workOneTick 259 = .ok (.aload_n 0, 1) := by decide +kernel
theorem dX7_workOneTick_260 : decode cX7_workOneTick 260 = .ok (.invokevirtual 94, 3) := by decide +kernel
theorem dX7_workOneTick_263 : decode cX7_workOneTick 263 = .ok (.iload_n 1, 1) := by decide +kernel
theorem dX7_workOneTick_264 : decode cX7_workOneTick 264 = .ok (.iconst (-1), 1) := by decide +kernel
theorem dX7_workOneTick_265 : decode cX7_workOneTick 265 = .ok (.ixor, 1) := by decide +kernel
theorem dX7_workOneTick_266 : decode cX7_workOneTick 266 = .ok (.iand, 1) := by decide +kernel
theorem dX7_workOneTick_267 : decode cX7_workOneTick 267 = .ok (.invokestatic 165, 3) := by decide +kernel
theorem dX7_workOneTick_270 : decode cX7_workOneTick 270 = .ok (.ireturn, 1) := by decide +kernel
theorem dX8_init_0 : decode cX8_init 0 = .ok (.aload_n 0, 1) := by decide +kernel
theorem dX8_init_1 : decode cX8_init 1 = .ok (.invokespecial 3, 3) := by decide +kernel
theorem dX8_init_4 : decode cX8_init 4 = .ok (.aload_n 0, 1) := by decide +kernel
theorem dX8_init_5 : decode cX8_init 5 = .ok (.bipush 10, 2) := by decide +kernel
theorem dX8_init_7 : decode cX8_init 7 = .ok (.newarray .long, 2) := by decide +kernel
theorem dX8_init_9 : decode cX8_init 9 = .ok (.putfield 11, 3) := by decide +kernel
theorem dX8_init_12 : decode cX8_init 12 = .ok (.aload_n 0, 1) := by decide +kernel
theorem dX8_init_13 : decode cX8_init 13 = .ok (.bipush 32, 2) := by decide +kernel
theorem dX8_init_15 : decode cX8_init 15 = .ok (.newarray .long, 2) := by decide +kernel
theorem dX8_init_17 : decode cX8_init 17 = .ok (.putfield 19, 3) := by decide +kernel
theorem dX8_init_20 : decode cX8_init 20 = .ok (.aload_n 0, 1) := by decide +kernel
theorem dX8_init_21 : decode cX8_init 21 = .ok (.bipush 6, 2) := by decide +kernel
theorem dX8_init_23 : decode cX8_init 23 = .ok (.newarray .int, 2) := by decide +kernel
theorem dX8_init_25 : decode cX8_init 25 = .ok (.putfield 22, 3) := by decide +kernel
theorem dX8_init_28 : decode cX8_init 28 = .ok (.aload_n 0, 1) := by decide +kernel
theorem dX8_init_29 : decode cX8_init 29 = .ok (.bipush 6, 2) := by decide +kernel
theorem dX8_init_31 : decode cX8_init 31 = .ok (.newarray .int, 2) := by decide +kernel
theorem dX8_init_33 : decode cX8_init 33 = .ok (.putfield 26, 3) := by decide +kernel
theorem dX8_init_36 : decode cX8_init 36 = .ok (.aload_n 0, 1) := by decide +kernel
theorem dX8_init_37 : decode cX8_init 37 = .ok (.bipush 10, 2) := by decide +kernel
theorem dX8_init_39 : decode cX8_init 39 = .ok (.newarray .int, 2) := by decide +kernel
theorem dX8_init_41 : decode cX8_init 41 = .ok (.putfield 29, 3) := by decide +kernel
theorem dX8_init_44 : decode cX8_init 44 = .ok (.return_, 1) := by decide +kernel
theorem dX9_init_0 : decode cX9_init 0 = .ok (.aload_n 0, 1) := by decide +kernel
theorem dX9_init_1 : decode cX9_init 1 = .ok (.invokespecial 3, 3) := by decide +kernel
theorem dX9_init_4 : decode cX9_init 4 = .ok (.aload_n 0, 1) := by decide +kernel
theorem dX9_init_5 : decode cX9_init 5 = .ok (.bipush 11, 2) := by decide +kernel
theorem dX9_init_7 : decode cX9_init 7 = .ok (.newarray .int, 2) := by decide +kernel
theorem dX9_init_9 : decode cX9_init 9 = .ok (.putfield 11, 3) := by decide +kernel
theorem dX9_init_12 : decode cX9_init 12 = .ok (.aload_n 0, 1) := by decide +kernel
theorem dX9_init_13 : decode cX9_init 13 = .ok (.bipush 11, 2) := by decide +kernel
theorem dX9_init_15 : decode cX9_init 15 = .ok (.newarray .int, 2) := by decide +kernel
theorem dX9_init_17 : decode cX9_init 17 = .ok (.putfield 17, 3) := by decide +kernel
theorem dX9_init_20 : decode cX9_init 20 = .ok (.aload_n 0, 1) := by decide +kernel
theorem dX9_init_21 : decode cX9_init 21 = .ok (.sipush 704, 3) := by decide +kernel
theorem dX9_init_24 : decode cX9_init 24 = .ok (.newarray .int, 2) := by decide +kernel
theorem dX9_init_26 : decode cX9_init 26 = .ok (.putfield 20, 3) := by decide +kernel
theorem dX9_init_29 : decode cX9_init 29 = .ok (.aload_n 0, 1) := by decide +kernel
theorem dX9_init_30 : decode cX9_init 30 = .ok (.iconst 0, 1) := by decide +kernel
theorem dX9_init_31 : decode cX9_init 31 = .ok (.putfield 23, 3) := by decide +kernel
theorem dX9_init_34 : decode cX9_init 34 = .ok (.aload_n 0, 1) := by decide +kernel
theorem dX9_init_35 : decode cX9_init 35 = .ok (.iconst 0, 1) := by decide +kernel
theorem dX9_init_36 : decode cX9_init 36 = .ok (.putfield 27, 3) := by decide +kernel
theorem dX9_init_39 : decode cX9_init 39 = .ok (.aload_n 0, 1) := by decide +kernel
theorem dX9_init_40 : decode cX9_init 40 = .ok (.iconst 3, 1) := by decide +kernel
theorem dX9_init_41 : decode cX9_init 41 = .ok (.newarray .int, 2) := by decide +kernel
theorem dX9_init_43 : decode cX9_init 43 = .ok (.putfield 31, 3) := by decide +kernel
theorem dX9_init_46 : decode cX9_init 46 = .ok (.aload_n 0, 1) := by decide +kernel
theorem dX9_init_47 : decode cX9_init 47 = .ok (.bipush 64, 2) := by decide +kernel
theorem dX9_init_49 : decode cX9_init 49 = .ok (.newarray .boolean, 2) := by decide +kernel
theorem dX9_init_51 : decode cX9_init 51 = .ok (.putfield 34, 3) := by decide +kernel
theorem dX9_init_54 : decode cX9_init 54 = .ok (.aload_n 0, 1) := by decide +kernel
theorem dX9_init_55 : decode cX9_init 55 = .ok (.bipush 11, 2) := by decide +kernel
theorem dX9_init_57 : decode cX9_init 57 = .ok (.newarray .int, 2) := by decide +kernel
theorem dX9_init_59 : decode cX9_init 59 = .ok (.putfield 38, 3) := by decide +kernel
theorem dX9_init_62 : decode cX9_init 62 = .ok (.aload_n 0, 1) := by decide +kernel
theorem dX9_init_63 : decode cX9_init 63 = .ok (.aload_n 1, 1) := by decide +kernel
theorem dX9_init_64 : decode cX9_init 64 = .ok (.putfield 41, 3) := by decide +kernel
theorem dX9_init_67 : decode cX9_init 67 = .ok (.aload_n 0, 1) := by decide +kernel
theorem dX9_init_68 : decode cX9_init 68 = .ok (.aload_n 2, 1) := by decide +kernel
theorem dX9_init_69 : decode cX9_init 69 = .ok (.putfield 45, 3) := by decide +kernel
theorem dX9_init_72 : decode cX9_init 72 = .ok (.aload_n 0, 1) := by decide +kernel
theorem dX9_init_73 : decode cX9_init 73 = .ok (.getfield 11, 3) := by decide +kernel
theorem dX9_init_76 : decode cX9_init 76 = .ok (.iconst 0, 1) := by decide +kernel
theorem dX9_init_77 : decode cX9_init 77 = .ok (.bipush (-2), 2) := by decide +kernel
theorem dX9_init_79 : decode cX9_init 79 = .ok (.iastore, 1) := by decide +kernel
theorem dX9_init_80 : decode cX9_init 80 = .ok (.return_, 1) := by decide +kernel
theorem dX9_clear_0 : decode cX9_clear 0 = .ok (.aload_n 0, 1) := by decide +kernel
theorem dX9_clear_1 : decode cX9_clear 1 = .ok (.getfield 11, 3) := by decide +kernel
theorem dX9_clear_4 : decode cX9_clear 4 = .ok (.iconst 0, 1) := by decide +kernel
theorem dX9_clear_5 : decode cX9_clear 5 = .ok (.bipush (-2), 2) := by decide +kernel
theorem dX9_clear_7 : decode cX9_clear 7 = .ok (.iastore, 1) := by decide +kernel
theorem dX9_clear_8 : decode cX9_clear 8 = .ok (.aload_n 0, 1) := by decide +kernel
theorem dX9_clear_9 : decode cX9_clear 9 = .ok (.iconst 0, 1) := by decide +kernel
theorem dX9_clear_10 : decode cX9_clear 10 = .ok (.putfield 23, 3) := by decide +kernel
theorem dX9_clear_13 : decode cX9_clear 13 = .ok (.aload_n 0, 1) := by decide +kernel
theorem dX9_clear_14 : decode cX9_clear 14 = .ok (.iconst 0, 1) := by decide +kernel
theorem dX9_clear_15 : decode cX9_clear 15 = .ok (.putfield 27, 3) := by decide +kernel
theorem dX9_clear_18 : decode cX9_clear 18 = .ok (.return_, 1) := by decide +kernel
set_option maxRecDepth 20000 in
theorem ggX9_planTicks_X3_run : GoodIn wsX9_planTicks wsX3_run := goodIn_r _ [7, 8, 9, 10, 11, 6, 12, 13, 14, 15, 16, 17, 18, 19, 20, 21, 22, 23, 24, 25, 26, 27, 28, 29, 30, 31, 32, 33, 34, 35, 36, 37, 38, 39, 40, 41, 42, 43, 44, 45, 46, 47, 48, 49, 50, 51, 52, 53, 54, 55, 56, 57, 58, 59, 60, 61, 62, 63, 64, 65, 66, 67, 68, 69, 70, 71, 72, 73, 74, 75, 76, 77, 78, 79, 80, 81, 82, 83, 84, 85, 86, 87, 88, 89, 90, 91, 92, 93, 94, 95, 96, 97, 98, 99, 100, 101, 102, 103, 104, 105, 106, 107, 108, 109, 110, 111, 112, 113, 114, 115, 116, 117, 118, 119, 120, 121, 122, 123, 124, 125, 126, 127, 128, 129, 130, 131, 132, 133, 134, 135, 136, 137, 138, 139, 140, 141, 142, 143, 144, 145, 146, 147, 148, 149, 150, 151, 152, 153, 154, 155, 156, 167, 168, 169, 170, 171, 172, 173, 174, 175, 176, 177, 178, 179, 180, 181, 182, 183, 184, 185, 186, 187, 188, 189, 190, 191, 192, 193, 194, 195, 196, 197, 198, 199, 200, 201] (by decide +kernel) (by decide +kernel)
set_option maxRecDepth 20000 in
theorem gX9_planTicks_X3_run : GoodIn wsX9_planTicks (wsV RX9 49 RX3 yX3_run wsX3_run) := goodIn_app (goodIn_of _ (by decide +kernel)) ggX9_planTicks_X3_run
theorem dX9_planTicks_0 : decode cX9_planTicks 0 = .ok (.aload_n 0, 1) := by decide +kernel
theorem dX9_planTicks_1 : decode cX9_planTicks 1 = .ok (.getfield 45, 3) := by decide +kernel
theorem dX9_planTicks_4 : decode cX9_planTicks 4 = .ok (.bipush 63, 2) := by decide +kernel
theorem dX9_planTicks_6 : decode cX9_planTicks 6 = .ok (.sipush 200, 3) := by decide +kernel
theorem dX9_planTicks_9 : decode cX9_planTicks 9 = .ok (.aload_n 0, 1) := by decide +kernel
theorem dX9_planTicks_10 : decode cX9_planTicks 10 = .ok (.getfield 11, 3) := by decide +kernel
theorem dX9_planTicks_13 : decode cX9_planTicks 13 = .ok (.iconst 0, 1) := by decide +kernel
theorem dX9_planTicks_14 : decode cX9_planTicks 14 = .ok (.invokevirtual 49, 3) := by decide +kernel
theorem dX9_planTicks_17 : decode cX9_planTicks 17 = .ok (.ireturn, 1) := by decide +kernel
set_option maxRecDepth 20000 in
theorem ggX9_planStood_X9_planTicks : GoodIn wsX9_planStood wsX9_planTicks := goodIn_r _ [6, 7, 1, 8, 9, 10, 11, 12, 13, 14, 15, 16, 17, 18, 19, 20, 21, 22, 23, 24, 25, 26, 27, 28, 29, 30, 31, 32, 33, 34, 35, 36, 37, 38, 39, 40, 41, 42, 43, 44, 45, 46, 47, 48, 49, 50, 51, 52, 53, 54, 55, 56, 57, 58, 59, 60, 61, 62, 63, 64, 65, 66, 67, 68, 69, 70, 71, 72, 73, 74, 75, 76, 77, 78, 79, 80, 81, 82, 83, 84, 85, 86, 87, 88, 89, 90, 91, 92, 93, 94, 95, 96, 97, 98, 99, 100, 101, 102, 103, 104, 105, 106, 107, 108, 109, 110, 111, 112, 113, 114, 115, 116, 117, 118, 119, 120, 121, 122, 123, 124, 125, 126, 127, 128, 129, 130, 131, 132, 133, 134, 135, 136, 137, 138, 139, 140, 141, 142, 143, 144, 145, 146, 147, 148, 149, 150, 151, 152, 153, 154, 155, 156, 157, 158, 159, 160, 161, 162, 163, 164, 165, 166, 167, 168, 169, 170, 171, 172, 173, 174, 175, 176, 177, 178, 179, 180, 181, 182, 183, 184, 185, 186, 187, 188, 189, 190, 191, 192, 193, 194, 195, 196, 197, 198, 199, 200, 201, 202, 203, 204, 205, 206] (by decide +kernel) (by decide +kernel)
set_option maxRecDepth 20000 in
theorem gX9_planStood_X9_planTicks : GoodIn wsX9_planStood (wsV RX9 53 RX9 yX9_planTicks wsX9_planTicks) := goodIn_app (goodIn_of _ (by decide +kernel)) ggX9_planStood_X9_planTicks
theorem dX9_planStood_0 : decode cX9_planStood 0 = .ok (.aload_n 0, 1) := by decide +kernel
theorem dX9_planStood_1 : decode cX9_planStood 1 = .ok (.invokevirtual 53, 3) := by decide +kernel
theorem dX9_planStood_4 : decode cX9_planStood 4 = .ok (.pop, 1) := by decide +kernel
theorem dX9_planStood_5 : decode cX9_planStood 5 = .ok (.iload_n 1, 1) := by decide +kernel
theorem dX9_planStood_6 : decode cX9_planStood 6 = .ok (.ifCond .lt 20, 3) := by decide +kernel
theorem dX9_planStood_9 : decode cX9_planStood 9 = .ok (.iload_n 1, 1) := by decide +kernel
theorem dX9_planStood_10 : decode cX9_planStood 10 = .ok (.bipush 10, 2) := by decide +kernel
theorem dX9_planStood_12 : decode cX9_planStood 12 = .ok (.if_icmp .ge 14, 3) := by decide +kernel
theorem dX9_planStood_15 : decode cX9_planStood 15 = .ok (.aload_n 0, 1) := by decide +kernel
theorem dX9_planStood_16 : decode cX9_planStood 16 = .ok (.getfield 11, 3) := by decide +kernel
theorem dX9_planStood_19 : decode cX9_planStood 19 = .ok (.iconst 1, 1) := by decide +kernel
theorem dX9_planStood_20 : decode cX9_planStood 20 = .ok (.iload_n 1, 1) := by decide +kernel
theorem dX9_planStood_21 : decode cX9_planStood 21 = .ok (.iadd, 1) := by decide +kernel
theorem dX9_planStood_22 : decode cX9_planStood 22 = .ok (.iaload, 1) := by decide +kernel
theorem dX9_planStood_23 : decode cX9_planStood 23 = .ok (.goto 4, 3) := by decide +kernel
theorem dX9_planStood_26 : decode cX9_planStood 26 = .ok (.iconst (-1), 1) := by decide +kernel
theorem dX9_planStood_27 : decode cX9_planStood 27 = .ok (.ireturn, 1) := by decide +kernel
set_option maxRecDepth 20000 in
theorem ggX9_bestLesson_J7_fill_53178 : GoodIn wsX9_bestLesson wsJ7_fill_53178 := goodIn_r _ [9] (by decide +kernel) (by decide +kernel)
set_option maxRecDepth 20000 in
theorem gX9_bestLesson_J7_fill_53178 : GoodIn wsX9_bestLesson (va_wsS RX9 57 yJ7_fill_53178 wsJ7_fill_53178) := goodIn_app (goodIn_of _ (by decide +kernel)) ggX9_bestLesson_J7_fill_53178
set_option maxRecDepth 20000 in
theorem ggX9_bestLesson_X9_planTicks : GoodIn wsX9_bestLesson wsX9_planTicks := goodIn_r _ [14, 15, 16, 17, 18, 19, 20, 21, 22, 23, 24, 25, 26, 27, 28, 29, 30, 31, 32, 33, 34, 35, 36, 37, 38, 39, 40, 41, 42, 43, 44, 45, 46, 47, 48, 49, 50, 51, 52, 53, 54, 55, 56, 57, 58, 59, 60, 7, 8, 9, 61, 62, 63, 64, 65, 66, 67, 68, 69, 70, 71, 72, 73, 74, 75, 76, 77, 78, 79, 80, 81, 82, 83, 84, 85, 86, 87, 88, 89, 90, 91, 92, 93, 94, 95, 96, 97, 98, 99, 100, 101, 102, 103, 104, 105, 106, 107, 108, 109, 110, 111, 112, 113, 114, 115, 116, 117, 118, 119, 120, 121, 122, 123, 124, 125, 126, 127, 128, 129, 130, 131, 132, 133, 134, 135, 136, 137, 138, 139, 140, 141, 142, 143, 144, 145, 146, 147, 148, 149, 150, 151, 152, 153, 154, 155, 156, 157, 158, 159, 160, 161, 162, 163, 164, 165, 166, 167, 177, 178, 179, 180, 181, 182, 183, 184, 185, 186, 207, 208, 209, 210, 187, 188, 189, 190, 191, 192, 193, 194, 195, 196, 197, 198, 199, 200, 201, 202, 203, 204, 205, 206, 211, 212, 213, 214, 215, 216, 217, 218, 219, 220, 221] (by decide +kernel) (by decide +kernel)
set_option maxRecDepth 20000 in
theorem gX9_bestLesson_X9_planTicks : GoodIn wsX9_bestLesson (wsV RX9 53 RX9 yX9_planTicks wsX9_planTicks) := goodIn_app (goodIn_of _ (by decide +kernel)) ggX9_bestLesson_X9_planTicks
set_option maxRecDepth 20000 in
theorem ggX9_bestLesson_X9_ticksWith : GoodIn wsX9_bestLesson wsX9_ticksWith := goodIn_r _ [171, 15, 172, 173, 174, 175, 20, 176, 29, 31, 17, 18, 19, 21, 22, 23, 24, 25, 26, 27, 28, 30, 32, 33, 34, 35, 36, 37, 38, 39, 40, 41, 42, 43, 44, 45, 46, 47, 48, 49, 50, 51, 52, 53, 54, 55, 56, 57, 58, 59, 60, 7, 8, 9, 61, 62, 63, 64, 65, 66, 67, 68, 69, 70, 71, 72, 73, 74, 75, 76, 77, 78, 79, 80, 81, 82, 83, 84, 85, 86, 87, 88, 89, 90, 91, 92, 93, 94, 95, 96, 97, 98, 99, 100, 101, 102, 103, 104, 105, 106, 107, 108, 109, 110, 111, 112, 113, 114, 115, 116, 117, 118, 119, 120, 121, 122, 123, 124, 125, 126, 127, 128, 129, 130, 131, 132, 133, 134, 135, 136, 137, 138, 139, 140, 141, 142, 143, 144, 145, 146, 147, 148, 149, 150, 151, 152, 153, 154, 155, 156, 157, 158, 159, 160, 161, 162, 163, 164, 165, 166, 167, 177, 178, 179, 180, 181, 182, 183, 184, 185, 186, 207, 208, 209, 210, 187, 188, 189, 190, 191, 192, 193, 194, 195, 196, 197, 198, 199, 200, 201, 202, 203, 204, 205, 206, 211, 212, 213, 214, 215, 216, 217, 218, 219, 220, 221] (by decide +kernel) (by decide +kernel)
set_option maxRecDepth 20000 in
theorem gX9_bestLesson_X9_ticksWith : GoodIn wsX9_bestLesson (wsV RX9 71 RX9 yX9_ticksWith wsX9_ticksWith) := goodIn_app (goodIn_of _ (by decide +kernel)) ggX9_bestLesson_X9_ticksWith
theorem dX9_bestLesson_0 : decode cX9_bestLesson 0 = .ok (.aload_n 0, 1) := by decide +kernel
theorem dX9_bestLesson_1 : decode cX9_bestLesson 1 = .ok (.getfield 27, 3) := by decide +kernel
theorem dX9_bestLesson_4 : decode cX9_bestLesson 4 = .ok (.ifCond .ne 148, 3) := by decide +kernel
theorem dX9_bestLesson_7 : decode cX9_bestLesson 7 = .ok (.aload_n 0, 1) := by decide +kernel
theorem dX9_bestLesson_8 : decode cX9_bestLesson 8 = .ok (.getfield 31, 3) := by decide +kernel
theorem dX9_bestLesson_11 : decode cX9_bestLesson 11 = .ok (.iconst (-1), 1) := by decide +kernel
theorem dX9_bestLesson_12 : decode cX9_bestLesson 12 = .ok (.invokestatic 57, 3) := by decide +kernel
theorem dX9_bestLesson_15 : decode cX9_bestLesson 15 = .ok (.aload_n 0, 1) := by decide +kernel
theorem dX9_bestLesson_16 : decode cX9_bestLesson 16 = .ok (.invokevirtual 53, 3) := by decide +kernel
theorem dX9_bestLesson_19 : decode cX9_bestLesson 19 = .ok (.istore_n 2, 1) := by decide +kernel
theorem dX9_bestLesson_20 : decode cX9_bestLesson 20 = .ok (.iload_n 2, 1) := by decide +kernel
theorem dX9_bestLesson_21 : decode cX9_bestLesson 21 = .ok (.iconst (-1), 1) := by decide +kernel
theorem dX9_bestLesson_22 : decode cX9_bestLesson 22 = .ok (.if_icmp .ne 9, 3) := by decide +kernel
theorem dX9_bestLesson_25 : decode cX9_bestLesson 25 = .ok (.sipush 200, 3) := by decide +kernel
theorem dX9_bestLesson_28 : decode cX9_bestLesson 28 = .ok (.goto 6, 3) := by decide +kernel
theorem dX9_bestLesson_31 : decode cX9_bestLesson 31 = .ok (.iload_n 2, 1) := by decide +kernel
theorem dX9_bestLesson_32 : decode cX9_bestLesson 32 = .ok (.iconst 1, 1) := by decide +kernel
theorem dX9_bestLesson_33 : decode cX9_bestLesson 33 = .ok (.isub, 1) := by decide +kernel
theorem dX9_bestLesson_34 : decode cX9_bestLesson 34 = .ok (.istore_n 3, 1) := by decide +kernel
theorem dX9_bestLesson_35 : decode cX9_bestLesson 35 = .ok (.iconst 0, 1) := by decide +kernel
theorem dX9_bestLesson_36 : decode cX9_bestLesson 36 = .ok (.istore 4, 2) := by decide +kernel
theorem dX9_bestLesson_38 : decode cX9_bestLesson 38 = .ok (.iload 4, 2) := by decide +kernel
theorem dX9_bestLesson_40 : decode cX9_bestLesson 40 = .ok (.aload_n 0, 1) := by decide +kernel
theorem dX9_bestLesson_41 : decode cX9_bestLesson 41 = .ok (.getfield 41, 3) := by decide +kernel
theorem dX9_bestLesson_44 : decode cX9_bestLesson 44 = .ok (.getfield 63, 3) := by decide +kernel
theorem dX9_bestLesson_47 : decode cX9_bestLesson 47 = .ok (.if_icmp .ge 100, 3) := by decide +kernel
theorem dX9_bestLesson_50 : decode cX9_bestLesson 50 = .ok (.iload 4, 2) := by decide +kernel
theorem dX9_bestLesson_52 : decode cX9_bestLesson 52 = .ok (.bipush 6, 2) := by decide +kernel
theorem dX9_bestLesson_54 : decode cX9_bestLesson 54 = .ok (.if_icmp .ge 93, 3) := by decide +kernel
theorem dX9_bestLesson_57 : decode cX9_bestLesson 57 = .ok (.iconst 0, 1) := by decide +kernel
theorem dX9_bestLesson_58 : decode cX9_bestLesson 58 = .ok (.istore 5, 2) := by decide +kernel
theorem dX9_bestLesson_60 : decode cX9_bestLesson 60 = .ok (.iload 5, 2) := by decide +kernel
theorem dX9_bestLesson_62 : decode cX9_bestLesson 62 = .ok (.iconst 4, 1) := by decide +kernel
theorem dX9_bestLesson_63 : decode cX9_bestLesson 63 = .ok (.if_icmp .ge 78, 3) := by decide +kernel
theorem dX9_bestLesson_66 : decode cX9_bestLesson 66 = .ok (.aload_n 0, 1) := by decide +kernel
theorem dX9_bestLesson_67 : decode cX9_bestLesson 67 = .ok (.getfield 41, 3) := by decide +kernel
theorem dX9_bestLesson_70 : decode cX9_bestLesson 70 = .ok (.getfield 68, 3) := by decide +kernel
theorem dX9_bestLesson_73 : decode cX9_bestLesson 73 = .ok (.iload 4, 2) := by decide +kernel
theorem dX9_bestLesson_75 : decode cX9_bestLesson 75 = .ok (.iaload, 1) := by decide +kernel
theorem dX9_bestLesson_76 : decode cX9_bestLesson 76 = .ok (.iload 5, 2) := by decide +kernel
theorem dX9_bestLesson_78 : decode cX9_bestLesson 78 = .ok (.ishr, 1) := by decide +kernel
theorem dX9_bestLesson_79 : decode cX9_bestLesson 79 = .ok (.iconst 1, 1) := by decide +kernel
theorem dX9_bestLesson_80 : decode cX9_bestLesson 80 = .ok (.iand, 1) := by decide +kernel
theorem dX9_bestLesson_81 : decode cX9_bestLesson 81 = .ok (.iconst 1, 1) := by decide +kernel
theorem dX9_bestLesson_82 : decode cX9_bestLesson 82 = .ok (.if_icmp .ne 7, 3) := by decide +kernel
theorem dX9_bestLesson_85 : decode cX9_bestLesson 85 = .ok (.iconst (-1), 1) := by decide +kernel
theorem dX9_bestLesson_86 : decode cX9_bestLesson 86 = .ok (.goto 12, 3) := by decide +kernel
theorem dX9_bestLesson_89 : decode cX9_bestLesson 89 = .ok (.aload_n 0, 1) := by decide +kernel
theorem dX9_bestLesson_90 : decode cX9_bestLesson 90 = .ok (.iload 4, 2) := by decide +kernel
theorem dX9_bestLesson_92 : decode cX9_bestLesson 92 = .ok (.iload 5, 2) := by decide +kernel
theorem dX9_bestLesson_94 : decode cX9_bestLesson 94 = .ok (.iload_n 3, 1) := by decide +kernel
theorem dX9_bestLesson_95 : decode cX9_bestLesson 95 = .ok (.invokevirtual 71, 3) := by decide +kernel
theorem dX9_bestLesson_98 : decode cX9_bestLesson 98 = .ok (.istore 6, 2) := by decide +kernel
theorem dX9_bestLesson_100 : decode cX9_bestLesson 100 = .ok (.iload 6, 2) := by decide +kernel
theorem dX9_bestLesson_102 : decode cX9_bestLesson 102 = .ok (.iconst (-1), 1) := by decide +kernel
theorem dX9_bestLesson_103 : decode cX9_bestLesson 103 = .ok (.if_icmp .eq 32, 3) := by decide +kernel
theorem dX9_bestLesson_106 : decode cX9_bestLesson 106 = .ok (.aload_n 0, 1) := by decide +kernel
theorem dX9_bestLesson_107 : decode cX9_bestLesson 107 = .ok (.getfield 31, 3) := by decide +kernel
theorem dX9_bestLesson_110 : decode cX9_bestLesson 110 = .ok (.iconst 0, 1) := by decide +kernel
theorem dX9_bestLesson_111 : decode cX9_bestLesson 111 = .ok (.iload 4, 2) := by decide +kernel
theorem dX9_bestLesson_113 : decode cX9_bestLesson 113 = .ok (.iastore, 1) := by decide +kernel
theorem dX9_bestLesson_114 : decode cX9_bestLesson 114 = .ok (.aload_n 0, 1) := by decide +kernel
theorem dX9_bestLesson_115 : decode cX9_bestLesson 115 = .ok (.getfield 31, 3) := by decide +kernel
theorem dX9_bestLesson_118 : decode cX9_bestLesson 118 = .ok (.iconst 1, 1) := by decide +kernel
theorem dX9_bestLesson_119 : decode cX9_bestLesson 119 = .ok (.iload 5, 2) := by decide +kernel
theorem dX9_bestLesson_121 : decode cX9_bestLesson 121 = .ok (.iastore, 1) := by decide +kernel
theorem dX9_bestLesson_122 : decode cX9_bestLesson 122 = .ok (.aload_n 0, 1) := by decide +kernel
theorem dX9_bestLesson_123 : decode cX9_bestLesson 123 = .ok (.getfield 31, 3) := by decide +kernel
theorem dX9_bestLesson_126 : decode cX9_bestLesson 126 = .ok (.iconst 2, 1) := by decide +kernel
theorem dX9_bestLesson_127 : decode cX9_bestLesson 127 = .ok (.iload 6, 2) := by decide +kernel
theorem dX9_bestLesson_129 : decode cX9_bestLesson 129 = .ok (.iastore, 1) := by decide +kernel
theorem dX9_bestLesson_130 : decode cX9_bestLesson 130 = .ok (.iload 6, 2) := by decide +kernel
theorem dX9_bestLesson_132 : decode cX9_bestLesson 132 = .ok (.iconst 1, 1) := by decide +kernel
theorem dX9_bestLesson_133 : decode cX9_bestLesson 133 = .ok (.isub, 1) := by decide +kernel
theorem dX9_bestLesson_134 : decode cX9_bestLesson 134 = .ok (.istore_n 3, 1) := by decide +kernel
theorem dX9_bestLesson_135 : decode cX9_bestLesson 135 = .ok (.iinc 5 1, 3) := by decide +kernel
theorem dX9_bestLesson_138 : decode cX9_bestLesson 138 = .ok (.goto (-78), 3) := by decide +kernel
theorem dX9_bestLesson_141 : decode cX9_bestLesson 141 = .ok (.iinc 4 1, 3) := by decide +kernel
theorem dX9_bestLesson_144 : decode cX9_bestLesson 144 = .ok (.goto (-106), 3) := by decide +kernel
theorem dX9_bestLesson_147 : decode cX9_bestLesson 147 = .ok (.aload_n 0, 1) := by decide +kernel
theorem dX9_bestLesson_148 : decode cX9_bestLesson 148 = .ok (.iconst 1, 1) := by decide +kernel
theorem dX9_bestLesson_149 : decode cX9_bestLesson 149 = .ok (.putfield 27, 3) := by decide +kernel
theorem dX9_bestLesson_152 : decode cX9_bestLesson 152 = .ok (.iload_n 1, 1) := by decide +kernel
theorem dX9_bestLesson_153 : decode cX9_bestLesson 153 = .ok (.ifCond .lt 21, 3) := by decide +kernel
theorem dX9_bestLesson_156 : decode cX9_bestLesson 156 = .ok (.iload_n 1, 1) := by decide +kernel
theorem dX9_bestLesson_157 : decode cX9_bestLesson 157 = .ok (.aload_n 0, 1) := by decide +kernel
theorem dX9_bestLesson_158 : decode cX9_bestLesson 158 = .ok (.getfield 31, 3) := by decide +kernel
theorem dX9_bestLesson_161 : decode cX9_bestLesson 161 = .ok (.arraylength, 1) := by decide +kernel
theorem dX9_bestLesson_162 : decode cX9_bestLesson 162 = .ok (.if_icmp .ge 12, 3) := by decide +kernel
theorem dX9_bestLesson_165 : decode cX9_bestLesson 165 = .ok (.aload_n 0, 1) := by decide +kernel
theorem dX9_bestLesson_166 : decode cX9_bestLesson 166 = .ok (.getfield 31, 3) := by decide +kernel
theorem dX9_bestLesson_169 : decode cX9_bestLesson 169 = .ok (.iload_n 1, 1) := by decide +kernel
theorem dX9_bestLesson_170 : decode cX9_bestLesson 170 = .ok (.iaload, 1) := by decide +kernel
theorem dX9_bestLesson_171 : decode cX9_bestLesson 171 = .ok (.goto 4, 3) := by decide +kernel
theorem dX9_bestLesson_174 : decode cX9_bestLesson 174 = .ok (.iconst (-1), 1) := by decide +kernel
theorem dX9_bestLesson_175 : decode cX9_bestLesson 175 = .ok (.ireturn, 1) := by decide +kernel
set_option maxRecDepth 20000 in
theorem ggX9_ticksWith_X3_teach : GoodIn wsX9_ticksWith wsX3_teach := goodIn_r _ [7, 8, 9, 171, 172, 173, 174] (by decide +kernel) (by decide +kernel)
set_option maxRecDepth 20000 in
theorem gX9_ticksWith_X3_teach : GoodIn wsX9_ticksWith (wsV RX9 75 RX3 yX3_teach wsX3_teach) := goodIn_app (goodIn_of _ (by decide +kernel)) ggX9_ticksWith_X3_teach
set_option maxRecDepth 20000 in
theorem ggX9_ticksWith_X3_run : GoodIn wsX9_ticksWith wsX3_run := goodIn_r _ [13, 14, 15, 16, 17, 6, 18, 19, 20, 8, 21, 9, 22, 23, 24, 25, 26, 27, 28, 29, 30, 31, 32, 33, 34, 35, 36, 37, 38, 39, 40, 41, 42, 43, 44, 45, 46, 47, 48, 49, 50, 51, 52, 53, 54, 55, 56, 57, 58, 59, 60, 61, 62, 63, 64, 65, 66, 67, 68, 69, 70, 71, 72, 73, 74, 75, 76, 77, 78, 79, 80, 81, 82, 83, 84, 85, 86, 87, 88, 89, 90, 91, 92, 93, 94, 95, 96, 97, 98, 99, 100, 101, 102, 103, 104, 105, 106, 107, 108, 109, 110, 111, 112, 113, 114, 115, 116, 117, 118, 119, 120, 121, 122, 123, 124, 125, 126, 127, 128, 129, 130, 131, 132, 133, 134, 135, 136, 137, 138, 139, 140, 141, 142, 143, 144, 145, 146, 147, 148, 149, 150, 151, 152, 153, 154, 155, 156, 157, 158, 159, 160, 171, 172, 173, 174, 175, 176, 177, 178, 179, 180, 181, 182, 183, 184, 185, 186, 187, 188, 189, 190, 191, 192, 193, 194, 195, 196, 197, 198, 199, 200, 201, 202, 203, 204, 205] (by decide +kernel) (by decide +kernel)
set_option maxRecDepth 20000 in
theorem gX9_ticksWith_X3_run : GoodIn wsX9_ticksWith (wsV RX9 49 RX3 yX3_run wsX3_run) := goodIn_app (goodIn_of _ (by decide +kernel)) ggX9_ticksWith_X3_run
theorem dX9_ticksWith_0 : decode cX9_ticksWith 0 = .ok (.aload_n 0, 1) := by decide +kernel
theorem dX9_ticksWith_1 : decode cX9_ticksWith 1 = .ok (.getfield 45, 3) := by decide +kernel
theorem dX9_ticksWith_4 : decode cX9_ticksWith 4 = .ok (.iload_n 1, 1) := by decide +kernel
theorem dX9_ticksWith_5 : decode cX9_ticksWith 5 = .ok (.iload_n 2, 1) := by decide +kernel
theorem dX9_ticksWith_6 : decode cX9_ticksWith 6 = .ok (.invokevirtual 75, 3) := by decide +kernel
theorem dX9_ticksWith_9 : decode cX9_ticksWith 9 = .ok (.aload_n 0, 1) := by decide +kernel
theorem dX9_ticksWith_10 : decode cX9_ticksWith 10 = .ok (.getfield 17, 3) := by decide +kernel
theorem dX9_ticksWith_13 : decode cX9_ticksWith 13 = .ok (.iconst 0, 1) := by decide +kernel
theorem dX9_ticksWith_14 : decode cX9_ticksWith 14 = .ok (.bipush (-2), 2) := by decide +kernel
theorem dX9_ticksWith_16 : decode cX9_ticksWith 16 = .ok (.iastore, 1) := by decide +kernel
theorem dX9_ticksWith_17 : decode cX9_ticksWith 17 = .ok (.aload_n 0, 1) := by decide +kernel
theorem dX9_ticksWith_18 : decode cX9_ticksWith 18 = .ok (.getfield 45, 3) := by decide +kernel
theorem dX9_ticksWith_21 : decode cX9_ticksWith 21 = .ok (.bipush 63, 2) := by decide +kernel
theorem dX9_ticksWith_23 : decode cX9_ticksWith 23 = .ok (.iload_n 3, 1) := by decide +kernel
theorem dX9_ticksWith_24 : decode cX9_ticksWith 24 = .ok (.aload_n 0, 1) := by decide +kernel
theorem dX9_ticksWith_25 : decode cX9_ticksWith 25 = .ok (.getfield 17, 3) := by decide +kernel
theorem dX9_ticksWith_28 : decode cX9_ticksWith 28 = .ok (.iconst 0, 1) := by decide +kernel
theorem dX9_ticksWith_29 : decode cX9_ticksWith 29 = .ok (.invokevirtual 49, 3) := by decide +kernel
theorem dX9_ticksWith_32 : decode cX9_ticksWith 32 = .ok (.istore 4, 2) := by decide +kernel
theorem dX9_ticksWith_34 : decode cX9_ticksWith 34 = .ok (.aload_n 0, 1) := by decide +kernel
theorem dX9_ticksWith_35 : decode cX9_ticksWith 35 = .ok (.getfield 45, 3) := by decide +kernel
theorem dX9_ticksWith_38 : decode cX9_ticksWith 38 = .ok (.iconst (-1), 1) := by decide +kernel
theorem dX9_ticksWith_39 : decode cX9_ticksWith 39 = .ok (.iconst 0, 1) := by decide +kernel
theorem dX9_ticksWith_40 : decode cX9_ticksWith 40 = .ok (.invokevirtual 75, 3) := by decide +kernel
theorem dX9_ticksWith_43 : decode cX9_ticksWith 43 = .ok (.iload 4, 2) := by decide +kernel
theorem dX9_ticksWith_45 : decode cX9_ticksWith 45 = .ok (.ireturn, 1) := by decide +kernel
theorem dX9_openSets_0 : decode cX9_openSets 0 = .ok (.bipush 40, 2) := by decide +kernel
theorem dX9_openSets_2 : decode cX9_openSets 2 = .ok (.aload_n 0, 1) := by decide +kernel
theorem dX9_openSets_3 : decode cX9_openSets 3 = .ok (.getfield 41, 3) := by decide +kernel
theorem dX9_openSets_6 : decode cX9_openSets 6 = .ok (.getfield 79, 3) := by decide +kernel
theorem dX9_openSets_9 : decode cX9_openSets 9 = .ok (.iconst 1, 1) := by decide +kernel
theorem dX9_openSets_10 : decode cX9_openSets 10 = .ok (.iaload, 1) := by decide +kernel
theorem dX9_openSets_11 : decode cX9_openSets 11 = .ok (.invokestatic 82, 3) := by decide +kernel
theorem dX9_openSets_14 : decode cX9_openSets 14 = .ok (.istore_n 1, 1) := by decide +kernel
theorem dX9_openSets_15 : decode cX9_openSets 15 = .ok (.iconst 0, 1) := by decide +kernel
theorem dX9_openSets_16 : decode cX9_openSets 16 = .ok (.istore_n 2, 1) := by decide +kernel
theorem dX9_openSets_17 : decode cX9_openSets 17 = .ok (.iload_n 2, 1) := by decide +kernel
theorem dX9_openSets_18 : decode cX9_openSets 18 = .ok (.aload_n 0, 1) := by decide +kernel
theorem dX9_openSets_19 : decode cX9_openSets 19 = .ok (.getfield 41, 3) := by decide +kernel
theorem dX9_openSets_22 : decode cX9_openSets 22 = .ok (.getfield 88, 3) := by decide +kernel
theorem dX9_openSets_25 : decode cX9_openSets 25 = .ok (.if_icmp .ge 29, 3) := by decide +kernel
theorem dX9_openSets_28 : decode cX9_openSets 28 = .ok (.iload_n 2, 1) := by decide +kernel
theorem dX9_openSets_29 : decode cX9_openSets 29 = .ok (.bipush 8, 2) := by decide +kernel
theorem dX9_openSets_31 : decode cX9_openSets 31 = .ok (.if_icmp .ge 23, 3) := by decide +kernel
theorem dX9_openSets_34 : decode cX9_openSets 34 = .ok (.iload_n 1, 1) := by decide +kernel
theorem dX9_openSets_35 : decode cX9_openSets 35 = .ok (.aload_n 0, 1) := by decide +kernel
theorem dX9_openSets_36 : decode cX9_openSets 36 = .ok (.getfield 41, 3) := by decide +kernel
theorem dX9_openSets_39 : decode cX9_openSets 39 = .ok (.getfield 91, 3) := by decide +kernel
theorem dX9_openSets_42 : decode cX9_openSets 42 = .ok (.iload_n 2, 1) := by decide +kernel
theorem dX9_openSets_43 : decode cX9_openSets 43 = .ok (.iaload, 1) := by decide +kernel
theorem dX9_openSets_44 : decode cX9_openSets 44 = .ok (.invokestatic 82, 3) := by decide +kernel
theorem dX9_openSets_47 : decode cX9_openSets 47 = .ok (.istore_n 1, 1) := by decide +kernel
theorem dX9_openSets_48 : decode cX9_openSets 48 = .ok (.iinc 2 1, 3) := by decide +kernel
theorem dX9_openSets_51 : decode cX9_openSets 51 = .ok (.goto (-34), 3) := by decide +kernel
theorem dX9_openSets_54 : decode cX9_openSets 54 = .ok (.iload_n 1, 1) := by decide +kernel
theorem dX9_openSets_55 : decode cX9_openSets 55 = .ok (.aload_n 0, 1) := by decide +kernel
theorem dX9_openSets_56 : decode cX9_openSets 56 = .ok (.getfield 23, 3) := by decide +kernel
theorem dX9_openSets_59 : decode cX9_openSets 59 = .ok (.if_icmp .le 33, 3) := by decide +kernel
theorem dX9_openSets_62 : decode cX9_openSets 62 = .ok (.aload_n 0, 1) := by decide +kernel
theorem dX9_openSets_63 : decode cX9_openSets 63 = .ok (.iload_n 1, 1) := by decide +kernel
theorem dX9_openSets_64 : decode cX9_openSets 64 = .ok (.putfield 23, 3) := by decide +kernel
theorem dX9_openSets_67 : decode cX9_openSets 67 = .ok (.iconst 0, 1) := by decide +kernel
theorem dX9_openSets_68 : decode cX9_openSets 68 = .ok (.istore_n 2, 1) := by decide +kernel
theorem dX9_openSets_69 : decode cX9_openSets 69 = .ok (.iload_n 2, 1) := by decide +kernel
theorem dX9_openSets_70 : decode cX9_openSets 70 = .ok (.bipush 64, 2) := by decide +kernel
theorem dX9_openSets_72 : decode cX9_openSets 72 = .ok (.if_icmp .ge 20, 3) := by decide +kernel
theorem dX9_openSets_75 : decode cX9_openSets 75 = .ok (.aload_n 0, 1) := by decide +kernel
theorem dX9_openSets_76 : decode cX9_openSets 76 = .ok (.getfield 20, 3) := by decide +kernel
theorem dX9_openSets_79 : decode cX9_openSets 79 = .ok (.iload_n 2, 1) := by decide +kernel
theorem dX9_openSets_80 : decode cX9_openSets 80 = .ok (.bipush 11, 2) := by decide +kernel
theorem dX9_openSets_82 : decode cX9_openSets 82 = .ok (.imul, 1) := by decide +kernel
theorem dX9_openSets_83 : decode cX9_openSets 83 = .ok (.bipush (-2), 2) := by decide +kernel
theorem dX9_openSets_85 : decode cX9_openSets 85 = .ok (.iastore, 1) := by decide +kernel
theorem dX9_openSets_86 : decode cX9_openSets 86 = .ok (.iinc 2 1, 3) := by decide +kernel
theorem dX9_openSets_89 : decode cX9_openSets 89 = .ok (.goto (-20), 3) := by decide +kernel
theorem dX9_openSets_92 : decode cX9_openSets 92 = .ok (.return_, 1) := by decide +kernel
set_option maxRecDepth 20000 in
theorem ggX9_fewestHands_X9_openSets : GoodIn wsX9_fewestHands wsX9_openSets := goodIn_r _ [11, 1, 6, 12, 13, 14, 15, 16, 17, 4, 5, 170, 171, 172, 173, 174, 175, 176, 177, 178, 179, 180, 181, 182, 183, 184, 185, 186, 187, 188, 189, 190, 191, 192, 193, 194, 195, 196, 197, 198, 199] (by decide +kernel) (by decide +kernel)
set_option maxRecDepth 20000 in
theorem gX9_fewestHands_X9_openSets : GoodIn wsX9_fewestHands (wsV RX9 94 RX9 yX9_openSets wsX9_openSets) := goodIn_app (goodIn_of _ (by decide +kernel)) ggX9_fewestHands_X9_openSets
set_option maxRecDepth 20000 in
theorem ggX9_fewestHands_J6_bitCount_0f7a4 : GoodIn wsX9_fewestHands wsJ6_bitCount_0f7a4 := goodIn_r _ [21, 22, 23, 24] (by decide +kernel) (by decide +kernel)
set_option maxRecDepth 20000 in
theorem gX9_fewestHands_J6_bitCount_0f7a4 : GoodIn wsX9_fewestHands (va_wsS RX9 97 yJ6_bitCount_0f7a4 wsJ6_bitCount_0f7a4) := goodIn_app (goodIn_of _ (by decide +kernel)) ggX9_fewestHands_J6_bitCount_0f7a4
set_option maxRecDepth 20000 in
theorem ggX9_fewestHands_X3_run : GoodIn wsX9_fewestHands wsX3_run := goodIn_r _ [29, 30, 31, 32, 33, 28, 34, 35, 36, 37, 38, 39, 40, 41, 42, 43, 44, 45, 46, 47, 48, 49, 50, 51, 52, 53, 54, 55, 56, 57, 58, 59, 60, 61, 62, 63, 64, 65, 66, 67, 68, 69, 70, 71, 72, 73, 74, 75, 76, 77, 78, 79, 80, 81, 82, 83, 84, 85, 86, 87, 88, 89, 90, 91, 92, 93, 94, 95, 96, 97, 98, 99, 100, 101, 102, 103, 104, 105, 106, 107, 14, 108, 109, 110, 111, 13, 15, 112, 113, 114, 115, 116, 117, 118, 119, 120, 121, 122, 123, 124, 125, 126, 127, 128, 129, 130, 131, 132, 133, 134, 135, 136, 137, 138, 139, 140, 141, 142, 143, 144, 145, 146, 147, 148, 149, 150, 151, 152, 153, 154, 155, 156, 157, 158, 159, 160, 161, 162, 163, 164, 165, 166, 167, 168, 169, 19, 20, 21, 22, 23, 24, 200, 201, 202, 203, 180, 181, 182, 183, 184, 185, 186, 187, 188, 189, 190, 191, 192, 193, 194, 195, 196, 197, 198, 199, 204, 205, 206, 207, 208, 209, 210, 211, 212, 213, 214] (by decide +kernel) (by decide +kernel)
set_option maxRecDepth 20000 in
theorem gX9_fewestHands_X3_run : GoodIn wsX9_fewestHands (wsV RX9 49 RX3 yX3_run wsX3_run) := goodIn_app (goodIn_of _ (by decide +kernel)) ggX9_fewestHands_X3_run
theorem dX9_fewestHands_0 : decode cX9_fewestHands 0 = .ok (.aload_n 0, 1) := by decide +kernel
theorem dX9_fewestHands_1 : decode cX9_fewestHands 1 = .ok (.invokevirtual 94, 3) := by decide +kernel
theorem dX9_fewestHands_4 : decode cX9_fewestHands 4 = .ok (.iconst 0, 1) := by decide +kernel
theorem dX9_fewestHands_5 : decode cX9_fewestHands 5 = .ok (.istore_n 1, 1) := by decide +kernel
theorem dX9_fewestHands_6 : decode cX9_fewestHands 6 = .ok (.iload_n 1, 1) := by decide +kernel
theorem dX9_fewestHands_7 : decode cX9_fewestHands 7 = .ok (.aload_n 0, 1) := by decide +kernel
theorem dX9_fewestHands_8 : decode cX9_fewestHands 8 = .ok (.getfield 41, 3) := by decide +kernel
theorem dX9_fewestHands_11 : decode cX9_fewestHands 11 = .ok (.getfield 63, 3) := by decide +kernel
theorem dX9_fewestHands_14 : decode cX9_fewestHands 14 = .ok (.if_icmp .gt 94, 3) := by decide +kernel
theorem dX9_fewestHands_17 : decode cX9_fewestHands 17 = .ok (.iload_n 1, 1) := by decide +kernel
theorem dX9_fewestHands_18 : decode cX9_fewestHands 18 = .ok (.bipush 6, 2) := by decide +kernel
theorem dX9_fewestHands_20 : decode cX9_fewestHands 20 = .ok (.if_icmp .gt 88, 3) := by decide +kernel
theorem dX9_fewestHands_23 : decode cX9_fewestHands 23 = .ok (.iconst 0, 1) := by decide +kernel
theorem dX9_fewestHands_24 : decode cX9_fewestHands 24 = .ok (.istore_n 2, 1) := by decide +kernel
theorem dX9_fewestHands_25 : decode cX9_fewestHands 25 = .ok (.iload_n 2, 1) := by decide +kernel
theorem dX9_fewestHands_26 : decode cX9_fewestHands 26 = .ok (.iconst 1, 1) := by decide +kernel
theorem dX9_fewestHands_27 : decode cX9_fewestHands 27 = .ok (.aload_n 0, 1) := by decide +kernel
theorem dX9_fewestHands_28 : decode cX9_fewestHands 28 = .ok (.getfield 41, 3) := by decide +kernel
theorem dX9_fewestHands_31 : decode cX9_fewestHands 31 = .ok (.getfield 63, 3) := by decide +kernel
theorem dX9_fewestHands_34 : decode cX9_fewestHands 34 = .ok (.ishl, 1) := by decide +kernel
theorem dX9_fewestHands_35 : decode cX9_fewestHands 35 = .ok (.if_icmp .ge 67, 3) := by decide +kernel
theorem dX9_fewestHands_38 : decode cX9_fewestHands 38 = .ok (.iload_n 2, 1) := by decide +kernel
theorem dX9_fewestHands_39 : decode cX9_fewestHands 39 = .ok (.bipush 64, 2) := by decide +kernel
theorem dX9_fewestHands_41 : decode cX9_fewestHands 41 = .ok (.if_icmp .ge 61, 3) := by decide +kernel
theorem dX9_fewestHands_44 : decode cX9_fewestHands 44 = .ok (.iload_n 2, 1) := by decide +kernel
theorem dX9_fewestHands_45 : decode cX9_fewestHands 45 = .ok (.invokestatic 97, 3) := by decide +kernel
theorem dX9_fewestHands_48 : decode cX9_fewestHands 48 = .ok (.iload_n 1, 1) := by decide +kernel
theorem dX9_fewestHands_49 : decode cX9_fewestHands 49 = .ok (.if_icmp .eq 6, 3) := by decide +kernel
theorem dX9_fewestHands_52 : decode cX9_fewestHands 52 = .ok (.goto 44, 3) := by decide +kernel
theorem dX9_fewestHands_55 : decode cX9_fewestHands 55 = .ok (.aload_n 0, 1) := by decide +kernel
theorem dX9_fewestHands_56 : decode cX9_fewestHands 56 = .ok (.getfield 45, 3) := by decide +kernel
theorem dX9_fewestHands_59 : decode cX9_fewestHands 59 = .ok (.iload_n 2, 1) := by decide +kernel
theorem dX9_fewestHands_60 : decode cX9_fewestHands 60 = .ok (.aload_n 0, 1) := by decide +kernel
theorem dX9_fewestHands_61 : decode cX9_fewestHands 61 = .ok (.getfield 23, 3) := by decide +kernel
theorem dX9_fewestHands_64 : decode cX9_fewestHands 64 = .ok (.aload_n 0, 1) := by decide +kernel
theorem dX9_fewestHands_65 : decode cX9_fewestHands 65 = .ok (.getfield 20, 3) := by decide +kernel
theorem dX9_fewestHands_68 : decode cX9_fewestHands 68 = .ok (.iload_n 2, 1) := by decide +kernel
theorem dX9_fewestHands_69 : decode cX9_fewestHands 69 = .ok (.bipush 11, 2) := by decide +kernel
theorem dX9_fewestHands_71 : decode cX9_fewestHands 71 = .ok (.imul, 1) := by decide +kernel
theorem dX9_fewestHands_72 : decode cX9_fewestHands 72 = .ok (.invokevirtual 49, 3) := by decide +kernel
theorem dX9_fewestHands_75 : decode cX9_fewestHands 75 = .ok (.istore_n 3, 1) := by decide +kernel
theorem dX9_fewestHands_76 : decode cX9_fewestHands 76 = .ok (.iload_n 3, 1) := by decide +kernel
theorem dX9_fewestHands_77 : decode cX9_fewestHands 77 = .ok (.iconst (-1), 1) := by decide +kernel
theorem dX9_fewestHands_78 : decode cX9_fewestHands 78 = .ok (.if_icmp .eq 18, 3) := by decide +kernel
theorem dX9_fewestHands_81 : decode cX9_fewestHands 81 = .ok (.iload_n 3, 1) := by decide +kernel
theorem dX9_fewestHands_82 : decode cX9_fewestHands 82 = .ok (.aload_n 0, 1) := by decide +kernel
theorem dX9_fewestHands_83 : decode cX9_fewestHands 83 = .ok (.getfield 41, 3) := by decide +kernel
theorem dX9_fewestHands_86 : decode cX9_fewestHands 86 = .ok (.getfield 79, 3) := by decide +kernel
theorem dX9_fewestHands_89 : decode cX9_fewestHands 89 = .ok (.iconst 1, 1) := by decide +kernel
theorem dX9_fewestHands_90 : decode cX9_fewestHands 90 = .ok (.iaload, 1) := by decide +kernel
theorem dX9_fewestHands_91 : decode cX9_fewestHands 91 = .ok (.if_icmp .gt 5, 3) := by decide +kernel
theorem dX9_fewestHands_94 : decode cX9_fewestHands 94 = .ok (.iload_n 2, 1) := by decide +kernel
theorem dX9_fewestHands_95 : decode cX9_fewestHands 95 = .ok (.ireturn, 1) := by decide +kernel
theorem dX9_fewestHands_96 : decode cX9_fewestHands 96 = .ok (.iinc 2 1, 3) := by decide +kernel
theorem dX9_fewestHands_99 : decode cX9_fewestHands 99 = .ok (.goto (-74), 3) := by decide +kernel
theorem dX9_fewestHands_102 : decode cX9_fewestHands 102 = .ok (.iinc 1 1, 3) := by decide +kernel
theorem dX9_fewestHands_105 : decode cX9_fewestHands 105 = .ok (.goto (-99), 3) := by decide +kernel
theorem dX9_fewestHands_108 : decode cX9_fewestHands 108 = .ok (.iconst (-1), 1) := by decide +kernel
theorem dX9_fewestHands_109 : decode cX9_fewestHands 109 = .ok (.ireturn, 1) := by decide +kernel
set_option maxRecDepth 20000 in
theorem ggX9_suspects_X9_openSets : GoodIn wsX9_suspects wsX9_openSets := goodIn_r _ [11, 1, 12, 13, 14, 15, 16, 17, 18, 4, 5, 180, 181, 182, 183, 184, 185, 186, 187, 188, 189, 190, 191, 192, 193, 194, 195, 196, 197, 198, 199, 200, 201, 202, 203, 204, 205, 206, 207, 208, 209] (by decide +kernel) (by decide +kernel)
set_option maxRecDepth 20000 in
theorem gX9_suspects_X9_openSets : GoodIn wsX9_suspects (wsV RX9 94 RX9 yX9_openSets wsX9_openSets) := goodIn_app (goodIn_of _ (by decide +kernel)) ggX9_suspects_X9_openSets
set_option maxRecDepth 20000 in
theorem ggX9_suspects_X3_run : GoodIn wsX9_suspects wsX3_run := goodIn_r _ [23, 24, 25, 26, 27, 22, 28, 29, 30, 31, 32, 33, 34, 35, 36, 37, 38, 39, 40, 41, 42, 43, 44, 45, 46, 47, 48, 49, 50, 51, 52, 53, 54, 55, 56, 57, 58, 59, 60, 61, 62, 63, 64, 65, 66, 67, 68, 69, 70, 71, 72, 73, 74, 75, 76, 77, 78, 79, 80, 81, 82, 83, 84, 85, 86, 87, 88, 89, 90, 91, 92, 93, 94, 95, 96, 97, 98, 99, 100, 101, 15, 102, 103, 104, 105, 14, 16, 106, 107, 108, 109, 110, 111, 112, 113, 114, 115, 116, 117, 118, 119, 120, 121, 122, 123, 124, 125, 126, 127, 128, 129, 130, 131, 132, 133, 134, 135, 136, 137, 138, 139, 140, 141, 142, 143, 144, 145, 146, 147, 148, 149, 150, 151, 152, 153, 154, 155, 156, 157, 158, 159, 160, 161, 162, 163, 164, 165, 166, 167, 168, 169, 210, 211, 212, 213, 190, 191, 192, 193, 194, 195, 196, 197, 198, 199, 200, 201, 202, 203, 204, 205, 206, 207, 208, 209, 214, 215, 216, 217, 218, 219, 220, 221, 222, 223, 224] (by decide +kernel) (by decide +kernel)
set_option maxRecDepth 20000 in
theorem gX9_suspects_X3_run : GoodIn wsX9_suspects (wsV RX9 49 RX3 yX3_run wsX3_run) := goodIn_app (goodIn_of _ (by decide +kernel)) ggX9_suspects_X3_run
set_option maxRecDepth 20000 in
theorem ggX9_suspects_X9_fitsAll : GoodIn wsX9_suspects wsX9_fitsAll := goodIn_r _ [173, 1, 17, 174, 175, 18, 176, 177, 178, 10, 179, 5, 180, 181, 182, 183, 184, 185, 186, 187, 188, 189, 190, 191, 192, 193, 194, 195, 196, 197, 198, 199, 200, 201, 202, 203, 204, 205, 206, 207, 208, 209] (by decide +kernel) (by decide +kernel)
set_option maxRecDepth 20000 in
theorem gX9_suspects_X9_fitsAll : GoodIn wsX9_suspects (wsV RX9 103 RX9 yX9_fitsAll wsX9_fitsAll) := goodIn_app (goodIn_of _ (by decide +kernel)) ggX9_suspects_X9_fitsAll
theorem dX9_suspects_0 : decode cX9_suspects 0 = .ok (.aload_n 0, 1) := by decide +kernel
theorem dX9_suspects_1 : decode cX9_suspects 1 = .ok (.invokevirtual 94, 3) := by decide +kernel
theorem dX9_suspects_4 : decode cX9_suspects 4 = .ok (.iconst 0, 1) := by decide +kernel
theorem dX9_suspects_5 : decode cX9_suspects 5 = .ok (.istore_n 2, 1) := by decide +kernel
theorem dX9_suspects_6 : decode cX9_suspects 6 = .ok (.iconst 0, 1) := by decide +kernel
theorem dX9_suspects_7 : decode cX9_suspects 7 = .ok (.istore_n 3, 1) := by decide +kernel
theorem dX9_suspects_8 : decode cX9_suspects 8 = .ok (.iload_n 3, 1) := by decide +kernel
theorem dX9_suspects_9 : decode cX9_suspects 9 = .ok (.iconst 1, 1) := by decide +kernel
theorem dX9_suspects_10 : decode cX9_suspects 10 = .ok (.aload_n 0, 1) := by decide +kernel
theorem dX9_suspects_11 : decode cX9_suspects 11 = .ok (.getfield 41, 3) := by decide +kernel
theorem dX9_suspects_14 : decode cX9_suspects 14 = .ok (.getfield 63, 3) := by decide +kernel
theorem dX9_suspects_17 : decode cX9_suspects 17 = .ok (.ishl, 1) := by decide +kernel
theorem dX9_suspects_18 : decode cX9_suspects 18 = .ok (.if_icmp .ge 66, 3) := by decide +kernel
theorem dX9_suspects_21 : decode cX9_suspects 21 = .ok (.iload_n 3, 1) := by decide +kernel
theorem dX9_suspects_22 : decode cX9_suspects 22 = .ok (.bipush 64, 2) := by decide +kernel
theorem dX9_suspects_24 : decode cX9_suspects 24 = .ok (.if_icmp .ge 60, 3) := by decide +kernel
theorem dX9_suspects_27 : decode cX9_suspects 27 = .ok (.aload_n 0, 1) := by decide +kernel
theorem dX9_suspects_28 : decode cX9_suspects 28 = .ok (.getfield 45, 3) := by decide +kernel
theorem dX9_suspects_31 : decode cX9_suspects 31 = .ok (.iload_n 3, 1) := by decide +kernel
theorem dX9_suspects_32 : decode cX9_suspects 32 = .ok (.aload_n 0, 1) := by decide +kernel
theorem dX9_suspects_33 : decode cX9_suspects 33 = .ok (.getfield 23, 3) := by decide +kernel
theorem dX9_suspects_36 : decode cX9_suspects 36 = .ok (.aload_n 0, 1) := by decide +kernel
theorem dX9_suspects_37 : decode cX9_suspects 37 = .ok (.getfield 20, 3) := by decide +kernel
theorem dX9_suspects_40 : decode cX9_suspects 40 = .ok (.iload_n 3, 1) := by decide +kernel
theorem dX9_suspects_41 : decode cX9_suspects 41 = .ok (.bipush 11, 2) := by decide +kernel
theorem dX9_suspects_43 : decode cX9_suspects 43 = .ok (.imul, 1) := by decide +kernel
theorem dX9_suspects_44 : decode cX9_suspects 44 = .ok (.invokevirtual 49, 3) := by decide +kernel
theorem dX9_suspects_47 : decode cX9_suspects 47 = .ok (.pop, 1) := by decide +kernel
theorem dX9_suspects_48 : decode cX9_suspects 48 = .ok (.aload_n 0, 1) := by decide +kernel
theorem dX9_suspects_49 : decode cX9_suspects 49 = .ok (.getfield 34, 3) := by decide +kernel
theorem dX9_suspects_52 : decode cX9_suspects 52 = .ok (.iload_n 3, 1) := by decide +kernel
theorem dX9_suspects_53 : decode cX9_suspects 53 = .ok (.aload_n 0, 1) := by decide +kernel
theorem dX9_suspects_54 : decode cX9_suspects 54 = .ok (.iload_n 3, 1) := by decide +kernel
theorem dX9_suspects_55 : decode cX9_suspects 55 = .ok (.invokevirtual 103, 3) := by decide +kernel
theorem dX9_suspects_58 : decode cX9_suspects 58 = .ok (.bastore, 1) := by decide +kernel
theorem dX9_suspects_59 : decode cX9_suspects 59 = .ok (.aload_n 0, 1) := by decide +kernel
theorem dX9_suspects_60 : decode cX9_suspects 60 = .ok (.getfield 34, 3) := by decide +kernel
theorem dX9_suspects_63 : decode cX9_suspects 63 = .ok (.iload_n 3, 1) := by decide +kernel
theorem dX9_suspects_64 : decode cX9_suspects 64 = .ok (.baload, 1) := by decide +kernel
theorem dX9_suspects_65 : decode cX9_suspects 65 = .ok (.ifCond .eq 13, 3) := by decide +kernel
theorem dX9_suspects_68 : decode cX9_suspects 68 = .ok (.iload_n 2, 1) := by decide +kernel
theorem dX9_suspects_69 : decode cX9_suspects 69 = .ok (.iload_n 1, 1) := by decide +kernel
theorem dX9_suspects_70 : decode cX9_suspects 70 = .ok (.if_icmp .ne 5, 3) := by decide +kernel
theorem dX9_suspects_73 : decode cX9_suspects 73 = .ok (.iload_n 3, 1) := by decide +kernel
theorem dX9_suspects_74 : decode cX9_suspects 74 = .ok (.ireturn, 1) := by decide +kernel
theorem dX9_suspects_75 : decode cX9_suspects 75 = .ok (.iinc 2 1, 3) := by decide +kernel
theorem dX9_suspects_78 : decode cX9_suspects 78 = .ok (.iinc 3 1, 3) := by decide +kernel
theorem dX9_suspects_81 : decode cX9_suspects 81 = .ok (.goto (-73), 3) := by decide +kernel
theorem dX9_suspects_84 : decode cX9_suspects 84 = .ok (.iload_n 1, 1) := by decide +kernel
theorem dX9_suspects_85 : decode cX9_suspects 85 = .ok (.iconst (-1), 1) := by decide +kernel
theorem dX9_suspects_86 : decode cX9_suspects 86 = .ok (.if_icmp .ne 7, 3) := by decide +kernel
theorem dX9_suspects_89 : decode cX9_suspects 89 = .ok (.iload_n 2, 1) := by decide +kernel
theorem dX9_suspects_90 : decode cX9_suspects 90 = .ok (.goto 4, 3) := by decide +kernel
theorem dX9_suspects_93 : decode cX9_suspects 93 = .ok (.iconst (-1), 1) := by decide +kernel
theorem dX9_suspects_94 : decode cX9_suspects 94 = .ok (.ireturn, 1) := by decide +kernel
set_option maxRecDepth 20000 in
theorem ggX9_fitsAll_X9_stoodBehind : GoodIn wsX9_fitsAll wsX9_stoodBehind := goodIn_r _ [10, 11, 12, 13, 14, 15, 16, 17, 18, 19, 20, 21] (by decide +kernel) (by decide +kernel)
set_option maxRecDepth 20000 in
theorem gX9_fitsAll_X9_stoodBehind : GoodIn wsX9_fitsAll (wsV RX9 113 RX9 yX9_stoodBehind wsX9_stoodBehind) := goodIn_app (goodIn_of _ (by decide +kernel)) ggX9_fitsAll_X9_stoodBehind
theorem dX9_fitsAll_0 : decode cX9_fitsAll 0 = .ok (.iconst 0, 1) := by decide +kernel
theorem dX9_fitsAll_1 : decode cX9_fitsAll 1 = .ok (.istore_n 2, 1) := by decide +kernel
theorem dX9_fitsAll_2 : decode cX9_fitsAll 2 = .ok (.iload_n 2, 1) := by decide +kernel
theorem dX9_fitsAll_3 : decode cX9_fitsAll 3 = .ok (.aload_n 0, 1) := by decide +kernel
theorem dX9_fitsAll_4 : decode cX9_fitsAll 4 = .ok (.getfield 41, 3) := by decide +kernel
theorem dX9_fitsAll_7 : decode cX9_fitsAll 7 = .ok (.getfield 88, 3) := by decide +kernel
theorem dX9_fitsAll_10 : decode cX9_fitsAll 10 = .ok (.if_icmp .ge 63, 3) := by decide +kernel
theorem dX9_fitsAll_13 : decode cX9_fitsAll 13 = .ok (.iload_n 2, 1) := by decide +kernel
theorem dX9_fitsAll_14 : decode cX9_fitsAll 14 = .ok (.bipush 8, 2) := by decide +kernel
theorem dX9_fitsAll_16 : decode cX9_fitsAll 16 = .ok (.if_icmp .ge 57, 3) := by decide +kernel
theorem dX9_fitsAll_19 : decode cX9_fitsAll 19 = .ok (.aload_n 0, 1) := by decide +kernel
theorem dX9_fitsAll_20 : decode cX9_fitsAll 20 = .ok (.getfield 41, 3) := by decide +kernel
theorem dX9_fitsAll_23 : decode cX9_fitsAll 23 = .ok (.getfield 107, 3) := by decide +kernel
theorem dX9_fitsAll_26 : decode cX9_fitsAll 26 = .ok (.iload_n 2, 1) := by decide +kernel
theorem dX9_fitsAll_27 : decode cX9_fitsAll 27 = .ok (.iaload, 1) := by decide +kernel
theorem dX9_fitsAll_28 : decode cX9_fitsAll 28 = .ok (.iconst 1, 1) := by decide +kernel
theorem dX9_fitsAll_29 : decode cX9_fitsAll 29 = .ok (.if_icmp .ne 7, 3) := by decide +kernel
theorem dX9_fitsAll_32 : decode cX9_fitsAll 32 = .ok (.iconst 1, 1) := by decide +kernel
theorem dX9_fitsAll_33 : decode cX9_fitsAll 33 = .ok (.goto 4, 3) := by decide +kernel
theorem dX9_fitsAll_36 : decode cX9_fitsAll 36 = .ok (.iconst 0, 1) := by decide +kernel
theorem dX9_fitsAll_37 : decode cX9_fitsAll 37 = .ok (.istore_n 3, 1) := by decide +kernel
theorem dX9_fitsAll_38 : decode cX9_fitsAll 38 = .ok (.aload_n 0, 1) := by decide +kernel
theorem dX9_fitsAll_39 : decode cX9_fitsAll 39 = .ok (.iload_n 1, 1) := by decide +kernel
theorem dX9_fitsAll_40 : decode cX9_fitsAll 40 = .ok (.aload_n 0, 1) := by decide +kernel
theorem dX9_fitsAll_41 : decode cX9_fitsAll 41 = .ok (.getfield 41, 3) := by decide +kernel
theorem dX9_fitsAll_44 : decode cX9_fitsAll 44 = .ok (.getfield 110, 3) := by decide +kernel
theorem dX9_fitsAll_47 : decode cX9_fitsAll 47 = .ok (.iload_n 2, 1) := by decide +kernel
theorem dX9_fitsAll_48 : decode cX9_fitsAll 48 = .ok (.iaload, 1) := by decide +kernel
theorem dX9_fitsAll_49 : decode cX9_fitsAll 49 = .ok (.aload_n 0, 1) := by decide +kernel
theorem dX9_fitsAll_50 : decode cX9_fitsAll 50 = .ok (.getfield 41, 3) := by decide +kernel
theorem dX9_fitsAll_53 : decode cX9_fitsAll 53 = .ok (.getfield 91, 3) := by decide +kernel
theorem dX9_fitsAll_56 : decode cX9_fitsAll 56 = .ok (.iload_n 2, 1) := by decide +kernel
theorem dX9_fitsAll_57 : decode cX9_fitsAll 57 = .ok (.iaload, 1) := by decide +kernel
theorem dX9_fitsAll_58 : decode cX9_fitsAll 58 = .ok (.invokevirtual 113, 3) := by decide +kernel
theorem dX9_fitsAll_61 : decode cX9_fitsAll 61 = .ok (.iload_n 3, 1) := by decide +kernel
theorem dX9_fitsAll_62 : decode cX9_fitsAll 62 = .ok (.if_icmp .eq 5, 3) := by decide +kernel
theorem dX9_fitsAll_65 : decode cX9_fitsAll 65 = .ok (.iconst 0, 1) := by decide +kernel
theorem dX9_fitsAll_66 : decode cX9_fitsAll 66 = .ok (.ireturn, 1) := by decide +kernel
theorem dX9_fitsAll_67 : decode cX9_fitsAll 67 = .ok (.iinc 2 1, 3) := by decide +kernel
theorem dX9_fitsAll_70 : decode cX9_fitsAll 70 = .ok (.goto (-68), 3) := by decide +kernel
theorem dX9_fitsAll_73 : decode cX9_fitsAll 73 = .ok (.iconst 1, 1) := by decide +kernel
theorem dX9_fitsAll_74 : decode cX9_fitsAll 74 = .ok (.ireturn, 1) := by decide +kernel
theorem dX9_stoodBehind_0 : decode cX9_stoodBehind 0 = .ok (.iload_n 1, 1) := by decide +kernel
theorem dX9_stoodBehind_1 : decode cX9_stoodBehind 1 = .ok (.bipush 11, 2) := by decide +kernel
theorem dX9_stoodBehind_3 : decode cX9_stoodBehind 3 = .ok (.imul, 1) := by decide +kernel
theorem dX9_stoodBehind_4 : decode cX9_stoodBehind 4 = .ok (.iconst 1, 1) := by decide +kernel
theorem dX9_stoodBehind_5 : decode cX9_stoodBehind 5 = .ok (.iadd, 1) := by decide +kernel
theorem dX9_stoodBehind_6 : decode cX9_stoodBehind 6 = .ok (.iload_n 2, 1) := by decide +kernel
theorem dX9_stoodBehind_7 : decode cX9_stoodBehind 7 = .ok (.iadd, 1) := by decide +kernel
theorem dX9_stoodBehind_8 : decode cX9_stoodBehind 8 = .ok (.istore 4, 2) := by decide +kernel
theorem dX9_stoodBehind_10 : decode cX9_stoodBehind 10 = .ok (.iload 4, 2) := by decide +kernel
theorem dX9_stoodBehind_12 : decode cX9_stoodBehind 12 = .ok (.ifCond .lt 39, 3) := by decide +kernel
theorem dX9_stoodBehind_15 : decode cX9_stoodBehind 15 = .ok (.iload 4, 2) := by decide +kernel
theorem dX9_stoodBehind_17 : decode cX9_stoodBehind 17 = .ok (.aload_n 0, 1) := by decide +kernel
theorem dX9_stoodBehind_18 : decode cX9_stoodBehind 18 = .ok (.getfield 20, 3) := by decide +kernel
theorem dX9_stoodBehind_21 : decode cX9_stoodBehind 21 = .ok (.arraylength, 1) := by decide +kernel
theorem dX9_stoodBehind_22 : decode cX9_stoodBehind 22 = .ok (.if_icmp .ge 29, 3) := by decide +kernel
theorem dX9_stoodBehind_25 : decode cX9_stoodBehind 25 = .ok (.aload_n 0, 1) := by decide +kernel
theorem dX9_stoodBehind_26 : decode cX9_stoodBehind 26 = .ok (.getfield 20, 3) := by decide +kernel
theorem dX9_stoodBehind_29 : decode cX9_stoodBehind 29 = .ok (.iload 4, 2) := by decide +kernel
theorem dX9_stoodBehind_31 : decode cX9_stoodBehind 31 = .ok (.iaload, 1) := by decide +kernel
theorem dX9_stoodBehind_32 : decode cX9_stoodBehind 32 = .ok (.iconst (-1), 1) := by decide +kernel
theorem dX9_stoodBehind_33 : decode cX9_stoodBehind 33 = .ok (.if_icmp .eq 18, 3) := by decide +kernel
theorem dX9_stoodBehind_36 : decode cX9_stoodBehind 36 = .ok (.aload_n 0, 1) := by decide +kernel
theorem dX9_stoodBehind_37 : decode cX9_stoodBehind 37 = .ok (.getfield 20, 3) := by decide +kernel
theorem dX9_stoodBehind_40 : decode cX9_stoodBehind 40 = .ok (.iload 4, 2) := by decide +kernel
theorem dX9_stoodBehind_42 : decode cX9_stoodBehind 42 = .ok (.iaload, 1) := by decide +kernel
theorem dX9_stoodBehind_43 : decode cX9_stoodBehind 43 = .ok (.iload_n 3, 1) := by decide +kernel
theorem dX9_stoodBehind_44 : decode cX9_stoodBehind 44 = .ok (.if_icmp .gt 7, 3) := by decide +kernel
theorem dX9_stoodBehind_47 : decode cX9_stoodBehind 47 = .ok (.iconst 1, 1) := by decide +kernel
theorem dX9_stoodBehind_48 : decode cX9_stoodBehind 48 = .ok (.goto 4, 3) := by decide +kernel
theorem dX9_stoodBehind_51 : decode cX9_stoodBehind 51 = .ok (.iconst 0, 1) := by decide +kernel
theorem dX9_stoodBehind_52 : decode cX9_stoodBehind 52 = .ok (.ireturn, 1) := by decide +kernel
set_option maxRecDepth 20000 in
theorem ggX9_nextLook_X9_suspects : GoodIn wsX9_nextLook wsX9_suspects := goodIn_r _ [5, 6, 7, 8, 9, 10, 11, 12, 13, 14, 4, 15, 16, 17, 18, 19, 20, 21, 22, 23, 24, 25, 26, 27, 28, 29, 30, 31, 32, 33, 34, 35, 36, 37, 38, 39, 40, 41, 42, 43, 44, 45, 46, 47, 48, 49, 50, 51, 52, 53, 54, 55, 56, 57, 58, 59, 60, 61, 62, 63, 64, 65, 66, 67, 68, 69, 70, 71, 72, 73, 74, 75, 76, 77, 78, 79, 80, 81, 82, 83, 84, 85, 86, 87, 88, 89, 90, 91, 92, 93, 94, 95, 96, 97, 98, 99, 100, 101, 102, 103, 104, 105, 106, 107, 108, 109, 110, 111, 112, 113, 114, 115, 116, 117, 118, 119, 120, 121, 122, 123, 124, 125, 126, 127, 128, 129, 130, 131, 132, 133, 134, 135, 136, 137, 138, 139, 140, 141, 142, 143, 144, 145, 146, 147, 148, 149, 150, 151, 152, 153, 154, 155, 156, 157, 158, 159, 160, 161, 162, 163, 164, 165, 166, 167, 168, 169, 170, 171, 172, 173, 174, 175, 176, 177, 178, 179, 180, 181, 182, 183, 191, 192, 193, 194, 195, 196, 197, 198, 199, 200, 201, 202, 203, 204, 205, 206, 207, 208, 209, 210, 211, 212, 213, 214, 215, 216, 217, 218, 219, 220, 221, 222, 223, 224, 225, 226, 227, 228, 229, 230, 231, 232, 233, 234, 235] (by decide +kernel) (by decide +kernel)
set_option maxRecDepth 20000 in
theorem gX9_nextLook_X9_suspects : GoodIn wsX9_nextLook (wsV RX9 117 RX9 yX9_suspects wsX9_suspects) := goodIn_app (goodIn_of _ (by decide +kernel)) ggX9_nextLook_X9_suspects
set_option maxRecDepth 20000 in
theorem ggX9_nextLook_X9_mostAlike : GoodIn wsX9_nextLook wsX9_mostAlike := goodIn_r _ [187, 188, 6, 7, 11, 189, 17, 18, 19, 20, 190, 67, 68, 69, 180, 181, 182, 4, 183, 10, 191, 192, 193, 194, 195, 196, 197, 198, 199, 200, 201, 202, 203, 204, 205, 206, 207, 208, 209, 210, 211, 212, 213, 214, 215, 216, 217, 218, 219, 220] (by decide +kernel) (by decide +kernel)
set_option maxRecDepth 20000 in
theorem gX9_nextLook_X9_mostAlike : GoodIn wsX9_nextLook (wsV RX9 120 RX9 yX9_mostAlike wsX9_mostAlike) := goodIn_app (goodIn_of _ (by decide +kernel)) ggX9_nextLook_X9_mostAlike
theorem dX9_nextLook_0 : decode cX9_nextLook 0 = .ok (.aload_n 0, 1) := by decide +kernel
theorem dX9_nextLook_1 : decode cX9_nextLook 1 = .ok (.iconst (-1), 1) := by decide +kernel
theorem dX9_nextLook_2 : decode cX9_nextLook 2 = .ok (.invokevirtual 117, 3) := by decide +kernel
theorem dX9_nextLook_5 : decode cX9_nextLook 5 = .ok (.ifCond .ne 5, 3) := by decide +kernel
theorem dX9_nextLook_8 : decode cX9_nextLook 8 = .ok (.iconst (-1), 1) := by decide +kernel
theorem dX9_nextLook_9 : decode cX9_nextLook 9 = .ok (.ireturn, 1) := by decide +kernel
theorem dX9_nextLook_10 : decode cX9_nextLook 10 = .ok (.iconst 0, 1) := by decide +kernel
theorem dX9_nextLook_11 : decode cX9_nextLook 11 = .ok (.istore_n 2, 1) := by decide +kernel
theorem dX9_nextLook_12 : decode cX9_nextLook 12 = .ok (.bipush 65, 2) := by decide +kernel
theorem dX9_nextLook_14 : decode cX9_nextLook 14 = .ok (.istore_n 3, 1) := by decide +kernel
theorem dX9_nextLook_15 : decode cX9_nextLook 15 = .ok (.iconst 0, 1) := by decide +kernel
theorem dX9_nextLook_16 : decode cX9_nextLook 16 = .ok (.istore 4, 2) := by decide +kernel
theorem dX9_nextLook_18 : decode cX9_nextLook 18 = .ok (.iload 4, 2) := by decide +kernel
theorem dX9_nextLook_20 : decode cX9_nextLook 20 = .ok (.bipush 40, 2) := by decide +kernel
theorem dX9_nextLook_22 : decode cX9_nextLook 22 = .ok (.if_icmp .gt 29, 3) := by decide +kernel
theorem dX9_nextLook_25 : decode cX9_nextLook 25 = .ok (.aload_n 0, 1) := by decide +kernel
theorem dX9_nextLook_26 : decode cX9_nextLook 26 = .ok (.iload 4, 2) := by decide +kernel
theorem dX9_nextLook_28 : decode cX9_nextLook 28 = .ok (.invokevirtual 120, 3) := by decide +kernel
theorem dX9_nextLook_31 : decode cX9_nextLook 31 = .ok (.istore 5, 2) := by decide +kernel
theorem dX9_nextLook_33 : decode cX9_nextLook 33 = .ok (.iload 5, 2) := by decide +kernel
theorem dX9_nextLook_35 : decode cX9_nextLook 35 = .ok (.iload_n 3, 1) := by decide +kernel
theorem dX9_nextLook_36 : decode cX9_nextLook 36 = .ok (.if_icmp .ge 9, 3) := by decide +kernel
theorem dX9_nextLook_39 : decode cX9_nextLook 39 = .ok (.iload 5, 2) := by decide +kernel
theorem dX9_nextLook_41 : decode cX9_nextLook 41 = .ok (.istore_n 3, 1) := by decide +kernel
theorem dX9_nextLook_42 : decode cX9_nextLook 42 = .ok (.iload 4, 2) := by decide +kernel
theorem dX9_nextLook_44 : decode cX9_nextLook 44 = .ok (.istore_n 2, 1) := by decide +kernel
theorem dX9_nextLook_45 : decode cX9_nextLook 45 = .ok (.iinc 4 1, 3) := by decide +kernel
theorem dX9_nextLook_48 : decode cX9_nextLook 48 = .ok (.goto (-30), 3) := by decide +kernel
theorem dX9_nextLook_51 : decode cX9_nextLook 51 = .ok (.iload_n 1, 1) := by decide +kernel
theorem dX9_nextLook_52 : decode cX9_nextLook 52 = .ok (.ifCond .ne 7, 3) := by decide +kernel
theorem dX9_nextLook_55 : decode cX9_nextLook 55 = .ok (.iload_n 2, 1) := by decide +kernel
theorem dX9_nextLook_56 : decode cX9_nextLook 56 = .ok (.goto 4, 3) := by decide +kernel
theorem dX9_nextLook_59 : decode cX9_nextLook 59 = .ok (.iload_n 3, 1) := by decide +kernel
theorem dX9_nextLook_60 : decode cX9_nextLook 60 = .ok (.ireturn, 1) := by decide +kernel
set_option maxRecDepth 20000 in
theorem ggX9_mostAlike_J7_fill_53178 : GoodIn wsX9_mostAlike wsJ7_fill_53178 := goodIn_r _ [13] (by decide +kernel) (by decide +kernel)
set_option maxRecDepth 20000 in
theorem gX9_mostAlike_J7_fill_53178 : GoodIn wsX9_mostAlike (va_wsS RX9 57 yJ7_fill_53178 wsJ7_fill_53178) := goodIn_app (goodIn_of _ (by decide +kernel)) ggX9_mostAlike_J7_fill_53178
set_option maxRecDepth 20000 in
theorem ggX9_mostAlike_X9_stoodBehind : GoodIn wsX9_mostAlike wsX9_stoodBehind := goodIn_r _ [18, 19, 20, 21, 22, 23, 24, 25, 26, 27, 28, 29] (by decide +kernel) (by decide +kernel)
set_option maxRecDepth 20000 in
theorem gX9_mostAlike_X9_stoodBehind : GoodIn wsX9_mostAlike (wsV RX9 113 RX9 yX9_stoodBehind wsX9_stoodBehind) := goodIn_app (goodIn_of _ (by decide +kernel)) ggX9_mostAlike_X9_stoodBehind
theorem dX9_mostAlike_0 : decode cX9_mostAlike 0 = .ok (.aload_n 0, 1) := by decide +kernel
theorem dX9_mostAlike_1 : decode cX9_mostAlike 1 = .ok (.getfield 38, 3) := by decide +kernel
theorem dX9_mostAlike_4 : decode cX9_mostAlike 4 = .ok (.iconst 0, 1) := by decide +kernel
theorem dX9_mostAlike_5 : decode cX9_mostAlike 5 = .ok (.invokestatic 57, 3) := by decide +kernel
theorem dX9_mostAlike_8 : decode cX9_mostAlike 8 = .ok (.iconst 0, 1) := by decide +kernel
theorem dX9_mostAlike_9 : decode cX9_mostAlike 9 = .ok (.istore_n 2, 1) := by decide +kernel
theorem dX9_mostAlike_10 : decode cX9_mostAlike 10 = .ok (.iconst 0, 1) := by decide +kernel
theorem dX9_mostAlike_11 : decode cX9_mostAlike 11 = .ok (.istore_n 3, 1) := by decide +kernel
theorem dX9_mostAlike_12 : decode cX9_mostAlike 12 = .ok (.iload_n 3, 1) := by decide +kernel
theorem dX9_mostAlike_13 : decode cX9_mostAlike 13 = .ok (.iconst 1, 1) := by decide +kernel
theorem dX9_mostAlike_14 : decode cX9_mostAlike 14 = .ok (.aload_n 0, 1) := by decide +kernel
theorem dX9_mostAlike_15 : decode cX9_mostAlike 15 = .ok (.getfield 41, 3) := by decide +kernel
theorem dX9_mostAlike_18 : decode cX9_mostAlike 18 = .ok (.getfield 63, 3) := by decide +kernel
theorem dX9_mostAlike_21 : decode cX9_mostAlike 21 = .ok (.ishl, 1) := by decide +kernel
theorem dX9_mostAlike_22 : decode cX9_mostAlike 22 = .ok (.if_icmp .ge 95, 3) := by decide +kernel
theorem dX9_mostAlike_25 : decode cX9_mostAlike 25 = .ok (.iload_n 3, 1) := by decide +kernel
theorem dX9_mostAlike_26 : decode cX9_mostAlike 26 = .ok (.bipush 64, 2) := by decide +kernel
theorem dX9_mostAlike_28 : decode cX9_mostAlike 28 = .ok (.if_icmp .ge 89, 3) := by decide +kernel
theorem dX9_mostAlike_31 : decode cX9_mostAlike 31 = .ok (.aload_n 0, 1) := by decide +kernel
theorem dX9_mostAlike_32 : decode cX9_mostAlike 32 = .ok (.getfield 34, 3) := by decide +kernel
theorem dX9_mostAlike_35 : decode cX9_mostAlike 35 = .ok (.iload_n 3, 1) := by decide +kernel
theorem dX9_mostAlike_36 : decode cX9_mostAlike 36 = .ok (.baload, 1) := by decide +kernel
theorem dX9_mostAlike_37 : decode cX9_mostAlike 37 = .ok (.ifCond .ne 6, 3) := by decide +kernel
theorem dX9_mostAlike_40 : decode cX9_mostAlike 40 = .ok (.goto 71, 3) := by decide +kernel
theorem dX9_mostAlike_43 : decode cX9_mostAlike 43 = .ok (.iconst 0, 1) := by decide +kernel
theorem dX9_mostAlike_44 : decode cX9_mostAlike 44 = .ok (.istore 4, 2) := by decide +kernel
theorem dX9_mostAlike_46 : decode cX9_mostAlike 46 = .ok (.iconst 0, 1) := by decide +kernel
theorem dX9_mostAlike_47 : decode cX9_mostAlike 47 = .ok (.istore 5, 2) := by decide +kernel
theorem dX9_mostAlike_49 : decode cX9_mostAlike 49 = .ok (.iload 5, 2) := by decide +kernel
theorem dX9_mostAlike_51 : decode cX9_mostAlike 51 = .ok (.aload_n 0, 1) := by decide +kernel
theorem dX9_mostAlike_52 : decode cX9_mostAlike 52 = .ok (.getfield 41, 3) := by decide +kernel
theorem dX9_mostAlike_55 : decode cX9_mostAlike 55 = .ok (.getfield 123, 3) := by decide +kernel
theorem dX9_mostAlike_58 : decode cX9_mostAlike 58 = .ok (.if_icmp .ge 30, 3) := by decide +kernel
theorem dX9_mostAlike_61 : decode cX9_mostAlike 61 = .ok (.iload 5, 2) := by decide +kernel
theorem dX9_mostAlike_63 : decode cX9_mostAlike 63 = .ok (.bipush 10, 2) := by decide +kernel
theorem dX9_mostAlike_65 : decode cX9_mostAlike 65 = .ok (.if_icmp .ge 23, 3) := by decide +kernel
theorem dX9_mostAlike_68 : decode cX9_mostAlike 68 = .ok (.aload_n 0, 1) := by decide +kernel
theorem dX9_mostAlike_69 : decode cX9_mostAlike 69 = .ok (.iload_n 3, 1) := by decide +kernel
theorem dX9_mostAlike_70 : decode cX9_mostAlike 70 = .ok (.iload 5, 2) := by decide +kernel
theorem dX9_mostAlike_72 : decode cX9_mostAlike 72 = .ok (.iload_n 1, 1) := by decide +kernel
theorem dX9_mostAlike_73 : decode cX9_mostAlike 73 = .ok (.invokevirtual 113, 3) := by decide +kernel
theorem dX9_mostAlike_76 : decode cX9_mostAlike 76 = .ok (.ifCond .eq 6, 3) := by decide +kernel
theorem dX9_mostAlike_79 : decode cX9_mostAlike 79 = .ok (.iinc 4 1, 3) := by decide +kernel
theorem dX9_mostAlike_82 : decode cX9_mostAlike 82 = .ok (.iinc 5 1, 3) := by decide +kernel
theorem dX9_mostAlike_85 : decode cX9_mostAlike 85 = .ok (.goto (-36), 3) := by decide +kernel
theorem dX9_mostAlike_88 : decode cX9_mostAlike 88 = .ok (.aload_n 0, 1) := by decide +kernel
theorem dX9_mostAlike_89 : decode cX9_mostAlike 89 = .ok (.getfield 38, 3) := by decide +kernel
theorem dX9_mostAlike_92 : decode cX9_mostAlike 92 = .ok (.iload 4, 2) := by decide +kernel
theorem dX9_mostAlike_94 : decode cX9_mostAlike 94 = .ok (.dup2, 1) := by decide +kernel
theorem dX9_mostAlike_95 : decode cX9_mostAlike 95 = .ok (.iaload, 1) := by decide +kernel
theorem dX9_mostAlike_96 : decode cX9_mostAlike 96 = .ok (.iconst 1, 1) := by decide +kernel
theorem dX9_mostAlike_97 : decode cX9_mostAlike 97 = .ok (.iadd, 1) := by decide +kernel
theorem dX9_mostAlike_98 : decode cX9_mostAlike 98 = .ok (.iastore, 1) := by decide +kernel
theorem dX9_mostAlike_99 : decode cX9_mostAlike 99 = .ok (.iload_n 2, 1) := by decide +kernel
theorem dX9_mostAlike_100 : decode cX9_mostAlike 100 = .ok (.aload_n 0, 1) := by decide +kernel
theorem dX9_mostAlike_101 : decode cX9_mostAlike 101 = .ok (.getfield 38, 3) := by decide +kernel
theorem dX9_mostAlike_104 : decode cX9_mostAlike 104 = .ok (.iload 4, 2) := by decide +kernel
theorem dX9_mostAlike_106 : decode cX9_mostAlike 106 = .ok (.iaload, 1) := by decide +kernel
theorem dX9_mostAlike_107 : decode cX9_mostAlike 107 = .ok (.invokestatic 82, 3) := by decide +kernel
theorem dX9_mostAlike_110 : decode cX9_mostAlike 110 = .ok (.istore_n 2, 1) := by decide +kernel
theorem dX9_mostAlike_111 : decode cX9_mostAlike 111 = .ok (.iinc 3 1, 3) := by decide +kernel
theorem dX9_mostAlike_114 : decode cX9_mostAlike 114 = .ok (.goto (-102), 3) := by decide +kernel
theorem dX9_mostAlike_117 : decode cX9_mostAlike 117 = .ok (.iload_n 2, 1) := by decide +kernel
theorem dX9_mostAlike_118 : decode cX9_mostAlike 118 = .ok (.ireturn, 1) := by decide +kernel
theorem dX10_init_0 : decode cX10_init 0 = .ok (.aload_n 0, 1) := by decide +kernel
theorem dX10_init_1 : decode cX10_init 1 = .ok (.invokespecial 3, 3) := by decide +kernel
theorem dX10_init_4 : decode cX10_init 4 = .ok (.aload_n 0, 1) := by decide +kernel
theorem dX10_init_5 : decode cX10_init 5 = .ok (.iconst 0, 1) := by decide +kernel
theorem dX10_init_6 : decode cX10_init 6 = .ok (.putfield 9, 3) := by decide +kernel
theorem dX10_init_9 : decode cX10_init 9 = .ok (.aload_n 0, 1) := by decide +kernel
theorem dX10_init_10 : decode cX10_init 10 = .ok (.bipush 12, 2) := by decide +kernel
theorem dX10_init_12 : decode cX10_init 12 = .ok (.newarray .int, 2) := by decide +kernel
theorem dX10_init_14 : decode cX10_init 14 = .ok (.putfield 15, 3) := by decide +kernel
theorem dX10_init_17 : decode cX10_init 17 = .ok (.aload_n 0, 1) := by decide +kernel
theorem dX10_init_18 : decode cX10_init 18 = .ok (.bipush 12, 2) := by decide +kernel
theorem dX10_init_20 : decode cX10_init 20 = .ok (.newarray .int, 2) := by decide +kernel
theorem dX10_init_22 : decode cX10_init 22 = .ok (.putfield 19, 3) := by decide +kernel
theorem dX10_init_25 : decode cX10_init 25 = .ok (.aload_n 0, 1) := by decide +kernel
theorem dX10_init_26 : decode cX10_init 26 = .ok (.bipush 37, 2) := by decide +kernel
theorem dX10_init_28 : decode cX10_init 28 = .ok (.newarray .int, 2) := by decide +kernel
theorem dX10_init_30 : decode cX10_init 30 = .ok (.putfield 22, 3) := by decide +kernel
theorem dX10_init_33 : decode cX10_init 33 = .ok (.aload_n 0, 1) := by decide +kernel
theorem dX10_init_34 : decode cX10_init 34 = .ok (.iconst 0, 1) := by decide +kernel
theorem dX10_init_35 : decode cX10_init 35 = .ok (.putfield 25, 3) := by decide +kernel
theorem dX10_init_38 : decode cX10_init 38 = .ok (.aload_n 0, 1) := by decide +kernel
theorem dX10_init_39 : decode cX10_init 39 = .ok (.iconst 0, 1) := by decide +kernel
theorem dX10_init_40 : decode cX10_init 40 = .ok (.iload_n 1, 1) := by decide +kernel
theorem dX10_init_41 : decode cX10_init 41 = .ok (.invokestatic 28, 3) := by decide +kernel
theorem dX10_init_44 : decode cX10_init 44 = .ok (.newarray .int, 2) := by decide +kernel
theorem dX10_init_46 : decode cX10_init 46 = .ok (.putfield 34, 3) := by decide +kernel
theorem dX10_init_49 : decode cX10_init 49 = .ok (.return_, 1) := by decide +kernel
set_option maxRecDepth 20000 in
theorem ggX10_copy_X10_init : GoodIn wsX10_copy wsX10_init := goodIn_r _ [16, 17, 18, 19, 5, 20, 6, 11, 12, 4, 21, 22, 23, 24, 13, 25, 26, 27, 28, 29, 30] (by decide +kernel) (by decide +kernel)
set_option maxRecDepth 20000 in
theorem gX10_copy_X10_init : GoodIn wsX10_copy (wsX10_init) := ggX10_copy_X10_init
theorem dX10_copy_0 : decode cX10_copy 0 = .ok (.new 10, 3) := by decide +kernel
theorem dX10_copy_3 : decode cX10_copy 3 = .ok (.dup, 1) := by decide +kernel
theorem dX10_copy_4 : decode cX10_copy 4 = .ok (.aload_n 0, 1) := by decide +kernel
theorem dX10_copy_5 : decode cX10_copy 5 = .ok (.getfield 25, 3) := by decide +kernel
theorem dX10_copy_8 : decode cX10_copy 8 = .ok (.invokespecial 37, 3) := by decide +kernel
theorem dX10_copy_11 : decode cX10_copy 11 = .ok (.astore_n 1, 1) := by decide +kernel
theorem dX10_copy_12 : decode cX10_copy 12 = .ok (.aload_n 1, 1) := by decide +kernel
theorem dX10_copy_13 : decode cX10_copy 13 = .ok (.aload_n 0, 1) := by decide +kernel
theorem dX10_copy_14 : decode cX10_copy 14 = .ok (.getfield 9, 3) := by decide +kernel
theorem dX10_copy_17 : decode cX10_copy 17 = .ok (.putfield 9, 3) := by decide +kernel
theorem dX10_copy_20 : decode cX10_copy 20 = .ok (.aload_n 0, 1) := by decide +kernel
theorem dX10_copy_21 : decode cX10_copy 21 = .ok (.getfield 15, 3) := by decide +kernel
theorem dX10_copy_24 : decode cX10_copy 24 = .ok (.iconst 0, 1) := by decide +kernel
theorem dX10_copy_25 : decode cX10_copy 25 = .ok (.aload_n 1, 1) := by decide +kernel
theorem dX10_copy_26 : decode cX10_copy 26 = .ok (.getfield 15, 3) := by decide +kernel
theorem dX10_copy_29 : decode cX10_copy 29 = .ok (.iconst 0, 1) := by decide +kernel
theorem dX10_copy_30 : decode cX10_copy 30 = .ok (.bipush 12, 2) := by decide +kernel
theorem dX10_copy_32 : decode cX10_copy 32 = .ok (.invokestatic 40, 3) := by decide +kernel
theorem dX10_copy_35 : decode cX10_copy 35 = .ok (.aload_n 0, 1) := by decide +kernel
theorem dX10_copy_36 : decode cX10_copy 36 = .ok (.getfield 19, 3) := by decide +kernel
theorem dX10_copy_39 : decode cX10_copy 39 = .ok (.iconst 0, 1) := by decide +kernel
theorem dX10_copy_40 : decode cX10_copy 40 = .ok (.aload_n 1, 1) := by decide +kernel
theorem dX10_copy_41 : decode cX10_copy 41 = .ok (.getfield 19, 3) := by decide +kernel
theorem dX10_copy_44 : decode cX10_copy 44 = .ok (.iconst 0, 1) := by decide +kernel
theorem dX10_copy_45 : decode cX10_copy 45 = .ok (.bipush 12, 2) := by decide +kernel
theorem dX10_copy_47 : decode cX10_copy 47 = .ok (.invokestatic 40, 3) := by decide +kernel
theorem dX10_copy_50 : decode cX10_copy 50 = .ok (.aload_n 0, 1) := by decide +kernel
theorem dX10_copy_51 : decode cX10_copy 51 = .ok (.getfield 22, 3) := by decide +kernel
theorem dX10_copy_54 : decode cX10_copy 54 = .ok (.iconst 0, 1) := by decide +kernel
theorem dX10_copy_55 : decode cX10_copy 55 = .ok (.aload_n 1, 1) := by decide +kernel
theorem dX10_copy_56 : decode cX10_copy 56 = .ok (.getfield 22, 3) := by decide +kernel
theorem dX10_copy_59 : decode cX10_copy 59 = .ok (.iconst 0, 1) := by decide +kernel
theorem dX10_copy_60 : decode cX10_copy 60 = .ok (.aload_n 0, 1) := by decide +kernel
theorem dX10_copy_61 : decode cX10_copy 61 = .ok (.getfield 22, 3) := by decide +kernel
theorem dX10_copy_64 : decode cX10_copy 64 = .ok (.arraylength, 1) := by decide +kernel
theorem dX10_copy_65 : decode cX10_copy 65 = .ok (.invokestatic 40, 3) := by decide +kernel
theorem dX10_copy_68 : decode cX10_copy 68 = .ok (.aload_n 1, 1) := by decide +kernel
theorem dX10_copy_69 : decode cX10_copy 69 = .ok (.aload_n 1, 1) := by decide +kernel
theorem dX10_copy_70 : decode cX10_copy 70 = .ok (.getfield 34, 3) := by decide +kernel
theorem dX10_copy_73 : decode cX10_copy 73 = .ok (.arraylength, 1) := by decide +kernel
theorem dX10_copy_74 : decode cX10_copy 74 = .ok (.putfield 25, 3) := by decide +kernel
theorem dX10_copy_77 : decode cX10_copy 77 = .ok (.aload_n 0, 1) := by decide +kernel
theorem dX10_copy_78 : decode cX10_copy 78 = .ok (.getfield 34, 3) := by decide +kernel
theorem dX10_copy_81 : decode cX10_copy 81 = .ok (.iconst 0, 1) := by decide +kernel
theorem dX10_copy_82 : decode cX10_copy 82 = .ok (.aload_n 1, 1) := by decide +kernel
theorem dX10_copy_83 : decode cX10_copy 83 = .ok (.getfield 34, 3) := by decide +kernel
theorem dX10_copy_86 : decode cX10_copy 86 = .ok (.iconst 0, 1) := by decide +kernel
theorem dX10_copy_87 : decode cX10_copy 87 = .ok (.aload_n 1, 1) := by decide +kernel
theorem dX10_copy_88 : decode cX10_copy 88 = .ok (.getfield 25, 3) := by decide +kernel
theorem dX10_copy_91 : decode cX10_copy 91 = .ok (.invokestatic 40, 3) := by decide +kernel
theorem dX10_copy_94 : decode cX10_copy 94 = .ok (.aload_n 1, 1) := by decide +kernel
theorem dX10_copy_95 : decode cX10_copy 95 = .ok (.areturn, 1) := by decide +kernel
set_option maxRecDepth 20000 in
theorem ggX10_clear_J7_fill_53178 : GoodIn wsX10_clear wsJ7_fill_53178 := goodIn_r _ [7] (by decide +kernel) (by decide +kernel)
set_option maxRecDepth 20000 in
theorem gX10_clear_J7_fill_53178 : GoodIn wsX10_clear (va_wsS RX10 46 yJ7_fill_53178 wsJ7_fill_53178) := goodIn_app (goodIn_of _ (by decide +kernel)) ggX10_clear_J7_fill_53178
theorem dX10_clear_0 : decode cX10_clear 0 = .ok (.aload_n 0, 1) := by decide +kernel
theorem dX10_clear_1 : decode cX10_clear 1 = .ok (.iconst 0, 1) := by decide +kernel
theorem dX10_clear_2 : decode cX10_clear 2 = .ok (.putfield 9, 3) := by decide +kernel
theorem dX10_clear_5 : decode cX10_clear 5 = .ok (.aload_n 0, 1) := by decide +kernel
theorem dX10_clear_6 : decode cX10_clear 6 = .ok (.iconst 0, 1) := by decide +kernel
theorem dX10_clear_7 : decode cX10_clear 7 = .ok (.putfield 25, 3) := by decide +kernel
theorem dX10_clear_10 : decode cX10_clear 10 = .ok (.aload_n 0, 1) := by decide +kernel
theorem dX10_clear_11 : decode cX10_clear 11 = .ok (.getfield 22, 3) := by decide +kernel
theorem dX10_clear_14 : decode cX10_clear 14 = .ok (.iconst 0, 1) := by decide +kernel
theorem dX10_clear_15 : decode cX10_clear 15 = .ok (.invokestatic 46, 3) := by decide +kernel
theorem dX10_clear_18 : decode cX10_clear 18 = .ok (.return_, 1) := by decide +kernel
theorem dX10_open_0 : decode cX10_open 0 = .ok (.aload_n 0, 1) := by decide +kernel
theorem dX10_open_1 : decode cX10_open 1 = .ok (.getfield 9, 3) := by decide +kernel
theorem dX10_open_4 : decode cX10_open 4 = .ok (.ifCond .lt 12, 3) := by decide +kernel
theorem dX10_open_7 : decode cX10_open 7 = .ok (.aload_n 0, 1) := by decide +kernel
theorem dX10_open_8 : decode cX10_open 8 = .ok (.getfield 9, 3) := by decide +kernel
theorem dX10_open_11 : decode cX10_open 11 = .ok (.bipush 12, 2) := by decide +kernel
theorem dX10_open_13 : decode cX10_open 13 = .ok (.if_icmp .lt 5, 3) := by decide +kernel
theorem dX10_open_16 : decode cX10_open 16 = .ok (.iconst 0, 1) := by decide +kernel
theorem dX10_open_17 : decode cX10_open 17 = .ok (.ireturn, 1) := by decide +kernel
theorem dX10_open_18 : decode cX10_open 18 = .ok (.aload_n 0, 1) := by decide +kernel
theorem dX10_open_19 : decode cX10_open 19 = .ok (.getfield 15, 3) := by decide +kernel
theorem dX10_open_22 : decode cX10_open 22 = .ok (.aload_n 0, 1) := by decide +kernel
theorem dX10_open_23 : decode cX10_open 23 = .ok (.getfield 9, 3) := by decide +kernel
theorem dX10_open_26 : decode cX10_open 26 = .ok (.iload_n 1, 1) := by decide +kernel
theorem dX10_open_27 : decode cX10_open 27 = .ok (.iastore, 1) := by decide +kernel
theorem dX10_open_28 : decode cX10_open 28 = .ok (.aload_n 0, 1) := by decide +kernel
theorem dX10_open_29 : decode cX10_open 29 = .ok (.getfield 19, 3) := by decide +kernel
theorem dX10_open_32 : decode cX10_open 32 = .ok (.aload_n 0, 1) := by decide +kernel
theorem dX10_open_33 : decode cX10_open 33 = .ok (.getfield 9, 3) := by decide +kernel
theorem dX10_open_36 : decode cX10_open 36 = .ok (.iconst 1, 1) := by decide +kernel
theorem dX10_open_37 : decode cX10_open 37 = .ok (.iastore, 1) := by decide +kernel
theorem dX10_open_38 : decode cX10_open 38 = .ok (.aload_n 0, 1) := by decide +kernel
theorem dX10_open_39 : decode cX10_open 39 = .ok (.dup, 1) := by decide +kernel
theorem dX10_open_40 : decode cX10_open 40 = .ok (.getfield 9, 3) := by decide +kernel
theorem dX10_open_43 : decode cX10_open 43 = .ok (.iconst 1, 1) := by decide +kernel
theorem dX10_open_44 : decode cX10_open 44 = .ok (.iadd, 1) := by decide +kernel
theorem dX10_open_45 : decode cX10_open 45 = .ok (.putfield 9, 3) := by decide +kernel
theorem dX10_open_48 : decode cX10_open 48 = .ok (.iconst 1, 1) := by decide +kernel
theorem dX10_open_49 : decode cX10_open 49 = .ok (.ireturn, 1) := by decide +kernel
theorem dX10_repeat_0 : decode cX10_repeat 0 = .ok (.aload_n 0, 1) := by decide +kernel
theorem dX10_repeat_1 : decode cX10_repeat 1 = .ok (.getfield 9, 3) := by decide +kernel
theorem dX10_repeat_4 : decode cX10_repeat 4 = .ok (.ifCond .le 24, 3) := by decide +kernel
theorem dX10_repeat_7 : decode cX10_repeat 7 = .ok (.aload_n 0, 1) := by decide +kernel
theorem dX10_repeat_8 : decode cX10_repeat 8 = .ok (.getfield 9, 3) := by decide +kernel
theorem dX10_repeat_11 : decode cX10_repeat 11 = .ok (.bipush 12, 2) := by decide +kernel
theorem dX10_repeat_13 : decode cX10_repeat 13 = .ok (.if_icmp .gt 15, 3) := by decide +kernel
theorem dX10_repeat_16 : decode cX10_repeat 16 = .ok (.aload_n 0, 1) := by decide +kernel
theorem dX10_repeat_17 : decode cX10_repeat 17 = .ok (.getfield 19, 3) := by decide +kernel
theorem dX10_repeat_20 : decode cX10_repeat 20 = .ok (.aload_n 0, 1) := by decide +kernel
theorem dX10_repeat_21 : decode cX10_repeat 21 = .ok (.getfield 9, 3) := by decide +kernel
theorem dX10_repeat_24 : decode cX10_repeat 24 = .ok (.iconst 1, 1) := by decide +kernel
theorem dX10_repeat_25 : decode cX10_repeat 25 = .ok (.isub, 1) := by decide +kernel
theorem dX10_repeat_26 : decode cX10_repeat 26 = .ok (.iload_n 1, 1) := by decide +kernel
theorem dX10_repeat_27 : decode cX10_repeat 27 = .ok (.iastore, 1) := by decide +kernel
theorem dX10_repeat_28 : decode cX10_repeat 28 = .ok (.return_, 1) := by decide +kernel
theorem dX10_close_0 : decode cX10_close 0 = .ok (.aload_n 0, 1) := by decide +kernel
theorem dX10_close_1 : decode cX10_close 1 = .ok (.getfield 9, 3) := by decide +kernel
theorem dX10_close_4 : decode cX10_close 4 = .ok (.iconst 1, 1) := by decide +kernel
theorem dX10_close_5 : decode cX10_close 5 = .ok (.isub, 1) := by decide +kernel
theorem dX10_close_6 : decode cX10_close 6 = .ok (.iconst 3, 1) := by decide +kernel
theorem dX10_close_7 : decode cX10_close 7 = .ok (.imul, 1) := by decide +kernel
theorem dX10_close_8 : decode cX10_close 8 = .ok (.iload_n 1, 1) := by decide +kernel
theorem dX10_close_9 : decode cX10_close 9 = .ok (.iadd, 1) := by decide +kernel
theorem dX10_close_10 : decode cX10_close 10 = .ok (.iconst 1, 1) := by decide +kernel
theorem dX10_close_11 : decode cX10_close 11 = .ok (.iadd, 1) := by decide +kernel
theorem dX10_close_12 : decode cX10_close 12 = .ok (.istore_n 2, 1) := by decide +kernel
theorem dX10_close_13 : decode cX10_close 13 = .ok (.iload_n 2, 1) := by decide +kernel
theorem dX10_close_14 : decode cX10_close 14 = .ok (.ifCond .le 22, 3) := by decide +kernel
theorem dX10_close_17 : decode cX10_close 17 = .ok (.iload_n 2, 1) := by decide +kernel
theorem dX10_close_18 : decode cX10_close 18 = .ok (.aload_n 0, 1) := by decide +kernel
theorem dX10_close_19 : decode cX10_close 19 = .ok (.getfield 22, 3) := by decide +kernel
theorem dX10_close_22 : decode cX10_close 22 = .ok (.arraylength, 1) := by decide +kernel
theorem dX10_close_23 : decode cX10_close 23 = .ok (.if_icmp .ge 13, 3) := by decide +kernel
theorem dX10_close_26 : decode cX10_close 26 = .ok (.aload_n 0, 1) := by decide +kernel
theorem dX10_close_27 : decode cX10_close 27 = .ok (.getfield 22, 3) := by decide +kernel
theorem dX10_close_30 : decode cX10_close 30 = .ok (.iload_n 2, 1) := by decide +kernel
theorem dX10_close_31 : decode cX10_close 31 = .ok (.aload_n 0, 1) := by decide +kernel
theorem dX10_close_32 : decode cX10_close 32 = .ok (.getfield 25, 3) := by decide +kernel
theorem dX10_close_35 : decode cX10_close 35 = .ok (.iastore, 1) := by decide +kernel
theorem dX10_close_36 : decode cX10_close 36 = .ok (.return_, 1) := by decide +kernel
theorem dX10_emit_0 : decode cX10_emit 0 = .ok (.aload_n 0, 1) := by decide +kernel
theorem dX10_emit_1 : decode cX10_emit 1 = .ok (.getfield 25, 3) := by decide +kernel
theorem dX10_emit_4 : decode cX10_emit 4 = .ok (.ifCond .lt 15, 3) := by decide +kernel
theorem dX10_emit_7 : decode cX10_emit 7 = .ok (.aload_n 0, 1) := by decide +kernel
theorem dX10_emit_8 : decode cX10_emit 8 = .ok (.getfield 25, 3) := by decide +kernel
theorem dX10_emit_11 : decode cX10_emit 11 = .ok (.aload_n 0, 1) := by decide +kernel
theorem dX10_emit_12 : decode cX10_emit 12 = .ok (.getfield 34, 3) := by decide +kernel
theorem dX10_emit_15 : decode cX10_emit 15 = .ok (.arraylength, 1) := by decide +kernel
theorem dX10_emit_16 : decode cX10_emit 16 = .ok (.if_icmp .lt 5, 3) := by decide +kernel
theorem dX10_emit_19 : decode cX10_emit 19 = .ok (.iconst (-1), 1) := by decide +kernel
theorem dX10_emit_20 : decode cX10_emit 20 = .ok (.ireturn, 1) := by decide +kernel
theorem dX10_emit_21 : decode cX10_emit 21 = .ok (.aload_n 0, 1) := by decide +kernel
theorem dX10_emit_22 : decode cX10_emit 22 = .ok (.getfield 34, 3) := by decide +kernel
theorem dX10_emit_25 : decode cX10_emit 25 = .ok (.aload_n 0, 1) := by decide +kernel
theorem dX10_emit_26 : decode cX10_emit 26 = .ok (.getfield 25, 3) := by decide +kernel
theorem dX10_emit_29 : decode cX10_emit 29 = .ok (.iload_n 1, 1) := by decide +kernel
theorem dX10_emit_30 : decode cX10_emit 30 = .ok (.bipush 12, 2) := by decide +kernel
theorem dX10_emit_32 : decode cX10_emit 32 = .ok (.ishl, 1) := by decide +kernel
theorem dX10_emit_33 : decode cX10_emit 33 = .ok (.iload_n 2, 1) := by decide +kernel
theorem dX10_emit_34 : decode cX10_emit 34 = .ok (.sipush 4095, 3) := by decide +kernel
theorem dX10_emit_37 : decode cX10_emit 37 = .ok (.iand, 1) := by decide +kernel
theorem dX10_emit_38 : decode cX10_emit 38 = .ok (.ior, 1) := by decide +kernel
theorem dX10_emit_39 : decode cX10_emit 39 = .ok (.iastore, 1) := by decide +kernel
theorem dX10_emit_40 : decode cX10_emit 40 = .ok (.aload_n 0, 1) := by decide +kernel
theorem dX10_emit_41 : decode cX10_emit 41 = .ok (.dup, 1) := by decide +kernel
theorem dX10_emit_42 : decode cX10_emit 42 = .ok (.getfield 25, 3) := by decide +kernel
theorem dX10_emit_45 : decode cX10_emit 45 = .ok (.iconst 1, 1) := by decide +kernel
theorem dX10_emit_46 : decode cX10_emit 46 = .ok (.iadd, 1) := by decide +kernel
theorem dX10_emit_47 : decode cX10_emit 47 = .ok (.putfield 25, 3) := by decide +kernel
theorem dX10_emit_50 : decode cX10_emit 50 = .ok (.aload_n 0, 1) := by decide +kernel
theorem dX10_emit_51 : decode cX10_emit 51 = .ok (.getfield 25, 3) := by decide +kernel
theorem dX10_emit_54 : decode cX10_emit 54 = .ok (.iconst 1, 1) := by decide +kernel
theorem dX10_emit_55 : decode cX10_emit 55 = .ok (.isub, 1) := by decide +kernel
theorem dX10_emit_56 : decode cX10_emit 56 = .ok (.ireturn, 1) := by decide +kernel
theorem dX10_land_0 : decode cX10_land 0 = .ok (.iload_n 1, 1) := by decide +kernel
theorem dX10_land_1 : decode cX10_land 1 = .ok (.ifCond .lt 45, 3) := by decide +kernel
theorem dX10_land_4 : decode cX10_land 4 = .ok (.iload_n 1, 1) := by decide +kernel
theorem dX10_land_5 : decode cX10_land 5 = .ok (.aload_n 0, 1) := by decide +kernel
theorem dX10_land_6 : decode cX10_land 6 = .ok (.getfield 25, 3) := by decide +kernel
theorem dX10_land_9 : decode cX10_land 9 = .ok (.if_icmp .ge 37, 3) := by decide +kernel
theorem dX10_land_12 : decode cX10_land 12 = .ok (.iload_n 1, 1) := by decide +kernel
theorem dX10_land_13 : decode cX10_land 13 = .ok (.aload_n 0, 1) := by decide +kernel
theorem dX10_land_14 : decode cX10_land 14 = .ok (.getfield 34, 3) := by decide +kernel
theorem dX10_land_17 : decode cX10_land 17 = .ok (.arraylength, 1) := by decide +kernel
theorem dX10_land_18 : decode cX10_land 18 = .ok (.if_icmp .ge 28, 3) := by decide +kernel
theorem dX10_land_21 : decode cX10_land 21 = .ok (.aload_n 0, 1) := by decide +kernel
theorem dX10_land_22 : decode cX10_land 22 = .ok (.getfield 34, 3) := by decide +kernel
theorem dX10_land_25 : decode cX10_land 25 = .ok (.iload_n 1, 1) := by decide +kernel
theorem dX10_land_26 : decode cX10_land 26 = .ok (.aload_n 0, 1) := by decide +kernel
theorem dX10_land_27 : decode cX10_land 27 = .ok (.getfield 34, 3) := by decide +kernel
theorem dX10_land_30 : decode cX10_land 30 = .ok (.iload_n 1, 1) := by decide +kernel
theorem dX10_land_31 : decode cX10_land 31 = .ok (.iaload, 1) := by decide +kernel
theorem dX10_land_32 : decode cX10_land 32 = .ok (.sipush (-4096), 3) := by decide +kernel
theorem dX10_land_35 : decode cX10_land 35 = .ok (.iand, 1) := by decide +kernel
theorem dX10_land_36 : decode cX10_land 36 = .ok (.aload_n 0, 1) := by decide +kernel
theorem dX10_land_37 : decode cX10_land 37 = .ok (.getfield 25, 3) := by decide +kernel
theorem dX10_land_40 : decode cX10_land 40 = .ok (.sipush 4095, 3) := by decide +kernel
theorem dX10_land_43 : decode cX10_land 43 = .ok (.iand, 1) := by decide +kernel
theorem dX10_land_44 : decode cX10_land 44 = .ok (.ior, 1) := by decide +kernel
theorem dX10_land_45 : decode cX10_land 45 = .ok (.iastore, 1) := by decide +kernel
theorem dX10_land_46 : decode cX10_land 46 = .ok (.return_, 1) := by decide +kernel
set_option maxRecDepth 20000 in
theorem ggX10_reckon_X10_joined : GoodIn wsX10_reckon wsX10_joined := goodIn_r _ [7, 3, 8, 9] (by decide +kernel) (by decide +kernel)
set_option maxRecDepth 20000 in
theorem gX10_reckon_X10_joined : GoodIn wsX10_reckon (va_wsS RX10 54 yX10_joined wsX10_joined) := goodIn_app (goodIn_of _ (by decide +kernel)) ggX10_reckon_X10_joined
theorem dX10_reckon_0 : decode cX10_reckon 0 = .ok (.iload_n 1, 1) := by decide +kernel
theorem dX10_reckon_1 : decode cX10_reckon 1 = .ok (.iconst 3, 1) := by decide +kernel
theorem dX10_reckon_2 : decode cX10_reckon 2 = .ok (.imul, 1) := by decide +kernel
theorem dX10_reckon_3 : decode cX10_reckon 3 = .ok (.iload_n 2, 1) := by decide +kernel
theorem dX10_reckon_4 : decode cX10_reckon 4 = .ok (.iadd, 1) := by decide +kernel
theorem dX10_reckon_5 : decode cX10_reckon 5 = .ok (.istore 5, 2) := by decide +kernel
theorem dX10_reckon_7 : decode cX10_reckon 7 = .ok (.iload 5, 2) := by decide +kernel
theorem dX10_reckon_9 : decode cX10_reckon 9 = .ok (.ifCond .lt 42, 3) := by decide +kernel
theorem dX10_reckon_12 : decode cX10_reckon 12 = .ok (.iload 5, 2) := by decide +kernel
theorem dX10_reckon_14 : decode cX10_reckon 14 = .ok (.iconst 1, 1) := by decide +kernel
theorem dX10_reckon_15 : decode cX10_reckon 15 = .ok (.iadd, 1) := by decide +kernel
theorem dX10_reckon_16 : decode cX10_reckon 16 = .ok (.aload_n 0, 1) := by decide +kernel
theorem dX10_reckon_17 : decode cX10_reckon 17 = .ok (.getfield 22, 3) := by decide +kernel
theorem dX10_reckon_20 : decode cX10_reckon 20 = .ok (.arraylength, 1) := by decide +kernel
theorem dX10_reckon_21 : decode cX10_reckon 21 = .ok (.if_icmp .ge 30, 3) := by decide +kernel
theorem dX10_reckon_24 : decode cX10_reckon 24 = .ok (.aload_n 0, 1) := by decide +kernel
theorem dX10_reckon_25 : decode cX10_reckon 25 = .ok (.getfield 22, 3) := by decide +kernel
theorem dX10_reckon_28 : decode cX10_reckon 28 = .ok (.iload 5, 2) := by decide +kernel
theorem dX10_reckon_30 : decode cX10_reckon 30 = .ok (.iaload, 1) := by decide +kernel
theorem dX10_reckon_31 : decode cX10_reckon 31 = .ok (.ifCond .lt 20, 3) := by decide +kernel
theorem dX10_reckon_34 : decode cX10_reckon 34 = .ok (.aload_n 0, 1) := by decide +kernel
theorem dX10_reckon_35 : decode cX10_reckon 35 = .ok (.getfield 22, 3) := by decide +kernel
theorem dX10_reckon_38 : decode cX10_reckon 38 = .ok (.iload 5, 2) := by decide +kernel
theorem dX10_reckon_40 : decode cX10_reckon 40 = .ok (.iconst 1, 1) := by decide +kernel
theorem dX10_reckon_41 : decode cX10_reckon 41 = .ok (.iadd, 1) := by decide +kernel
theorem dX10_reckon_42 : decode cX10_reckon 42 = .ok (.iaload, 1) := by decide +kernel
theorem dX10_reckon_43 : decode cX10_reckon 43 = .ok (.aload_n 0, 1) := by decide +kernel
theorem dX10_reckon_44 : decode cX10_reckon 44 = .ok (.getfield 34, 3) := by decide +kernel
theorem dX10_reckon_47 : decode cX10_reckon 47 = .ok (.arraylength, 1) := by decide +kernel
theorem dX10_reckon_48 : decode cX10_reckon 48 = .ok (.if_icmp .le 7, 3) := by decide +kernel
theorem dX10_reckon_51 : decode cX10_reckon 51 = .ok (.ldc2_w 52, 3) := by decide +kernel
theorem dX10_reckon_54 : decode cX10_reckon 54 = .ok (.lreturn, 1) := by decide +kernel
theorem dX10_reckon_55 : decode cX10_reckon 55 = .ok (.aload_n 0, 1) := by decide +kernel
theorem dX10_reckon_56 : decode cX10_reckon 56 = .ok (.getfield 22, 3) := by decide +kernel
theorem dX10_reckon_59 : decode cX10_reckon 59 = .ok (.iload 5, 2) := by decide +kernel
theorem dX10_reckon_61 : decode cX10_reckon 61 = .ok (.iconst 1, 1) := by decide +kernel
theorem dX10_reckon_62 : decode cX10_reckon 62 = .ok (.iadd, 1) := by decide +kernel
theorem dX10_reckon_63 : decode cX10_reckon 63 = .ok (.iaload, 1) := by decide +kernel
theorem dX10_reckon_64 : decode cX10_reckon 64 = .ok (.istore 6, 2) := by decide +kernel
theorem dX10_reckon_66 : decode cX10_reckon 66 = .ok (.aload_n 0, 1) := by decide +kernel
theorem dX10_reckon_67 : decode cX10_reckon 67 = .ok (.getfield 22, 3) := by decide +kernel
theorem dX10_reckon_70 : decode cX10_reckon 70 = .ok (.iload 5, 2) := by decide +kernel
theorem dX10_reckon_72 : decode cX10_reckon 72 = .ok (.iaload, 1) := by decide +kernel
theorem dX10_reckon_73 : decode cX10_reckon 73 = .ok (.iload 6, 2) := by decide +kernel
theorem dX10_reckon_75 : decode cX10_reckon 75 = .ok (.if_icmp .lt 5, 3) := by decide +kernel
theorem dX10_reckon_78 : decode cX10_reckon 78 = .ok (.lconst 1, 1) := by decide +kernel
theorem dX10_reckon_79 : decode cX10_reckon 79 = .ok (.lreturn, 1) := by decide +kernel
theorem dX10_reckon_80 : decode cX10_reckon 80 = .ok (.iconst 0, 1) := by decide +kernel
theorem dX10_reckon_81 : decode cX10_reckon 81 = .ok (.istore 7, 2) := by decide +kernel
theorem dX10_reckon_83 : decode cX10_reckon 83 = .ok (.aload_n 0, 1) := by decide +kernel
theorem dX10_reckon_84 : decode cX10_reckon 84 = .ok (.getfield 22, 3) := by decide +kernel
theorem dX10_reckon_87 : decode cX10_reckon 87 = .ok (.iload 5, 2) := by decide +kernel
theorem dX10_reckon_89 : decode cX10_reckon 89 = .ok (.iaload, 1) := by decide +kernel
theorem dX10_reckon_90 : decode cX10_reckon 90 = .ok (.istore 8, 2) := by decide +kernel
theorem dX10_reckon_92 : decode cX10_reckon 92 = .ok (.iload 8, 2) := by decide +kernel
theorem dX10_reckon_94 : decode cX10_reckon 94 = .ok (.iload 6, 2) := by decide +kernel
theorem dX10_reckon_96 : decode cX10_reckon 96 = .ok (.if_icmp .ge 246, 3) := by decide +kernel
theorem dX10_reckon_99 : decode cX10_reckon 99 = .ok (.aload_n 0, 1) := by decide +kernel
theorem dX10_reckon_100 : decode cX10_reckon 100 = .ok (.getfield 34, 3) := by decide +kernel
theorem dX10_reckon_103 : decode cX10_reckon 103 = .ok (.iload 8, 2) := by decide +kernel
theorem dX10_reckon_105 : decode cX10_reckon 105 = .ok (.iaload, 1) := by decide +kernel
theorem dX10_reckon_106 : decode cX10_reckon 106 = .ok (.bipush 12, 2) := by decide +kernel
theorem dX10_reckon_108 : decode cX10_reckon 108 = .ok (.ishr, 1) := by decide +kernel
theorem dX10_reckon_109 : decode cX10_reckon 109 = .ok (.istore 9, 2) := by decide +kernel
theorem dX10_reckon_111 : decode cX10_reckon 111 = .ok (.aload_n 0, 1) := by decide +kernel
theorem dX10_reckon_112 : decode cX10_reckon 112 = .ok (.getfield 34, 3) := by decide +kernel
theorem dX10_reckon_115 : decode cX10_reckon 115 = .ok (.iload 8, 2) := by decide +kernel
theorem dX10_reckon_117 : decode cX10_reckon 117 = .ok (.iaload, 1) := by decide +kernel
theorem dX10_reckon_118 : decode cX10_reckon 118 = .ok (.sipush 4095, 3) := by decide +kernel
theorem dX10_reckon_121 : decode cX10_reckon 121 = .ok (.iand, 1) := by decide +kernel
theorem dX10_reckon_122 : decode cX10_reckon 122 = .ok (.istore 10, 2) := by decide +kernel
theorem dX10_reckon_124 : decode cX10_reckon 124 = .ok (.iload 9, 2) := by decide +kernel
theorem dX10_reckon_126 : decode cX10_reckon 126 = .ok (.iconst 1, 1) := by decide +kernel
theorem dX10_reckon_127 : decode cX10_reckon 127 = .ok (.if_icmp .gt 54, 3) := by decide +kernel
theorem dX10_reckon_130 : decode cX10_reckon 130 = .ok (.iload 7, 2) := by decide +kernel
theorem dX10_reckon_132 : decode cX10_reckon 132 = .ok (.aload 4, 2) := by decide +kernel
theorem dX10_reckon_134 : decode cX10_reckon 134 = .ok (.arraylength, 1) := by decide +kernel
theorem dX10_reckon_135 : decode cX10_reckon 135 = .ok (.if_icmp .ge 16, 3) := by decide +kernel
theorem dX10_reckon_138 : decode cX10_reckon 138 = .ok (.iload 9, 2) := by decide +kernel
theorem dX10_reckon_140 : decode cX10_reckon 140 = .ok (.iconst 1, 1) := by decide +kernel
theorem dX10_reckon_141 : decode cX10_reckon 141 = .ok (.if_icmp .ne 14, 3) := by decide +kernel
theorem dX10_reckon_144 : decode cX10_reckon 144 = .ok (.iload 10, 2) := by decide +kernel
theorem dX10_reckon_146 : decode cX10_reckon 146 = .ok (.aload_n 3, 1) := by decide +kernel
theorem dX10_reckon_147 : decode cX10_reckon 147 = .ok (.arraylength, 1) := by decide +kernel
theorem dX10_reckon_148 : decode cX10_reckon 148 = .ok (.if_icmp .lt 7, 3) := by decide +kernel
theorem dX10_reckon_151 : decode cX10_reckon 151 = .ok (.ldc2_w 52, 3) := by decide +kernel
theorem dX10_reckon_154 : decode cX10_reckon 154 = .ok (.lreturn, 1) := by decide +kernel
theorem dX10_reckon_155 : decode cX10_reckon 155 = .ok (.aload 4, 2) := by decide +kernel
theorem dX10_reckon_157 : decode cX10_reckon 157 = .ok (.iload 7, 2) := by decide +kernel
theorem dX10_reckon_159 : decode cX10_reckon 159 = .ok (.iload 9, 2) := by decide +kernel
theorem dX10_reckon_161 : decode cX10_reckon 161 = .ok (.ifCond .ne 9, 3) := by decide +kernel
theorem dX10_reckon_164 : decode cX10_reckon 164 = .ok (.iload 10, 2) := by decide +kernel
theorem dX10_reckon_166 : decode cX10_reckon 166 = .ok (.i2l, 1) := by decide +kernel
theorem dX10_reckon_167 : decode cX10_reckon 167 = .ok (.goto 7, 3) := by decide +kernel
theorem dX10_reckon_170 : decode cX10_reckon 170 = .ok (.aload_n 3, 1) := by decide +kernel
theorem dX10_reckon_171 : decode cX10_reckon 171 = .ok (.iload 10, 2) := by decide +kernel
theorem dX10_reckon_173 : decode cX10_reckon 173 = .ok (.laload, 1) := by decide +kernel
theorem dX10_reckon_174 : decode cX10_reckon 174 = .ok (.lastore, 1) := by decide +kernel
theorem dX10_reckon_175 : decode cX10_reckon 175 = .ok (.iinc 7 1, 3) := by decide +kernel
theorem dX10_reckon_178 : decode cX10_reckon 178 = .ok (.goto 158, 3) := by decide +kernel
theorem dX10_reckon_181 : decode cX10_reckon 181 = .ok (.iload 7, 2) := by decide +kernel
theorem dX10_reckon_183 : decode cX10_reckon 183 = .ok (.iconst 1, 1) := by decide +kernel
theorem dX10_reckon_184 : decode cX10_reckon 184 = .ok (.if_icmp .ge 7, 3) := by decide +kernel
theorem dX10_reckon_187 : decode cX10_reckon 187 = .ok (.ldc2_w 52, 3) := by decide +kernel
theorem dX10_reckon_190 : decode cX10_reckon 190 = .ok (.lreturn, 1) := by decide +kernel
theorem dX10_reckon_191 : decode cX10_reckon 191 = .ok (.iload 9, 2) := by decide +kernel
theorem dX10_reckon_193 : decode cX10_reckon 193 = .ok (.iconst 2, 1) := by decide +kernel
theorem dX10_reckon_194 : decode cX10_reckon 194 = .ok (.if_icmp .ne 22, 3) := by decide +kernel
theorem dX10_reckon_197 : decode cX10_reckon 197 = .ok (.aload 4, 2) := by decide +kernel
theorem dX10_reckon_199 : decode cX10_reckon 199 = .ok (.iload 7, 2) := by decide +kernel
theorem dX10_reckon_201 : decode cX10_reckon 201 = .ok (.iconst 1, 1) := by decide +kernel
theorem dX10_reckon_202 : decode cX10_reckon 202 = .ok (.isub, 1) := by decide +kernel
theorem dX10_reckon_203 : decode cX10_reckon 203 = .ok (.lconst 1, 1) := by decide +kernel
theorem dX10_reckon_204 : decode cX10_reckon 204 = .ok (.aload 4, 2) := by decide +kernel
theorem dX10_reckon_206 : decode cX10_reckon 206 = .ok (.iload 7, 2) := by decide +kernel
theorem dX10_reckon_208 : decode cX10_reckon 208 = .ok (.iconst 1, 1) := by decide +kernel
theorem dX10_reckon_209 : decode cX10_reckon 209 = .ok (.isub, 1) := by decide +kernel
theorem dX10_reckon_210 : decode cX10_reckon 210 = .ok (.laload, 1) := by decide +kernel
theorem dX10_reckon_211 : decode cX10_reckon 211 = .ok (.lsub, 1) := by decide +kernel
theorem dX10_reckon_212 : decode cX10_reckon 212 = .ok (.lastore, 1) := by decide +kernel
theorem dX10_reckon_213 : decode cX10_reckon 213 = .ok (.goto 123, 3) := by decide +kernel
theorem dX10_reckon_216 : decode cX10_reckon 216 = .ok (.iload 9, 2) := by decide +kernel
theorem dX10_reckon_218 : decode cX10_reckon 218 = .ok (.iconst 4, 1) := by decide +kernel
theorem dX10_reckon_219 : decode cX10_reckon 219 = .ok (.if_icmp .gt 61, 3) := by decide +kernel
theorem dX10_reckon_222 : decode cX10_reckon 222 = .ok (.aload 4, 2) := by decide +kernel
theorem dX10_reckon_224 : decode cX10_reckon 224 = .ok (.iload 7, 2) := by decide +kernel
theorem dX10_reckon_226 : decode cX10_reckon 226 = .ok (.iconst 1, 1) := by decide +kernel
theorem dX10_reckon_227 : decode cX10_reckon 227 = .ok (.isub, 1) := by decide +kernel
theorem dX10_reckon_228 : decode cX10_reckon 228 = .ok (.laload, 1) := by decide +kernel
theorem dX10_reckon_229 : decode cX10_reckon 229 = .ok (.lconst 0, 1) := by decide +kernel
theorem dX10_reckon_230 : decode cX10_reckon 230 = .ok (.lcmp, 1) := by decide +kernel
theorem dX10_reckon_231 : decode cX10_reckon 231 = .ok (.ifCond .eq 7, 3) := by decide +kernel
theorem dX10_reckon_234 : decode cX10_reckon 234 = .ok (.iconst 1, 1) := by decide +kernel
theorem dX10_reckon_235 : decode cX10_reckon 235 = .ok (.goto 4, 3) := by decide +kernel
theorem dX10_reckon_238 : decode cX10_reckon 238 = .ok (.iconst 0, 1) := by decide +kernel
theorem dX10_reckon_239 : decode cX10_reckon 239 = .ok (.iload 9, 2) := by decide +kernel
theorem dX10_reckon_241 : decode cX10_reckon 241 = .ok (.iconst 3, 1) := by decide +kernel
theorem dX10_reckon_242 : decode cX10_reckon 242 = .ok (.if_icmp .ne 7, 3) := by decide +kernel
theorem dX10_reckon_245 : decode cX10_reckon 245 = .ok (.iconst 1, 1) := by decide +kernel
theorem dX10_reckon_246 : decode cX10_reckon 246 = .ok (.goto 4, 3) := by decide +kernel
theorem dX10_reckon_249 : decode cX10_reckon 249 = .ok (.iconst 0, 1) := by decide +kernel
theorem dX10_reckon_250 : decode cX10_reckon 250 = .ok (.if_icmp .ne 24, 3) := by decide +kernel
theorem dX10_reckon_253 : decode cX10_reckon 253 = .ok (.iload 10, 2) := by decide +kernel
theorem dX10_reckon_255 : decode cX10_reckon 255 = .ok (.iload 8, 2) := by decide +kernel
theorem dX10_reckon_257 : decode cX10_reckon 257 = .ok (.if_icmp .le 10, 3) := by decide +kernel
theorem dX10_reckon_260 : decode cX10_reckon 260 = .ok (.iload 10, 2) := by decide +kernel
theorem dX10_reckon_262 : decode cX10_reckon 262 = .ok (.iconst 1, 1) := by decide +kernel
theorem dX10_reckon_263 : decode cX10_reckon 263 = .ok (.isub, 1) := by decide +kernel
theorem dX10_reckon_264 : decode cX10_reckon 264 = .ok (.goto 5, 3) := by decide +kernel
theorem dX10_reckon_267 : decode cX10_reckon 267 = .ok (.iload 6, 2) := by decide +kernel
theorem dX10_reckon_269 : decode cX10_reckon 269 = .ok (.istore 8, 2) := by decide +kernel
theorem dX10_reckon_271 : decode cX10_reckon 271 = .ok (.goto 65, 3) := by decide +kernel
theorem dX10_reckon_274 : decode cX10_reckon 274 = .ok (.iinc 7 (-1), 3) := by decide +kernel
theorem dX10_reckon_277 : decode cX10_reckon 277 = .ok (.goto 59, 3) := by decide +kernel
theorem dX10_reckon_280 : decode cX10_reckon 280 = .ok (.iload 7, 2) := by decide +kernel
theorem dX10_reckon_282 : decode cX10_reckon 282 = .ok (.iconst 2, 1) := by decide +kernel
theorem dX10_reckon_283 : decode cX10_reckon 283 = .ok (.if_icmp .ge 7, 3) := by decide +kernel
theorem dX10_reckon_286 : decode cX10_reckon 286 = .ok (.ldc2_w 52, 3) := by decide +kernel
theorem dX10_reckon_289 : decode cX10_reckon 289 = .ok (.lreturn, 1) := by decide +kernel
theorem dX10_reckon_290 : decode cX10_reckon 290 = .ok (.iload 9, 2) := by decide +kernel
theorem dX10_reckon_292 : decode cX10_reckon 292 = .ok (.aload 4, 2) := by decide +kernel
theorem dX10_reckon_294 : decode cX10_reckon 294 = .ok (.iload 7, 2) := by decide +kernel
theorem dX10_reckon_296 : decode cX10_reckon 296 = .ok (.iconst 2, 1) := by decide +kernel
theorem dX10_reckon_297 : decode cX10_reckon 297 = .ok (.isub, 1) := by decide +kernel
theorem dX10_reckon_298 : decode cX10_reckon 298 = .ok (.laload, 1) := by decide +kernel
theorem dX10_reckon_299 : decode cX10_reckon 299 = .ok (.aload 4, 2) := by decide +kernel
theorem dX10_reckon_301 : decode cX10_reckon 301 = .ok (.iload 7, 2) := by decide +kernel
theorem dX10_reckon_303 : decode cX10_reckon 303 = .ok (.iconst 1, 1) := by decide +kernel
theorem dX10_reckon_304 : decode cX10_reckon 304 = .ok (.isub, 1) := by decide +kernel
theorem dX10_reckon_305 : decode cX10_reckon 305 = .ok (.laload, 1) := by decide +kernel
theorem dX10_reckon_306 : decode cX10_reckon 306 = .ok (.invokestatic 54, 3) := by decide +kernel
theorem dX10_reckon_309 : decode cX10_reckon 309 = .ok (.lstore 11, 2) := by decide +kernel
theorem dX10_reckon_311 : decode cX10_reckon 311 = .ok (.lload 11, 2) := by decide +kernel
theorem dX10_reckon_313 : decode cX10_reckon 313 = .ok (.ldc2_w 52, 3) := by decide +kernel
theorem dX10_reckon_316 : decode cX10_reckon 316 = .ok (.lcmp, 1) := by decide +kernel
theorem dX10_reckon_317 : decode cX10_reckon 317 = .ok (.ifCond .ne 7, 3) := by decide +kernel
theorem dX10_reckon_320 : decode cX10_reckon 320 = .ok (.ldc2_w 52, 3) := by decide +kernel
theorem dX10_reckon_323 : decode cX10_reckon 323 = .ok (.lreturn, 1) := by decide +kernel
theorem dX10_reckon_324 : decode cX10_reckon 324 = .ok (.iinc 7 (-1), 3) := by decide +kernel
theorem dX10_reckon_327 : decode cX10_reckon 327 = .ok (.aload 4, 2) := by decide +kernel
theorem dX10_reckon_329 : decode cX10_reckon 329 = .ok (.iload 7, 2) := by decide +kernel
theorem dX10_reckon_331 : decode cX10_reckon 331 = .ok (.iconst 1, 1) := by decide +kernel
theorem dX10_reckon_332 : decode cX10_reckon 332 = .ok (.isub, 1) := by decide +kernel
theorem dX10_reckon_333 : decode cX10_reckon 333 = .ok (.lload 11, 2) := by decide +kernel
theorem dX10_reckon_335 : decode cX10_reckon 335 = .ok (.lastore, 1) := by decide +kernel
theorem dX10_reckon_336 : decode cX10_reckon 336 = .ok (.iinc 8 1, 3) := by decide +kernel
theorem dX10_reckon_339 : decode cX10_reckon 339 = .ok (.goto (-247), 3) := by decide +kernel
theorem dX10_reckon_342 : decode cX10_reckon 342 = .ok (.iload 7, 2) := by decide +kernel
theorem dX10_reckon_344 : decode cX10_reckon 344 = .ok (.iconst 1, 1) := by decide +kernel
theorem dX10_reckon_345 : decode cX10_reckon 345 = .ok (.if_icmp .ne 10, 3) := by decide +kernel
theorem dX10_reckon_348 : decode cX10_reckon 348 = .ok (.aload 4, 2) := by decide +kernel
theorem dX10_reckon_350 : decode cX10_reckon 350 = .ok (.iconst 0, 1) := by decide +kernel
theorem dX10_reckon_351 : decode cX10_reckon 351 = .ok (.laload, 1) := by decide +kernel
theorem dX10_reckon_352 : decode cX10_reckon 352 = .ok (.goto 6, 3) := by decide +kernel
theorem dX10_reckon_355 : decode cX10_reckon 355 = .ok (.ldc2_w 52, 3) := by decide +kernel
theorem dX10_reckon_358 : decode cX10_reckon 358 = .ok (.lreturn, 1) := by decide +kernel
theorem dX10_joined_0 : decode cX10_joined 0 = .ok (.iload_n 0, 1) := by decide +kernel
theorem dX10_joined_1 : decode cX10_joined 1 = .ok (.tableswitch 131 5 11 #[43, 51, 59, 67, 87, 107, 119], 43) := by decide +kernel
theorem dX10_joined_44 : decode cX10_joined 44 = .ok (.lload_n 1, 1) := by decide +kernel
theorem dX10_joined_45 : decode cX10_joined 45 = .ok (.lload_n 3, 1) := by decide +kernel
theorem dX10_joined_46 : decode cX10_joined 46 = .ok (.ladd, 1) := by decide +kernel
theorem dX10_joined_47 : decode cX10_joined 47 = .ok (.lstore 5, 2) := by decide +kernel
theorem dX10_joined_49 : decode cX10_joined 49 = .ok (.goto 95, 3) := by decide +kernel
theorem dX10_joined_52 : decode cX10_joined 52 = .ok (.lload_n 1, 1) := by decide +kernel
theorem dX10_joined_53 : decode cX10_joined 53 = .ok (.lload_n 3, 1) := by decide +kernel
theorem dX10_joined_54 : decode cX10_joined 54 = .ok (.lsub, 1) := by decide +kernel
theorem dX10_joined_55 : decode cX10_joined 55 = .ok (.lstore 5, 2) := by decide +kernel
theorem dX10_joined_57 : decode cX10_joined 57 = .ok (.goto 87, 3) := by decide +kernel
theorem dX10_joined_60 : decode cX10_joined 60 = .ok (.lload_n 1, 1) := by decide +kernel
theorem dX10_joined_61 : decode cX10_joined 61 = .ok (.lload_n 3, 1) := by decide +kernel
theorem dX10_joined_62 : decode cX10_joined 62 = .ok (.lmul, 1) := by decide +kernel
theorem dX10_joined_63 : decode cX10_joined 63 = .ok (.lstore 5, 2) := by decide +kernel
theorem dX10_joined_65 : decode cX10_joined 65 = .ok (.goto 79, 3) := by decide +kernel
theorem dX10_joined_68 : decode cX10_joined 68 = .ok (.lload_n 3, 1) := by decide +kernel
theorem dX10_joined_69 : decode cX10_joined 69 = .ok (.lconst 0, 1) := by decide +kernel
theorem dX10_joined_70 : decode cX10_joined 70 = .ok (.lcmp, 1) := by decide +kernel
theorem dX10_joined_71 : decode cX10_joined 71 = .ok (.ifCond .ne 9, 3) := by decide +kernel
theorem dX10_joined_74 : decode cX10_joined 74 = .ok (.ldc2_w 52, 3) := by decide +kernel
theorem dX10_joined_77 : decode cX10_joined 77 = .ok (.goto 6, 3) := by decide +kernel
theorem dX10_joined_80 : decode cX10_joined 80 = .ok (.lload_n 1, 1) := by decide +kernel
theorem dX10_joined_81 : decode cX10_joined 81 = .ok (.lload_n 3, 1) := by decide +kernel
theorem dX10_joined_82 : decode cX10_joined 82 = .ok (.ldiv, 1) := by decide +kernel
theorem dX10_joined_83 : decode cX10_joined 83 = .ok (.lstore 5, 2) := by decide +kernel
theorem dX10_joined_85 : decode cX10_joined 85 = .ok (.goto 59, 3) := by decide +kernel
theorem dX10_joined_88 : decode cX10_joined 88 = .ok (.lload_n 3, 1) := by decide +kernel
theorem dX10_joined_89 : decode cX10_joined 89 = .ok (.lconst 0, 1) := by decide +kernel
theorem dX10_joined_90 : decode cX10_joined 90 = .ok (.lcmp, 1) := by decide +kernel
theorem dX10_joined_91 : decode cX10_joined 91 = .ok (.ifCond .ne 9, 3) := by decide +kernel
theorem dX10_joined_94 : decode cX10_joined 94 = .ok (.ldc2_w 52, 3) := by decide +kernel
theorem dX10_joined_97 : decode cX10_joined 97 = .ok (.goto 6, 3) := by decide +kernel
theorem dX10_joined_100 : decode cX10_joined 100 = .ok (.lload_n 1, 1) := by decide +kernel
theorem dX10_joined_101 : decode cX10_joined 101 = .ok (.lload_n 3, 1) := by decide +kernel
theorem dX10_joined_102 : decode cX10_joined 102 = .ok (.lrem, 1) := by decide +kernel
theorem dX10_joined_103 : decode cX10_joined 103 = .ok (.lstore 5, 2) := by decide +kernel
theorem dX10_joined_105 : decode cX10_joined 105 = .ok (.goto 39, 3) := by decide +kernel
theorem dX10_joined_108 : decode cX10_joined 108 = .ok (.lload_n 1, 1) := by decide +kernel
theorem dX10_joined_109 : decode cX10_joined 109 = .ok (.lload_n 3, 1) := by decide +kernel
theorem dX10_joined_110 : decode cX10_joined 110 = .ok (.lcmp, 1) := by decide +kernel
theorem dX10_joined_111 : decode cX10_joined 111 = .ok (.ifCond .ge 7, 3) := by decide +kernel
theorem dX10_joined_114 : decode cX10_joined 114 = .ok (.lconst 1, 1) := by decide +kernel
theorem dX10_joined_115 : decode cX10_joined 115 = .ok (.goto 4, 3) := by decide +kernel
theorem dX10_joined_118 : decode cX10_joined 118 = .ok (.lconst 0, 1) := by decide +kernel
theorem dX10_joined_119 : decode cX10_joined 119 = .ok (.lreturn, 1) := by decide +kernel
theorem dX10_joined_120 : decode cX10_joined 120 = .ok (.lload_n 1, 1) := by decide +kernel
theorem dX10_joined_121 : decode cX10_joined 121 = .ok (.lload_n 3, 1) := by decide +kernel
theorem dX10_joined_122 : decode cX10_joined 122 = .ok (.lcmp, 1) := by decide +kernel
theorem dX10_joined_123 : decode cX10_joined 123 = .ok (.ifCond .le 7, 3) := by decide +kernel
theorem dX10_joined_126 : decode cX10_joined 126 = .ok (.lconst 1, 1) := by decide +kernel
theorem dX10_joined_127 : decode cX10_joined 127 = .ok (.goto 4, 3) := by decide +kernel
theorem dX10_joined_130 : decode cX10_joined 130 = .ok (.lconst 0, 1) := by decide +kernel
theorem dX10_joined_131 : decode cX10_joined 131 = .ok (.lreturn, 1) := by decide +kernel
theorem dX10_joined_132 : decode cX10_joined 132 = .ok (.lload_n 1, 1) := by decide +kernel
theorem dX10_joined_133 : decode cX10_joined 133 = .ok (.lload_n 3, 1) := by decide +kernel
theorem dX10_joined_134 : decode cX10_joined 134 = .ok (.lcmp, 1) := by decide +kernel
theorem dX10_joined_135 : decode cX10_joined 135 = .ok (.ifCond .ne 7, 3) := by decide +kernel
theorem dX10_joined_138 : decode cX10_joined 138 = .ok (.lconst 1, 1) := by decide +kernel
theorem dX10_joined_139 : decode cX10_joined 139 = .ok (.goto 4, 3) := by decide +kernel
theorem dX10_joined_142 : decode cX10_joined 142 = .ok (.lconst 0, 1) := by decide +kernel
theorem dX10_joined_143 : decode cX10_joined 143 = .ok (.lreturn, 1) := by decide +kernel
theorem dX10_joined_144 : decode cX10_joined 144 = .ok (.lload 5, 2) := by decide +kernel
theorem dX10_joined_146 : decode cX10_joined 146 = .ok (.ldc2_w 58, 3) := by decide +kernel
theorem dX10_joined_149 : decode cX10_joined 149 = .ok (.lcmp, 1) := by decide +kernel
theorem dX10_joined_150 : decode cX10_joined 150 = .ok (.ifCond .lt 12, 3) := by decide +kernel
theorem dX10_joined_153 : decode cX10_joined 153 = .ok (.lload 5, 2) := by decide +kernel
theorem dX10_joined_155 : decode cX10_joined 155 = .ok (.ldc2_w 60, 3) := by decide +kernel
theorem dX10_joined_158 : decode cX10_joined 158 = .ok (.lcmp, 1) := by decide +kernel
theorem dX10_joined_159 : decode cX10_joined 159 = .ok (.ifCond .le 9, 3) := by decide +kernel
theorem dX10_joined_162 : decode cX10_joined 162 = .ok (.ldc2_w 52, 3) := by decide +kernel
theorem dX10_joined_165 : decode cX10_joined 165 = .ok (.goto 5, 3) := by decide +kernel
theorem dX10_joined_168 : decode cX10_joined 168 = .ok (.lload 5, 2) := by decide +kernel
theorem dX10_joined_170 : decode cX10_joined 170 = .ok (.lreturn, 1) := by decide +kernel
set_option maxRecDepth 20000 in
theorem ggX11_init_X7_init : GoodIn wsX11_init wsX7_init := goodIn_r _ [51, 52, 2, 3, 53, 43, 54, 55, 56, 57, 58, 59, 60, 61, 62, 63, 64, 65, 66, 67, 68, 69, 70, 71, 72, 73, 74, 75, 76, 77, 78, 79, 80, 81, 82, 83, 84, 85, 86, 87, 88, 89, 90, 91, 185, 186, 187, 188, 189, 190, 191, 192, 193, 194, 195, 196, 197, 198, 199, 200, 201, 202, 203, 204, 264, 265, 266, 267, 268] (by decide +kernel) (by decide +kernel)
set_option maxRecDepth 20000 in
theorem gX11_init_X7_init_n9 : GoodIn wsX11_init (wsX7_init) := ggX11_init_X7_init
set_option maxRecDepth 20000 in
theorem ggX11_init_X2_init : GoodIn wsX11_init wsX2_init := goodIn_r _ [93, 94, 2, 3, 95, 96, 43, 97, 222, 223, 224] (by decide +kernel) (by decide +kernel)
set_option maxRecDepth 20000 in
theorem gX11_init_X2_init_n18 : GoodIn wsX11_init (wsX2_init) := ggX11_init_X2_init
set_option maxRecDepth 20000 in
theorem ggX11_init_X0_init : GoodIn wsX11_init wsX0_init := goodIn_r _ [100, 101, 2, 3, 102, 103, 225, 226] (by decide +kernel) (by decide +kernel)
set_option maxRecDepth 20000 in
theorem gX11_init_X0_init : GoodIn wsX11_init (wsX0_init) := ggX11_init_X0_init
set_option maxRecDepth 20000 in
theorem ggX11_init_X5_init : GoodIn wsX11_init wsX5_init := goodIn_r _ [106, 107, 2, 3, 108, 5, 6, 109, 110, 9, 10, 111, 86, 112, 113, 114, 115, 116, 117, 50, 51, 52, 53, 43, 54, 55, 56, 57, 58, 59, 60, 61, 62, 63, 64, 65, 66, 67, 68, 69, 70, 71, 72, 73, 74, 75, 76, 77, 78, 79, 80, 81, 82, 83, 84, 85, 87, 88, 89, 90, 91, 92, 93, 94, 95, 96, 97, 185, 186, 187, 188, 189, 190, 191, 192, 193, 194, 195, 196, 197, 198, 199, 200, 201, 202, 203, 204, 227, 228, 229, 230, 231, 232, 233, 234, 222, 223, 224, 264, 265, 266, 267, 268] (by decide +kernel) (by decide +kernel)
set_option maxRecDepth 20000 in
theorem gX11_init_X5_init : GoodIn wsX11_init (wsX5_init) := ggX11_init_X5_init
set_option maxRecDepth 20000 in
theorem ggX11_init_X4_init : GoodIn wsX11_init wsX4_init := goodIn_r _ [119, 120, 2, 3, 121, 122, 123, 124, 43, 125, 126, 127, 128, 129, 130, 131, 132, 133, 134, 135, 136, 137, 138, 139, 140, 141, 142, 143, 144, 269, 270, 271, 272, 273, 274, 235, 236, 237, 238, 239, 240, 241] (by decide +kernel) (by decide +kernel)
set_option maxRecDepth 20000 in
theorem gX11_init_X4_init_n43 : GoodIn wsX11_init (wsX4_init) := ggX11_init_X4_init
set_option maxRecDepth 20000 in
theorem ggX11_init_X3_init : GoodIn wsX11_init wsX3_init := goodIn_r _ [147, 148, 2, 3, 149, 5, 6, 150, 151, 152, 153, 50, 51, 52, 53, 43, 54, 55, 56, 57, 58, 59, 60, 61, 62, 63, 64, 65, 66, 67, 68, 69, 70, 71, 72, 73, 74, 75, 76, 77, 78, 79, 80, 81, 82, 83, 84, 85, 86, 87, 88, 89, 90, 91, 185, 186, 187, 188, 189, 190, 191, 192, 193, 194, 195, 196, 197, 198, 199, 200, 201, 202, 203, 204, 242, 243, 244, 245, 264, 265, 266, 267, 268] (by decide +kernel) (by decide +kernel)
set_option maxRecDepth 20000 in
theorem gX11_init_X3_init : GoodIn wsX11_init (wsX3_init) := ggX11_init_X3_init
set_option maxRecDepth 20000 in
theorem ggX11_init_X9_init : GoodIn wsX11_init wsX9_init := goodIn_r _ [156, 157, 2, 3, 43, 158, 159, 160, 161, 162, 163, 164, 165, 166, 167, 168, 246, 247, 248, 249, 250, 251, 252, 253, 254, 255] (by decide +kernel) (by decide +kernel)
set_option maxRecDepth 20000 in
theorem gX11_init_X9_init : GoodIn wsX11_init (wsX9_init) := ggX11_init_X9_init
set_option maxRecDepth 20000 in
theorem ggX11_init_X6_init : GoodIn wsX11_init wsX6_init := goodIn_r _ [171, 172, 2, 3, 43, 173, 174, 175, 256, 257, 258] (by decide +kernel) (by decide +kernel)
set_option maxRecDepth 20000 in
theorem gX11_init_X6_init : GoodIn wsX11_init (wsX6_init) := ggX11_init_X6_init
set_option maxRecDepth 20000 in
theorem ggX11_init_X1_init : GoodIn wsX11_init wsX1_init := goodIn_r _ [178, 179, 2, 3, 180, 181, 43, 182, 183, 184, 259, 260, 261, 262, 263] (by decide +kernel) (by decide +kernel)
set_option maxRecDepth 20000 in
theorem gX11_init_X1_init : GoodIn wsX11_init (wsX1_init) := ggX11_init_X1_init
theorem dX11_init_0 : decode cX11_init 0 = .ok (.aload_n 0, 1) := by decide +kernel
theorem dX11_init_1 : decode cX11_init 1 = .ok (.invokespecial 1, 3) := by decide +kernel
theorem dX11_init_4 : decode cX11_init 4 = .ok (.aload_n 0, 1) := by decide +kernel
theorem dX11_init_5 : decode cX11_init 5 = .ok (.new 7, 3) := by decide +kernel
theorem dX11_init_8 : decode cX11_init 8 = .ok (.dup, 1) := by decide +kernel
theorem dX11_init_9 : decode cX11_init 9 = .ok (.invokespecial 9, 3) := by decide +kernel
theorem dX11_init_12 : decode cX11_init 12 = .ok (.putfield 10, 3) := by decide +kernel
theorem dX11_init_15 : decode cX11_init 15 = .ok (.aload_n 0, 1) := by decide +kernel
theorem dX11_init_16 : decode cX11_init 16 = .ok (.new 16, 3) := by decide +kernel
theorem dX11_init_19 : decode cX11_init 19 = .ok (.dup, 1) := by decide +kernel
theorem dX11_init_20 : decode cX11_init 20 = .ok (.invokespecial 18, 3) := by decide +kernel
theorem dX11_init_23 : decode cX11_init 23 = .ok (.putfield 19, 3) := by decide +kernel
theorem dX11_init_26 : decode cX11_init 26 = .ok (.aload_n 0, 1) := by decide +kernel
theorem dX11_init_27 : decode cX11_init 27 = .ok (.new 23, 3) := by decide +kernel
theorem dX11_init_30 : decode cX11_init 30 = .ok (.dup, 1) := by decide +kernel
theorem dX11_init_31 : decode cX11_init 31 = .ok (.aload_n 0, 1) := by decide +kernel
theorem dX11_init_32 : decode cX11_init 32 = .ok (.getfield 10, 3) := by decide +kernel
theorem dX11_init_35 : decode cX11_init 35 = .ok (.aload_n 0, 1) := by decide +kernel
theorem dX11_init_36 : decode cX11_init 36 = .ok (.getfield 19, 3) := by decide +kernel
theorem dX11_init_39 : decode cX11_init 39 = .ok (.invokespecial 25, 3) := by decide +kernel
theorem dX11_init_42 : decode cX11_init 42 = .ok (.putfield 28, 3) := by decide +kernel
theorem dX11_init_45 : decode cX11_init 45 = .ok (.aload_n 0, 1) := by decide +kernel
theorem dX11_init_46 : decode cX11_init 46 = .ok (.new 32, 3) := by decide +kernel
theorem dX11_init_49 : decode cX11_init 49 = .ok (.dup, 1) := by decide +kernel
theorem dX11_init_50 : decode cX11_init 50 = .ok (.aload_n 0, 1) := by decide +kernel
theorem dX11_init_51 : decode cX11_init 51 = .ok (.getfield 10, 3) := by decide +kernel
theorem dX11_init_54 : decode cX11_init 54 = .ok (.aload_n 0, 1) := by decide +kernel
theorem dX11_init_55 : decode cX11_init 55 = .ok (.getfield 19, 3) := by decide +kernel
theorem dX11_init_58 : decode cX11_init 58 = .ok (.aload_n 0, 1) := by decide +kernel
theorem dX11_init_59 : decode cX11_init 59 = .ok (.getfield 28, 3) := by decide +kernel
theorem dX11_init_62 : decode cX11_init 62 = .ok (.invokespecial 34, 3) := by decide +kernel
theorem dX11_init_65 : decode cX11_init 65 = .ok (.putfield 37, 3) := by decide +kernel
theorem dX11_init_68 : decode cX11_init 68 = .ok (.aload_n 0, 1) := by decide +kernel
theorem dX11_init_69 : decode cX11_init 69 = .ok (.new 41, 3) := by decide +kernel
theorem dX11_init_72 : decode cX11_init 72 = .ok (.dup, 1) := by decide +kernel
theorem dX11_init_73 : decode cX11_init 73 = .ok (.invokespecial 43, 3) := by decide +kernel
theorem dX11_init_76 : decode cX11_init 76 = .ok (.putfield 44, 3) := by decide +kernel
theorem dX11_init_79 : decode cX11_init 79 = .ok (.aload_n 0, 1) := by decide +kernel
theorem dX11_init_80 : decode cX11_init 80 = .ok (.new 48, 3) := by decide +kernel
theorem dX11_init_83 : decode cX11_init 83 = .ok (.dup, 1) := by decide +kernel
theorem dX11_init_84 : decode cX11_init 84 = .ok (.aload_n 0, 1) := by decide +kernel
theorem dX11_init_85 : decode cX11_init 85 = .ok (.getfield 10, 3) := by decide +kernel
theorem dX11_init_88 : decode cX11_init 88 = .ok (.invokespecial 50, 3) := by decide +kernel
theorem dX11_init_91 : decode cX11_init 91 = .ok (.putfield 53, 3) := by decide +kernel
theorem dX11_init_94 : decode cX11_init 94 = .ok (.aload_n 0, 1) := by decide +kernel
theorem dX11_init_95 : decode cX11_init 95 = .ok (.new 57, 3) := by decide +kernel
theorem dX11_init_98 : decode cX11_init 98 = .ok (.dup, 1) := by decide +kernel
theorem dX11_init_99 : decode cX11_init 99 = .ok (.aload_n 0, 1) := by decide +kernel
theorem dX11_init_100 : decode cX11_init 100 = .ok (.getfield 10, 3) := by decide +kernel
theorem dX11_init_103 : decode cX11_init 103 = .ok (.aload_n 0, 1) := by decide +kernel
theorem dX11_init_104 : decode cX11_init 104 = .ok (.getfield 53, 3) := by decide +kernel
theorem dX11_init_107 : decode cX11_init 107 = .ok (.invokespecial 59, 3) := by decide +kernel
theorem dX11_init_110 : decode cX11_init 110 = .ok (.putfield 62, 3) := by decide +kernel
theorem dX11_init_113 : decode cX11_init 113 = .ok (.aload_n 0, 1) := by decide +kernel
theorem dX11_init_114 : decode cX11_init 114 = .ok (.new 66, 3) := by decide +kernel
theorem dX11_init_117 : decode cX11_init 117 = .ok (.dup, 1) := by decide +kernel
theorem dX11_init_118 : decode cX11_init 118 = .ok (.aload_n 0, 1) := by decide +kernel
theorem dX11_init_119 : decode cX11_init 119 = .ok (.getfield 10, 3) := by decide +kernel
theorem dX11_init_122 : decode cX11_init 122 = .ok (.invokespecial 68, 3) := by decide +kernel
theorem dX11_init_125 : decode cX11_init 125 = .ok (.putfield 69, 3) := by decide +kernel
theorem dX11_init_128 : decode cX11_init 128 = .ok (.aload_n 0, 1) := by decide +kernel
theorem dX11_init_129 : decode cX11_init 129 = .ok (.new 73, 3) := by decide +kernel
theorem dX11_init_132 : decode cX11_init 132 = .ok (.dup, 1) := by decide +kernel
theorem dX11_init_133 : decode cX11_init 133 = .ok (.aload_n 0, 1) := by decide +kernel
theorem dX11_init_134 : decode cX11_init 134 = .ok (.getfield 53, 3) := by decide +kernel
theorem dX11_init_137 : decode cX11_init 137 = .ok (.invokespecial 75, 3) := by decide +kernel
theorem dX11_init_140 : decode cX11_init 140 = .ok (.putfield 78, 3) := by decide +kernel
theorem dX11_init_143 : decode cX11_init 143 = .ok (.aload_n 0, 1) := by decide +kernel
theorem dX11_init_144 : decode cX11_init 144 = .ok (.iconst 2, 1) := by decide +kernel
theorem dX11_init_145 : decode cX11_init 145 = .ok (.anewarray 7, 3) := by decide +kernel
theorem dX11_init_148 : decode cX11_init 148 = .ok (.putfield 82, 3) := by decide +kernel
theorem dX11_init_151 : decode cX11_init 151 = .ok (.aload_n 0, 1) := by decide +kernel
theorem dX11_init_152 : decode cX11_init 152 = .ok (.sipush 400, 3) := by decide +kernel
theorem dX11_init_155 : decode cX11_init 155 = .ok (.newarray .byte, 2) := by decide +kernel
theorem dX11_init_157 : decode cX11_init 157 = .ok (.putfield 86, 3) := by decide +kernel
theorem dX11_init_160 : decode cX11_init 160 = .ok (.aload_n 0, 1) := by decide +kernel
theorem dX11_init_161 : decode cX11_init 161 = .ok (.iconst 5, 1) := by decide +kernel
theorem dX11_init_162 : decode cX11_init 162 = .ok (.newarray .int, 2) := by decide +kernel
theorem dX11_init_164 : decode cX11_init 164 = .ok (.putfield 90, 3) := by decide +kernel
theorem dX11_init_167 : decode cX11_init 167 = .ok (.aload_n 0, 1) := by decide +kernel
theorem dX11_init_168 : decode cX11_init 168 = .ok (.iconst 0, 1) := by decide +kernel
theorem dX11_init_169 : decode cX11_init 169 = .ok (.putfield 94, 3) := by decide +kernel
theorem dX11_init_172 : decode cX11_init 172 = .ok (.aload_n 0, 1) := by decide +kernel
theorem dX11_init_173 : decode cX11_init 173 = .ok (.iconst (-1), 1) := by decide +kernel
theorem dX11_init_174 : decode cX11_init 174 = .ok (.putfield 98, 3) := by decide +kernel
theorem dX11_init_177 : decode cX11_init 177 = .ok (.aload_n 0, 1) := by decide +kernel
theorem dX11_init_178 : decode cX11_init 178 = .ok (.iconst 0, 1) := by decide +kernel
theorem dX11_init_179 : decode cX11_init 179 = .ok (.putfield 101, 3) := by decide +kernel
theorem dX11_init_182 : decode cX11_init 182 = .ok (.aload_n 0, 1) := by decide +kernel
theorem dX11_init_183 : decode cX11_init 183 = .ok (.iconst (-1), 1) := by decide +kernel
theorem dX11_init_184 : decode cX11_init 184 = .ok (.putfield 104, 3) := by decide +kernel
theorem dX11_init_187 : decode cX11_init 187 = .ok (.aload_n 0, 1) := by decide +kernel
theorem dX11_init_188 : decode cX11_init 188 = .ok (.iconst 0, 1) := by decide +kernel
theorem dX11_init_189 : decode cX11_init 189 = .ok (.putfield 107, 3) := by decide +kernel
theorem dX11_init_192 : decode cX11_init 192 = .ok (.return_, 1) := by decide +kernel
set_option maxRecDepth 20000 in
theorem ggX11_part_X7_addPart : GoodIn wsX11_part wsX7_addPart := goodIn_r _ [7, 8, 9, 10, 11, 12, 13, 69, 70, 71, 72, 73, 74, 75, 76, 77, 78, 79, 80, 81, 82, 83, 84, 85, 86, 87, 88] (by decide +kernel) (by decide +kernel)
set_option maxRecDepth 20000 in
theorem gX11_part_X7_addPart : GoodIn wsX11_part (wsV RX11 110 RX7 yX7_addPart wsX7_addPart) := goodIn_app (goodIn_of _ (by decide +kernel)) ggX11_part_X7_addPart
set_option maxRecDepth 20000 in
theorem ggX11_part_X11_refuse : GoodIn wsX11_part wsX11_refuse := goodIn_r _ [18, 19, 20, 52, 53, 54, 55, 56, 57, 58, 59, 60, 61, 62, 63, 64, 65, 66, 67, 68] (by decide +kernel) (by decide +kernel)
set_option maxRecDepth 20000 in
theorem gX11_part_X11_refuse : GoodIn wsX11_part (wsV RX11 114 RX11 yX11_refuse wsX11_refuse) := goodIn_app (goodIn_of _ (by decide +kernel)) ggX11_part_X11_refuse
set_option maxRecDepth 20000 in
theorem ggX11_part_X2_clear : GoodIn wsX11_part wsX2_clear := goodIn_r _ [25, 26, 27, 89, 90, 91] (by decide +kernel) (by decide +kernel)
set_option maxRecDepth 20000 in
theorem gX11_part_X2_clear : GoodIn wsX11_part (wsV RX11 118 RX2 yX2_clear wsX2_clear) := goodIn_app (goodIn_of _ (by decide +kernel)) ggX11_part_X2_clear
set_option maxRecDepth 20000 in
theorem ggX11_part_X11_agreeChanged : GoodIn wsX11_part wsX11_agreeChanged := goodIn_r _ [31, 32, 33, 34, 35, 36, 37, 38, 39, 40, 41, 42, 43, 44, 45, 46, 47, 48, 49, 50, 17, 51, 20, 52, 53, 54, 55, 56, 57, 58, 59, 60, 61, 62, 63, 64, 65, 66, 67, 68, 92, 93, 94, 95, 96, 97, 98, 99, 100, 101, 102, 103, 104] (by decide +kernel) (by decide +kernel)
set_option maxRecDepth 20000 in
theorem gX11_part_X11_agreeChanged : GoodIn wsX11_part (wsV RX11 121 RX11 yX11_agreeChanged wsX11_agreeChanged) := goodIn_app (goodIn_of _ (by decide +kernel)) ggX11_part_X11_agreeChanged
theorem dX11_part_0 : decode cX11_part 0 = .ok (.aload_n 0, 1) := by decide +kernel
theorem dX11_part_1 : decode cX11_part 1 = .ok (.getfield 10, 3) := by decide +kernel
theorem dX11_part_4 : decode cX11_part 4 = .ok (.iload_n 1, 1) := by decide +kernel
theorem dX11_part_5 : decode cX11_part 5 = .ok (.iload_n 2, 1) := by decide +kernel
theorem dX11_part_6 : decode cX11_part 6 = .ok (.iload_n 3, 1) := by decide +kernel
theorem dX11_part_7 : decode cX11_part 7 = .ok (.iload 4, 2) := by decide +kernel
theorem dX11_part_9 : decode cX11_part 9 = .ok (.invokevirtual 110, 3) := by decide +kernel
theorem dX11_part_12 : decode cX11_part 12 = .ok (.istore 5, 2) := by decide +kernel
theorem dX11_part_14 : decode cX11_part 14 = .ok (.iload 5, 2) := by decide +kernel
theorem dX11_part_16 : decode cX11_part 16 = .ok (.ifCond .ge 10, 3) := by decide +kernel
theorem dX11_part_19 : decode cX11_part 19 = .ok (.aload_n 0, 1) := by decide +kernel
theorem dX11_part_20 : decode cX11_part 20 = .ok (.iload 5, 2) := by decide +kernel
theorem dX11_part_22 : decode cX11_part 22 = .ok (.invokevirtual 114, 3) := by decide +kernel
theorem dX11_part_25 : decode cX11_part 25 = .ok (.ireturn, 1) := by decide +kernel
theorem dX11_part_26 : decode cX11_part 26 = .ok (.aload_n 0, 1) := by decide +kernel
theorem dX11_part_27 : decode cX11_part 27 = .ok (.getfield 19, 3) := by decide +kernel
theorem dX11_part_30 : decode cX11_part 30 = .ok (.invokevirtual 118, 3) := by decide +kernel
theorem dX11_part_33 : decode cX11_part 33 = .ok (.aload_n 0, 1) := by decide +kernel
theorem dX11_part_34 : decode cX11_part 34 = .ok (.iload 5, 2) := by decide +kernel
theorem dX11_part_36 : decode cX11_part 36 = .ok (.invokevirtual 121, 3) := by decide +kernel
theorem dX11_part_39 : decode cX11_part 39 = .ok (.ireturn, 1) := by decide +kernel
set_option maxRecDepth 20000 in
theorem ggX11_of_X7_hasPart : GoodIn wsX11_of wsX7_hasPart := goodIn_r _ [13, 14, 55, 56, 57, 58, 59, 60, 61, 62, 63, 64, 65, 66, 67, 68, 69, 70, 71, 72, 73, 74] (by decide +kernel) (by decide +kernel)
set_option maxRecDepth 20000 in
theorem gX11_of_X7_hasPart : GoodIn wsX11_of (wsV RX11 124 RX7 yX7_hasPart wsX7_hasPart) := goodIn_app (goodIn_of _ (by decide +kernel)) ggX11_of_X7_hasPart
set_option maxRecDepth 20000 in
theorem ggX11_of_X7_readyMask : GoodIn wsX11_of wsX7_readyMask := goodIn_r _ [18, 14, 19, 20, 21, 22, 23, 12, 24, 55, 56, 57, 58, 59, 60, 61, 62, 63, 64, 65, 66, 67, 68, 69, 70, 71, 72, 73, 74] (by decide +kernel) (by decide +kernel)
set_option maxRecDepth 20000 in
theorem gX11_of_X7_readyMask : GoodIn wsX11_of (wsV RX11 143 RX7 yX7_readyMask wsX7_readyMask) := goodIn_app (goodIn_of _ (by decide +kernel)) ggX11_of_X7_readyMask
set_option maxRecDepth 20000 in
theorem ggX11_of_X7_reckonChains : GoodIn wsX11_of wsX7_reckonChains := goodIn_r _ [28, 14, 29, 30, 31, 32, 20, 19, 33, 34, 35, 36, 37, 55, 56, 57, 58, 59, 60, 61, 62, 63, 64, 65, 66, 67, 68, 69, 70, 71, 72, 73, 74, 75, 76, 77, 78, 79] (by decide +kernel) (by decide +kernel)
set_option maxRecDepth 20000 in
theorem gX11_of_X7_reckonChains : GoodIn wsX11_of (wsV RX11 147 RX7 yX7_reckonChains wsX7_reckonChains) := goodIn_app (goodIn_of _ (by decide +kernel)) ggX11_of_X7_reckonChains
theorem dX11_of_0 : decode cX11_of 0 = .ok (.aload_n 0, 1) := by decide +kernel
theorem dX11_of_1 : decode cX11_of 1 = .ok (.getfield 10, 3) := by decide +kernel
theorem dX11_of_4 : decode cX11_of 4 = .ok (.iload_n 1, 1) := by decide +kernel
theorem dX11_of_5 : decode cX11_of 5 = .ok (.invokevirtual 124, 3) := by decide +kernel
theorem dX11_of_8 : decode cX11_of 8 = .ok (.ifCond .ne 5, 3) := by decide +kernel
theorem dX11_of_11 : decode cX11_of 11 = .ok (.iconst (-1), 1) := by decide +kernel
theorem dX11_of_12 : decode cX11_of 12 = .ok (.ireturn, 1) := by decide +kernel
theorem dX11_of_13 : decode cX11_of 13 = .ok (.iload_n 2, 1) := by decide +kernel
theorem dX11_of_14 : decode cX11_of 14 = .ok (.tableswitch 125 0 6 #[42, 52, 62, 72, 82, 92, 104], 42) := by decide +kernel
theorem dX11_of_56 : decode cX11_of 56 = .ok (.aload_n 0, 1) := by decide +kernel
theorem dX11_of_57 : decode cX11_of 57 = .ok (.getfield 10, 3) := by decide +kernel
theorem dX11_of_60 : decode cX11_of 60 = .ok (.getfield 128, 3) := by decide +kernel
theorem dX11_of_63 : decode cX11_of 63 = .ok (.iload_n 1, 1) := by decide +kernel
theorem dX11_of_64 : decode cX11_of 64 = .ok (.iaload, 1) := by decide +kernel
theorem dX11_of_65 : decode cX11_of 65 = .ok (.ireturn, 1) := by decide +kernel
theorem dX11_of_66 : decode cX11_of 66 = .ok (.aload_n 0, 1) := by decide +kernel
theorem dX11_of_67 : decode cX11_of 67 = .ok (.getfield 10, 3) := by decide +kernel
theorem dX11_of_70 : decode cX11_of 70 = .ok (.getfield 131, 3) := by decide +kernel
theorem dX11_of_73 : decode cX11_of 73 = .ok (.iload_n 1, 1) := by decide +kernel
theorem dX11_of_74 : decode cX11_of 74 = .ok (.iaload, 1) := by decide +kernel
theorem dX11_of_75 : decode cX11_of 75 = .ok (.ireturn, 1) := by decide +kernel
theorem dX11_of_76 : decode cX11_of 76 = .ok (.aload_n 0, 1) := by decide +kernel
theorem dX11_of_77 : decode cX11_of 77 = .ok (.getfield 10, 3) := by decide +kernel
theorem dX11_of_80 : decode cX11_of 80 = .ok (.getfield 134, 3) := by decide +kernel
theorem dX11_of_83 : decode cX11_of 83 = .ok (.iload_n 1, 1) := by decide +kernel
theorem dX11_of_84 : decode cX11_of 84 = .ok (.iaload, 1) := by decide +kernel
theorem dX11_of_85 : decode cX11_of 85 = .ok (.ireturn, 1) := by decide +kernel
theorem dX11_of_86 : decode cX11_of 86 = .ok (.aload_n 0, 1) := by decide +kernel
theorem dX11_of_87 : decode cX11_of 87 = .ok (.getfield 10, 3) := by decide +kernel
theorem dX11_of_90 : decode cX11_of 90 = .ok (.getfield 137, 3) := by decide +kernel
theorem dX11_of_93 : decode cX11_of 93 = .ok (.iload_n 1, 1) := by decide +kernel
theorem dX11_of_94 : decode cX11_of 94 = .ok (.iaload, 1) := by decide +kernel
theorem dX11_of_95 : decode cX11_of 95 = .ok (.ireturn, 1) := by decide +kernel
theorem dX11_of_96 : decode cX11_of 96 = .ok (.aload_n 0, 1) := by decide +kernel
theorem dX11_of_97 : decode cX11_of 97 = .ok (.getfield 10, 3) := by decide +kernel
theorem dX11_of_100 : decode cX11_of 100 = .ok (.getfield 140, 3) := by decide +kernel
theorem dX11_of_103 : decode cX11_of 103 = .ok (.iload_n 1, 1) := by decide +kernel
theorem dX11_of_104 : decode cX11_of 104 = .ok (.iaload, 1) := by decide +kernel
theorem dX11_of_105 : decode cX11_of 105 = .ok (.ireturn, 1) := by decide +kernel
theorem dX11_of_106 : decode cX11_of 106 = .ok (.aload_n 0, 1) := by decide +kernel
theorem dX11_of_107 : decode cX11_of 107 = .ok (.getfield 10, 3) := by decide +kernel
theorem dX11_of_110 : decode cX11_of 110 = .ok (.invokevirtual 143, 3) := by decide +kernel
theorem dX11_of_113 : decode cX11_of 113 = .ok (.iload_n 1, 1) := by decide +kernel
theorem dX11_of_114 : decode cX11_of 114 = .ok (.ishr, 1) := by decide +kernel
theorem dX11_of_115 : decode cX11_of 115 = .ok (.iconst 1, 1) := by decide +kernel
theorem dX11_of_116 : decode cX11_of 116 = .ok (.iand, 1) := by decide +kernel
theorem dX11_of_117 : decode cX11_of 117 = .ok (.ireturn, 1) := by decide +kernel
theorem dX11_of_118 : decode cX11_of 118 = .ok (.aload_n 0, 1) := by decide +kernel
theorem dX11_of_119 : decode cX11_of 119 = .ok (.getfield 10, 3) := by decide +kernel
theorem dX11_of_122 : decode cX11_of 122 = .ok (.invokevirtual 147, 3) := by decide +kernel
theorem dX11_of_125 : decode cX11_of 125 = .ok (.pop, 1) := by decide +kernel
theorem dX11_of_126 : decode cX11_of 126 = .ok (.aload_n 0, 1) := by decide +kernel
theorem dX11_of_127 : decode cX11_of 127 = .ok (.getfield 10, 3) := by decide +kernel
theorem dX11_of_130 : decode cX11_of 130 = .ok (.getfield 150, 3) := by decide +kernel
theorem dX11_of_133 : decode cX11_of 133 = .ok (.getfield 154, 3) := by decide +kernel
theorem dX11_of_136 : decode cX11_of 136 = .ok (.iload_n 1, 1) := by decide +kernel
theorem dX11_of_137 : decode cX11_of 137 = .ok (.iaload, 1) := by decide +kernel
theorem dX11_of_138 : decode cX11_of 138 = .ok (.ireturn, 1) := by decide +kernel
theorem dX11_of_139 : decode cX11_of 139 = .ok (.iconst (-1), 1) := by decide +kernel
theorem dX11_of_140 : decode cX11_of 140 = .ok (.ireturn, 1) := by decide +kernel
set_option maxRecDepth 20000 in
theorem ggX11_builder_X7_addBuilder : GoodIn wsX11_builder wsX7_addBuilder := goodIn_r _ [7, 8, 9, 10, 11, 12, 68, 69, 70, 71, 72, 73, 74, 75, 76, 77, 78, 79, 80, 81, 82, 83, 84, 85, 86, 87] (by decide +kernel) (by decide +kernel)
set_option maxRecDepth 20000 in
theorem gX11_builder_X7_addBuilder : GoodIn wsX11_builder (wsV RX11 159 RX7 yX7_addBuilder wsX7_addBuilder) := goodIn_app (goodIn_of _ (by decide +kernel)) ggX11_builder_X7_addBuilder
set_option maxRecDepth 20000 in
theorem ggX11_builder_X11_refuse : GoodIn wsX11_builder wsX11_refuse := goodIn_r _ [17, 18, 19, 51, 52, 53, 54, 55, 56, 57, 58, 59, 60, 61, 62, 63, 64, 65, 66, 67] (by decide +kernel) (by decide +kernel)
set_option maxRecDepth 20000 in
theorem gX11_builder_X11_refuse : GoodIn wsX11_builder (wsV RX11 114 RX11 yX11_refuse wsX11_refuse) := goodIn_app (goodIn_of _ (by decide +kernel)) ggX11_builder_X11_refuse
set_option maxRecDepth 20000 in
theorem ggX11_builder_X2_clear : GoodIn wsX11_builder wsX2_clear := goodIn_r _ [24, 25, 26, 88, 89, 90] (by decide +kernel) (by decide +kernel)
set_option maxRecDepth 20000 in
theorem gX11_builder_X2_clear : GoodIn wsX11_builder (wsV RX11 118 RX2 yX2_clear wsX2_clear) := goodIn_app (goodIn_of _ (by decide +kernel)) ggX11_builder_X2_clear
set_option maxRecDepth 20000 in
theorem ggX11_builder_X11_agreeChanged : GoodIn wsX11_builder wsX11_agreeChanged := goodIn_r _ [30, 31, 32, 33, 34, 35, 36, 37, 38, 39, 40, 41, 42, 43, 44, 45, 46, 47, 48, 49, 16, 50, 19, 51, 52, 53, 54, 55, 56, 57, 58, 59, 60, 61, 62, 63, 64, 65, 66, 67, 91, 92, 93, 94, 95, 96, 97, 98, 99, 100, 101, 102, 103] (by decide +kernel) (by decide +kernel)
set_option maxRecDepth 20000 in
theorem gX11_builder_X11_agreeChanged : GoodIn wsX11_builder (wsV RX11 121 RX11 yX11_agreeChanged wsX11_agreeChanged) := goodIn_app (goodIn_of _ (by decide +kernel)) ggX11_builder_X11_agreeChanged
theorem dX11_builder_0 : decode cX11_builder 0 = .ok (.aload_n 0, 1) := by decide +kernel
theorem dX11_builder_1 : decode cX11_builder 1 = .ok (.getfield 10, 3) := by decide +kernel
theorem dX11_builder_4 : decode cX11_builder 4 = .ok (.iload_n 1, 1) := by decide +kernel
theorem dX11_builder_5 : decode cX11_builder 5 = .ok (.iload_n 2, 1) := by decide +kernel
theorem dX11_builder_6 : decode cX11_builder 6 = .ok (.invokevirtual 159, 3) := by decide +kernel
theorem dX11_builder_9 : decode cX11_builder 9 = .ok (.istore_n 3, 1) := by decide +kernel
theorem dX11_builder_10 : decode cX11_builder 10 = .ok (.iload_n 3, 1) := by decide +kernel
theorem dX11_builder_11 : decode cX11_builder 11 = .ok (.ifCond .ge 9, 3) := by decide +kernel
theorem dX11_builder_14 : decode cX11_builder 14 = .ok (.aload_n 0, 1) := by decide +kernel
theorem dX11_builder_15 : decode cX11_builder 15 = .ok (.iload_n 3, 1) := by decide +kernel
theorem dX11_builder_16 : decode cX11_builder 16 = .ok (.invokevirtual 114, 3) := by decide +kernel
theorem dX11_builder_19 : decode cX11_builder 19 = .ok (.ireturn, 1) := by decide +kernel
theorem dX11_builder_20 : decode cX11_builder 20 = .ok (.aload_n 0, 1) := by decide +kernel
theorem dX11_builder_21 : decode cX11_builder 21 = .ok (.getfield 19, 3) := by decide +kernel
theorem dX11_builder_24 : decode cX11_builder 24 = .ok (.invokevirtual 118, 3) := by decide +kernel
theorem dX11_builder_27 : decode cX11_builder 27 = .ok (.aload_n 0, 1) := by decide +kernel
theorem dX11_builder_28 : decode cX11_builder 28 = .ok (.iload_n 3, 1) := by decide +kernel
theorem dX11_builder_29 : decode cX11_builder 29 = .ok (.invokevirtual 121, 3) := by decide +kernel
theorem dX11_builder_32 : decode cX11_builder 32 = .ok (.ireturn, 1) := by decide +kernel
set_option maxRecDepth 20000 in
theorem ggX11_at_X7_hasBuilder : GoodIn wsX11_at wsX7_hasBuilder := goodIn_r _ [10, 11, 29, 30, 31, 32, 33, 34, 35, 36, 37, 38, 39, 40, 41, 42, 43, 44, 45, 46, 47, 48] (by decide +kernel) (by decide +kernel)
set_option maxRecDepth 20000 in
theorem gX11_at_X7_hasBuilder : GoodIn wsX11_at (wsV RX11 163 RX7 yX7_hasBuilder wsX7_hasBuilder) := goodIn_app (goodIn_of _ (by decide +kernel)) ggX11_at_X7_hasBuilder
theorem dX11_at_0 : decode cX11_at 0 = .ok (.aload_n 0, 1) := by decide +kernel
theorem dX11_at_1 : decode cX11_at 1 = .ok (.getfield 10, 3) := by decide +kernel
theorem dX11_at_4 : decode cX11_at 4 = .ok (.iload_n 1, 1) := by decide +kernel
theorem dX11_at_5 : decode cX11_at 5 = .ok (.invokevirtual 163, 3) := by decide +kernel
theorem dX11_at_8 : decode cX11_at 8 = .ok (.ifCond .ne 5, 3) := by decide +kernel
theorem dX11_at_11 : decode cX11_at 11 = .ok (.iconst (-1), 1) := by decide +kernel
theorem dX11_at_12 : decode cX11_at 12 = .ok (.ireturn, 1) := by decide +kernel
theorem dX11_at_13 : decode cX11_at 13 = .ok (.iload_n 2, 1) := by decide +kernel
theorem dX11_at_14 : decode cX11_at 14 = .ok (.tableswitch 70 0 3 #[30, 40, 50, 60], 30) := by decide +kernel
theorem dX11_at_44 : decode cX11_at 44 = .ok (.aload_n 0, 1) := by decide +kernel
theorem dX11_at_45 : decode cX11_at 45 = .ok (.getfield 10, 3) := by decide +kernel
theorem dX11_at_48 : decode cX11_at 48 = .ok (.getfield 166, 3) := by decide +kernel
theorem dX11_at_51 : decode cX11_at 51 = .ok (.iload_n 1, 1) := by decide +kernel
theorem dX11_at_52 : decode cX11_at 52 = .ok (.iaload, 1) := by decide +kernel
theorem dX11_at_53 : decode cX11_at 53 = .ok (.ireturn, 1) := by decide +kernel
theorem dX11_at_54 : decode cX11_at 54 = .ok (.aload_n 0, 1) := by decide +kernel
theorem dX11_at_55 : decode cX11_at 55 = .ok (.getfield 10, 3) := by decide +kernel
theorem dX11_at_58 : decode cX11_at 58 = .ok (.getfield 169, 3) := by decide +kernel
theorem dX11_at_61 : decode cX11_at 61 = .ok (.iload_n 1, 1) := by decide +kernel
theorem dX11_at_62 : decode cX11_at 62 = .ok (.iaload, 1) := by decide +kernel
theorem dX11_at_63 : decode cX11_at 63 = .ok (.ireturn, 1) := by decide +kernel
theorem dX11_at_64 : decode cX11_at 64 = .ok (.aload_n 0, 1) := by decide +kernel
theorem dX11_at_65 : decode cX11_at 65 = .ok (.getfield 10, 3) := by decide +kernel
theorem dX11_at_68 : decode cX11_at 68 = .ok (.getfield 172, 3) := by decide +kernel
theorem dX11_at_71 : decode cX11_at 71 = .ok (.iload_n 1, 1) := by decide +kernel
theorem dX11_at_72 : decode cX11_at 72 = .ok (.iaload, 1) := by decide +kernel
theorem dX11_at_73 : decode cX11_at 73 = .ok (.ireturn, 1) := by decide +kernel
theorem dX11_at_74 : decode cX11_at 74 = .ok (.aload_n 0, 1) := by decide +kernel
theorem dX11_at_75 : decode cX11_at 75 = .ok (.getfield 10, 3) := by decide +kernel
theorem dX11_at_78 : decode cX11_at 78 = .ok (.getfield 175, 3) := by decide +kernel
theorem dX11_at_81 : decode cX11_at 81 = .ok (.iload_n 1, 1) := by decide +kernel
theorem dX11_at_82 : decode cX11_at 82 = .ok (.iaload, 1) := by decide +kernel
theorem dX11_at_83 : decode cX11_at 83 = .ok (.ireturn, 1) := by decide +kernel
theorem dX11_at_84 : decode cX11_at 84 = .ok (.iconst (-1), 1) := by decide +kernel
theorem dX11_at_85 : decode cX11_at 85 = .ok (.ireturn, 1) := by decide +kernel
set_option maxRecDepth 20000 in
theorem ggX11_asks_X7_hasBuilder : GoodIn wsX11_asks wsX7_hasBuilder := goodIn_r _ [7, 8, 88, 89, 90, 91, 92, 93, 94, 95, 96, 97, 98, 99, 100, 101, 102, 103, 104, 105, 106, 107] (by decide +kernel) (by decide +kernel)
set_option maxRecDepth 20000 in
theorem gX11_asks_X7_hasBuilder : GoodIn wsX11_asks (wsV RX11 163 RX7 yX7_hasBuilder wsX7_hasBuilder) := goodIn_app (goodIn_of _ (by decide +kernel)) ggX11_asks_X7_hasBuilder
set_option maxRecDepth 20000 in
theorem ggX11_asks_X7_hasPart : GoodIn wsX11_asks wsX7_hasPart := goodIn_r _ [12, 13, 88, 89, 90, 91, 92, 93, 94, 95, 96, 97, 98, 99, 100, 101, 102, 103, 104, 105, 106, 107] (by decide +kernel) (by decide +kernel)
set_option maxRecDepth 20000 in
theorem gX11_asks_X7_hasPart : GoodIn wsX11_asks (wsV RX11 124 RX7 yX7_hasPart wsX7_hasPart) := goodIn_app (goodIn_of _ (by decide +kernel)) ggX11_asks_X7_hasPart
set_option maxRecDepth 20000 in
theorem ggX11_asks_X7_asked : GoodIn wsX11_asks wsX7_asked := goodIn_r _ [17, 18, 19, 20, 21, 22, 23, 24, 25, 26, 27, 28, 29, 30, 31, 32, 33, 34, 35, 36, 4, 5, 6, 7, 8, 37, 10, 11, 12, 13, 38, 39, 40, 41, 42, 43, 44, 45, 46, 47, 48, 49, 50, 51, 52, 53, 54, 55, 56, 57, 58, 59, 60, 61, 62, 63, 64, 65, 66, 67, 68, 69, 70, 88, 89, 90, 91, 92, 93, 94, 95, 96, 97, 98, 99, 100, 101, 102, 103, 104, 105, 106, 107, 108, 109, 110, 111, 112, 113, 114, 115, 116, 117, 118] (by decide +kernel) (by decide +kernel)
set_option maxRecDepth 20000 in
theorem gX11_asks_X7_asked : GoodIn wsX11_asks (wsV RX11 181 RX7 yX7_asked wsX7_asked) := goodIn_app (goodIn_of _ (by decide +kernel)) ggX11_asks_X7_asked
theorem dX11_asks_0 : decode cX11_asks 0 = .ok (.aload_n 0, 1) := by decide +kernel
theorem dX11_asks_1 : decode cX11_asks 1 = .ok (.getfield 10, 3) := by decide +kernel
theorem dX11_asks_4 : decode cX11_asks 4 = .ok (.iload_n 1, 1) := by decide +kernel
theorem dX11_asks_5 : decode cX11_asks 5 = .ok (.invokevirtual 163, 3) := by decide +kernel
theorem dX11_asks_8 : decode cX11_asks 8 = .ok (.ifCond .eq 26, 3) := by decide +kernel
theorem dX11_asks_11 : decode cX11_asks 11 = .ok (.aload_n 0, 1) := by decide +kernel
theorem dX11_asks_12 : decode cX11_asks 12 = .ok (.getfield 10, 3) := by decide +kernel
theorem dX11_asks_15 : decode cX11_asks 15 = .ok (.iload_n 2, 1) := by decide +kernel
theorem dX11_asks_16 : decode cX11_asks 16 = .ok (.invokevirtual 124, 3) := by decide +kernel
theorem dX11_asks_19 : decode cX11_asks 19 = .ok (.ifCond .eq 15, 3) := by decide +kernel
theorem dX11_asks_22 : decode cX11_asks 22 = .ok (.iload_n 3, 1) := by decide +kernel
theorem dX11_asks_23 : decode cX11_asks 23 = .ok (.ifCond .lt 11, 3) := by decide +kernel
theorem dX11_asks_26 : decode cX11_asks 26 = .ok (.iload_n 3, 1) := by decide +kernel
theorem dX11_asks_27 : decode cX11_asks 27 = .ok (.getstatic 178, 3) := by decide +kernel
theorem dX11_asks_30 : decode cX11_asks 30 = .ok (.arraylength, 1) := by decide +kernel
theorem dX11_asks_31 : decode cX11_asks 31 = .ok (.if_icmp .lt 5, 3) := by decide +kernel
theorem dX11_asks_34 : decode cX11_asks 34 = .ok (.iconst (-1), 1) := by decide +kernel
theorem dX11_asks_35 : decode cX11_asks 35 = .ok (.ireturn, 1) := by decide +kernel
theorem dX11_asks_36 : decode cX11_asks 36 = .ok (.aload_n 0, 1) := by decide +kernel
theorem dX11_asks_37 : decode cX11_asks 37 = .ok (.getfield 10, 3) := by decide +kernel
theorem dX11_asks_40 : decode cX11_asks 40 = .ok (.iload_n 3, 1) := by decide +kernel
theorem dX11_asks_41 : decode cX11_asks 41 = .ok (.iload_n 1, 1) := by decide +kernel
theorem dX11_asks_42 : decode cX11_asks 42 = .ok (.iload_n 2, 1) := by decide +kernel
theorem dX11_asks_43 : decode cX11_asks 43 = .ok (.invokevirtual 181, 3) := by decide +kernel
theorem dX11_asks_46 : decode cX11_asks 46 = .ok (.ireturn, 1) := by decide +kernel
set_option maxRecDepth 20000 in
theorem ggX11_terms_X11_refuse : GoodIn wsX11_terms wsX11_refuse := goodIn_r _ [10, 11, 12, 44, 45, 46, 47, 48, 49, 50, 51, 52, 53, 54, 55, 56, 57, 58, 59, 60] (by decide +kernel) (by decide +kernel)
set_option maxRecDepth 20000 in
theorem gX11_terms_X11_refuse : GoodIn wsX11_terms (wsV RX11 114 RX11 yX11_refuse wsX11_refuse) := goodIn_app (goodIn_of _ (by decide +kernel)) ggX11_terms_X11_refuse
set_option maxRecDepth 20000 in
theorem ggX11_terms_X2_clear : GoodIn wsX11_terms wsX2_clear := goodIn_r _ [17, 18, 19, 81, 82, 83] (by decide +kernel) (by decide +kernel)
set_option maxRecDepth 20000 in
theorem gX11_terms_X2_clear : GoodIn wsX11_terms (wsV RX11 118 RX2 yX2_clear wsX2_clear) := goodIn_app (goodIn_of _ (by decide +kernel)) ggX11_terms_X2_clear
set_option maxRecDepth 20000 in
theorem ggX11_terms_X11_agreeChanged : GoodIn wsX11_terms wsX11_agreeChanged := goodIn_r _ [23, 24, 25, 26, 27, 28, 29, 30, 31, 32, 33, 34, 35, 36, 37, 38, 39, 40, 41, 42, 9, 43, 12, 44, 45, 46, 47, 48, 49, 50, 51, 52, 53, 54, 55, 56, 57, 58, 59, 60, 84, 85, 86, 87, 88, 89, 90, 91, 92, 93, 94, 95, 96] (by decide +kernel) (by decide +kernel)
set_option maxRecDepth 20000 in
theorem gX11_terms_X11_agreeChanged : GoodIn wsX11_terms (wsV RX11 121 RX11 yX11_agreeChanged wsX11_agreeChanged) := goodIn_app (goodIn_of _ (by decide +kernel)) ggX11_terms_X11_agreeChanged
theorem dX11_terms_0 : decode cX11_terms 0 = .ok (.iload_n 1, 1) := by decide +kernel
theorem dX11_terms_1 : decode cX11_terms 1 = .ok (.ifCond .lt 26, 3) := by decide +kernel
theorem dX11_terms_4 : decode cX11_terms 4 = .ok (.iload_n 1, 1) := by decide +kernel
theorem dX11_terms_5 : decode cX11_terms 5 = .ok (.iconst 4, 1) := by decide +kernel
theorem dX11_terms_6 : decode cX11_terms 6 = .ok (.if_icmp .ge 21, 3) := by decide +kernel
theorem dX11_terms_9 : decode cX11_terms 9 = .ok (.iload_n 2, 1) := by decide +kernel
theorem dX11_terms_10 : decode cX11_terms 10 = .ok (.getstatic 185, 3) := by decide +kernel
theorem dX11_terms_13 : decode cX11_terms 13 = .ok (.iload_n 1, 1) := by decide +kernel
theorem dX11_terms_14 : decode cX11_terms 14 = .ok (.iaload, 1) := by decide +kernel
theorem dX11_terms_15 : decode cX11_terms 15 = .ok (.if_icmp .lt 12, 3) := by decide +kernel
theorem dX11_terms_18 : decode cX11_terms 18 = .ok (.iload_n 2, 1) := by decide +kernel
theorem dX11_terms_19 : decode cX11_terms 19 = .ok (.getstatic 188, 3) := by decide +kernel
theorem dX11_terms_22 : decode cX11_terms 22 = .ok (.iload_n 1, 1) := by decide +kernel
theorem dX11_terms_23 : decode cX11_terms 23 = .ok (.iaload, 1) := by decide +kernel
theorem dX11_terms_24 : decode cX11_terms 24 = .ok (.if_icmp .le 9, 3) := by decide +kernel
theorem dX11_terms_27 : decode cX11_terms 27 = .ok (.aload_n 0, 1) := by decide +kernel
theorem dX11_terms_28 : decode cX11_terms 28 = .ok (.iconst (-1), 1) := by decide +kernel
theorem dX11_terms_29 : decode cX11_terms 29 = .ok (.invokevirtual 114, 3) := by decide +kernel
theorem dX11_terms_32 : decode cX11_terms 32 = .ok (.ireturn, 1) := by decide +kernel
theorem dX11_terms_33 : decode cX11_terms 33 = .ok (.aload_n 0, 1) := by decide +kernel
theorem dX11_terms_34 : decode cX11_terms 34 = .ok (.getfield 10, 3) := by decide +kernel
theorem dX11_terms_37 : decode cX11_terms 37 = .ok (.getfield 191, 3) := by decide +kernel
theorem dX11_terms_40 : decode cX11_terms 40 = .ok (.iload_n 1, 1) := by decide +kernel
theorem dX11_terms_41 : decode cX11_terms 41 = .ok (.iaload, 1) := by decide +kernel
theorem dX11_terms_42 : decode cX11_terms 42 = .ok (.istore_n 3, 1) := by decide +kernel
theorem dX11_terms_43 : decode cX11_terms 43 = .ok (.aload_n 0, 1) := by decide +kernel
theorem dX11_terms_44 : decode cX11_terms 44 = .ok (.getfield 10, 3) := by decide +kernel
theorem dX11_terms_47 : decode cX11_terms 47 = .ok (.getfield 191, 3) := by decide +kernel
theorem dX11_terms_50 : decode cX11_terms 50 = .ok (.iload_n 1, 1) := by decide +kernel
theorem dX11_terms_51 : decode cX11_terms 51 = .ok (.iload_n 2, 1) := by decide +kernel
theorem dX11_terms_52 : decode cX11_terms 52 = .ok (.iastore, 1) := by decide +kernel
theorem dX11_terms_53 : decode cX11_terms 53 = .ok (.aload_n 0, 1) := by decide +kernel
theorem dX11_terms_54 : decode cX11_terms 54 = .ok (.getfield 19, 3) := by decide +kernel
theorem dX11_terms_57 : decode cX11_terms 57 = .ok (.invokevirtual 118, 3) := by decide +kernel
theorem dX11_terms_60 : decode cX11_terms 60 = .ok (.aload_n 0, 1) := by decide +kernel
theorem dX11_terms_61 : decode cX11_terms 61 = .ok (.iload_n 3, 1) := by decide +kernel
theorem dX11_terms_62 : decode cX11_terms 62 = .ok (.invokevirtual 121, 3) := by decide +kernel
theorem dX11_terms_65 : decode cX11_terms 65 = .ok (.ireturn, 1) := by decide +kernel
set_option maxRecDepth 20000 in
theorem ggX11_feed_X11_writeNumber : GoodIn wsX11_feed wsX11_writeNumber := goodIn_r _ [6, 7, 8, 9, 10, 11, 12, 13, 14, 15, 16, 17, 18, 19, 20, 21, 22, 23, 24] (by decide +kernel) (by decide +kernel)
set_option maxRecDepth 20000 in
theorem gX11_feed_X11_writeNumber : GoodIn wsX11_feed (wsV RX11 194 RX11 yX11_writeNumber wsX11_writeNumber) := goodIn_app (goodIn_of _ (by decide +kernel)) ggX11_feed_X11_writeNumber
theorem dX11_feed_0 : decode cX11_feed 0 = .ok (.aload_n 0, 1) := by decide +kernel
theorem dX11_feed_1 : decode cX11_feed 1 = .ok (.getfield 94, 3) := by decide +kernel
theorem dX11_feed_4 : decode cX11_feed 4 = .ok (.ifCond .lt 13, 3) := by decide +kernel
theorem dX11_feed_7 : decode cX11_feed 7 = .ok (.aload_n 0, 1) := by decide +kernel
theorem dX11_feed_8 : decode cX11_feed 8 = .ok (.getfield 94, 3) := by decide +kernel
theorem dX11_feed_11 : decode cX11_feed 11 = .ok (.sipush 380, 3) := by decide +kernel
theorem dX11_feed_14 : decode cX11_feed 14 = .ok (.if_icmp .le 5, 3) := by decide +kernel
theorem dX11_feed_17 : decode cX11_feed 17 = .ok (.iconst (-1), 1) := by decide +kernel
theorem dX11_feed_18 : decode cX11_feed 18 = .ok (.ireturn, 1) := by decide +kernel
theorem dX11_feed_19 : decode cX11_feed 19 = .ok (.aload_n 0, 1) := by decide +kernel
theorem dX11_feed_20 : decode cX11_feed 20 = .ok (.aload_n 0, 1) := by decide +kernel
theorem dX11_feed_21 : decode cX11_feed 21 = .ok (.getfield 94, 3) := by decide +kernel
theorem dX11_feed_24 : decode cX11_feed 24 = .ok (.iload_n 1, 1) := by decide +kernel
theorem dX11_feed_25 : decode cX11_feed 25 = .ok (.invokevirtual 194, 3) := by decide +kernel
theorem dX11_feed_28 : decode cX11_feed 28 = .ok (.aload_n 0, 1) := by decide +kernel
theorem dX11_feed_29 : decode cX11_feed 29 = .ok (.aload_n 0, 1) := by decide +kernel
theorem dX11_feed_30 : decode cX11_feed 30 = .ok (.getfield 94, 3) := by decide +kernel
theorem dX11_feed_33 : decode cX11_feed 33 = .ok (.iconst 4, 1) := by decide +kernel
theorem dX11_feed_34 : decode cX11_feed 34 = .ok (.iadd, 1) := by decide +kernel
theorem dX11_feed_35 : decode cX11_feed 35 = .ok (.iload_n 2, 1) := by decide +kernel
theorem dX11_feed_36 : decode cX11_feed 36 = .ok (.invokevirtual 194, 3) := by decide +kernel
theorem dX11_feed_39 : decode cX11_feed 39 = .ok (.aload_n 0, 1) := by decide +kernel
theorem dX11_feed_40 : decode cX11_feed 40 = .ok (.aload_n 0, 1) := by decide +kernel
theorem dX11_feed_41 : decode cX11_feed 41 = .ok (.getfield 94, 3) := by decide +kernel
theorem dX11_feed_44 : decode cX11_feed 44 = .ok (.bipush 8, 2) := by decide +kernel
theorem dX11_feed_46 : decode cX11_feed 46 = .ok (.iadd, 1) := by decide +kernel
theorem dX11_feed_47 : decode cX11_feed 47 = .ok (.iload_n 3, 1) := by decide +kernel
theorem dX11_feed_48 : decode cX11_feed 48 = .ok (.invokevirtual 194, 3) := by decide +kernel
theorem dX11_feed_51 : decode cX11_feed 51 = .ok (.aload_n 0, 1) := by decide +kernel
theorem dX11_feed_52 : decode cX11_feed 52 = .ok (.aload_n 0, 1) := by decide +kernel
theorem dX11_feed_53 : decode cX11_feed 53 = .ok (.getfield 94, 3) := by decide +kernel
theorem dX11_feed_56 : decode cX11_feed 56 = .ok (.bipush 12, 2) := by decide +kernel
theorem dX11_feed_58 : decode cX11_feed 58 = .ok (.iadd, 1) := by decide +kernel
theorem dX11_feed_59 : decode cX11_feed 59 = .ok (.iload 4, 2) := by decide +kernel
theorem dX11_feed_61 : decode cX11_feed 61 = .ok (.invokevirtual 194, 3) := by decide +kernel
theorem dX11_feed_64 : decode cX11_feed 64 = .ok (.aload_n 0, 1) := by decide +kernel
theorem dX11_feed_65 : decode cX11_feed 65 = .ok (.aload_n 0, 1) := by decide +kernel
theorem dX11_feed_66 : decode cX11_feed 66 = .ok (.getfield 94, 3) := by decide +kernel
theorem dX11_feed_69 : decode cX11_feed 69 = .ok (.bipush 16, 2) := by decide +kernel
theorem dX11_feed_71 : decode cX11_feed 71 = .ok (.iadd, 1) := by decide +kernel
theorem dX11_feed_72 : decode cX11_feed 72 = .ok (.iload 5, 2) := by decide +kernel
theorem dX11_feed_74 : decode cX11_feed 74 = .ok (.invokevirtual 194, 3) := by decide +kernel
theorem dX11_feed_77 : decode cX11_feed 77 = .ok (.aload_n 0, 1) := by decide +kernel
theorem dX11_feed_78 : decode cX11_feed 78 = .ok (.dup, 1) := by decide +kernel
theorem dX11_feed_79 : decode cX11_feed 79 = .ok (.getfield 94, 3) := by decide +kernel
theorem dX11_feed_82 : decode cX11_feed 82 = .ok (.bipush 20, 2) := by decide +kernel
theorem dX11_feed_84 : decode cX11_feed 84 = .ok (.iadd, 1) := by decide +kernel
theorem dX11_feed_85 : decode cX11_feed 85 = .ok (.putfield 94, 3) := by decide +kernel
theorem dX11_feed_88 : decode cX11_feed 88 = .ok (.aload_n 0, 1) := by decide +kernel
theorem dX11_feed_89 : decode cX11_feed 89 = .ok (.getfield 94, 3) := by decide +kernel
theorem dX11_feed_92 : decode cX11_feed 92 = .ok (.ireturn, 1) := by decide +kernel
theorem dX11_end_0 : decode cX11_end 0 = .ok (.iload_n 1, 1) := by decide +kernel
theorem dX11_end_1 : decode cX11_end 1 = .ok (.ifCond .lt 11, 3) := by decide +kernel
theorem dX11_end_4 : decode cX11_end 4 = .ok (.iload_n 1, 1) := by decide +kernel
theorem dX11_end_5 : decode cX11_end 5 = .ok (.aload_n 0, 1) := by decide +kernel
theorem dX11_end_6 : decode cX11_end 6 = .ok (.getfield 94, 3) := by decide +kernel
theorem dX11_end_9 : decode cX11_end 9 = .ok (.if_icmp .le 5, 3) := by decide +kernel
theorem dX11_end_12 : decode cX11_end 12 = .ok (.iconst (-1), 1) := by decide +kernel
theorem dX11_end_13 : decode cX11_end 13 = .ok (.ireturn, 1) := by decide +kernel
theorem dX11_end_14 : decode cX11_end 14 = .ok (.aload_n 0, 1) := by decide +kernel
theorem dX11_end_15 : decode cX11_end 15 = .ok (.iload_n 1, 1) := by decide +kernel
theorem dX11_end_16 : decode cX11_end 16 = .ok (.putfield 94, 3) := by decide +kernel
theorem dX11_end_19 : decode cX11_end 19 = .ok (.iload_n 1, 1) := by decide +kernel
theorem dX11_end_20 : decode cX11_end 20 = .ok (.ireturn, 1) := by decide +kernel
set_option maxRecDepth 20000 in
theorem ggX11_row_X11_emptyTape : GoodIn wsX11_row wsX11_emptyTape := goodIn_r _ [7, 8, 63, 64, 65, 66, 67, 68, 69, 70, 71, 72, 73, 74, 75, 76, 77, 78, 79] (by decide +kernel) (by decide +kernel)
set_option maxRecDepth 20000 in
theorem gX11_row_X11_emptyTape : GoodIn wsX11_row (wsV RX11 198 RX11 yX11_emptyTape wsX11_emptyTape) := goodIn_app (goodIn_of _ (by decide +kernel)) ggX11_row_X11_emptyTape
set_option maxRecDepth 20000 in
theorem ggX11_row_X11_refuse : GoodIn wsX11_row wsX11_refuse := goodIn_r _ [12, 13, 14, 63, 64, 65, 66, 67, 68, 69, 70, 71, 72, 73, 74, 75, 76, 77, 78, 79] (by decide +kernel) (by decide +kernel)
set_option maxRecDepth 20000 in
theorem gX11_row_X11_refuse : GoodIn wsX11_row (wsV RX11 114 RX11 yX11_refuse wsX11_refuse) := goodIn_app (goodIn_of _ (by decide +kernel)) ggX11_row_X11_refuse
set_option maxRecDepth 20000 in
theorem ggX11_row_X11_addWrittenPart : GoodIn wsX11_row wsX11_addWrittenPart := goodIn_r _ [18, 19, 20, 21, 22, 23, 24, 25, 26, 27, 28, 29, 30, 31, 63, 64, 65, 66, 67, 68, 69, 70, 71, 72, 73, 74, 75, 76, 77, 78, 79, 80, 81, 82, 83, 84, 85, 86, 87, 88, 89, 90, 91, 92, 93, 94, 95, 96, 97, 98, 99] (by decide +kernel) (by decide +kernel)
set_option maxRecDepth 20000 in
theorem gX11_row_X11_addWrittenPart : GoodIn wsX11_row (wsV RX11 201 RX11 yX11_addWrittenPart wsX11_addWrittenPart) := goodIn_app (goodIn_of _ (by decide +kernel)) ggX11_row_X11_addWrittenPart
set_option maxRecDepth 20000 in
theorem ggX11_row_X2_clear : GoodIn wsX11_row wsX2_clear := goodIn_r _ [36, 37, 38, 100, 101, 102] (by decide +kernel) (by decide +kernel)
set_option maxRecDepth 20000 in
theorem gX11_row_X2_clear : GoodIn wsX11_row (wsV RX11 118 RX2 yX2_clear wsX2_clear) := goodIn_app (goodIn_of _ (by decide +kernel)) ggX11_row_X2_clear
set_option maxRecDepth 20000 in
theorem ggX11_row_X11_agreeChanged : GoodIn wsX11_row wsX11_agreeChanged := goodIn_r _ [42, 43, 44, 45, 46, 47, 48, 49, 50, 51, 52, 53, 54, 55, 56, 57, 58, 59, 60, 61, 6, 62, 14, 63, 64, 65, 66, 67, 68, 69, 70, 71, 72, 73, 74, 75, 76, 77, 78, 79, 103, 104, 105, 106, 107, 108, 109, 110, 111, 112, 113, 114, 115] (by decide +kernel) (by decide +kernel)
set_option maxRecDepth 20000 in
theorem gX11_row_X11_agreeChanged : GoodIn wsX11_row (wsV RX11 121 RX11 yX11_agreeChanged wsX11_agreeChanged) := goodIn_app (goodIn_of _ (by decide +kernel)) ggX11_row_X11_agreeChanged
theorem dX11_row_0 : decode cX11_row 0 = .ok (.aload_n 0, 1) := by decide +kernel
theorem dX11_row_1 : decode cX11_row 1 = .ok (.invokevirtual 198, 3) := by decide +kernel
theorem dX11_row_4 : decode cX11_row 4 = .ok (.istore_n 1, 1) := by decide +kernel
theorem dX11_row_5 : decode cX11_row 5 = .ok (.iload_n 1, 1) := by decide +kernel
theorem dX11_row_6 : decode cX11_row 6 = .ok (.ifCond .ne 10, 3) := by decide +kernel
theorem dX11_row_9 : decode cX11_row 9 = .ok (.aload_n 0, 1) := by decide +kernel
theorem dX11_row_10 : decode cX11_row 10 = .ok (.bipush (-6), 2) := by decide +kernel
theorem dX11_row_12 : decode cX11_row 12 = .ok (.invokevirtual 114, 3) := by decide +kernel
theorem dX11_row_15 : decode cX11_row 15 = .ok (.ireturn, 1) := by decide +kernel
theorem dX11_row_16 : decode cX11_row 16 = .ok (.iconst 0, 1) := by decide +kernel
theorem dX11_row_17 : decode cX11_row 17 = .ok (.istore_n 2, 1) := by decide +kernel
theorem dX11_row_18 : decode cX11_row 18 = .ok (.iconst 0, 1) := by decide +kernel
theorem dX11_row_19 : decode cX11_row 19 = .ok (.istore_n 3, 1) := by decide +kernel
theorem dX11_row_20 : decode cX11_row 20 = .ok (.iconst 0, 1) := by decide +kernel
theorem dX11_row_21 : decode cX11_row 21 = .ok (.istore 4, 2) := by decide +kernel
theorem dX11_row_23 : decode cX11_row 23 = .ok (.iload 4, 2) := by decide +kernel
theorem dX11_row_25 : decode cX11_row 25 = .ok (.iload_n 1, 1) := by decide +kernel
theorem dX11_row_26 : decode cX11_row 26 = .ok (.if_icmp .ge 35, 3) := by decide +kernel
theorem dX11_row_29 : decode cX11_row 29 = .ok (.iload 4, 2) := by decide +kernel
theorem dX11_row_31 : decode cX11_row 31 = .ok (.iconst 4, 1) := by decide +kernel
theorem dX11_row_32 : decode cX11_row 32 = .ok (.iadd, 1) := by decide +kernel
theorem dX11_row_33 : decode cX11_row 33 = .ok (.iload_n 1, 1) := by decide +kernel
theorem dX11_row_34 : decode cX11_row 34 = .ok (.if_icmp .gt 18, 3) := by decide +kernel
theorem dX11_row_37 : decode cX11_row 37 = .ok (.aload_n 0, 1) := by decide +kernel
theorem dX11_row_38 : decode cX11_row 38 = .ok (.iload 4, 2) := by decide +kernel
theorem dX11_row_40 : decode cX11_row 40 = .ok (.invokevirtual 201, 3) := by decide +kernel
theorem dX11_row_43 : decode cX11_row 43 = .ok (.ifCond .eq 9, 3) := by decide +kernel
theorem dX11_row_46 : decode cX11_row 46 = .ok (.iinc 2 1, 3) := by decide +kernel
theorem dX11_row_49 : decode cX11_row 49 = .ok (.goto 6, 3) := by decide +kernel
theorem dX11_row_52 : decode cX11_row 52 = .ok (.iinc 3 1, 3) := by decide +kernel
theorem dX11_row_55 : decode cX11_row 55 = .ok (.iinc 4 4, 3) := by decide +kernel
theorem dX11_row_58 : decode cX11_row 58 = .ok (.goto (-35), 3) := by decide +kernel
theorem dX11_row_61 : decode cX11_row 61 = .ok (.aload_n 0, 1) := by decide +kernel
theorem dX11_row_62 : decode cX11_row 62 = .ok (.iload_n 3, 1) := by decide +kernel
theorem dX11_row_63 : decode cX11_row 63 = .ok (.putfield 101, 3) := by decide +kernel
theorem dX11_row_66 : decode cX11_row 66 = .ok (.aload_n 0, 1) := by decide +kernel
theorem dX11_row_67 : decode cX11_row 67 = .ok (.getfield 19, 3) := by decide +kernel
theorem dX11_row_70 : decode cX11_row 70 = .ok (.invokevirtual 118, 3) := by decide +kernel
theorem dX11_row_73 : decode cX11_row 73 = .ok (.aload_n 0, 1) := by decide +kernel
theorem dX11_row_74 : decode cX11_row 74 = .ok (.iload_n 2, 1) := by decide +kernel
theorem dX11_row_75 : decode cX11_row 75 = .ok (.invokevirtual 121, 3) := by decide +kernel
theorem dX11_row_78 : decode cX11_row 78 = .ok (.ireturn, 1) := by decide +kernel
theorem dX11_chaff_0 : decode cX11_chaff 0 = .ok (.aload_n 0, 1) := by decide +kernel
theorem dX11_chaff_1 : decode cX11_chaff 1 = .ok (.getfield 101, 3) := by decide +kernel
theorem dX11_chaff_4 : decode cX11_chaff 4 = .ok (.ireturn, 1) := by decide +kernel
set_option maxRecDepth 20000 in
theorem ggX11_law_X11_emptyTape : GoodIn wsX11_law wsX11_emptyTape := goodIn_r _ [12, 13, 212, 213, 214, 215, 216, 217, 218, 219, 220, 221, 222, 223, 224, 225, 226, 227, 228] (by decide +kernel) (by decide +kernel)
set_option maxRecDepth 20000 in
theorem gX11_law_X11_emptyTape : GoodIn wsX11_law (wsV RX11 198 RX11 yX11_emptyTape wsX11_emptyTape) := goodIn_app (goodIn_of _ (by decide +kernel)) ggX11_law_X11_emptyTape
set_option maxRecDepth 20000 in
theorem ggX11_law_X11_refuse : GoodIn wsX11_law wsX11_refuse := goodIn_r _ [17, 18, 19, 212, 213, 214, 215, 216, 217, 218, 219, 220, 221, 222, 223, 224, 225, 226, 227, 228] (by decide +kernel) (by decide +kernel)
set_option maxRecDepth 20000 in
theorem gX11_law_X11_refuse : GoodIn wsX11_law (wsV RX11 114 RX11 yX11_refuse wsX11_refuse) := goodIn_app (goodIn_of _ (by decide +kernel)) ggX11_law_X11_refuse
set_option maxRecDepth 20000 in
theorem ggX11_law_X4_read : GoodIn wsX11_law wsX4_read := goodIn_r _ [24, 25, 26, 27, 28, 29, 30, 31, 32, 33, 34, 35, 23, 36, 37, 38, 39, 40, 41, 42, 43, 44, 45, 46, 47, 48, 49, 50, 51, 52, 53, 54, 55, 56, 57, 58, 59, 60, 61, 62, 63, 64, 65, 66, 67, 68, 69, 70, 71, 72, 73, 74, 75, 76, 77, 78, 79, 80, 81, 82, 83, 84, 85, 86, 87, 88, 89, 90, 91, 92, 93, 94, 95, 96, 97, 98, 99, 100, 101, 102, 103, 104, 105, 106, 107, 108, 109, 110, 111, 112, 113, 114, 115, 116, 117, 118, 119, 120, 121, 122, 123, 124, 125, 126, 127, 128, 129, 130, 131, 132, 133, 134, 135, 136, 137, 138, 139, 140, 141, 142, 143, 144, 145, 146, 147, 148, 149, 150, 151, 152, 153, 154, 155, 156, 157, 158, 159, 160, 161, 162, 163, 164, 165, 166, 167, 168, 169, 170, 171, 172, 173, 174, 175, 176, 177, 178, 179, 180, 181, 182, 183, 184, 185, 186, 187, 249, 250, 251, 252, 253, 254, 255, 256, 257, 258, 259, 260, 261] (by decide +kernel) (by decide +kernel)
set_option maxRecDepth 20000 in
theorem gX11_law_X4_read : GoodIn wsX11_law (wsV RX11 207 RX4 yX4_read wsX4_read) := goodIn_app (goodIn_of _ (by decide +kernel)) ggX11_law_X4_read
set_option maxRecDepth 20000 in
theorem ggX11_law_X10_copy : GoodIn wsX11_law wsX10_copy := goodIn_r _ [191, 192, 193, 108, 111, 110, 129, 194, 195, 196, 197, 130, 112, 146, 198, 199, 200, 201, 202, 203, 204, 205, 206, 27, 207, 256, 257, 258, 259, 260, 261] (by decide +kernel) (by decide +kernel)
set_option maxRecDepth 20000 in
theorem gX11_law_X10_copy : GoodIn wsX11_law (wsV RX11 219 RX10 yX10_copy wsX10_copy) := goodIn_app (goodIn_of _ (by decide +kernel)) ggX11_law_X10_copy
set_option maxRecDepth 20000 in
theorem ggX11_law_X11_agree : GoodIn wsX11_law wsX11_agree := goodIn_r _ [211, 19, 212, 213, 214, 215, 216, 217, 218, 219, 220, 221, 222, 223, 224, 225, 226, 227, 228] (by decide +kernel) (by decide +kernel)
set_option maxRecDepth 20000 in
theorem gX11_law_X11_agree : GoodIn wsX11_law (wsV RX11 225 RX11 yX11_agree wsX11_agree) := goodIn_app (goodIn_of _ (by decide +kernel)) ggX11_law_X11_agree
theorem dX11_law_0 : decode cX11_law 0 = .ok (.aload_n 0, 1) := by decide +kernel
theorem dX11_law_1 : decode cX11_law 1 = .ok (.invokevirtual 198, 3) := by decide +kernel
theorem dX11_law_4 : decode cX11_law 4 = .ok (.istore_n 1, 1) := by decide +kernel
theorem dX11_law_5 : decode cX11_law 5 = .ok (.aload_n 0, 1) := by decide +kernel
theorem dX11_law_6 : decode cX11_law 6 = .ok (.getfield 10, 3) := by decide +kernel
theorem dX11_law_9 : decode cX11_law 9 = .ok (.getfield 204, 3) := by decide +kernel
theorem dX11_law_12 : decode cX11_law 12 = .ok (.ifCond .lt 15, 3) := by decide +kernel
theorem dX11_law_15 : decode cX11_law 15 = .ok (.aload_n 0, 1) := by decide +kernel
theorem dX11_law_16 : decode cX11_law 16 = .ok (.getfield 10, 3) := by decide +kernel
theorem dX11_law_19 : decode cX11_law 19 = .ok (.getfield 204, 3) := by decide +kernel
theorem dX11_law_22 : decode cX11_law 22 = .ok (.bipush 6, 2) := by decide +kernel
theorem dX11_law_24 : decode cX11_law 24 = .ok (.if_icmp .lt 10, 3) := by decide +kernel
theorem dX11_law_27 : decode cX11_law 27 = .ok (.aload_n 0, 1) := by decide +kernel
theorem dX11_law_28 : decode cX11_law 28 = .ok (.bipush (-5), 2) := by decide +kernel
theorem dX11_law_30 : decode cX11_law 30 = .ok (.invokevirtual 114, 3) := by decide +kernel
theorem dX11_law_33 : decode cX11_law 33 = .ok (.ireturn, 1) := by decide +kernel
theorem dX11_law_34 : decode cX11_law 34 = .ok (.aload_n 0, 1) := by decide +kernel
theorem dX11_law_35 : decode cX11_law 35 = .ok (.aload_n 0, 1) := by decide +kernel
theorem dX11_law_36 : decode cX11_law 36 = .ok (.getfield 44, 3) := by decide +kernel
theorem dX11_law_39 : decode cX11_law 39 = .ok (.aload_n 0, 1) := by decide +kernel
theorem dX11_law_40 : decode cX11_law 40 = .ok (.getfield 86, 3) := by decide +kernel
theorem dX11_law_43 : decode cX11_law 43 = .ok (.iload_n 1, 1) := by decide +kernel
theorem dX11_law_44 : decode cX11_law 44 = .ok (.iconst 0, 1) := by decide +kernel
theorem dX11_law_45 : decode cX11_law 45 = .ok (.invokevirtual 207, 3) := by decide +kernel
theorem dX11_law_48 : decode cX11_law 48 = .ok (.putfield 98, 3) := by decide +kernel
theorem dX11_law_51 : decode cX11_law 51 = .ok (.aload_n 0, 1) := by decide +kernel
theorem dX11_law_52 : decode cX11_law 52 = .ok (.getfield 98, 3) := by decide +kernel
theorem dX11_law_55 : decode cX11_law 55 = .ok (.iconst (-1), 1) := by decide +kernel
theorem dX11_law_56 : decode cX11_law 56 = .ok (.if_icmp .eq 10, 3) := by decide +kernel
theorem dX11_law_59 : decode cX11_law 59 = .ok (.aload_n 0, 1) := by decide +kernel
theorem dX11_law_60 : decode cX11_law 60 = .ok (.bipush (-6), 2) := by decide +kernel
theorem dX11_law_62 : decode cX11_law 62 = .ok (.invokevirtual 114, 3) := by decide +kernel
theorem dX11_law_65 : decode cX11_law 65 = .ok (.ireturn, 1) := by decide +kernel
theorem dX11_law_66 : decode cX11_law 66 = .ok (.aload_n 0, 1) := by decide +kernel
theorem dX11_law_67 : decode cX11_law 67 = .ok (.getfield 10, 3) := by decide +kernel
theorem dX11_law_70 : decode cX11_law 70 = .ok (.getfield 204, 3) := by decide +kernel
theorem dX11_law_73 : decode cX11_law 73 = .ok (.istore_n 2, 1) := by decide +kernel
theorem dX11_law_74 : decode cX11_law 74 = .ok (.aload_n 0, 1) := by decide +kernel
theorem dX11_law_75 : decode cX11_law 75 = .ok (.getfield 10, 3) := by decide +kernel
theorem dX11_law_78 : decode cX11_law 78 = .ok (.getfield 211, 3) := by decide +kernel
theorem dX11_law_81 : decode cX11_law 81 = .ok (.iload_n 2, 1) := by decide +kernel
theorem dX11_law_82 : decode cX11_law 82 = .ok (.aload_n 0, 1) := by decide +kernel
theorem dX11_law_83 : decode cX11_law 83 = .ok (.getfield 44, 3) := by decide +kernel
theorem dX11_law_86 : decode cX11_law 86 = .ok (.getfield 215, 3) := by decide +kernel
theorem dX11_law_89 : decode cX11_law 89 = .ok (.invokevirtual 219, 3) := by decide +kernel
theorem dX11_law_92 : decode cX11_law 92 = .ok (.aastore, 1) := by decide +kernel
theorem dX11_law_93 : decode cX11_law 93 = .ok (.aload_n 0, 1) := by decide +kernel
theorem dX11_law_94 : decode cX11_law 94 = .ok (.getfield 10, 3) := by decide +kernel
theorem dX11_law_97 : decode cX11_law 97 = .ok (.iload_n 2, 1) := by decide +kernel
theorem dX11_law_98 : decode cX11_law 98 = .ok (.iconst 1, 1) := by decide +kernel
theorem dX11_law_99 : decode cX11_law 99 = .ok (.iadd, 1) := by decide +kernel
theorem dX11_law_100 : decode cX11_law 100 = .ok (.putfield 204, 3) := by decide +kernel
theorem dX11_law_103 : decode cX11_law 103 = .ok (.aload_n 0, 1) := by decide +kernel
theorem dX11_law_104 : decode cX11_law 104 = .ok (.iload_n 2, 1) := by decide +kernel
theorem dX11_law_105 : decode cX11_law 105 = .ok (.invokevirtual 225, 3) := by decide +kernel
theorem dX11_law_108 : decode cX11_law 108 = .ok (.ireturn, 1) := by decide +kernel
set_option maxRecDepth 20000 in
theorem ggX11_orders_X11_emptyTape : GoodIn wsX11_orders wsX11_emptyTape := goodIn_r _ [12, 13, 403, 404, 405, 406, 407, 408, 409, 410, 411, 412, 413, 414, 415, 416, 417, 418, 419] (by decide +kernel) (by decide +kernel)
set_option maxRecDepth 20000 in
theorem gX11_orders_X11_emptyTape : GoodIn wsX11_orders (wsV RX11 198 RX11 yX11_emptyTape wsX11_emptyTape) := goodIn_app (goodIn_of _ (by decide +kernel)) ggX11_orders_X11_emptyTape
set_option maxRecDepth 20000 in
theorem ggX11_orders_X4_read : GoodIn wsX11_orders wsX4_read := goodIn_r _ [18, 19, 20, 21, 22, 23, 24, 25, 26, 27, 28, 29, 17, 30, 31, 32, 33, 34, 35, 36, 37, 38, 39, 40, 41, 42, 43, 44, 45, 46, 47, 48, 49, 50, 51, 52, 53, 54, 55, 56, 57, 58, 59, 60, 61, 62, 63, 64, 65, 66, 67, 68, 69, 70, 71, 72, 73, 74, 75, 76, 77, 78, 79, 80, 81, 82, 83, 84, 85, 86, 87, 88, 89, 90, 91, 92, 93, 94, 95, 96, 97, 98, 99, 100, 101, 102, 103, 104, 105, 106, 107, 108, 109, 110, 111, 112, 113, 114, 115, 116, 117, 118, 119, 120, 121, 122, 123, 124, 125, 126, 127, 128, 129, 130, 131, 132, 133, 134, 135, 136, 137, 138, 139, 140, 141, 142, 143, 144, 145, 146, 147, 148, 149, 150, 151, 152, 153, 154, 155, 156, 157, 158, 159, 160, 161, 162, 163, 164, 165, 166, 167, 168, 169, 170, 171, 172, 173, 174, 175, 176, 177, 178, 179, 180, 181, 420, 421, 422, 423, 424, 425, 426, 435, 436, 437, 438, 439, 440] (by decide +kernel) (by decide +kernel)
set_option maxRecDepth 20000 in
theorem gX11_orders_X4_read : GoodIn wsX11_orders (wsV RX11 207 RX4 yX4_read wsX4_read) := goodIn_app (goodIn_of _ (by decide +kernel)) ggX11_orders_X4_read
set_option maxRecDepth 20000 in
theorem ggX11_orders_X11_refuse : GoodIn wsX11_orders wsX11_refuse := goodIn_r _ [185, 186, 187, 403, 404, 405, 406, 407, 408, 409, 410, 411, 412, 413, 414, 415, 416, 417, 418, 419] (by decide +kernel) (by decide +kernel)
set_option maxRecDepth 20000 in
theorem gX11_orders_X11_refuse : GoodIn wsX11_orders (wsV RX11 114 RX11 yX11_refuse wsX11_refuse) := goodIn_app (goodIn_of _ (by decide +kernel)) ggX11_orders_X11_refuse
set_option maxRecDepth 20000 in
theorem ggX11_orders_X5_runAll : GoodIn wsX11_orders wsX5_runAll := goodIn_r _ [192, 193, 194, 195, 196, 197, 198, 199, 200, 201, 202, 203, 204, 205, 206, 207, 208, 209, 210, 211, 212, 213, 214, 215, 216, 217, 218, 219, 220, 221, 222, 223, 224, 225, 226, 227, 228, 229, 230, 231, 232, 233, 234, 235, 236, 237, 238, 239, 240, 191, 241, 242, 243, 244, 245, 246, 247, 248, 249, 250, 251, 252, 253, 254, 255, 256, 257, 258, 259, 260, 261, 262, 263, 264, 265, 266, 267, 268, 269, 270, 271, 272, 273, 274, 275, 276, 277, 278, 102, 279, 106, 140, 280, 281, 282, 283, 284, 285, 286, 287, 288, 289, 290, 291, 292, 293, 294, 295, 296, 297, 298, 299, 300, 301, 302, 303, 304, 305, 306, 307, 20, 21, 22, 308, 309, 310, 311, 312, 313, 314, 315, 316, 317, 318, 319, 320, 321, 322, 323, 324, 325, 326, 327, 328, 329, 330, 331, 332, 333, 334, 335, 336, 337, 338, 339, 340, 341, 342, 343, 344, 345, 346, 347, 348, 349, 350, 351, 352, 353, 354, 355, 356, 357, 358, 359, 360, 361, 362, 363, 364, 365, 366, 367, 368, 369, 370, 371, 372, 373, 374, 375, 376, 377, 378, 427, 428, 429, 430, 431, 432, 433, 434, 435, 436, 437, 438, 439, 440, 441, 442, 443, 444, 445, 446, 447, 448, 449, 450, 451, 452, 453, 454, 455, 456, 457, 458, 459, 460, 461, 462, 463, 464, 465, 466, 467, 468, 469, 470] (by decide +kernel) (by decide +kernel)
set_option maxRecDepth 20000 in
theorem gX11_orders_X5_runAll : GoodIn wsX11_orders (wsV RX11 228 RX5 yX5_runAll wsX5_runAll) := goodIn_app (goodIn_of _ (by decide +kernel)) ggX11_orders_X5_runAll
set_option maxRecDepth 20000 in
theorem ggX11_orders_X11_agreeChanged : GoodIn wsX11_orders wsX11_agreeChanged := goodIn_r _ [382, 383, 384, 385, 386, 387, 388, 389, 390, 391, 392, 393, 394, 395, 396, 397, 398, 399, 400, 401, 11, 402, 187, 403, 404, 405, 406, 407, 408, 409, 410, 411, 412, 413, 414, 415, 416, 417, 418, 419, 471, 472, 473, 474, 475, 476, 477, 478, 479, 480, 481, 482, 483] (by decide +kernel) (by decide +kernel)
set_option maxRecDepth 20000 in
theorem gX11_orders_X11_agreeChanged : GoodIn wsX11_orders (wsV RX11 121 RX11 yX11_agreeChanged wsX11_agreeChanged) := goodIn_app (goodIn_of _ (by decide +kernel)) ggX11_orders_X11_agreeChanged
theorem dX11_orders_0 : decode cX11_orders 0 = .ok (.aload_n 0, 1) := by decide +kernel
theorem dX11_orders_1 : decode cX11_orders 1 = .ok (.invokevirtual 198, 3) := by decide +kernel
theorem dX11_orders_4 : decode cX11_orders 4 = .ok (.istore_n 1, 1) := by decide +kernel
theorem dX11_orders_5 : decode cX11_orders 5 = .ok (.aload_n 0, 1) := by decide +kernel
theorem dX11_orders_6 : decode cX11_orders 6 = .ok (.iconst (-1), 1) := by decide +kernel
theorem dX11_orders_7 : decode cX11_orders 7 = .ok (.putfield 104, 3) := by decide +kernel
theorem dX11_orders_10 : decode cX11_orders 10 = .ok (.aload_n 0, 1) := by decide +kernel
theorem dX11_orders_11 : decode cX11_orders 11 = .ok (.aload_n 0, 1) := by decide +kernel
theorem dX11_orders_12 : decode cX11_orders 12 = .ok (.getfield 44, 3) := by decide +kernel
theorem dX11_orders_15 : decode cX11_orders 15 = .ok (.aload_n 0, 1) := by decide +kernel
theorem dX11_orders_16 : decode cX11_orders 16 = .ok (.getfield 86, 3) := by decide +kernel
theorem dX11_orders_19 : decode cX11_orders 19 = .ok (.iload_n 1, 1) := by decide +kernel
theorem dX11_orders_20 : decode cX11_orders 20 = .ok (.iconst 1, 1) := by decide +kernel
theorem dX11_orders_21 : decode cX11_orders 21 = .ok (.invokevirtual 207, 3) := by decide +kernel
theorem dX11_orders_24 : decode cX11_orders 24 = .ok (.putfield 98, 3) := by decide +kernel
theorem dX11_orders_27 : decode cX11_orders 27 = .ok (.aload_n 0, 1) := by decide +kernel
theorem dX11_orders_28 : decode cX11_orders 28 = .ok (.getfield 98, 3) := by decide +kernel
theorem dX11_orders_31 : decode cX11_orders 31 = .ok (.iconst (-1), 1) := by decide +kernel
theorem dX11_orders_32 : decode cX11_orders 32 = .ok (.if_icmp .eq 10, 3) := by decide +kernel
theorem dX11_orders_35 : decode cX11_orders 35 = .ok (.aload_n 0, 1) := by decide +kernel
theorem dX11_orders_36 : decode cX11_orders 36 = .ok (.bipush (-6), 2) := by decide +kernel
theorem dX11_orders_38 : decode cX11_orders 38 = .ok (.invokevirtual 114, 3) := by decide +kernel
theorem dX11_orders_41 : decode cX11_orders 41 = .ok (.ireturn, 1) := by decide +kernel
theorem dX11_orders_42 : decode cX11_orders 42 = .ok (.aload_n 0, 1) := by decide +kernel
theorem dX11_orders_43 : decode cX11_orders 43 = .ok (.aload_n 0, 1) := by decide +kernel
theorem dX11_orders_44 : decode cX11_orders 44 = .ok (.getfield 37, 3) := by decide +kernel
theorem dX11_orders_47 : decode cX11_orders 47 = .ok (.aload_n 0, 1) := by decide +kernel
theorem dX11_orders_48 : decode cX11_orders 48 = .ok (.getfield 44, 3) := by decide +kernel
theorem dX11_orders_51 : decode cX11_orders 51 = .ok (.getfield 215, 3) := by decide +kernel
theorem dX11_orders_54 : decode cX11_orders 54 = .ok (.invokevirtual 228, 3) := by decide +kernel
theorem dX11_orders_57 : decode cX11_orders 57 = .ok (.putfield 104, 3) := by decide +kernel
theorem dX11_orders_60 : decode cX11_orders 60 = .ok (.aload_n 0, 1) := by decide +kernel
theorem dX11_orders_61 : decode cX11_orders 61 = .ok (.getfield 104, 3) := by decide +kernel
theorem dX11_orders_64 : decode cX11_orders 64 = .ok (.iconst (-1), 1) := by decide +kernel
theorem dX11_orders_65 : decode cX11_orders 65 = .ok (.if_icmp .eq 10, 3) := by decide +kernel
theorem dX11_orders_68 : decode cX11_orders 68 = .ok (.aload_n 0, 1) := by decide +kernel
theorem dX11_orders_69 : decode cX11_orders 69 = .ok (.bipush (-3), 2) := by decide +kernel
theorem dX11_orders_71 : decode cX11_orders 71 = .ok (.invokevirtual 114, 3) := by decide +kernel
theorem dX11_orders_74 : decode cX11_orders 74 = .ok (.ireturn, 1) := by decide +kernel
theorem dX11_orders_75 : decode cX11_orders 75 = .ok (.aload_n 0, 1) := by decide +kernel
theorem dX11_orders_76 : decode cX11_orders 76 = .ok (.aload_n 0, 1) := by decide +kernel
theorem dX11_orders_77 : decode cX11_orders 77 = .ok (.getfield 37, 3) := by decide +kernel
theorem dX11_orders_80 : decode cX11_orders 80 = .ok (.getfield 232, 3) := by decide +kernel
theorem dX11_orders_83 : decode cX11_orders 83 = .ok (.invokevirtual 121, 3) := by decide +kernel
theorem dX11_orders_86 : decode cX11_orders 86 = .ok (.ireturn, 1) := by decide +kernel
theorem dX11_fault_0 : decode cX11_fault 0 = .ok (.aload_n 0, 1) := by decide +kernel
theorem dX11_fault_1 : decode cX11_fault 1 = .ok (.getfield 98, 3) := by decide +kernel
theorem dX11_fault_4 : decode cX11_fault 4 = .ok (.ireturn, 1) := by decide +kernel
theorem dX11_stopped_0 : decode cX11_stopped 0 = .ok (.aload_n 0, 1) := by decide +kernel
theorem dX11_stopped_1 : decode cX11_stopped 1 = .ok (.getfield 104, 3) := by decide +kernel
theorem dX11_stopped_4 : decode cX11_stopped 4 = .ok (.ireturn, 1) := by decide +kernel
set_option maxRecDepth 20000 in
theorem ggX11_force_X11_refuse : GoodIn wsX11_force wsX11_refuse := goodIn_r _ [8, 9, 10, 35, 36, 37, 38, 39, 40, 41, 42, 43, 44, 45, 46, 47, 48, 49, 50, 51] (by decide +kernel) (by decide +kernel)
set_option maxRecDepth 20000 in
theorem gX11_force_X11_refuse : GoodIn wsX11_force (wsV RX11 114 RX11 yX11_refuse wsX11_refuse) := goodIn_app (goodIn_of _ (by decide +kernel)) ggX11_force_X11_refuse
set_option maxRecDepth 20000 in
theorem ggX11_force_X11_agreeChanged : GoodIn wsX11_force wsX11_agreeChanged := goodIn_r _ [14, 15, 16, 17, 18, 19, 20, 21, 22, 23, 24, 25, 26, 27, 28, 29, 30, 31, 32, 33, 7, 34, 10, 35, 36, 37, 38, 39, 40, 41, 42, 43, 44, 45, 46, 47, 48, 49, 50, 51, 72, 73, 74, 75, 76, 77, 78, 79, 80, 81, 82, 83, 84] (by decide +kernel) (by decide +kernel)
set_option maxRecDepth 20000 in
theorem gX11_force_X11_agreeChanged : GoodIn wsX11_force (wsV RX11 121 RX11 yX11_agreeChanged wsX11_agreeChanged) := goodIn_app (goodIn_of _ (by decide +kernel)) ggX11_force_X11_agreeChanged
theorem dX11_force_0 : decode cX11_force 0 = .ok (.iload_n 1, 1) := by decide +kernel
theorem dX11_force_1 : decode cX11_force 1 = .ok (.iconst (-1), 1) := by decide +kernel
theorem dX11_force_2 : decode cX11_force 2 = .ok (.if_icmp .eq 25, 3) := by decide +kernel
theorem dX11_force_5 : decode cX11_force 5 = .ok (.iload_n 1, 1) := by decide +kernel
theorem dX11_force_6 : decode cX11_force 6 = .ok (.ifCond .lt 14, 3) := by decide +kernel
theorem dX11_force_9 : decode cX11_force 9 = .ok (.iload_n 1, 1) := by decide +kernel
theorem dX11_force_10 : decode cX11_force 10 = .ok (.aload_n 0, 1) := by decide +kernel
theorem dX11_force_11 : decode cX11_force 11 = .ok (.getfield 10, 3) := by decide +kernel
theorem dX11_force_14 : decode cX11_force 14 = .ok (.getfield 204, 3) := by decide +kernel
theorem dX11_force_17 : decode cX11_force 17 = .ok (.if_icmp .lt 10, 3) := by decide +kernel
theorem dX11_force_20 : decode cX11_force 20 = .ok (.aload_n 0, 1) := by decide +kernel
theorem dX11_force_21 : decode cX11_force 21 = .ok (.bipush (-2), 2) := by decide +kernel
theorem dX11_force_23 : decode cX11_force 23 = .ok (.invokevirtual 114, 3) := by decide +kernel
theorem dX11_force_26 : decode cX11_force 26 = .ok (.ireturn, 1) := by decide +kernel
theorem dX11_force_27 : decode cX11_force 27 = .ok (.aload_n 0, 1) := by decide +kernel
theorem dX11_force_28 : decode cX11_force 28 = .ok (.getfield 10, 3) := by decide +kernel
theorem dX11_force_31 : decode cX11_force 31 = .ok (.getfield 235, 3) := by decide +kernel
theorem dX11_force_34 : decode cX11_force 34 = .ok (.istore_n 2, 1) := by decide +kernel
theorem dX11_force_35 : decode cX11_force 35 = .ok (.aload_n 0, 1) := by decide +kernel
theorem dX11_force_36 : decode cX11_force 36 = .ok (.getfield 10, 3) := by decide +kernel
theorem dX11_force_39 : decode cX11_force 39 = .ok (.iload_n 1, 1) := by decide +kernel
theorem dX11_force_40 : decode cX11_force 40 = .ok (.putfield 235, 3) := by decide +kernel
theorem dX11_force_43 : decode cX11_force 43 = .ok (.aload_n 0, 1) := by decide +kernel
theorem dX11_force_44 : decode cX11_force 44 = .ok (.iload_n 2, 1) := by decide +kernel
theorem dX11_force_45 : decode cX11_force 45 = .ok (.invokevirtual 121, 3) := by decide +kernel
theorem dX11_force_48 : decode cX11_force 48 = .ok (.ireturn, 1) := by decide +kernel
set_option maxRecDepth 20000 in
theorem ggX11_stands_X7_upMask : GoodIn wsX11_stands wsX7_upMask := goodIn_r _ [6, 7, 8, 32, 33, 34, 35, 36, 37, 38, 39, 40, 41, 42, 43, 44, 45, 46, 47, 48, 49, 50, 51] (by decide +kernel) (by decide +kernel)
set_option maxRecDepth 20000 in
theorem gX11_stands_X7_upMask : GoodIn wsX11_stands (wsV RX11 238 RX7 yX7_upMask wsX7_upMask) := goodIn_app (goodIn_of _ (by decide +kernel)) ggX11_stands_X7_upMask
set_option maxRecDepth 20000 in
theorem ggX11_stands_X7_readyMask : GoodIn wsX11_stands wsX7_readyMask := goodIn_r _ [12, 7, 8, 13, 14, 3, 4, 5, 6, 32, 33, 34, 35, 36, 37, 38, 39, 40, 41, 42, 43, 44, 45, 46, 47, 48, 49, 50, 51] (by decide +kernel) (by decide +kernel)
set_option maxRecDepth 20000 in
theorem gX11_stands_X7_readyMask : GoodIn wsX11_stands (wsV RX11 143 RX7 yX7_readyMask wsX7_readyMask) := goodIn_app (goodIn_of _ (by decide +kernel)) ggX11_stands_X7_readyMask
theorem dX11_stands_0 : decode cX11_stands 0 = .ok (.iload_n 1, 1) := by decide +kernel
theorem dX11_stands_1 : decode cX11_stands 1 = .ok (.lookupswitch 43 #[(0, 27), (1, 35)], 27) := by decide +kernel
theorem dX11_stands_28 : decode cX11_stands 28 = .ok (.aload_n 0, 1) := by decide +kernel
theorem dX11_stands_29 : decode cX11_stands 29 = .ok (.getfield 10, 3) := by decide +kernel
theorem dX11_stands_32 : decode cX11_stands 32 = .ok (.invokevirtual 238, 3) := by decide +kernel
theorem dX11_stands_35 : decode cX11_stands 35 = .ok (.ireturn, 1) := by decide +kernel
theorem dX11_stands_36 : decode cX11_stands 36 = .ok (.aload_n 0, 1) := by decide +kernel
theorem dX11_stands_37 : decode cX11_stands 37 = .ok (.getfield 10, 3) := by decide +kernel
theorem dX11_stands_40 : decode cX11_stands 40 = .ok (.invokevirtual 143, 3) := by decide +kernel
theorem dX11_stands_43 : decode cX11_stands 43 = .ok (.ireturn, 1) := by decide +kernel
theorem dX11_stands_44 : decode cX11_stands 44 = .ok (.iconst (-1), 1) := by decide +kernel
theorem dX11_stands_45 : decode cX11_stands 45 = .ok (.ireturn, 1) := by decide +kernel
set_option maxRecDepth 20000 in
theorem ggX11_send_X0_sendBuilder : GoodIn wsX11_send wsX0_sendBuilder := goodIn_r _ [6, 7, 8, 9, 10, 11, 12, 13, 14, 15, 16, 17, 18, 19, 20, 21, 22, 23, 24, 25, 26, 27, 28, 29, 30, 31, 32, 33, 34, 35, 36, 37, 38, 39, 40, 41, 42, 43, 44, 45, 46, 47, 48, 49, 50, 51, 52, 53, 54, 55, 56, 57, 58, 59, 60, 61, 62, 63, 64, 65, 66, 67, 68, 69, 70, 71, 72, 73, 74, 75, 76, 77, 78, 79, 80, 81, 82, 83, 84, 85, 86, 87, 88, 89, 90, 91, 92, 93, 94, 95, 96, 97, 98, 99, 100, 101, 102, 103, 104, 157, 158, 159, 160, 161, 162, 163, 164, 165, 166, 167, 168, 169, 170, 171, 172, 173, 174, 175, 176, 177, 178, 179, 180, 181, 182, 183, 184, 185, 186, 187, 188, 189, 190, 191, 192] (by decide +kernel) (by decide +kernel)
set_option maxRecDepth 20000 in
theorem gX11_send_X0_sendBuilder : GoodIn wsX11_send (wsV RX11 241 RX0 yX0_sendBuilder wsX0_sendBuilder) := goodIn_app (goodIn_of _ (by decide +kernel)) ggX11_send_X0_sendBuilder
set_option maxRecDepth 20000 in
theorem ggX11_send_X11_settle : GoodIn wsX11_send wsX11_settle := goodIn_r _ [109, 110, 111, 112, 108, 113, 114, 115, 116, 117, 118, 119, 120, 121, 122, 123, 124, 125, 126, 127, 128, 129, 130, 131, 132, 133, 134, 135, 136, 137, 138, 139, 140, 141, 142, 143, 144, 145, 146, 147, 148, 149, 150, 151, 152, 153, 154, 155, 156, 193, 194, 195, 196, 197, 198, 199, 200, 201, 202, 203, 204, 205] (by decide +kernel) (by decide +kernel)
set_option maxRecDepth 20000 in
theorem gX11_send_X11_settle : GoodIn wsX11_send (wsV RX11 244 RX11 yX11_settle wsX11_settle) := goodIn_app (goodIn_of _ (by decide +kernel)) ggX11_send_X11_settle
theorem dX11_send_0 : decode cX11_send 0 = .ok (.aload_n 0, 1) := by decide +kernel
theorem dX11_send_1 : decode cX11_send 1 = .ok (.aload_n 0, 1) := by decide +kernel
theorem dX11_send_2 : decode cX11_send 2 = .ok (.getfield 28, 3) := by decide +kernel
theorem dX11_send_5 : decode cX11_send 5 = .ok (.iload_n 1, 1) := by decide +kernel
theorem dX11_send_6 : decode cX11_send 6 = .ok (.iload_n 2, 1) := by decide +kernel
theorem dX11_send_7 : decode cX11_send 7 = .ok (.invokevirtual 241, 3) := by decide +kernel
theorem dX11_send_10 : decode cX11_send 10 = .ok (.invokevirtual 244, 3) := by decide +kernel
theorem dX11_send_13 : decode cX11_send 13 = .ok (.ireturn, 1) := by decide +kernel
set_option maxRecDepth 20000 in
theorem ggX11_rest_X0_restBuilder : GoodIn wsX11_rest wsX0_restBuilder := goodIn_r _ [6, 7, 8, 9, 10, 11, 12, 13, 14, 15, 16, 17, 18, 19, 20, 21, 22, 23, 24, 25, 26, 27, 28, 29, 30, 31, 32, 33, 34, 35, 88, 89, 90, 91, 92, 93, 94, 95, 96, 97, 98, 99, 100, 101, 102, 103, 104, 105, 106, 107, 108, 109, 110, 111, 112] (by decide +kernel) (by decide +kernel)
set_option maxRecDepth 20000 in
theorem gX11_rest_X0_restBuilder : GoodIn wsX11_rest (wsV RX11 247 RX0 yX0_restBuilder wsX0_restBuilder) := goodIn_app (goodIn_of _ (by decide +kernel)) ggX11_rest_X0_restBuilder
set_option maxRecDepth 20000 in
theorem ggX11_rest_X11_settle : GoodIn wsX11_rest wsX11_settle := goodIn_r _ [40, 41, 42, 43, 39, 44, 45, 46, 47, 48, 49, 50, 51, 52, 53, 54, 55, 56, 57, 58, 59, 60, 61, 62, 63, 64, 65, 66, 67, 68, 69, 70, 71, 72, 73, 74, 75, 76, 77, 78, 79, 80, 81, 82, 83, 84, 85, 86, 87, 113, 114, 115, 116, 117, 118, 119, 120, 121, 122, 123, 124, 125] (by decide +kernel) (by decide +kernel)
set_option maxRecDepth 20000 in
theorem gX11_rest_X11_settle : GoodIn wsX11_rest (wsV RX11 244 RX11 yX11_settle wsX11_settle) := goodIn_app (goodIn_of _ (by decide +kernel)) ggX11_rest_X11_settle
theorem dX11_rest_0 : decode cX11_rest 0 = .ok (.aload_n 0, 1) := by decide +kernel
theorem dX11_rest_1 : decode cX11_rest 1 = .ok (.aload_n 0, 1) := by decide +kernel
theorem dX11_rest_2 : decode cX11_rest 2 = .ok (.getfield 28, 3) := by decide +kernel
theorem dX11_rest_5 : decode cX11_rest 5 = .ok (.iload_n 1, 1) := by decide +kernel
theorem dX11_rest_6 : decode cX11_rest 6 = .ok (.invokevirtual 247, 3) := by decide +kernel
theorem dX11_rest_9 : decode cX11_rest 9 = .ok (.invokevirtual 244, 3) := by decide +kernel
theorem dX11_rest_12 : decode cX11_rest 12 = .ok (.ireturn, 1) := by decide +kernel
set_option maxRecDepth 20000 in
theorem ggX11_throwDown_X0_razePart : GoodIn wsX11_throwDown wsX0_razePart := goodIn_r _ [6, 7, 8, 9, 10, 11, 12, 13, 14, 15, 16, 17, 18, 19, 5, 20, 21, 22, 23, 24, 25, 26, 27, 28, 29, 30, 31, 32, 33, 34, 35, 36, 37, 38, 39, 40, 41, 42, 43, 44, 45, 46, 47, 48, 101, 102, 103, 104, 105, 106, 107, 108, 109, 110, 111, 112, 113, 114, 115, 116, 117, 118, 119, 120, 121, 122, 123, 124, 125] (by decide +kernel) (by decide +kernel)
set_option maxRecDepth 20000 in
theorem gX11_throwDown_X0_razePart : GoodIn wsX11_throwDown (wsV RX11 250 RX0 yX0_razePart wsX0_razePart) := goodIn_app (goodIn_of _ (by decide +kernel)) ggX11_throwDown_X0_razePart
set_option maxRecDepth 20000 in
theorem ggX11_throwDown_X11_settle : GoodIn wsX11_throwDown wsX11_settle := goodIn_r _ [53, 54, 55, 56, 52, 57, 58, 59, 60, 61, 62, 63, 64, 65, 66, 67, 68, 69, 70, 71, 72, 73, 74, 75, 76, 77, 78, 79, 80, 81, 82, 83, 84, 85, 86, 87, 88, 89, 90, 91, 92, 93, 94, 95, 96, 97, 98, 99, 100, 126, 127, 128, 129, 130, 131, 132, 133, 134, 135, 136, 137, 138] (by decide +kernel) (by decide +kernel)
set_option maxRecDepth 20000 in
theorem gX11_throwDown_X11_settle : GoodIn wsX11_throwDown (wsV RX11 244 RX11 yX11_settle wsX11_settle) := goodIn_app (goodIn_of _ (by decide +kernel)) ggX11_throwDown_X11_settle
theorem dX11_throwDown_0 : decode cX11_throwDown 0 = .ok (.aload_n 0, 1) := by decide +kernel
theorem dX11_throwDown_1 : decode cX11_throwDown 1 = .ok (.aload_n 0, 1) := by decide +kernel
theorem dX11_throwDown_2 : decode cX11_throwDown 2 = .ok (.getfield 28, 3) := by decide +kernel
theorem dX11_throwDown_5 : decode cX11_throwDown 5 = .ok (.iload_n 1, 1) := by decide +kernel
theorem dX11_throwDown_6 : decode cX11_throwDown 6 = .ok (.invokevirtual 250, 3) := by decide +kernel
theorem dX11_throwDown_9 : decode cX11_throwDown 9 = .ok (.invokevirtual 244, 3) := by decide +kernel
theorem dX11_throwDown_12 : decode cX11_throwDown 12 = .ok (.ireturn, 1) := by decide +kernel
