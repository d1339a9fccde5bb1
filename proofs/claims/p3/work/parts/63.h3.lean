theorem dX0_sendBuilder_0 : decode cX0_sendBuilder 0 = .ok (.aload_n 0, 1) := by decide +kernel
theorem dX0_sendBuilder_1 : decode cX0_sendBuilder 1 = .ok (.getfield 9, 3) := by decide +kernel
theorem dX0_sendBuilder_4 : decode cX0_sendBuilder 4 = .ok (.iload_n 1, 1) := by decide +kernel
theorem dX0_sendBuilder_5 : decode cX0_sendBuilder 5 = .ok (.invokevirtual 19, 3) := by decide +kernel
theorem dX0_sendBuilder_8 : decode cX0_sendBuilder 8 = .ok (.ifCond .eq 14, 3) := by decide +kernel
theorem dX0_sendBuilder_11 : decode cX0_sendBuilder 11 = .ok (.aload_n 0, 1) := by decide +kernel
theorem dX0_sendBuilder_12 : decode cX0_sendBuilder 12 = .ok (.getfield 9, 3) := by decide +kernel
theorem dX0_sendBuilder_15 : decode cX0_sendBuilder 15 = .ok (.iload_n 2, 1) := by decide +kernel
theorem dX0_sendBuilder_16 : decode cX0_sendBuilder 16 = .ok (.invokevirtual 25, 3) := by decide +kernel
theorem dX0_sendBuilder_19 : decode cX0_sendBuilder 19 = .ok (.ifCond .ne 6, 3) := by decide +kernel
theorem dX0_sendBuilder_22 : decode cX0_sendBuilder 22 = .ok (.bipush (-2), 2) := by decide +kernel
theorem dX0_sendBuilder_24 : decode cX0_sendBuilder 24 = .ok (.ireturn, 1) := by decide +kernel
theorem dX0_sendBuilder_25 : decode cX0_sendBuilder 25 = .ok (.aload_n 0, 1) := by decide +kernel
theorem dX0_sendBuilder_26 : decode cX0_sendBuilder 26 = .ok (.getfield 9, 3) := by decide +kernel
theorem dX0_sendBuilder_29 : decode cX0_sendBuilder 29 = .ok (.invokevirtual 28, 3) := by decide +kernel
theorem dX0_sendBuilder_32 : decode cX0_sendBuilder 32 = .ok (.iload_n 2, 1) := by decide +kernel
theorem dX0_sendBuilder_33 : decode cX0_sendBuilder 33 = .ok (.ishr, 1) := by decide +kernel
theorem dX0_sendBuilder_34 : decode cX0_sendBuilder 34 = .ok (.iconst 1, 1) := by decide +kernel
theorem dX0_sendBuilder_35 : decode cX0_sendBuilder 35 = .ok (.iand, 1) := by decide +kernel
theorem dX0_sendBuilder_36 : decode cX0_sendBuilder 36 = .ok (.ifCond .eq 17, 3) := by decide +kernel
theorem dX0_sendBuilder_39 : decode cX0_sendBuilder 39 = .ok (.aload_n 0, 1) := by decide +kernel
theorem dX0_sendBuilder_40 : decode cX0_sendBuilder 40 = .ok (.getfield 9, 3) := by decide +kernel
theorem dX0_sendBuilder_43 : decode cX0_sendBuilder 43 = .ok (.iconst 3, 1) := by decide +kernel
theorem dX0_sendBuilder_44 : decode cX0_sendBuilder 44 = .ok (.iload_n 1, 1) := by decide +kernel
theorem dX0_sendBuilder_45 : decode cX0_sendBuilder 45 = .ok (.iload_n 2, 1) := by decide +kernel
theorem dX0_sendBuilder_46 : decode cX0_sendBuilder 46 = .ok (.invokevirtual 32, 3) := by decide +kernel
theorem dX0_sendBuilder_49 : decode cX0_sendBuilder 49 = .ok (.iconst 1, 1) := by decide +kernel
theorem dX0_sendBuilder_50 : decode cX0_sendBuilder 50 = .ok (.if_icmp .ne 6, 3) := by decide +kernel
theorem dX0_sendBuilder_53 : decode cX0_sendBuilder 53 = .ok (.bipush (-3), 2) := by decide +kernel
theorem dX0_sendBuilder_55 : decode cX0_sendBuilder 55 = .ok (.ireturn, 1) := by decide +kernel
theorem dX0_sendBuilder_56 : decode cX0_sendBuilder 56 = .ok (.aload_n 0, 1) := by decide +kernel
theorem dX0_sendBuilder_57 : decode cX0_sendBuilder 57 = .ok (.getfield 15, 3) := by decide +kernel
theorem dX0_sendBuilder_60 : decode cX0_sendBuilder 60 = .ok (.iconst 0, 1) := by decide +kernel
theorem dX0_sendBuilder_61 : decode cX0_sendBuilder 61 = .ok (.aload_n 0, 1) := by decide +kernel
theorem dX0_sendBuilder_62 : decode cX0_sendBuilder 62 = .ok (.getfield 9, 3) := by decide +kernel
theorem dX0_sendBuilder_65 : decode cX0_sendBuilder 65 = .ok (.invokevirtual 36, 3) := by decide +kernel
theorem dX0_sendBuilder_68 : decode cX0_sendBuilder 68 = .ok (.aload_n 0, 1) := by decide +kernel
theorem dX0_sendBuilder_69 : decode cX0_sendBuilder 69 = .ok (.getfield 9, 3) := by decide +kernel
theorem dX0_sendBuilder_72 : decode cX0_sendBuilder 72 = .ok (.getfield 42, 3) := by decide +kernel
theorem dX0_sendBuilder_75 : decode cX0_sendBuilder 75 = .ok (.iload_n 1, 1) := by decide +kernel
theorem dX0_sendBuilder_76 : decode cX0_sendBuilder 76 = .ok (.iload_n 2, 1) := by decide +kernel
theorem dX0_sendBuilder_77 : decode cX0_sendBuilder 77 = .ok (.iastore, 1) := by decide +kernel
theorem dX0_sendBuilder_78 : decode cX0_sendBuilder 78 = .ok (.aload_n 0, 1) := by decide +kernel
theorem dX0_sendBuilder_79 : decode cX0_sendBuilder 79 = .ok (.getfield 9, 3) := by decide +kernel
theorem dX0_sendBuilder_82 : decode cX0_sendBuilder 82 = .ok (.getfield 46, 3) := by decide +kernel
theorem dX0_sendBuilder_85 : decode cX0_sendBuilder 85 = .ok (.iload_n 2, 1) := by decide +kernel
theorem dX0_sendBuilder_86 : decode cX0_sendBuilder 86 = .ok (.iaload, 1) := by decide +kernel
theorem dX0_sendBuilder_87 : decode cX0_sendBuilder 87 = .ok (.ireturn, 1) := by decide +kernel
theorem dX0_restBuilder_0 : decode cX0_restBuilder 0 = .ok (.aload_n 0, 1) := by decide +kernel
theorem dX0_restBuilder_1 : decode cX0_restBuilder 1 = .ok (.getfield 9, 3) := by decide +kernel
theorem dX0_restBuilder_4 : decode cX0_restBuilder 4 = .ok (.iload_n 1, 1) := by decide +kernel
theorem dX0_restBuilder_5 : decode cX0_restBuilder 5 = .ok (.invokevirtual 19, 3) := by decide +kernel
theorem dX0_restBuilder_8 : decode cX0_restBuilder 8 = .ok (.ifCond .ne 6, 3) := by decide +kernel
theorem dX0_restBuilder_11 : decode cX0_restBuilder 11 = .ok (.bipush (-2), 2) := by decide +kernel
theorem dX0_restBuilder_13 : decode cX0_restBuilder 13 = .ok (.ireturn, 1) := by decide +kernel
theorem dX0_restBuilder_14 : decode cX0_restBuilder 14 = .ok (.aload_n 0, 1) := by decide +kernel
theorem dX0_restBuilder_15 : decode cX0_restBuilder 15 = .ok (.getfield 9, 3) := by decide +kernel
theorem dX0_restBuilder_18 : decode cX0_restBuilder 18 = .ok (.getfield 42, 3) := by decide +kernel
theorem dX0_restBuilder_21 : decode cX0_restBuilder 21 = .ok (.iload_n 1, 1) := by decide +kernel
theorem dX0_restBuilder_22 : decode cX0_restBuilder 22 = .ok (.iaload, 1) := by decide +kernel
theorem dX0_restBuilder_23 : decode cX0_restBuilder 23 = .ok (.istore_n 2, 1) := by decide +kernel
theorem dX0_restBuilder_24 : decode cX0_restBuilder 24 = .ok (.iload_n 2, 1) := by decide +kernel
theorem dX0_restBuilder_25 : decode cX0_restBuilder 25 = .ok (.iconst (-1), 1) := by decide +kernel
theorem dX0_restBuilder_26 : decode cX0_restBuilder 26 = .ok (.if_icmp .ne 6, 3) := by decide +kernel
theorem dX0_restBuilder_29 : decode cX0_restBuilder 29 = .ok (.bipush (-3), 2) := by decide +kernel
theorem dX0_restBuilder_31 : decode cX0_restBuilder 31 = .ok (.ireturn, 1) := by decide +kernel
theorem dX0_restBuilder_32 : decode cX0_restBuilder 32 = .ok (.aload_n 0, 1) := by decide +kernel
theorem dX0_restBuilder_33 : decode cX0_restBuilder 33 = .ok (.getfield 15, 3) := by decide +kernel
theorem dX0_restBuilder_36 : decode cX0_restBuilder 36 = .ok (.iconst 1, 1) := by decide +kernel
theorem dX0_restBuilder_37 : decode cX0_restBuilder 37 = .ok (.aload_n 0, 1) := by decide +kernel
theorem dX0_restBuilder_38 : decode cX0_restBuilder 38 = .ok (.getfield 9, 3) := by decide +kernel
theorem dX0_restBuilder_41 : decode cX0_restBuilder 41 = .ok (.invokevirtual 36, 3) := by decide +kernel
theorem dX0_restBuilder_44 : decode cX0_restBuilder 44 = .ok (.aload_n 0, 1) := by decide +kernel
theorem dX0_restBuilder_45 : decode cX0_restBuilder 45 = .ok (.getfield 9, 3) := by decide +kernel
theorem dX0_restBuilder_48 : decode cX0_restBuilder 48 = .ok (.getfield 42, 3) := by decide +kernel
theorem dX0_restBuilder_51 : decode cX0_restBuilder 51 = .ok (.iload_n 1, 1) := by decide +kernel
theorem dX0_restBuilder_52 : decode cX0_restBuilder 52 = .ok (.iconst (-1), 1) := by decide +kernel
theorem dX0_restBuilder_53 : decode cX0_restBuilder 53 = .ok (.iastore, 1) := by decide +kernel
theorem dX0_restBuilder_54 : decode cX0_restBuilder 54 = .ok (.iload_n 2, 1) := by decide +kernel
theorem dX0_restBuilder_55 : decode cX0_restBuilder 55 = .ok (.ireturn, 1) := by decide +kernel
theorem dX0_razePart_0 : decode cX0_razePart 0 = .ok (.aload_n 0, 1) := by decide +kernel
theorem dX0_razePart_1 : decode cX0_razePart 1 = .ok (.getfield 9, 3) := by decide +kernel
theorem dX0_razePart_4 : decode cX0_razePart 4 = .ok (.iload_n 1, 1) := by decide +kernel
theorem dX0_razePart_5 : decode cX0_razePart 5 = .ok (.invokevirtual 25, 3) := by decide +kernel
theorem dX0_razePart_8 : decode cX0_razePart 8 = .ok (.ifCond .ne 6, 3) := by decide +kernel
theorem dX0_razePart_11 : decode cX0_razePart 11 = .ok (.bipush (-2), 2) := by decide +kernel
theorem dX0_razePart_13 : decode cX0_razePart 13 = .ok (.ireturn, 1) := by decide +kernel
theorem dX0_razePart_14 : decode cX0_razePart 14 = .ok (.aload_n 0, 1) := by decide +kernel
theorem dX0_razePart_15 : decode cX0_razePart 15 = .ok (.getfield 9, 3) := by decide +kernel
theorem dX0_razePart_18 : decode cX0_razePart 18 = .ok (.getfield 46, 3) := by decide +kernel
theorem dX0_razePart_21 : decode cX0_razePart 21 = .ok (.iload_n 1, 1) := by decide +kernel
theorem dX0_razePart_22 : decode cX0_razePart 22 = .ok (.iaload, 1) := by decide +kernel
theorem dX0_razePart_23 : decode cX0_razePart 23 = .ok (.ifCond .ne 11, 3) := by decide +kernel
theorem dX0_razePart_26 : decode cX0_razePart 26 = .ok (.aload_n 0, 1) := by decide +kernel
theorem dX0_razePart_27 : decode cX0_razePart 27 = .ok (.iload_n 1, 1) := by decide +kernel
theorem dX0_razePart_28 : decode cX0_razePart 28 = .ok (.invokevirtual 49, 3) := by decide +kernel
theorem dX0_razePart_31 : decode cX0_razePart 31 = .ok (.ifCond .eq 6, 3) := by decide +kernel
theorem dX0_razePart_34 : decode cX0_razePart 34 = .ok (.bipush (-3), 2) := by decide +kernel
theorem dX0_razePart_36 : decode cX0_razePart 36 = .ok (.ireturn, 1) := by decide +kernel
theorem dX0_razePart_37 : decode cX0_razePart 37 = .ok (.aload_n 0, 1) := by decide +kernel
theorem dX0_razePart_38 : decode cX0_razePart 38 = .ok (.getfield 15, 3) := by decide +kernel
theorem dX0_razePart_41 : decode cX0_razePart 41 = .ok (.iconst 2, 1) := by decide +kernel
theorem dX0_razePart_42 : decode cX0_razePart 42 = .ok (.aload_n 0, 1) := by decide +kernel
theorem dX0_razePart_43 : decode cX0_razePart 43 = .ok (.getfield 9, 3) := by decide +kernel
theorem dX0_razePart_46 : decode cX0_razePart 46 = .ok (.invokevirtual 36, 3) := by decide +kernel
theorem dX0_razePart_49 : decode cX0_razePart 49 = .ok (.aload_n 0, 1) := by decide +kernel
theorem dX0_razePart_50 : decode cX0_razePart 50 = .ok (.getfield 9, 3) := by decide +kernel
theorem dX0_razePart_53 : decode cX0_razePart 53 = .ok (.getfield 46, 3) := by decide +kernel
theorem dX0_razePart_56 : decode cX0_razePart 56 = .ok (.iload_n 1, 1) := by decide +kernel
theorem dX0_razePart_57 : decode cX0_razePart 57 = .ok (.aload_n 0, 1) := by decide +kernel
theorem dX0_razePart_58 : decode cX0_razePart 58 = .ok (.getfield 9, 3) := by decide +kernel
theorem dX0_razePart_61 : decode cX0_razePart 61 = .ok (.getfield 52, 3) := by decide +kernel
theorem dX0_razePart_64 : decode cX0_razePart 64 = .ok (.iload_n 1, 1) := by decide +kernel
theorem dX0_razePart_65 : decode cX0_razePart 65 = .ok (.iaload, 1) := by decide +kernel
theorem dX0_razePart_66 : decode cX0_razePart 66 = .ok (.iastore, 1) := by decide +kernel
theorem dX0_razePart_67 : decode cX0_razePart 67 = .ok (.aload_n 0, 1) := by decide +kernel
theorem dX0_razePart_68 : decode cX0_razePart 68 = .ok (.getfield 9, 3) := by decide +kernel
theorem dX0_razePart_71 : decode cX0_razePart 71 = .ok (.getfield 52, 3) := by decide +kernel
theorem dX0_razePart_74 : decode cX0_razePart 74 = .ok (.iload_n 1, 1) := by decide +kernel
theorem dX0_razePart_75 : decode cX0_razePart 75 = .ok (.iaload, 1) := by decide +kernel
theorem dX0_razePart_76 : decode cX0_razePart 76 = .ok (.ireturn, 1) := by decide +kernel
theorem dX0_passTick_0 : decode cX0_passTick 0 = .ok (.aload_n 0, 1) := by decide +kernel
theorem dX0_passTick_1 : decode cX0_passTick 1 = .ok (.getfield 9, 3) := by decide +kernel
theorem dX0_passTick_4 : decode cX0_passTick 4 = .ok (.getfield 55, 3) := by decide +kernel
theorem dX0_passTick_7 : decode cX0_passTick 7 = .ok (.iconst 0, 1) := by decide +kernel
theorem dX0_passTick_8 : decode cX0_passTick 8 = .ok (.iaload, 1) := by decide +kernel
theorem dX0_passTick_9 : decode cX0_passTick 9 = .ok (.sipush 999, 3) := by decide +kernel
theorem dX0_passTick_12 : decode cX0_passTick 12 = .ok (.if_icmp .lt 6, 3) := by decide +kernel
theorem dX0_passTick_15 : decode cX0_passTick 15 = .ok (.bipush (-3), 2) := by decide +kernel
theorem dX0_passTick_17 : decode cX0_passTick 17 = .ok (.ireturn, 1) := by decide +kernel
theorem dX0_passTick_18 : decode cX0_passTick 18 = .ok (.aload_n 0, 1) := by decide +kernel
theorem dX0_passTick_19 : decode cX0_passTick 19 = .ok (.getfield 15, 3) := by decide +kernel
theorem dX0_passTick_22 : decode cX0_passTick 22 = .ok (.iconst 3, 1) := by decide +kernel
theorem dX0_passTick_23 : decode cX0_passTick 23 = .ok (.aload_n 0, 1) := by decide +kernel
theorem dX0_passTick_24 : decode cX0_passTick 24 = .ok (.getfield 9, 3) := by decide +kernel
theorem dX0_passTick_27 : decode cX0_passTick 27 = .ok (.invokevirtual 36, 3) := by decide +kernel
theorem dX0_passTick_30 : decode cX0_passTick 30 = .ok (.aload_n 0, 1) := by decide +kernel
theorem dX0_passTick_31 : decode cX0_passTick 31 = .ok (.getfield 9, 3) := by decide +kernel
theorem dX0_passTick_34 : decode cX0_passTick 34 = .ok (.invokevirtual 58, 3) := by decide +kernel
theorem dX0_passTick_37 : decode cX0_passTick 37 = .ok (.ireturn, 1) := by decide +kernel
theorem dX0_isBuiltOn_0 : decode cX0_isBuiltOn 0 = .ok (.iconst 0, 1) := by decide +kernel
theorem dX0_isBuiltOn_1 : decode cX0_isBuiltOn 1 = .ok (.istore_n 2, 1) := by decide +kernel
theorem dX0_isBuiltOn_2 : decode cX0_isBuiltOn 2 = .ok (.iload_n 2, 1) := by decide +kernel
theorem dX0_isBuiltOn_3 : decode cX0_isBuiltOn 3 = .ok (.aload_n 0, 1) := by decide +kernel
theorem dX0_isBuiltOn_4 : decode cX0_isBuiltOn 4 = .ok (.getfield 9, 3) := by decide +kernel
theorem dX0_isBuiltOn_7 : decode cX0_isBuiltOn 7 = .ok (.getfield 61, 3) := by decide +kernel
theorem dX0_isBuiltOn_10 : decode cX0_isBuiltOn 10 = .ok (.if_icmp .ge 63, 3) := by decide +kernel
theorem dX0_isBuiltOn_13 : decode cX0_isBuiltOn 13 = .ok (.iload_n 2, 1) := by decide +kernel
theorem dX0_isBuiltOn_14 : decode cX0_isBuiltOn 14 = .ok (.bipush 10, 2) := by decide +kernel
theorem dX0_isBuiltOn_16 : decode cX0_isBuiltOn 16 = .ok (.if_icmp .ge 57, 3) := by decide +kernel
theorem dX0_isBuiltOn_19 : decode cX0_isBuiltOn 19 = .ok (.aload_n 0, 1) := by decide +kernel
theorem dX0_isBuiltOn_20 : decode cX0_isBuiltOn 20 = .ok (.getfield 9, 3) := by decide +kernel
theorem dX0_isBuiltOn_23 : decode cX0_isBuiltOn 23 = .ok (.getfield 65, 3) := by decide +kernel
theorem dX0_isBuiltOn_26 : decode cX0_isBuiltOn 26 = .ok (.iload_n 2, 1) := by decide +kernel
theorem dX0_isBuiltOn_27 : decode cX0_isBuiltOn 27 = .ok (.iaload, 1) := by decide +kernel
theorem dX0_isBuiltOn_28 : decode cX0_isBuiltOn 28 = .ok (.iload_n 1, 1) := by decide +kernel
theorem dX0_isBuiltOn_29 : decode cX0_isBuiltOn 29 = .ok (.ishr, 1) := by decide +kernel
theorem dX0_isBuiltOn_30 : decode cX0_isBuiltOn 30 = .ok (.iconst 1, 1) := by decide +kernel
theorem dX0_isBuiltOn_31 : decode cX0_isBuiltOn 31 = .ok (.iand, 1) := by decide +kernel
theorem dX0_isBuiltOn_32 : decode cX0_isBuiltOn 32 = .ok (.iconst 1, 1) := by decide +kernel
theorem dX0_isBuiltOn_33 : decode cX0_isBuiltOn 33 = .ok (.if_icmp .ne 34, 3) := by decide +kernel
theorem dX0_isBuiltOn_36 : decode cX0_isBuiltOn 36 = .ok (.aload_n 0, 1) := by decide +kernel
theorem dX0_isBuiltOn_37 : decode cX0_isBuiltOn 37 = .ok (.getfield 9, 3) := by decide +kernel
theorem dX0_isBuiltOn_40 : decode cX0_isBuiltOn 40 = .ok (.getfield 46, 3) := by decide +kernel
theorem dX0_isBuiltOn_43 : decode cX0_isBuiltOn 43 = .ok (.iload_n 2, 1) := by decide +kernel
theorem dX0_isBuiltOn_44 : decode cX0_isBuiltOn 44 = .ok (.iaload, 1) := by decide +kernel
theorem dX0_isBuiltOn_45 : decode cX0_isBuiltOn 45 = .ok (.aload_n 0, 1) := by decide +kernel
theorem dX0_isBuiltOn_46 : decode cX0_isBuiltOn 46 = .ok (.getfield 9, 3) := by decide +kernel
theorem dX0_isBuiltOn_49 : decode cX0_isBuiltOn 49 = .ok (.getfield 52, 3) := by decide +kernel
theorem dX0_isBuiltOn_52 : decode cX0_isBuiltOn 52 = .ok (.iload_n 2, 1) := by decide +kernel
theorem dX0_isBuiltOn_53 : decode cX0_isBuiltOn 53 = .ok (.iaload, 1) := by decide +kernel
theorem dX0_isBuiltOn_54 : decode cX0_isBuiltOn 54 = .ok (.if_icmp .lt 11, 3) := by decide +kernel
theorem dX0_isBuiltOn_57 : decode cX0_isBuiltOn 57 = .ok (.aload_n 0, 1) := by decide +kernel
theorem dX0_isBuiltOn_58 : decode cX0_isBuiltOn 58 = .ok (.iload_n 2, 1) := by decide +kernel
theorem dX0_isBuiltOn_59 : decode cX0_isBuiltOn 59 = .ok (.invokevirtual 68, 3) := by decide +kernel
theorem dX0_isBuiltOn_62 : decode cX0_isBuiltOn 62 = .ok (.ifCond .eq 5, 3) := by decide +kernel
theorem dX0_isBuiltOn_65 : decode cX0_isBuiltOn 65 = .ok (.iconst 1, 1) := by decide +kernel
theorem dX0_isBuiltOn_66 : decode cX0_isBuiltOn 66 = .ok (.ireturn, 1) := by decide +kernel
theorem dX0_isBuiltOn_67 : decode cX0_isBuiltOn 67 = .ok (.iinc 2 1, 3) := by decide +kernel
theorem dX0_isBuiltOn_70 : decode cX0_isBuiltOn 70 = .ok (.goto (-68), 3) := by decide +kernel
theorem dX0_isBuiltOn_73 : decode cX0_isBuiltOn 73 = .ok (.iconst 0, 1) := by decide +kernel
theorem dX0_isBuiltOn_74 : decode cX0_isBuiltOn 74 = .ok (.ireturn, 1) := by decide +kernel
theorem dX0_hasAnybody_0 : decode cX0_hasAnybody 0 = .ok (.iconst 0, 1) := by decide +kernel
theorem dX0_hasAnybody_1 : decode cX0_hasAnybody 1 = .ok (.istore_n 2, 1) := by decide +kernel
theorem dX0_hasAnybody_2 : decode cX0_hasAnybody 2 = .ok (.iload_n 2, 1) := by decide +kernel
theorem dX0_hasAnybody_3 : decode cX0_hasAnybody 3 = .ok (.aload_n 0, 1) := by decide +kernel
theorem dX0_hasAnybody_4 : decode cX0_hasAnybody 4 = .ok (.getfield 9, 3) := by decide +kernel
theorem dX0_hasAnybody_7 : decode cX0_hasAnybody 7 = .ok (.getfield 71, 3) := by decide +kernel
theorem dX0_hasAnybody_10 : decode cX0_hasAnybody 10 = .ok (.if_icmp .ge 30, 3) := by decide +kernel
theorem dX0_hasAnybody_13 : decode cX0_hasAnybody 13 = .ok (.iload_n 2, 1) := by decide +kernel
theorem dX0_hasAnybody_14 : decode cX0_hasAnybody 14 = .ok (.bipush 6, 2) := by decide +kernel
theorem dX0_hasAnybody_16 : decode cX0_hasAnybody 16 = .ok (.if_icmp .ge 24, 3) := by decide +kernel
theorem dX0_hasAnybody_19 : decode cX0_hasAnybody 19 = .ok (.aload_n 0, 1) := by decide +kernel
theorem dX0_hasAnybody_20 : decode cX0_hasAnybody 20 = .ok (.getfield 9, 3) := by decide +kernel
theorem dX0_hasAnybody_23 : decode cX0_hasAnybody 23 = .ok (.getfield 42, 3) := by decide +kernel
theorem dX0_hasAnybody_26 : decode cX0_hasAnybody 26 = .ok (.iload_n 2, 1) := by decide +kernel
theorem dX0_hasAnybody_27 : decode cX0_hasAnybody 27 = .ok (.iaload, 1) := by decide +kernel
theorem dX0_hasAnybody_28 : decode cX0_hasAnybody 28 = .ok (.iload_n 1, 1) := by decide +kernel
theorem dX0_hasAnybody_29 : decode cX0_hasAnybody 29 = .ok (.if_icmp .ne 5, 3) := by decide +kernel
theorem dX0_hasAnybody_32 : decode cX0_hasAnybody 32 = .ok (.iconst 1, 1) := by decide +kernel
theorem dX0_hasAnybody_33 : decode cX0_hasAnybody 33 = .ok (.ireturn, 1) := by decide +kernel
theorem dX0_hasAnybody_34 : decode cX0_hasAnybody 34 = .ok (.iinc 2 1, 3) := by decide +kernel
theorem dX0_hasAnybody_37 : decode cX0_hasAnybody 37 = .ok (.goto (-35), 3) := by decide +kernel
theorem dX0_hasAnybody_40 : decode cX0_hasAnybody 40 = .ok (.iconst 0, 1) := by decide +kernel
theorem dX0_hasAnybody_41 : decode cX0_hasAnybody 41 = .ok (.ireturn, 1) := by decide +kernel
theorem dX2_clear_0 : decode cX2_clear 0 = .ok (.aload_n 0, 1) := by decide +kernel
theorem dX2_clear_1 : decode cX2_clear 1 = .ok (.iconst 0, 1) := by decide +kernel
theorem dX2_clear_2 : decode cX2_clear 2 = .ok (.putfield 11, 3) := by decide +kernel
theorem dX2_clear_5 : decode cX2_clear 5 = .ok (.aload_n 0, 1) := by decide +kernel
theorem dX2_clear_6 : decode cX2_clear 6 = .ok (.iconst 0, 1) := by decide +kernel
theorem dX2_clear_7 : decode cX2_clear 7 = .ok (.putfield 15, 3) := by decide +kernel
theorem dX2_clear_10 : decode cX2_clear 10 = .ok (.return_, 1) := by decide +kernel
theorem dX2_copyFrom_0 : decode cX2_copyFrom 0 = .ok (.aload_n 0, 1) := by decide +kernel
theorem dX2_copyFrom_1 : decode cX2_copyFrom 1 = .ok (.aload_n 1, 1) := by decide +kernel
theorem dX2_copyFrom_2 : decode cX2_copyFrom 2 = .ok (.getfield 11, 3) := by decide +kernel
theorem dX2_copyFrom_5 : decode cX2_copyFrom 5 = .ok (.putfield 11, 3) := by decide +kernel
theorem dX2_copyFrom_8 : decode cX2_copyFrom 8 = .ok (.aload_n 0, 1) := by decide +kernel
theorem dX2_copyFrom_9 : decode cX2_copyFrom 9 = .ok (.aload_n 1, 1) := by decide +kernel
theorem dX2_copyFrom_10 : decode cX2_copyFrom 10 = .ok (.getfield 15, 3) := by decide +kernel
theorem dX2_copyFrom_13 : decode cX2_copyFrom 13 = .ok (.putfield 15, 3) := by decide +kernel
theorem dX2_copyFrom_16 : decode cX2_copyFrom 16 = .ok (.aload_n 1, 1) := by decide +kernel
theorem dX2_copyFrom_17 : decode cX2_copyFrom 17 = .ok (.getfield 18, 3) := by decide +kernel
theorem dX2_copyFrom_20 : decode cX2_copyFrom 20 = .ok (.iconst 0, 1) := by decide +kernel
theorem dX2_copyFrom_21 : decode cX2_copyFrom 21 = .ok (.aload_n 0, 1) := by decide +kernel
theorem dX2_copyFrom_22 : decode cX2_copyFrom 22 = .ok (.getfield 18, 3) := by decide +kernel
theorem dX2_copyFrom_25 : decode cX2_copyFrom 25 = .ok (.iconst 0, 1) := by decide +kernel
theorem dX2_copyFrom_26 : decode cX2_copyFrom 26 = .ok (.sipush 384, 3) := by decide +kernel
theorem dX2_copyFrom_29 : decode cX2_copyFrom 29 = .ok (.invokestatic 22, 3) := by decide +kernel
theorem dX2_copyFrom_32 : decode cX2_copyFrom 32 = .ok (.return_, 1) := by decide +kernel
theorem dX2_keep_0 : decode cX2_keep 0 = .ok (.aload_n 0, 1) := by decide +kernel
theorem dX2_keep_1 : decode cX2_keep 1 = .ok (.getfield 15, 3) := by decide +kernel
theorem dX2_keep_4 : decode cX2_keep 4 = .ok (.ifCond .lt 12, 3) := by decide +kernel
theorem dX2_keep_7 : decode cX2_keep 7 = .ok (.aload_n 0, 1) := by decide +kernel
theorem dX2_keep_8 : decode cX2_keep 8 = .ok (.getfield 15, 3) := by decide +kernel
theorem dX2_keep_11 : decode cX2_keep 11 = .ok (.bipush 16, 2) := by decide +kernel
theorem dX2_keep_13 : decode cX2_keep 13 = .ok (.if_icmp .lt 4, 3) := by decide +kernel
theorem dX2_keep_17 : decode cX2_keep 17 = .ok (.aload_n 0, 1) := by decide +kernel
theorem dX2_keep_18 : decode cX2_keep 18 = .ok (.getfield 15, 3) := by decide +kernel
theorem dX2_keep_21 : decode cX2_keep 21 = .ok (.bipush 24, 2) := by decide +kernel
theorem dX2_keep_23 : decode cX2_keep 23 = .ok (.imul, 1) := by decide +kernel
theorem dX2_keep_24 : decode cX2_keep 24 = .ok (.istore_n 3, 1) := by decide +kernel
theorem dX2_keep_25 : decode cX2_keep 25 = .ok (.aload_n 0, 1) := by decide +kernel
theorem dX2_keep_26 : decode cX2_keep 26 = .ok (.getfield 18, 3) := by decide +kernel
theorem dX2_keep_29 : decode cX2_keep 29 = .ok (.iload_n 3, 1) := by decide +kernel
theorem dX2_keep_30 : decode cX2_keep 30 = .ok (.iload_n 1, 1) := by decide +kernel
theorem dX2_keep_31 : decode cX2_keep 31 = .ok (.iastore, 1) := by decide +kernel
theorem dX2_keep_32 : decode cX2_keep 32 = .ok (.aload_n 0, 1) := by decide +kernel
theorem dX2_keep_33 : decode cX2_keep 33 = .ok (.getfield 18, 3) := by decide +kernel
theorem dX2_keep_36 : decode cX2_keep 36 = .ok (.iload_n 3, 1) := by decide +kernel
theorem dX2_keep_37 : decode cX2_keep 37 = .ok (.iconst 1, 1) := by decide +kernel
theorem dX2_keep_38 : decode cX2_keep 38 = .ok (.iadd, 1) := by decide +kernel
theorem dX2_keep_39 : decode cX2_keep 39 = .ok (.aload_n 2, 1) := by decide +kernel
theorem dX2_keep_40 : decode cX2_keep 40 = .ok (.getfield 28, 3) := by decide +kernel
theorem dX2_keep_43 : decode cX2_keep 43 = .ok (.iconst 0, 1) := by decide +kernel
theorem dX2_keep_44 : decode cX2_keep 44 = .ok (.iaload, 1) := by decide +kernel
theorem dX2_keep_45 : decode cX2_keep 45 = .ok (.iastore, 1) := by decide +kernel
theorem dX2_keep_46 : decode cX2_keep 46 = .ok (.aload_n 2, 1) := by decide +kernel
theorem dX2_keep_47 : decode cX2_keep 47 = .ok (.getfield 33, 3) := by decide +kernel
theorem dX2_keep_50 : decode cX2_keep 50 = .ok (.iconst 0, 1) := by decide +kernel
theorem dX2_keep_51 : decode cX2_keep 51 = .ok (.aload_n 0, 1) := by decide +kernel
theorem dX2_keep_52 : decode cX2_keep 52 = .ok (.getfield 18, 3) := by decide +kernel
theorem dX2_keep_55 : decode cX2_keep 55 = .ok (.iload_n 3, 1) := by decide +kernel
theorem dX2_keep_56 : decode cX2_keep 56 = .ok (.iconst 2, 1) := by decide +kernel
theorem dX2_keep_57 : decode cX2_keep 57 = .ok (.iadd, 1) := by decide +kernel
theorem dX2_keep_58 : decode cX2_keep 58 = .ok (.bipush 10, 2) := by decide +kernel
theorem dX2_keep_60 : decode cX2_keep 60 = .ok (.invokestatic 22, 3) := by decide +kernel
theorem dX2_keep_63 : decode cX2_keep 63 = .ok (.aload_n 2, 1) := by decide +kernel
theorem dX2_keep_64 : decode cX2_keep 64 = .ok (.getfield 36, 3) := by decide +kernel
theorem dX2_keep_67 : decode cX2_keep 67 = .ok (.iconst 0, 1) := by decide +kernel
theorem dX2_keep_68 : decode cX2_keep 68 = .ok (.aload_n 0, 1) := by decide +kernel
theorem dX2_keep_69 : decode cX2_keep 69 = .ok (.getfield 18, 3) := by decide +kernel
theorem dX2_keep_72 : decode cX2_keep 72 = .ok (.iload_n 3, 1) := by decide +kernel
theorem dX2_keep_73 : decode cX2_keep 73 = .ok (.bipush 12, 2) := by decide +kernel
theorem dX2_keep_75 : decode cX2_keep 75 = .ok (.iadd, 1) := by decide +kernel
theorem dX2_keep_76 : decode cX2_keep 76 = .ok (.bipush 6, 2) := by decide +kernel
theorem dX2_keep_78 : decode cX2_keep 78 = .ok (.invokestatic 22, 3) := by decide +kernel
theorem dX2_keep_81 : decode cX2_keep 81 = .ok (.aload_n 2, 1) := by decide +kernel
theorem dX2_keep_82 : decode cX2_keep 82 = .ok (.getfield 39, 3) := by decide +kernel
theorem dX2_keep_85 : decode cX2_keep 85 = .ok (.iconst 0, 1) := by decide +kernel
theorem dX2_keep_86 : decode cX2_keep 86 = .ok (.aload_n 0, 1) := by decide +kernel
theorem dX2_keep_87 : decode cX2_keep 87 = .ok (.getfield 18, 3) := by decide +kernel
theorem dX2_keep_90 : decode cX2_keep 90 = .ok (.iload_n 3, 1) := by decide +kernel
theorem dX2_keep_91 : decode cX2_keep 91 = .ok (.bipush 18, 2) := by decide +kernel
theorem dX2_keep_93 : decode cX2_keep 93 = .ok (.iadd, 1) := by decide +kernel
theorem dX2_keep_94 : decode cX2_keep 94 = .ok (.bipush 6, 2) := by decide +kernel
theorem dX2_keep_96 : decode cX2_keep 96 = .ok (.invokestatic 22, 3) := by decide +kernel
theorem dX2_keep_99 : decode cX2_keep 99 = .ok (.aload_n 0, 1) := by decide +kernel
theorem dX2_keep_100 : decode cX2_keep 100 = .ok (.aload_n 0, 1) := by decide +kernel
theorem dX2_keep_101 : decode cX2_keep 101 = .ok (.getfield 15, 3) := by decide +kernel
theorem dX2_keep_104 : decode cX2_keep 104 = .ok (.iconst 1, 1) := by decide +kernel
theorem dX2_keep_105 : decode cX2_keep 105 = .ok (.iadd, 1) := by decide +kernel
theorem dX2_keep_106 : decode cX2_keep 106 = .ok (.bipush 16, 2) := by decide +kernel
theorem dX2_keep_108 : decode cX2_keep 108 = .ok (.irem, 1) := by decide +kernel
theorem dX2_keep_109 : decode cX2_keep 109 = .ok (.putfield 15, 3) := by decide +kernel
theorem dX2_keep_112 : decode cX2_keep 112 = .ok (.aload_n 0, 1) := by decide +kernel
theorem dX2_keep_113 : decode cX2_keep 113 = .ok (.bipush 16, 2) := by decide +kernel
theorem dX2_keep_115 : decode cX2_keep 115 = .ok (.aload_n 0, 1) := by decide +kernel
theorem dX2_keep_116 : decode cX2_keep 116 = .ok (.getfield 11, 3) := by decide +kernel
theorem dX2_keep_119 : decode cX2_keep 119 = .ok (.iconst 1, 1) := by decide +kernel
theorem dX2_keep_120 : decode cX2_keep 120 = .ok (.iadd, 1) := by decide +kernel
theorem dX2_keep_121 : decode cX2_keep 121 = .ok (.invokestatic 42, 3) := by decide +kernel
theorem dX2_keep_124 : decode cX2_keep 124 = .ok (.putfield 11, 3) := by decide +kernel
theorem dX2_keep_127 : decode cX2_keep 127 = .ok (.return_, 1) := by decide +kernel
theorem dX2_restoreLatest_0 : decode cX2_restoreLatest 0 = .ok (.aload_n 0, 1) := by decide +kernel
theorem dX2_restoreLatest_1 : decode cX2_restoreLatest 1 = .ok (.getfield 11, 3) := by decide +kernel
theorem dX2_restoreLatest_4 : decode cX2_restoreLatest 4 = .ok (.ifCond .gt 6, 3) := by decide +kernel
theorem dX2_restoreLatest_7 : decode cX2_restoreLatest 7 = .ok (.bipush (-3), 2) := by decide +kernel
theorem dX2_restoreLatest_9 : decode cX2_restoreLatest 9 = .ok (.ireturn, 1) := by decide +kernel
theorem dX2_restoreLatest_10 : decode cX2_restoreLatest 10 = .ok (.aload_n 0, 1) := by decide +kernel
theorem dX2_restoreLatest_11 : decode cX2_restoreLatest 11 = .ok (.dup, 1) := by decide +kernel
theorem dX2_restoreLatest_12 : decode cX2_restoreLatest 12 = .ok (.getfield 11, 3) := by decide +kernel
theorem dX2_restoreLatest_15 : decode cX2_restoreLatest 15 = .ok (.iconst 1, 1) := by decide +kernel
theorem dX2_restoreLatest_16 : decode cX2_restoreLatest 16 = .ok (.isub, 1) := by decide +kernel
theorem dX2_restoreLatest_17 : decode cX2_restoreLatest 17 = .ok (.putfield 11, 3) := by decide +kernel
theorem dX2_restoreLatest_20 : decode cX2_restoreLatest 20 = .ok (.aload_n 0, 1) := by decide +kernel
theorem dX2_restoreLatest_21 : decode cX2_restoreLatest 21 = .ok (.aload_n 0, 1) := by decide +kernel
theorem dX2_restoreLatest_22 : decode cX2_restoreLatest 22 = .ok (.getfield 15, 3) := by decide +kernel
theorem dX2_restoreLatest_25 : decode cX2_restoreLatest 25 = .ok (.bipush 16, 2) := by decide +kernel
theorem dX2_restoreLatest_27 : decode cX2_restoreLatest 27 = .ok (.iadd, 1) := by decide +kernel
theorem dX2_restoreLatest_28 : decode cX2_restoreLatest 28 = .ok (.iconst 1, 1) := by decide +kernel
theorem dX2_restoreLatest_29 : decode cX2_restoreLatest 29 = .ok (.isub, 1) := by decide +kernel
theorem dX2_restoreLatest_30 : decode cX2_restoreLatest 30 = .ok (.bipush 16, 2) := by decide +kernel
theorem dX2_restoreLatest_32 : decode cX2_restoreLatest 32 = .ok (.irem, 1) := by decide +kernel
theorem dX2_restoreLatest_33 : decode cX2_restoreLatest 33 = .ok (.putfield 15, 3) := by decide +kernel
theorem dX2_restoreLatest_36 : decode cX2_restoreLatest 36 = .ok (.aload_n 0, 1) := by decide +kernel
theorem dX2_restoreLatest_37 : decode cX2_restoreLatest 37 = .ok (.getfield 15, 3) := by decide +kernel
theorem dX2_restoreLatest_40 : decode cX2_restoreLatest 40 = .ok (.bipush 24, 2) := by decide +kernel
theorem dX2_restoreLatest_42 : decode cX2_restoreLatest 42 = .ok (.imul, 1) := by decide +kernel
theorem dX2_restoreLatest_43 : decode cX2_restoreLatest 43 = .ok (.istore_n 2, 1) := by decide +kernel
theorem dX2_restoreLatest_44 : decode cX2_restoreLatest 44 = .ok (.aload_n 1, 1) := by decide +kernel
theorem dX2_restoreLatest_45 : decode cX2_restoreLatest 45 = .ok (.getfield 28, 3) := by decide +kernel
theorem dX2_restoreLatest_48 : decode cX2_restoreLatest 48 = .ok (.iconst 0, 1) := by decide +kernel
theorem dX2_restoreLatest_49 : decode cX2_restoreLatest 49 = .ok (.aload_n 0, 1) := by decide +kernel
theorem dX2_restoreLatest_50 : decode cX2_restoreLatest 50 = .ok (.getfield 18, 3) := by decide +kernel
theorem dX2_restoreLatest_53 : decode cX2_restoreLatest 53 = .ok (.iload_n 2, 1) := by decide +kernel
theorem dX2_restoreLatest_54 : decode cX2_restoreLatest 54 = .ok (.iconst 1, 1) := by decide +kernel
theorem dX2_restoreLatest_55 : decode cX2_restoreLatest 55 = .ok (.iadd, 1) := by decide +kernel
theorem dX2_restoreLatest_56 : decode cX2_restoreLatest 56 = .ok (.iaload, 1) := by decide +kernel
theorem dX2_restoreLatest_57 : decode cX2_restoreLatest 57 = .ok (.iastore, 1) := by decide +kernel
theorem dX2_restoreLatest_58 : decode cX2_restoreLatest 58 = .ok (.aload_n 0, 1) := by decide +kernel
theorem dX2_restoreLatest_59 : decode cX2_restoreLatest 59 = .ok (.getfield 18, 3) := by decide +kernel
theorem dX2_restoreLatest_62 : decode cX2_restoreLatest 62 = .ok (.iload_n 2, 1) := by decide +kernel
theorem dX2_restoreLatest_63 : decode cX2_restoreLatest 63 = .ok (.iconst 2, 1) := by decide +kernel
theorem dX2_restoreLatest_64 : decode cX2_restoreLatest 64 = .ok (.iadd, 1) := by decide +kernel
theorem dX2_restoreLatest_65 : decode cX2_restoreLatest 65 = .ok (.aload_n 1, 1) := by decide +kernel
theorem dX2_restoreLatest_66 : decode cX2_restoreLatest 66 = .ok (.getfield 33, 3) := by decide +kernel
theorem dX2_restoreLatest_69 : decode cX2_restoreLatest 69 = .ok (.iconst 0, 1) := by decide +kernel
theorem dX2_restoreLatest_70 : decode cX2_restoreLatest 70 = .ok (.bipush 10, 2) := by decide +kernel
theorem dX2_restoreLatest_72 : decode cX2_restoreLatest 72 = .ok (.invokestatic 22, 3) := by decide +kernel
theorem dX2_restoreLatest_75 : decode cX2_restoreLatest 75 = .ok (.aload_n 0, 1) := by decide +kernel
theorem dX2_restoreLatest_76 : decode cX2_restoreLatest 76 = .ok (.getfield 18, 3) := by decide +kernel
theorem dX2_restoreLatest_79 : decode cX2_restoreLatest 79 = .ok (.iload_n 2, 1) := by decide +kernel
theorem dX2_restoreLatest_80 : decode cX2_restoreLatest 80 = .ok (.bipush 12, 2) := by decide +kernel
theorem dX2_restoreLatest_82 : decode cX2_restoreLatest 82 = .ok (.iadd, 1) := by decide +kernel
theorem dX2_restoreLatest_83 : decode cX2_restoreLatest 83 = .ok (.aload_n 1, 1) := by decide +kernel
theorem dX2_restoreLatest_84 : decode cX2_restoreLatest 84 = .ok (.getfield 36, 3) := by decide +kernel
theorem dX2_restoreLatest_87 : decode cX2_restoreLatest 87 = .ok (.iconst 0, 1) := by decide +kernel
theorem dX2_restoreLatest_88 : decode cX2_restoreLatest 88 = .ok (.bipush 6, 2) := by decide +kernel
theorem dX2_restoreLatest_90 : decode cX2_restoreLatest 90 = .ok (.invokestatic 22, 3) := by decide +kernel
theorem dX2_restoreLatest_93 : decode cX2_restoreLatest 93 = .ok (.aload_n 0, 1) := by decide +kernel
theorem dX2_restoreLatest_94 : decode cX2_restoreLatest 94 = .ok (.getfield 18, 3) := by decide +kernel
theorem dX2_restoreLatest_97 : decode cX2_restoreLatest 97 = .ok (.iload_n 2, 1) := by decide +kernel
theorem dX2_restoreLatest_98 : decode cX2_restoreLatest 98 = .ok (.bipush 18, 2) := by decide +kernel
theorem dX2_restoreLatest_100 : decode cX2_restoreLatest 100 = .ok (.iadd, 1) := by decide +kernel
theorem dX2_restoreLatest_101 : decode cX2_restoreLatest 101 = .ok (.aload_n 1, 1) := by decide +kernel
theorem dX2_restoreLatest_102 : decode cX2_restoreLatest 102 = .ok (.getfield 39, 3) := by decide +kernel
theorem dX2_restoreLatest_105 : decode cX2_restoreLatest 105 = .ok (.iconst 0, 1) := by decide +kernel
theorem dX2_restoreLatest_106 : decode cX2_restoreLatest 106 = .ok (.bipush 6, 2) := by decide +kernel
theorem dX2_restoreLatest_108 : decode cX2_restoreLatest 108 = .ok (.invokestatic 22, 3) := by decide +kernel
theorem dX2_restoreLatest_111 : decode cX2_restoreLatest 111 = .ok (.aload_n 0, 1) := by decide +kernel
theorem dX2_restoreLatest_112 : decode cX2_restoreLatest 112 = .ok (.getfield 18, 3) := by decide +kernel
theorem dX2_restoreLatest_115 : decode cX2_restoreLatest 115 = .ok (.iload_n 2, 1) := by decide +kernel
theorem dX2_restoreLatest_116 : decode cX2_restoreLatest 116 = .ok (.iaload, 1) := by decide +kernel
theorem dX2_restoreLatest_117 : decode cX2_restoreLatest 117 = .ok (.ireturn, 1) := by decide +kernel
theorem dX7_copyFrom_0 : decode cX7_copyFrom 0 = .ok (.aload_n 0, 1) := by decide +kernel
theorem dX7_copyFrom_1 : decode cX7_copyFrom 1 = .ok (.aload_n 1, 1) := by decide +kernel
theorem dX7_copyFrom_2 : decode cX7_copyFrom 2 = .ok (.getfield 9, 3) := by decide +kernel
theorem dX7_copyFrom_5 : decode cX7_copyFrom 5 = .ok (.putfield 9, 3) := by decide +kernel
theorem dX7_copyFrom_8 : decode cX7_copyFrom 8 = .ok (.aload_n 1, 1) := by decide +kernel
theorem dX7_copyFrom_9 : decode cX7_copyFrom 9 = .ok (.getfield 15, 3) := by decide +kernel
theorem dX7_copyFrom_12 : decode cX7_copyFrom 12 = .ok (.iconst 0, 1) := by decide +kernel
theorem dX7_copyFrom_13 : decode cX7_copyFrom 13 = .ok (.aload_n 0, 1) := by decide +kernel
theorem dX7_copyFrom_14 : decode cX7_copyFrom 14 = .ok (.getfield 15, 3) := by decide +kernel
theorem dX7_copyFrom_17 : decode cX7_copyFrom 17 = .ok (.iconst 0, 1) := by decide +kernel
theorem dX7_copyFrom_18 : decode cX7_copyFrom 18 = .ok (.bipush 10, 2) := by decide +kernel
theorem dX7_copyFrom_20 : decode cX7_copyFrom 20 = .ok (.invokestatic 88, 3) := by decide +kernel
theorem dX7_copyFrom_23 : decode cX7_copyFrom 23 = .ok (.aload_n 1, 1) := by decide +kernel
theorem dX7_copyFrom_24 : decode cX7_copyFrom 24 = .ok (.getfield 19, 3) := by decide +kernel
theorem dX7_copyFrom_27 : decode cX7_copyFrom 27 = .ok (.iconst 0, 1) := by decide +kernel
theorem dX7_copyFrom_28 : decode cX7_copyFrom 28 = .ok (.aload_n 0, 1) := by decide +kernel
theorem dX7_copyFrom_29 : decode cX7_copyFrom 29 = .ok (.getfield 19, 3) := by decide +kernel
theorem dX7_copyFrom_32 : decode cX7_copyFrom 32 = .ok (.iconst 0, 1) := by decide +kernel
theorem dX7_copyFrom_33 : decode cX7_copyFrom 33 = .ok (.bipush 10, 2) := by decide +kernel
theorem dX7_copyFrom_35 : decode cX7_copyFrom 35 = .ok (.invokestatic 88, 3) := by decide +kernel
theorem dX7_copyFrom_38 : decode cX7_copyFrom 38 = .ok (.aload_n 1, 1) := by decide +kernel
theorem dX7_copyFrom_39 : decode cX7_copyFrom 39 = .ok (.getfield 22, 3) := by decide +kernel
theorem dX7_copyFrom_42 : decode cX7_copyFrom 42 = .ok (.iconst 0, 1) := by decide +kernel
theorem dX7_copyFrom_43 : decode cX7_copyFrom 43 = .ok (.aload_n 0, 1) := by decide +kernel
theorem dX7_copyFrom_44 : decode cX7_copyFrom 44 = .ok (.getfield 22, 3) := by decide +kernel
theorem dX7_copyFrom_47 : decode cX7_copyFrom 47 = .ok (.iconst 0, 1) := by decide +kernel
theorem dX7_copyFrom_48 : decode cX7_copyFrom 48 = .ok (.bipush 10, 2) := by decide +kernel
theorem dX7_copyFrom_50 : decode cX7_copyFrom 50 = .ok (.invokestatic 88, 3) := by decide +kernel
theorem dX7_copyFrom_53 : decode cX7_copyFrom 53 = .ok (.aload_n 1, 1) := by decide +kernel
theorem dX7_copyFrom_54 : decode cX7_copyFrom 54 = .ok (.getfield 25, 3) := by decide +kernel
theorem dX7_copyFrom_57 : decode cX7_copyFrom 57 = .ok (.iconst 0, 1) := by decide +kernel
theorem dX7_copyFrom_58 : decode cX7_copyFrom 58 = .ok (.aload_n 0, 1) := by decide +kernel
theorem dX7_copyFrom_59 : decode cX7_copyFrom 59 = .ok (.getfield 25, 3) := by decide +kernel
theorem dX7_copyFrom_62 : decode cX7_copyFrom 62 = .ok (.iconst 0, 1) := by decide +kernel
theorem dX7_copyFrom_63 : decode cX7_copyFrom 63 = .ok (.bipush 10, 2) := by decide +kernel
theorem dX7_copyFrom_65 : decode cX7_copyFrom 65 = .ok (.invokestatic 88, 3) := by decide +kernel
theorem dX7_copyFrom_68 : decode cX7_copyFrom 68 = .ok (.aload_n 1, 1) := by decide +kernel
theorem dX7_copyFrom_69 : decode cX7_copyFrom 69 = .ok (.getfield 28, 3) := by decide +kernel
theorem dX7_copyFrom_72 : decode cX7_copyFrom 72 = .ok (.iconst 0, 1) := by decide +kernel
theorem dX7_copyFrom_73 : decode cX7_copyFrom 73 = .ok (.aload_n 0, 1) := by decide +kernel
theorem dX7_copyFrom_74 : decode cX7_copyFrom 74 = .ok (.getfield 28, 3) := by decide +kernel
theorem dX7_copyFrom_77 : decode cX7_copyFrom 77 = .ok (.iconst 0, 1) := by decide +kernel
theorem dX7_copyFrom_78 : decode cX7_copyFrom 78 = .ok (.bipush 10, 2) := by decide +kernel
theorem dX7_copyFrom_80 : decode cX7_copyFrom 80 = .ok (.invokestatic 88, 3) := by decide +kernel
theorem dX7_copyFrom_83 : decode cX7_copyFrom 83 = .ok (.aload_n 0, 1) := by decide +kernel
theorem dX7_copyFrom_84 : decode cX7_copyFrom 84 = .ok (.aload_n 1, 1) := by decide +kernel
theorem dX7_copyFrom_85 : decode cX7_copyFrom 85 = .ok (.getfield 31, 3) := by decide +kernel
theorem dX7_copyFrom_88 : decode cX7_copyFrom 88 = .ok (.putfield 31, 3) := by decide +kernel
theorem dX7_copyFrom_91 : decode cX7_copyFrom 91 = .ok (.aload_n 1, 1) := by decide +kernel
theorem dX7_copyFrom_92 : decode cX7_copyFrom 92 = .ok (.getfield 34, 3) := by decide +kernel
theorem dX7_copyFrom_95 : decode cX7_copyFrom 95 = .ok (.iconst 0, 1) := by decide +kernel
theorem dX7_copyFrom_96 : decode cX7_copyFrom 96 = .ok (.aload_n 0, 1) := by decide +kernel
theorem dX7_copyFrom_97 : decode cX7_copyFrom 97 = .ok (.getfield 34, 3) := by decide +kernel
theorem dX7_copyFrom_100 : decode cX7_copyFrom 100 = .ok (.iconst 0, 1) := by decide +kernel
theorem dX7_copyFrom_101 : decode cX7_copyFrom 101 = .ok (.bipush 6, 2) := by decide +kernel
theorem dX7_copyFrom_103 : decode cX7_copyFrom 103 = .ok (.invokestatic 88, 3) := by decide +kernel
theorem dX7_copyFrom_106 : decode cX7_copyFrom 106 = .ok (.aload_n 1, 1) := by decide +kernel
theorem dX7_copyFrom_107 : decode cX7_copyFrom 107 = .ok (.getfield 37, 3) := by decide +kernel
theorem dX7_copyFrom_110 : decode cX7_copyFrom 110 = .ok (.iconst 0, 1) := by decide +kernel
theorem dX7_copyFrom_111 : decode cX7_copyFrom 111 = .ok (.aload_n 0, 1) := by decide +kernel
theorem dX7_copyFrom_112 : decode cX7_copyFrom 112 = .ok (.getfield 37, 3) := by decide +kernel
theorem dX7_copyFrom_115 : decode cX7_copyFrom 115 = .ok (.iconst 0, 1) := by decide +kernel
theorem dX7_copyFrom_116 : decode cX7_copyFrom 116 = .ok (.bipush 6, 2) := by decide +kernel
theorem dX7_copyFrom_118 : decode cX7_copyFrom 118 = .ok (.invokestatic 88, 3) := by decide +kernel
theorem dX7_copyFrom_121 : decode cX7_copyFrom 121 = .ok (.aload_n 1, 1) := by decide +kernel
theorem dX7_copyFrom_122 : decode cX7_copyFrom 122 = .ok (.getfield 40, 3) := by decide +kernel
theorem dX7_copyFrom_125 : decode cX7_copyFrom 125 = .ok (.iconst 0, 1) := by decide +kernel
theorem dX7_copyFrom_126 : decode cX7_copyFrom 126 = .ok (.aload_n 0, 1) := by decide +kernel
theorem dX7_copyFrom_127 : decode cX7_copyFrom 127 = .ok (.getfield 40, 3) := by decide +kernel
theorem dX7_copyFrom_130 : decode cX7_copyFrom 130 = .ok (.iconst 0, 1) := by decide +kernel
theorem dX7_copyFrom_131 : decode cX7_copyFrom 131 = .ok (.bipush 6, 2) := by decide +kernel
theorem dX7_copyFrom_133 : decode cX7_copyFrom 133 = .ok (.invokestatic 88, 3) := by decide +kernel
theorem dX7_copyFrom_136 : decode cX7_copyFrom 136 = .ok (.aload_n 1, 1) := by decide +kernel
theorem dX7_copyFrom_137 : decode cX7_copyFrom 137 = .ok (.getfield 43, 3) := by decide +kernel
theorem dX7_copyFrom_140 : decode cX7_copyFrom 140 = .ok (.iconst 0, 1) := by decide +kernel
theorem dX7_copyFrom_141 : decode cX7_copyFrom 141 = .ok (.aload_n 0, 1) := by decide +kernel
theorem dX7_copyFrom_142 : decode cX7_copyFrom 142 = .ok (.getfield 43, 3) := by decide +kernel
theorem dX7_copyFrom_145 : decode cX7_copyFrom 145 = .ok (.iconst 0, 1) := by decide +kernel
theorem dX7_copyFrom_146 : decode cX7_copyFrom 146 = .ok (.bipush 6, 2) := by decide +kernel
theorem dX7_copyFrom_148 : decode cX7_copyFrom 148 = .ok (.invokestatic 88, 3) := by decide +kernel
theorem dX7_copyFrom_151 : decode cX7_copyFrom 151 = .ok (.aload_n 1, 1) := by decide +kernel
theorem dX7_copyFrom_152 : decode cX7_copyFrom 152 = .ok (.getfield 54, 3) := by decide +kernel
theorem dX7_copyFrom_155 : decode cX7_copyFrom 155 = .ok (.iconst 0, 1) := by decide +kernel
theorem dX7_copyFrom_156 : decode cX7_copyFrom 156 = .ok (.aload_n 0, 1) := by decide +kernel
theorem dX7_copyFrom_157 : decode cX7_copyFrom 157 = .ok (.getfield 54, 3) := by decide +kernel
theorem dX7_copyFrom_160 : decode cX7_copyFrom 160 = .ok (.iconst 0, 1) := by decide +kernel
theorem dX7_copyFrom_161 : decode cX7_copyFrom 161 = .ok (.iconst 4, 1) := by decide +kernel
theorem dX7_copyFrom_162 : decode cX7_copyFrom 162 = .ok (.invokestatic 88, 3) := by decide +kernel
theorem dX7_copyFrom_165 : decode cX7_copyFrom 165 = .ok (.aload_n 0, 1) := by decide +kernel
theorem dX7_copyFrom_166 : decode cX7_copyFrom 166 = .ok (.aload_n 1, 1) := by decide +kernel
theorem dX7_copyFrom_167 : decode cX7_copyFrom 167 = .ok (.getfield 57, 3) := by decide +kernel
theorem dX7_copyFrom_170 : decode cX7_copyFrom 170 = .ok (.putfield 57, 3) := by decide +kernel
theorem dX7_copyFrom_173 : decode cX7_copyFrom 173 = .ok (.aload_n 1, 1) := by decide +kernel
theorem dX7_copyFrom_174 : decode cX7_copyFrom 174 = .ok (.getfield 60, 3) := by decide +kernel
theorem dX7_copyFrom_177 : decode cX7_copyFrom 177 = .ok (.iconst 0, 1) := by decide +kernel
theorem dX7_copyFrom_178 : decode cX7_copyFrom 178 = .ok (.aload_n 0, 1) := by decide +kernel
theorem dX7_copyFrom_179 : decode cX7_copyFrom 179 = .ok (.getfield 60, 3) := by decide +kernel
theorem dX7_copyFrom_182 : decode cX7_copyFrom 182 = .ok (.iconst 0, 1) := by decide +kernel
theorem dX7_copyFrom_183 : decode cX7_copyFrom 183 = .ok (.bipush 8, 2) := by decide +kernel
theorem dX7_copyFrom_185 : decode cX7_copyFrom 185 = .ok (.invokestatic 88, 3) := by decide +kernel
theorem dX7_copyFrom_188 : decode cX7_copyFrom 188 = .ok (.aload_n 1, 1) := by decide +kernel
theorem dX7_copyFrom_189 : decode cX7_copyFrom 189 = .ok (.getfield 63, 3) := by decide +kernel
theorem dX7_copyFrom_192 : decode cX7_copyFrom 192 = .ok (.iconst 0, 1) := by decide +kernel
theorem dX7_copyFrom_193 : decode cX7_copyFrom 193 = .ok (.aload_n 0, 1) := by decide +kernel
theorem dX7_copyFrom_194 : decode cX7_copyFrom 194 = .ok (.getfield 63, 3) := by decide +kernel
theorem dX7_copyFrom_197 : decode cX7_copyFrom 197 = .ok (.iconst 0, 1) := by decide +kernel
theorem dX7_copyFrom_198 : decode cX7_copyFrom 198 = .ok (.bipush 8, 2) := by decide +kernel
theorem dX7_copyFrom_200 : decode cX7_copyFrom 200 = .ok (.invokestatic 88, 3) := by decide +kernel
theorem dX7_copyFrom_203 : decode cX7_copyFrom 203 = .ok (.aload_n 1, 1) := by decide +kernel
theorem dX7_copyFrom_204 : decode cX7_copyFrom 204 = .ok (.getfield 66, 3) := by decide +kernel
theorem dX7_copyFrom_207 : decode cX7_copyFrom 207 = .ok (.iconst 0, 1) := by decide +kernel
theorem dX7_copyFrom_208 : decode cX7_copyFrom 208 = .ok (.aload_n 0, 1) := by decide +kernel
theorem dX7_copyFrom_209 : decode cX7_copyFrom 209 = .ok (.getfield 66, 3) := by decide +kernel
theorem dX7_copyFrom_212 : decode cX7_copyFrom 212 = .ok (.iconst 0, 1) := by decide +kernel
theorem dX7_copyFrom_213 : decode cX7_copyFrom 213 = .ok (.bipush 8, 2) := by decide +kernel
theorem dX7_copyFrom_215 : decode cX7_copyFrom 215 = .ok (.invokestatic 88, 3) := by decide +kernel
theorem dX7_copyFrom_218 : decode cX7_copyFrom 218 = .ok (.iconst 0, 1) := by decide +kernel
theorem dX7_copyFrom_219 : decode cX7_copyFrom 219 = .ok (.istore_n 2, 1) := by decide +kernel
theorem dX7_copyFrom_220 : decode cX7_copyFrom 220 = .ok (.iload_n 2, 1) := by decide +kernel
theorem dX7_copyFrom_221 : decode cX7_copyFrom 221 = .ok (.bipush 6, 2) := by decide +kernel
theorem dX7_copyFrom_223 : decode cX7_copyFrom 223 = .ok (.if_icmp .ge 21, 3) := by decide +kernel
theorem dX7_copyFrom_226 : decode cX7_copyFrom 226 = .ok (.aload_n 0, 1) := by decide +kernel
theorem dX7_copyFrom_227 : decode cX7_copyFrom 227 = .ok (.getfield 71, 3) := by decide +kernel
theorem dX7_copyFrom_230 : decode cX7_copyFrom 230 = .ok (.iload_n 2, 1) := by decide +kernel
theorem dX7_copyFrom_231 : decode cX7_copyFrom 231 = .ok (.aload_n 1, 1) := by decide +kernel
theorem dX7_copyFrom_232 : decode cX7_copyFrom 232 = .ok (.getfield 71, 3) := by decide +kernel
theorem dX7_copyFrom_235 : decode cX7_copyFrom 235 = .ok (.iload_n 2, 1) := by decide +kernel
theorem dX7_copyFrom_236 : decode cX7_copyFrom 236 = .ok (.aaload, 1) := by decide +kernel
theorem dX7_copyFrom_237 : decode cX7_copyFrom 237 = .ok (.aastore, 1) := by decide +kernel
theorem dX7_copyFrom_238 : decode cX7_copyFrom 238 = .ok (.iinc 2 1, 3) := by decide +kernel
theorem dX7_copyFrom_241 : decode cX7_copyFrom 241 = .ok (.goto (-21), 3) := by decide +kernel
theorem dX7_copyFrom_244 : decode cX7_copyFrom 244 = .ok (.aload_n 0, 1) := by decide +kernel
theorem dX7_copyFrom_245 : decode cX7_copyFrom 245 = .ok (.aload_n 1, 1) := by decide +kernel
theorem dX7_copyFrom_246 : decode cX7_copyFrom 246 = .ok (.getfield 75, 3) := by decide +kernel
theorem dX7_copyFrom_249 : decode cX7_copyFrom 249 = .ok (.putfield 75, 3) := by decide +kernel
theorem dX7_copyFrom_252 : decode cX7_copyFrom 252 = .ok (.aload_n 0, 1) := by decide +kernel
theorem dX7_copyFrom_253 : decode cX7_copyFrom 253 = .ok (.aload_n 1, 1) := by decide +kernel
theorem dX7_copyFrom_254 : decode cX7_copyFrom 254 = .ok (.getfield 78, 3) := by decide +kernel
theorem dX7_copyFrom_257 : decode cX7_copyFrom 257 = .ok (.putfield 78, 3) := by decide +kernel
theorem dX7_copyFrom_260 : decode cX7_copyFrom 260 = .ok (.return_, 1) := by decide +kernel
theorem wt3_42 : Cond.code yX7_readyMask cX7_readyMask 4 (some .int) ∈ kG := kt3 42 rfl rfl
theorem wt4_145 : Cond.code yX7_workOneTick cX7_workOneTick 4 (some .int) ∈ kG := kt4 145 rfl rfl
theorem wt4_83 : Cond.methodLink RX7 88 arraycopyName ∈ kG := kt4 83 rfl rfl
theorem wt4_70 : Cond.native arraycopyName ∈ kG := kt4 70 rfl rfl
theorem wt4_69 : Cond.static arraycopyName ∈ kG := kt4 69 rfl rfl
theorem wt1_20 : Cond.initialized "java/lang/System" ∈ kG := kt1 20 rfl rfl
theorem wt4_88 : Cond.methodLink RX2 22 arraycopyName ∈ kG := kt4 88 rfl rfl
theorem wt1_130 : Cond.fieldLink RX2 28 "SunriseRoof$Site" "term" "[I" ∈ kG := kt1 130 rfl rfl
theorem wt1_101 : Cond.fieldLink RX2 33 "SunriseRoof$Site" "left" "[I" ∈ kG := kt1 101 rfl rfl
theorem wt1_118 : Cond.fieldLink RX2 36 "SunriseRoof$Site" "tired" "[I" ∈ kG := kt1 118 rfl rfl
theorem wt1_124 : Cond.fieldLink RX2 39 "SunriseRoof$Site" "place" "[I" ∈ kG := kt1 124 rfl rfl
theorem wt4_121 : Cond.methodLink RX2 42 Lib.Math.min.name ∈ kG := kt4 121 rfl rfl
theorem wt4_120 : Cond.code yX2_keep cX2_keep 4 none ∈ kG := kt4 120 rfl rfl
theorem wt1_108 : Cond.fieldLink RX0 71 "SunriseRoof$Site" "builders" "I" ∈ kG := kt1 108 rfl rfl
theorem wt1_122 : Cond.fieldLink RX0 42 "SunriseRoof$Site" "place" "[I" ∈ kG := kt1 122 rfl rfl
theorem wt4_137 : Cond.code yX0_hasAnybody cX0_hasAnybody 3 (some .boolean) ∈ kG := kt4 137 rfl rfl
theorem wt1_82 : Cond.fieldLink RX0 61 "SunriseRoof$Site" "parts" "I" ∈ kG := kt1 82 rfl rfl
theorem wt1_92 : Cond.fieldLink RX0 65 "SunriseRoof$Site" "needs" "[I" ∈ kG := kt1 92 rfl rfl
theorem wt1_98 : Cond.fieldLink RX0 46 "SunriseRoof$Site" "left" "[I" ∈ kG := kt1 98 rfl rfl
theorem wt1_88 : Cond.fieldLink RX0 52 "SunriseRoof$Site" "work" "[I" ∈ kG := kt1 88 rfl rfl
theorem wt4_134 : Cond.methodLink RX0 68 yX0_hasAnybody ∈ kG := kt4 134 rfl rfl
theorem wt4_136 : Cond.instanceMethod yX0_hasAnybody ∈ kG := kt4 136 rfl rfl
theorem wp2_10 : Cond.selects RX0 yX0_hasAnybody yX0_hasAnybody ∈ kG := kp2 10 rfl rfl
theorem wt4_133 : Cond.code yX0_isBuiltOn cX0_isBuiltOn 3 (some .boolean) ∈ kG := kt4 133 rfl rfl
theorem wt4_113 : Cond.methodLink RX0 19 yX7_hasBuilder ∈ kG := kt4 113 rfl rfl
theorem wt4_114 : Cond.methodLink RX0 25 yX7_hasPart ∈ kG := kt4 114 rfl rfl
theorem wt4_115 : Cond.methodLink RX0 28 yX7_readyMask ∈ kG := kt4 115 rfl rfl
theorem wt3_40 : Cond.instanceMethod yX7_readyMask ∈ kG := kt3 40 rfl rfl
theorem wt3_41 : Cond.selects RX7 yX7_readyMask yX7_readyMask ∈ kG := kt3 41 rfl rfl
theorem wt4_116 : Cond.methodLink RX0 32 yX7_asked ∈ kG := kt4 116 rfl rfl
theorem wt4_117 : Cond.methodLink RX0 36 yX2_keep ∈ kG := kt4 117 rfl rfl
theorem wt4_118 : Cond.instanceMethod yX2_keep ∈ kG := kt4 118 rfl rfl
theorem wt4_119 : Cond.selects RX2 yX2_keep yX2_keep ∈ kG := kt4 119 rfl rfl
theorem wt4_130 : Cond.methodLink RX0 49 yX0_isBuiltOn ∈ kG := kt4 130 rfl rfl
theorem wt4_132 : Cond.instanceMethod yX0_isBuiltOn ∈ kG := kt4 132 rfl rfl
theorem wp2_9 : Cond.selects RX0 yX0_isBuiltOn yX0_isBuiltOn ∈ kG := kp2 9 rfl rfl
theorem wt1_131 : Cond.fieldLink RX0 55 "SunriseRoof$Site" "term" "[I" ∈ kG := kt1 131 rfl rfl
theorem wt4_142 : Cond.methodLink RX0 58 yX7_workOneTick ∈ kG := kt4 142 rfl rfl
theorem wt4_143 : Cond.instanceMethod yX7_workOneTick ∈ kG := kt4 143 rfl rfl
theorem wt4_144 : Cond.selects RX7 yX7_workOneTick yX7_workOneTick ∈ kG := kt4 144 rfl rfl
theorem cl_10 : (10 : Int32).toNatClampNeg = 10 := by decide +kernel
set_option maxHeartbeats 4000000 in
set_option maxRecDepth 100000 in
theorem x_7_copyFromP  (l : Launch) {D : va_G} {K : Nat → ClassId} (r : Nat → Nat) (f : Nat → Int32) (a : Nat → Nat → Int32) (g : xG) (tx tt : va_W) (hT : ∀ c ∈ tt, c ∈ tx) (hI : xI f a) (hG : gOK K g.2 tt)     : kVG l yX7_copyFrom (Cond.code yX7_copyFrom cX7_copyFrom 3 none :: kG) (rmD 2 0 0) D K [.ref (r 59), .ref (r 1)] (xX K r f a g tx) (fun (u : xS) => xI u.1 u.2.1 ∧ gOK K u.2.2.2 tt ∧ xEk ([1888, 1894, 1900, 1905, 1906], [60, 61, 62, 63, 64, 65, 66, 67, 68, 69, 70, 71, 72], [73]) f a g u.1 u.2.1 u.2.2 ∧ u.1 1888 = f 32 ∧ u.1 1894 = f 38 ∧ u.1 1900 = f 44 ∧ u.1 1905 = f 49 ∧ u.1 1906 = f 50) (fun u => xX K r u.1 u.2.1 u.2.2 tx) 0 0 := by
  refine kVG.of (cc := cX7_copyFrom) (maxL := 3) (ret := none) (by decide) rfl (Nat.le_of_ble_eq_true rfl) ?_
  intro p e s m below meth c A hx hb hr hml hown hts hlocks hnm hK hP hD hS hA hV ls hl
  have hE : xEk ([1888, 1894, 1900, 1905, 1906], [60, 61, 62, 63, 64, 65, 66, 67, 68, 69, 70, 71, 72], [73]) f a g f a g := xEk_rf
  have hg : ∀ w ∈ kG, w.before _ s = true := fun w h => hts w (List.mem_cons_of_mem _ h)
  have hown : s.vm.findClass RX7 = some m.cls := hown
  have hl : lv_has ls 3 [(0, .ref (r 59)), (1, .ref (r 1))] := hl
  obtain ⟨s32, es32⟩ : ∃ z : Int32, z = f 32 := ⟨_, rfl⟩
  have b1 : kb 0 s32 10 := kb_eq es32 (fI_at hI.1 32 (by decide) (by decide))
  obtain ⟨s38, es38⟩ : ∃ z : Int32, z = f 38 := ⟨_, rfl⟩
  obtain ⟨s44, es44⟩ : ∃ z : Int32, z = f 44 := ⟨_, rfl⟩
  obtain ⟨s49, es49⟩ : ∃ z : Int32, z = f 49 := ⟨_, rfl⟩
  obtain ⟨s50, es50⟩ : ∃ z : Int32, z = f 50 := ⟨_, rfl⟩
  refine lv_aload_n hx hb dX7_copyFrom_0 rfl (lv_at hl 0 rfl) ?_
  refine lv_aload_n hx hb dX7_copyFrom_1 rfl (lv_at hl 1 rfl) ?_
  refine va_get (D := D) (ci := 7) (v := .int (f 32)) (C := RX7) (T := TX7) (N := 20) hx hb hg inC7 hown hK hP 1 rfl rfl 0 (by decide) (hg _ wt1_79) (fun _ h9 => h9) rfl dX7_copyFrom_2 ?_
  refine k_top (z := s32) es32.symm ?_
  refine va_put (D := D) (ci := 7) (v := .int s32) (ty := .int) (C := RX7) (T := TX7) (N := 20) hx hb hg inC7 tyX7 tyX7_ok nmX7 hown hK hP hD hS 59 rfl rfl 0 (by decide) (hg _ wt1_79) (fun _ h9 => h9) rfl (by decide +kernel) rfl rfl (Nat.le_of_ble_eq_true rfl) dX7_copyFrom_5 (fun H locs hP hD hS => ?_)
  have hP : va_P D vwCl (xX K r (upd f 1888 s32) a g tx) H := hP
  have hD : va_D A (xX K r (upd f 1888 s32) a g tx) := hD
  refine k_gen (P := fun z => va_P D vwCl (xX K r z a g tx) H ∧ va_D A (xX K r z a g tx) ∧ (xI z a) ∧ (gOK K g.2 tt) ∧ (xEk ([1888, 1894, 1900, 1905, 1906], [60, 61, 62, 63, 64, 65, 66, 67, 68, 69, 70, 71, 72], [73]) f a g z a g)) (upd f 1888 s32) ⟨hP, hD, (xI_f hI (fI_st hI.1 1888 b1 (by decide) (by decide))), hG, (xEk_f hE rfl)⟩ (fun f_2 ef_2 hq => ?_)
  obtain ⟨hP, hD, hI, hG, hE⟩ := hq
  refine lv_aload_n hx hb dX7_copyFrom_8 rfl (lv_at hl 1 rfl) ?_
  refine va_get (D := D) (ci := 7) (v := .ref (r 2)) (C := RX7) (T := TX7) (N := 20) hx hb hg inC7 hown hK hP 1 rfl rfl 1 (by decide) (hg _ wt1_86) (fun _ h9 => h9) rfl dX7_copyFrom_9 ?_
  refine lv_iconst (v := 0) hx hb dX7_copyFrom_12 (by decide) ?_
  refine lv_aload_n hx hb dX7_copyFrom_13 rfl (lv_at hl 0 rfl) ?_
  refine va_get (D := D) (ci := 7) (v := .ref (r 60)) (C := RX7) (T := TX7) (N := 20) hx hb hg inC7 hown hK hP 59 rfl rfl 1 (by decide) (hg _ wt1_86) (fun _ h9 => h9) rfl dX7_copyFrom_14 ?_
  refine lv_iconst (v := 0) hx hb dX7_copyFrom_17 (by decide) ?_
  refine lv_bipush (v := 10) hx hb dX7_copyFrom_18 (by decide) ?_
  refine va_copyi (ty := .int) hx hb (hml.trans hl.1.symm) hown (hg _ wt4_83) (hg _ wt4_70) (hg _ wt4_69) (hg _ wt1_20) hK hP hD hS 2 60 0 0 rfl rfl rfl rfl rfl (by decide) (by decide) (by decide) (by decide +kernel) (by decide +kernel) (fun i _ => rfl) (by decide) (Nat.le_of_ble_eq_true rfl) dX7_copyFrom_20 (fun H locs hP hD hS => ?_)
  have hP : va_P D vwCl (xX K r f_2 (va_up a 60 (va_cpy (a 2) (a 60) (0 : Int32).toNatClampNeg (0 : Int32).toNatClampNeg (10 : Int32).toNatClampNeg)) g tx) H := hP
  have hD : va_D A (xX K r f_2 (va_up a 60 (va_cpy (a 2) (a 60) (0 : Int32).toNatClampNeg (0 : Int32).toNatClampNeg (10 : Int32).toNatClampNeg)) g tx) := hD
  refine k_gen (P := fun z => va_P D vwCl (xX K r f_2 z g tx) H ∧ va_D A (xX K r f_2 z g tx) ∧ (xI f_2 z) ∧ (gOK K g.2 tt) ∧ (xEk ([1888, 1894, 1900, 1905, 1906], [60, 61, 62, 63, 64, 65, 66, 67, 68, 69, 70, 71, 72], [73]) f a g f_2 z g)) (va_up a 60 (va_cpy (a 2) (a 60) (0 : Int32).toNatClampNeg (0 : Int32).toNatClampNeg (10 : Int32).toNatClampNeg)) ⟨hP, hD, (xI_a hI (by decide)), hG, (xEk_a hE rfl)⟩ (fun a_3 ea_3 hq => ?_)
  obtain ⟨hP, hD, hI, hG, hE⟩ := hq
  refine lv_aload_n hx hb dX7_copyFrom_23 rfl (lv_at hl 1 rfl) ?_
  refine va_get (D := D) (ci := 7) (v := .ref (r 3)) (C := RX7) (T := TX7) (N := 20) hx hb hg inC7 hown hK hP 1 rfl rfl 2 (by decide) (hg _ wt1_89) (fun _ h9 => h9) rfl dX7_copyFrom_24 ?_
  refine lv_iconst (v := 0) hx hb dX7_copyFrom_27 (by decide) ?_
  refine lv_aload_n hx hb dX7_copyFrom_28 rfl (lv_at hl 0 rfl) ?_
  refine va_get (D := D) (ci := 7) (v := .ref (r 61)) (C := RX7) (T := TX7) (N := 20) hx hb hg inC7 hown hK hP 59 rfl rfl 2 (by decide) (hg _ wt1_89) (fun _ h9 => h9) rfl dX7_copyFrom_29 ?_
  refine lv_iconst (v := 0) hx hb dX7_copyFrom_32 (by decide) ?_
  refine lv_bipush (v := 10) hx hb dX7_copyFrom_33 (by decide) ?_
  refine va_copyi (ty := .int) hx hb (hml.trans hl.1.symm) hown (hg _ wt4_83) (hg _ wt4_70) (hg _ wt4_69) (hg _ wt1_20) hK hP hD hS 3 61 0 0 rfl rfl rfl rfl rfl (by decide) (by decide) (by decide) (by decide +kernel) (by decide +kernel) (fun i _ => rfl) (by decide) (Nat.le_of_ble_eq_true rfl) dX7_copyFrom_35 (fun H locs hP hD hS => ?_)
  have hP : va_P D vwCl (xX K r f_2 (va_up a_3 61 (va_cpy (a_3 3) (a_3 61) (0 : Int32).toNatClampNeg (0 : Int32).toNatClampNeg (10 : Int32).toNatClampNeg)) g tx) H := hP
  have hD : va_D A (xX K r f_2 (va_up a_3 61 (va_cpy (a_3 3) (a_3 61) (0 : Int32).toNatClampNeg (0 : Int32).toNatClampNeg (10 : Int32).toNatClampNeg)) g tx) := hD
  refine k_gen (P := fun z => va_P D vwCl (xX K r f_2 z g tx) H ∧ va_D A (xX K r f_2 z g tx) ∧ (xI f_2 z) ∧ (gOK K g.2 tt) ∧ (xEk ([1888, 1894, 1900, 1905, 1906], [60, 61, 62, 63, 64, 65, 66, 67, 68, 69, 70, 71, 72], [73]) f a g f_2 z g)) (va_up a_3 61 (va_cpy (a_3 3) (a_3 61) (0 : Int32).toNatClampNeg (0 : Int32).toNatClampNeg (10 : Int32).toNatClampNeg)) ⟨hP, hD, (xI_a hI (by decide)), hG, (xEk_a hE rfl)⟩ (fun a_4 ea_4 hq => ?_)
  obtain ⟨hP, hD, hI, hG, hE⟩ := hq
  refine lv_aload_n hx hb dX7_copyFrom_38 rfl (lv_at hl 1 rfl) ?_
  refine va_get (D := D) (ci := 7) (v := .ref (r 4)) (C := RX7) (T := TX7) (N := 20) hx hb hg inC7 hown hK hP 1 rfl rfl 3 (by decide) (hg _ wt1_93) (fun _ h9 => h9) rfl dX7_copyFrom_39 ?_
  refine lv_iconst (v := 0) hx hb dX7_copyFrom_42 (by decide) ?_
  refine lv_aload_n hx hb dX7_copyFrom_43 rfl (lv_at hl 0 rfl) ?_
  refine va_get (D := D) (ci := 7) (v := .ref (r 62)) (C := RX7) (T := TX7) (N := 20) hx hb hg inC7 hown hK hP 59 rfl rfl 3 (by decide) (hg _ wt1_93) (fun _ h9 => h9) rfl dX7_copyFrom_44 ?_
  refine lv_iconst (v := 0) hx hb dX7_copyFrom_47 (by decide) ?_
  refine lv_bipush (v := 10) hx hb dX7_copyFrom_48 (by decide) ?_
  refine va_copyi (ty := .int) hx hb (hml.trans hl.1.symm) hown (hg _ wt4_83) (hg _ wt4_70) (hg _ wt4_69) (hg _ wt1_20) hK hP hD hS 4 62 0 0 rfl rfl rfl rfl rfl (by decide) (by decide) (by decide) (by decide +kernel) (by decide +kernel) (fun i _ => rfl) (by decide) (Nat.le_of_ble_eq_true rfl) dX7_copyFrom_50 (fun H locs hP hD hS => ?_)
  have hP : va_P D vwCl (xX K r f_2 (va_up a_4 62 (va_cpy (a_4 4) (a_4 62) (0 : Int32).toNatClampNeg (0 : Int32).toNatClampNeg (10 : Int32).toNatClampNeg)) g tx) H := hP
  have hD : va_D A (xX K r f_2 (va_up a_4 62 (va_cpy (a_4 4) (a_4 62) (0 : Int32).toNatClampNeg (0 : Int32).toNatClampNeg (10 : Int32).toNatClampNeg)) g tx) := hD
  refine k_gen (P := fun z => va_P D vwCl (xX K r f_2 z g tx) H ∧ va_D A (xX K r f_2 z g tx) ∧ (xI f_2 z) ∧ (gOK K g.2 tt) ∧ (xEk ([1888, 1894, 1900, 1905, 1906], [60, 61, 62, 63, 64, 65, 66, 67, 68, 69, 70, 71, 72], [73]) f a g f_2 z g)) (va_up a_4 62 (va_cpy (a_4 4) (a_4 62) (0 : Int32).toNatClampNeg (0 : Int32).toNatClampNeg (10 : Int32).toNatClampNeg)) ⟨hP, hD, (xI_a hI (by decide)), hG, (xEk_a hE rfl)⟩ (fun a_5 ea_5 hq => ?_)
  obtain ⟨hP, hD, hI, hG, hE⟩ := hq
  refine lv_aload_n hx hb dX7_copyFrom_53 rfl (lv_at hl 1 rfl) ?_
  refine va_get (D := D) (ci := 7) (v := .ref (r 5)) (C := RX7) (T := TX7) (N := 20) hx hb hg inC7 hown hK hP 1 rfl rfl 4 (by decide) (hg _ wt1_95) (fun _ h9 => h9) rfl dX7_copyFrom_54 ?_
  refine lv_iconst (v := 0) hx hb dX7_copyFrom_57 (by decide) ?_
  refine lv_aload_n hx hb dX7_copyFrom_58 rfl (lv_at hl 0 rfl) ?_
  refine va_get (D := D) (ci := 7) (v := .ref (r 63)) (C := RX7) (T := TX7) (N := 20) hx hb hg inC7 hown hK hP 59 rfl rfl 4 (by decide) (hg _ wt1_95) (fun _ h9 => h9) rfl dX7_copyFrom_59 ?_
  refine lv_iconst (v := 0) hx hb dX7_copyFrom_62 (by decide) ?_
  refine lv_bipush (v := 10) hx hb dX7_copyFrom_63 (by decide) ?_
  refine va_copyi (ty := .int) hx hb (hml.trans hl.1.symm) hown (hg _ wt4_83) (hg _ wt4_70) (hg _ wt4_69) (hg _ wt1_20) hK hP hD hS 5 63 0 0 rfl rfl rfl rfl rfl (by decide) (by decide) (by decide) (by decide +kernel) (by decide +kernel) (fun i _ => rfl) (by decide) (Nat.le_of_ble_eq_true rfl) dX7_copyFrom_65 (fun H locs hP hD hS => ?_)
  have hP : va_P D vwCl (xX K r f_2 (va_up a_5 63 (va_cpy (a_5 5) (a_5 63) (0 : Int32).toNatClampNeg (0 : Int32).toNatClampNeg (10 : Int32).toNatClampNeg)) g tx) H := hP
  have hD : va_D A (xX K r f_2 (va_up a_5 63 (va_cpy (a_5 5) (a_5 63) (0 : Int32).toNatClampNeg (0 : Int32).toNatClampNeg (10 : Int32).toNatClampNeg)) g tx) := hD
  refine k_gen (P := fun z => va_P D vwCl (xX K r f_2 z g tx) H ∧ va_D A (xX K r f_2 z g tx) ∧ (xI f_2 z) ∧ (gOK K g.2 tt) ∧ (xEk ([1888, 1894, 1900, 1905, 1906], [60, 61, 62, 63, 64, 65, 66, 67, 68, 69, 70, 71, 72], [73]) f a g f_2 z g)) (va_up a_5 63 (va_cpy (a_5 5) (a_5 63) (0 : Int32).toNatClampNeg (0 : Int32).toNatClampNeg (10 : Int32).toNatClampNeg)) ⟨hP, hD, (xI_a hI (by decide)), hG, (xEk_a hE rfl)⟩ (fun a_6 ea_6 hq => ?_)
  obtain ⟨hP, hD, hI, hG, hE⟩ := hq
  refine lv_aload_n hx hb dX7_copyFrom_68 rfl (lv_at hl 1 rfl) ?_
  refine va_get (D := D) (ci := 7) (v := .ref (r 6)) (C := RX7) (T := TX7) (N := 20) hx hb hg inC7 hown hK hP 1 rfl rfl 5 (by decide) (hg _ wt1_97) (fun _ h9 => h9) rfl dX7_copyFrom_69 ?_
  refine lv_iconst (v := 0) hx hb dX7_copyFrom_72 (by decide) ?_
  refine lv_aload_n hx hb dX7_copyFrom_73 rfl (lv_at hl 0 rfl) ?_
  refine va_get (D := D) (ci := 7) (v := .ref (r 64)) (C := RX7) (T := TX7) (N := 20) hx hb hg inC7 hown hK hP 59 rfl rfl 5 (by decide) (hg _ wt1_97) (fun _ h9 => h9) rfl dX7_copyFrom_74 ?_
  refine lv_iconst (v := 0) hx hb dX7_copyFrom_77 (by decide) ?_
  refine lv_bipush (v := 10) hx hb dX7_copyFrom_78 (by decide) ?_
  refine va_copyi (ty := .int) hx hb (hml.trans hl.1.symm) hown (hg _ wt4_83) (hg _ wt4_70) (hg _ wt4_69) (hg _ wt1_20) hK hP hD hS 6 64 0 0 rfl rfl rfl rfl rfl (by decide) (by decide) (by decide) (by decide +kernel) (by decide +kernel) (fun i _ => rfl) (by decide) (Nat.le_of_ble_eq_true rfl) dX7_copyFrom_80 (fun H locs hP hD hS => ?_)
  have hP : va_P D vwCl (xX K r f_2 (va_up a_6 64 (va_cpy (a_6 6) (a_6 64) (0 : Int32).toNatClampNeg (0 : Int32).toNatClampNeg (10 : Int32).toNatClampNeg)) g tx) H := hP
  have hD : va_D A (xX K r f_2 (va_up a_6 64 (va_cpy (a_6 6) (a_6 64) (0 : Int32).toNatClampNeg (0 : Int32).toNatClampNeg (10 : Int32).toNatClampNeg)) g tx) := hD
  refine k_gen (P := fun z => va_P D vwCl (xX K r f_2 z g tx) H ∧ va_D A (xX K r f_2 z g tx) ∧ (xI f_2 z) ∧ (gOK K g.2 tt) ∧ (xEk ([1888, 1894, 1900, 1905, 1906], [60, 61, 62, 63, 64, 65, 66, 67, 68, 69, 70, 71, 72], [73]) f a g f_2 z g)) (va_up a_6 64 (va_cpy (a_6 6) (a_6 64) (0 : Int32).toNatClampNeg (0 : Int32).toNatClampNeg (10 : Int32).toNatClampNeg)) ⟨hP, hD, (xI_a hI (by decide)), hG, (xEk_a hE rfl)⟩ (fun a_7 ea_7 hq => ?_)
  obtain ⟨hP, hD, hI, hG, hE⟩ := hq
  refine lv_aload_n hx hb dX7_copyFrom_83 rfl (lv_at hl 0 rfl) ?_
  refine lv_aload_n hx hb dX7_copyFrom_84 rfl (lv_at hl 1 rfl) ?_
  refine va_get (D := D) (ci := 7) (v := .int (f_2 38)) (C := RX7) (T := TX7) (N := 20) hx hb hg inC7 hown hK hP 1 rfl rfl 6 (by decide) (hg _ wt1_104) (fun _ h9 => h9) rfl dX7_copyFrom_85 ?_
  refine k_top (z := s38) ((show f_2 38 = f 38 from by rw [← ef_2]; rfl).trans es38.symm) ?_
  refine va_put (D := D) (ci := 7) (v := .int s38) (ty := .int) (C := RX7) (T := TX7) (N := 20) hx hb hg inC7 tyX7 tyX7_ok nmX7 hown hK hP hD hS 59 rfl rfl 6 (by decide) (hg _ wt1_104) (fun _ h9 => h9) rfl (by decide +kernel) rfl rfl (Nat.le_of_ble_eq_true rfl) dX7_copyFrom_88 (fun H locs hP hD hS => ?_)
  have hP : va_P D vwCl (xX K r (upd f_2 1894 s38) a_7 g tx) H := hP
  have hD : va_D A (xX K r (upd f_2 1894 s38) a_7 g tx) := hD
  refine k_gen (P := fun z => va_P D vwCl (xX K r z a_7 g tx) H ∧ va_D A (xX K r z a_7 g tx) ∧ (xI z a_7) ∧ (gOK K g.2 tt) ∧ (xEk ([1888, 1894, 1900, 1905, 1906], [60, 61, 62, 63, 64, 65, 66, 67, 68, 69, 70, 71, 72], [73]) f a g z a_7 g)) (upd f_2 1894 s38) ⟨hP, hD, (xI_f hI (fI_st hI.1 1894 (kb_any _) (by decide) (by decide))), hG, (xEk_f hE rfl)⟩ (fun f_8 ef_8 hq => ?_)
  obtain ⟨hP, hD, hI, hG, hE⟩ := hq
  refine lv_aload_n hx hb dX7_copyFrom_91 rfl (lv_at hl 1 rfl) ?_
  refine va_get (D := D) (ci := 7) (v := .ref (r 7)) (C := RX7) (T := TX7) (N := 20) hx hb hg inC7 hown hK hP 1 rfl rfl 7 (by decide) (hg _ wt1_110) (fun _ h9 => h9) rfl dX7_copyFrom_92 ?_
  refine lv_iconst (v := 0) hx hb dX7_copyFrom_95 (by decide) ?_
  refine lv_aload_n hx hb dX7_copyFrom_96 rfl (lv_at hl 0 rfl) ?_
  refine va_get (D := D) (ci := 7) (v := .ref (r 65)) (C := RX7) (T := TX7) (N := 20) hx hb hg inC7 hown hK hP 59 rfl rfl 7 (by decide) (hg _ wt1_110) (fun _ h9 => h9) rfl dX7_copyFrom_97 ?_
  refine lv_iconst (v := 0) hx hb dX7_copyFrom_100 (by decide) ?_
  refine lv_bipush (v := 6) hx hb dX7_copyFrom_101 (by decide) ?_
  refine va_copyi (ty := .int) hx hb (hml.trans hl.1.symm) hown (hg _ wt4_83) (hg _ wt4_70) (hg _ wt4_69) (hg _ wt1_20) hK hP hD hS 7 65 0 0 rfl rfl rfl rfl rfl (by decide) (by decide) (by decide) (by decide +kernel) (by decide +kernel) (fun i _ => rfl) (by decide) (Nat.le_of_ble_eq_true rfl) dX7_copyFrom_103 (fun H locs hP hD hS => ?_)
  have hP : va_P D vwCl (xX K r f_8 (va_up a_7 65 (va_cpy (a_7 7) (a_7 65) (0 : Int32).toNatClampNeg (0 : Int32).toNatClampNeg (6 : Int32).toNatClampNeg)) g tx) H := hP
  have hD : va_D A (xX K r f_8 (va_up a_7 65 (va_cpy (a_7 7) (a_7 65) (0 : Int32).toNatClampNeg (0 : Int32).toNatClampNeg (6 : Int32).toNatClampNeg)) g tx) := hD
  refine k_gen (P := fun z => va_P D vwCl (xX K r f_8 z g tx) H ∧ va_D A (xX K r f_8 z g tx) ∧ (xI f_8 z) ∧ (gOK K g.2 tt) ∧ (xEk ([1888, 1894, 1900, 1905, 1906], [60, 61, 62, 63, 64, 65, 66, 67, 68, 69, 70, 71, 72], [73]) f a g f_8 z g)) (va_up a_7 65 (va_cpy (a_7 7) (a_7 65) (0 : Int32).toNatClampNeg (0 : Int32).toNatClampNeg (6 : Int32).toNatClampNeg)) ⟨hP, hD, (xI_a hI (by decide)), hG, (xEk_a hE rfl)⟩ (fun a_9 ea_9 hq => ?_)
  obtain ⟨hP, hD, hI, hG, hE⟩ := hq
  refine lv_aload_n hx hb dX7_copyFrom_106 rfl (lv_at hl 1 rfl) ?_
  refine va_get (D := D) (ci := 7) (v := .ref (r 8)) (C := RX7) (T := TX7) (N := 20) hx hb hg inC7 hown hK hP 1 rfl rfl 8 (by decide) (hg _ wt1_114) (fun _ h9 => h9) rfl dX7_copyFrom_107 ?_
  refine lv_iconst (v := 0) hx hb dX7_copyFrom_110 (by decide) ?_
  refine lv_aload_n hx hb dX7_copyFrom_111 rfl (lv_at hl 0 rfl) ?_
  refine va_get (D := D) (ci := 7) (v := .ref (r 66)) (C := RX7) (T := TX7) (N := 20) hx hb hg inC7 hown hK hP 59 rfl rfl 8 (by decide) (hg _ wt1_114) (fun _ h9 => h9) rfl dX7_copyFrom_112 ?_
  refine lv_iconst (v := 0) hx hb dX7_copyFrom_115 (by decide) ?_
  refine lv_bipush (v := 6) hx hb dX7_copyFrom_116 (by decide) ?_
  refine va_copyi (ty := .int) hx hb (hml.trans hl.1.symm) hown (hg _ wt4_83) (hg _ wt4_70) (hg _ wt4_69) (hg _ wt1_20) hK hP hD hS 8 66 0 0 rfl rfl rfl rfl rfl (by decide) (by decide) (by decide) (by decide +kernel) (by decide +kernel) (fun i _ => rfl) (by decide) (Nat.le_of_ble_eq_true rfl) dX7_copyFrom_118 (fun H locs hP hD hS => ?_)
  have hP : va_P D vwCl (xX K r f_8 (va_up a_9 66 (va_cpy (a_9 8) (a_9 66) (0 : Int32).toNatClampNeg (0 : Int32).toNatClampNeg (6 : Int32).toNatClampNeg)) g tx) H := hP
  have hD : va_D A (xX K r f_8 (va_up a_9 66 (va_cpy (a_9 8) (a_9 66) (0 : Int32).toNatClampNeg (0 : Int32).toNatClampNeg (6 : Int32).toNatClampNeg)) g tx) := hD
  refine k_gen (P := fun z => va_P D vwCl (xX K r f_8 z g tx) H ∧ va_D A (xX K r f_8 z g tx) ∧ (xI f_8 z) ∧ (gOK K g.2 tt) ∧ (xEk ([1888, 1894, 1900, 1905, 1906], [60, 61, 62, 63, 64, 65, 66, 67, 68, 69, 70, 71, 72], [73]) f a g f_8 z g)) (va_up a_9 66 (va_cpy (a_9 8) (a_9 66) (0 : Int32).toNatClampNeg (0 : Int32).toNatClampNeg (6 : Int32).toNatClampNeg)) ⟨hP, hD, (xI_a hI (by decide)), hG, (xEk_a hE rfl)⟩ (fun a_10 ea_10 hq => ?_)
  obtain ⟨hP, hD, hI, hG, hE⟩ := hq
  refine lv_aload_n hx hb dX7_copyFrom_121 rfl (lv_at hl 1 rfl) ?_
  refine va_get (D := D) (ci := 7) (v := .ref (r 9)) (C := RX7) (T := TX7) (N := 20) hx hb hg inC7 hown hK hP 1 rfl rfl 9 (by decide) (hg _ wt1_116) (fun _ h9 => h9) rfl dX7_copyFrom_122 ?_
  refine lv_iconst (v := 0) hx hb dX7_copyFrom_125 (by decide) ?_
  refine lv_aload_n hx hb dX7_copyFrom_126 rfl (lv_at hl 0 rfl) ?_
  refine va_get (D := D) (ci := 7) (v := .ref (r 67)) (C := RX7) (T := TX7) (N := 20) hx hb hg inC7 hown hK hP 59 rfl rfl 9 (by decide) (hg _ wt1_116) (fun _ h9 => h9) rfl dX7_copyFrom_127 ?_
  refine lv_iconst (v := 0) hx hb dX7_copyFrom_130 (by decide) ?_
  refine lv_bipush (v := 6) hx hb dX7_copyFrom_131 (by decide) ?_
  refine va_copyi (ty := .int) hx hb (hml.trans hl.1.symm) hown (hg _ wt4_83) (hg _ wt4_70) (hg _ wt4_69) (hg _ wt1_20) hK hP hD hS 9 67 0 0 rfl rfl rfl rfl rfl (by decide) (by decide) (by decide) (by decide +kernel) (by decide +kernel) (fun i _ => rfl) (by decide) (Nat.le_of_ble_eq_true rfl) dX7_copyFrom_133 (fun H locs hP hD hS => ?_)
  have hP : va_P D vwCl (xX K r f_8 (va_up a_10 67 (va_cpy (a_10 9) (a_10 67) (0 : Int32).toNatClampNeg (0 : Int32).toNatClampNeg (6 : Int32).toNatClampNeg)) g tx) H := hP
  have hD : va_D A (xX K r f_8 (va_up a_10 67 (va_cpy (a_10 9) (a_10 67) (0 : Int32).toNatClampNeg (0 : Int32).toNatClampNeg (6 : Int32).toNatClampNeg)) g tx) := hD
  refine k_gen (P := fun z => va_P D vwCl (xX K r f_8 z g tx) H ∧ va_D A (xX K r f_8 z g tx) ∧ (xI f_8 z) ∧ (gOK K g.2 tt) ∧ (xEk ([1888, 1894, 1900, 1905, 1906], [60, 61, 62, 63, 64, 65, 66, 67, 68, 69, 70, 71, 72], [73]) f a g f_8 z g)) (va_up a_10 67 (va_cpy (a_10 9) (a_10 67) (0 : Int32).toNatClampNeg (0 : Int32).toNatClampNeg (6 : Int32).toNatClampNeg)) ⟨hP, hD, (xI_a hI (by decide)), hG, (xEk_a hE rfl)⟩ (fun a_11 ea_11 hq => ?_)
  obtain ⟨hP, hD, hI, hG, hE⟩ := hq
  refine lv_aload_n hx hb dX7_copyFrom_136 rfl (lv_at hl 1 rfl) ?_
  refine va_get (D := D) (ci := 7) (v := .ref (r 10)) (C := RX7) (T := TX7) (N := 20) hx hb hg inC7 hown hK hP 1 rfl rfl 10 (by decide) (hg _ wt1_121) (fun _ h9 => h9) rfl dX7_copyFrom_137 ?_
  refine lv_iconst (v := 0) hx hb dX7_copyFrom_140 (by decide) ?_
  refine lv_aload_n hx hb dX7_copyFrom_141 rfl (lv_at hl 0 rfl) ?_
  refine va_get (D := D) (ci := 7) (v := .ref (r 68)) (C := RX7) (T := TX7) (N := 20) hx hb hg inC7 hown hK hP 59 rfl rfl 10 (by decide) (hg _ wt1_121) (fun _ h9 => h9) rfl dX7_copyFrom_142 ?_
  refine lv_iconst (v := 0) hx hb dX7_copyFrom_145 (by decide) ?_
  refine lv_bipush (v := 6) hx hb dX7_copyFrom_146 (by decide) ?_
  refine va_copyi (ty := .int) hx hb (hml.trans hl.1.symm) hown (hg _ wt4_83) (hg _ wt4_70) (hg _ wt4_69) (hg _ wt1_20) hK hP hD hS 10 68 0 0 rfl rfl rfl rfl rfl (by decide) (by decide) (by decide) (by decide +kernel) (by decide +kernel) (fun i _ => rfl) (by decide) (Nat.le_of_ble_eq_true rfl) dX7_copyFrom_148 (fun H locs hP hD hS => ?_)
  have hP : va_P D vwCl (xX K r f_8 (va_up a_11 68 (va_cpy (a_11 10) (a_11 68) (0 : Int32).toNatClampNeg (0 : Int32).toNatClampNeg (6 : Int32).toNatClampNeg)) g tx) H := hP
  have hD : va_D A (xX K r f_8 (va_up a_11 68 (va_cpy (a_11 10) (a_11 68) (0 : Int32).toNatClampNeg (0 : Int32).toNatClampNeg (6 : Int32).toNatClampNeg)) g tx) := hD
  refine k_gen (P := fun z => va_P D vwCl (xX K r f_8 z g tx) H ∧ va_D A (xX K r f_8 z g tx) ∧ (xI f_8 z) ∧ (gOK K g.2 tt) ∧ (xEk ([1888, 1894, 1900, 1905, 1906], [60, 61, 62, 63, 64, 65, 66, 67, 68, 69, 70, 71, 72], [73]) f a g f_8 z g)) (va_up a_11 68 (va_cpy (a_11 10) (a_11 68) (0 : Int32).toNatClampNeg (0 : Int32).toNatClampNeg (6 : Int32).toNatClampNeg)) ⟨hP, hD, (xI_a hI (by decide)), hG, (xEk_a hE rfl)⟩ (fun a_12 ea_12 hq => ?_)
  obtain ⟨hP, hD, hI, hG, hE⟩ := hq
  refine lv_aload_n hx hb dX7_copyFrom_151 rfl (lv_at hl 1 rfl) ?_
  refine va_get (D := D) (ci := 7) (v := .ref (r 11)) (C := RX7) (T := TX7) (N := 20) hx hb hg inC7 hown hK hP 1 rfl rfl 11 (by decide) (hg _ wt1_127) (fun _ h9 => h9) rfl dX7_copyFrom_152 ?_
  refine lv_iconst (v := 0) hx hb dX7_copyFrom_155 (by decide) ?_
  refine lv_aload_n hx hb dX7_copyFrom_156 rfl (lv_at hl 0 rfl) ?_
  refine va_get (D := D) (ci := 7) (v := .ref (r 69)) (C := RX7) (T := TX7) (N := 20) hx hb hg inC7 hown hK hP 59 rfl rfl 11 (by decide) (hg _ wt1_127) (fun _ h9 => h9) rfl dX7_copyFrom_157 ?_
  refine lv_iconst (v := 0) hx hb dX7_copyFrom_160 (by decide) ?_
  refine lv_iconst (v := 4) hx hb dX7_copyFrom_161 (by decide) ?_
  refine va_copyi (ty := .int) hx hb (hml.trans hl.1.symm) hown (hg _ wt4_83) (hg _ wt4_70) (hg _ wt4_69) (hg _ wt1_20) hK hP hD hS 11 69 0 0 rfl rfl rfl rfl rfl (by decide) (by decide) (by decide) (by decide +kernel) (by decide +kernel) (fun i _ => rfl) (by decide) (Nat.le_of_ble_eq_true rfl) dX7_copyFrom_162 (fun H locs hP hD hS => ?_)
  have hP : va_P D vwCl (xX K r f_8 (va_up a_12 69 (va_cpy (a_12 11) (a_12 69) (0 : Int32).toNatClampNeg (0 : Int32).toNatClampNeg (4 : Int32).toNatClampNeg)) g tx) H := hP
  have hD : va_D A (xX K r f_8 (va_up a_12 69 (va_cpy (a_12 11) (a_12 69) (0 : Int32).toNatClampNeg (0 : Int32).toNatClampNeg (4 : Int32).toNatClampNeg)) g tx) := hD
  refine k_gen (P := fun z => va_P D vwCl (xX K r f_8 z g tx) H ∧ va_D A (xX K r f_8 z g tx) ∧ (xI f_8 z) ∧ (gOK K g.2 tt) ∧ (xEk ([1888, 1894, 1900, 1905, 1906], [60, 61, 62, 63, 64, 65, 66, 67, 68, 69, 70, 71, 72], [73]) f a g f_8 z g)) (va_up a_12 69 (va_cpy (a_12 11) (a_12 69) (0 : Int32).toNatClampNeg (0 : Int32).toNatClampNeg (4 : Int32).toNatClampNeg)) ⟨hP, hD, (xI_a hI (by decide)), hG, (xEk_a hE rfl)⟩ (fun a_13 ea_13 hq => ?_)
  obtain ⟨hP, hD, hI, hG, hE⟩ := hq
  refine lv_aload_n hx hb dX7_copyFrom_165 rfl (lv_at hl 0 rfl) ?_
  refine lv_aload_n hx hb dX7_copyFrom_166 rfl (lv_at hl 1 rfl) ?_
  refine va_get (D := D) (ci := 7) (v := .int (f_8 44)) (C := RX7) (T := TX7) (N := 20) hx hb hg inC7 hown hK hP 1 rfl rfl 12 (by decide) (hg _ wt1_135) (fun _ h9 => h9) rfl dX7_copyFrom_167 ?_
  refine k_top (z := s44) ((show f_8 44 = f_2 44 from by rw [← ef_8]; rfl).trans ((show f_2 44 = f 44 from by rw [← ef_2]; rfl).trans es44.symm)) ?_
  refine va_put (D := D) (ci := 7) (v := .int s44) (ty := .int) (C := RX7) (T := TX7) (N := 20) hx hb hg inC7 tyX7 tyX7_ok nmX7 hown hK hP hD hS 59 rfl rfl 12 (by decide) (hg _ wt1_135) (fun _ h9 => h9) rfl (by decide +kernel) rfl rfl (Nat.le_of_ble_eq_true rfl) dX7_copyFrom_170 (fun H locs hP hD hS => ?_)
  have hP : va_P D vwCl (xX K r (upd f_8 1900 s44) a_13 g tx) H := hP
  have hD : va_D A (xX K r (upd f_8 1900 s44) a_13 g tx) := hD
  refine k_gen (P := fun z => va_P D vwCl (xX K r z a_13 g tx) H ∧ va_D A (xX K r z a_13 g tx) ∧ (xI z a_13) ∧ (gOK K g.2 tt) ∧ (xEk ([1888, 1894, 1900, 1905, 1906], [60, 61, 62, 63, 64, 65, 66, 67, 68, 69, 70, 71, 72], [73]) f a g z a_13 g)) (upd f_8 1900 s44) ⟨hP, hD, (xI_f hI (fI_st hI.1 1900 (kb_any _) (by decide) (by decide))), hG, (xEk_f hE rfl)⟩ (fun f_14 ef_14 hq => ?_)
  obtain ⟨hP, hD, hI, hG, hE⟩ := hq
  refine lv_aload_n hx hb dX7_copyFrom_173 rfl (lv_at hl 1 rfl) ?_
  refine va_get (D := D) (ci := 7) (v := .ref (r 12)) (C := RX7) (T := TX7) (N := 20) hx hb hg inC7 hown hK hP 1 rfl rfl 13 (by decide) (hg _ wt1_138) (fun _ h9 => h9) rfl dX7_copyFrom_174 ?_
  refine lv_iconst (v := 0) hx hb dX7_copyFrom_177 (by decide) ?_
  refine lv_aload_n hx hb dX7_copyFrom_178 rfl (lv_at hl 0 rfl) ?_
  refine va_get (D := D) (ci := 7) (v := .ref (r 70)) (C := RX7) (T := TX7) (N := 20) hx hb hg inC7 hown hK hP 59 rfl rfl 13 (by decide) (hg _ wt1_138) (fun _ h9 => h9) rfl dX7_copyFrom_179 ?_
  refine lv_iconst (v := 0) hx hb dX7_copyFrom_182 (by decide) ?_
  refine lv_bipush (v := 8) hx hb dX7_copyFrom_183 (by decide) ?_
  refine va_copyi (ty := .int) hx hb (hml.trans hl.1.symm) hown (hg _ wt4_83) (hg _ wt4_70) (hg _ wt4_69) (hg _ wt1_20) hK hP hD hS 12 70 0 0 rfl rfl rfl rfl rfl (by decide) (by decide) (by decide) (by decide +kernel) (by decide +kernel) (fun i _ => rfl) (by decide) (Nat.le_of_ble_eq_true rfl) dX7_copyFrom_185 (fun H locs hP hD hS => ?_)
  have hP : va_P D vwCl (xX K r f_14 (va_up a_13 70 (va_cpy (a_13 12) (a_13 70) (0 : Int32).toNatClampNeg (0 : Int32).toNatClampNeg (8 : Int32).toNatClampNeg)) g tx) H := hP
  have hD : va_D A (xX K r f_14 (va_up a_13 70 (va_cpy (a_13 12) (a_13 70) (0 : Int32).toNatClampNeg (0 : Int32).toNatClampNeg (8 : Int32).toNatClampNeg)) g tx) := hD
  refine k_gen (P := fun z => va_P D vwCl (xX K r f_14 z g tx) H ∧ va_D A (xX K r f_14 z g tx) ∧ (xI f_14 z) ∧ (gOK K g.2 tt) ∧ (xEk ([1888, 1894, 1900, 1905, 1906], [60, 61, 62, 63, 64, 65, 66, 67, 68, 69, 70, 71, 72], [73]) f a g f_14 z g)) (va_up a_13 70 (va_cpy (a_13 12) (a_13 70) (0 : Int32).toNatClampNeg (0 : Int32).toNatClampNeg (8 : Int32).toNatClampNeg)) ⟨hP, hD, (xI_a hI (by decide)), hG, (xEk_a hE rfl)⟩ (fun a_15 ea_15 hq => ?_)
  obtain ⟨hP, hD, hI, hG, hE⟩ := hq
  refine lv_aload_n hx hb dX7_copyFrom_188 rfl (lv_at hl 1 rfl) ?_
  refine va_get (D := D) (ci := 7) (v := .ref (r 13)) (C := RX7) (T := TX7) (N := 20) hx hb hg inC7 hown hK hP 1 rfl rfl 14 (by decide) (hg _ wt1_141) (fun _ h9 => h9) rfl dX7_copyFrom_189 ?_
  refine lv_iconst (v := 0) hx hb dX7_copyFrom_192 (by decide) ?_
  refine lv_aload_n hx hb dX7_copyFrom_193 rfl (lv_at hl 0 rfl) ?_
  refine va_get (D := D) (ci := 7) (v := .ref (r 71)) (C := RX7) (T := TX7) (N := 20) hx hb hg inC7 hown hK hP 59 rfl rfl 14 (by decide) (hg _ wt1_141) (fun _ h9 => h9) rfl dX7_copyFrom_194 ?_
  refine lv_iconst (v := 0) hx hb dX7_copyFrom_197 (by decide) ?_
  refine lv_bipush (v := 8) hx hb dX7_copyFrom_198 (by decide) ?_
  refine va_copyi (ty := .int) hx hb (hml.trans hl.1.symm) hown (hg _ wt4_83) (hg _ wt4_70) (hg _ wt4_69) (hg _ wt1_20) hK hP hD hS 13 71 0 0 rfl rfl rfl rfl rfl (by decide) (by decide) (by decide) (by decide +kernel) (by decide +kernel) (fun i _ => rfl) (by decide) (Nat.le_of_ble_eq_true rfl) dX7_copyFrom_200 (fun H locs hP hD hS => ?_)
  have hP : va_P D vwCl (xX K r f_14 (va_up a_15 71 (va_cpy (a_15 13) (a_15 71) (0 : Int32).toNatClampNeg (0 : Int32).toNatClampNeg (8 : Int32).toNatClampNeg)) g tx) H := hP
  have hD : va_D A (xX K r f_14 (va_up a_15 71 (va_cpy (a_15 13) (a_15 71) (0 : Int32).toNatClampNeg (0 : Int32).toNatClampNeg (8 : Int32).toNatClampNeg)) g tx) := hD
  refine k_gen (P := fun z => va_P D vwCl (xX K r f_14 z g tx) H ∧ va_D A (xX K r f_14 z g tx) ∧ (xI f_14 z) ∧ (gOK K g.2 tt) ∧ (xEk ([1888, 1894, 1900, 1905, 1906], [60, 61, 62, 63, 64, 65, 66, 67, 68, 69, 70, 71, 72], [73]) f a g f_14 z g)) (va_up a_15 71 (va_cpy (a_15 13) (a_15 71) (0 : Int32).toNatClampNeg (0 : Int32).toNatClampNeg (8 : Int32).toNatClampNeg)) ⟨hP, hD, (xI_a hI (by decide)), hG, (xEk_a hE rfl)⟩ (fun a_16 ea_16 hq => ?_)
  obtain ⟨hP, hD, hI, hG, hE⟩ := hq
  refine lv_aload_n hx hb dX7_copyFrom_203 rfl (lv_at hl 1 rfl) ?_
  refine va_get (D := D) (ci := 7) (v := .ref (r 14)) (C := RX7) (T := TX7) (N := 20) hx hb hg inC7 hown hK hP 1 rfl rfl 15 (by decide) (hg _ wt1_144) (fun _ h9 => h9) rfl dX7_copyFrom_204 ?_
  refine lv_iconst (v := 0) hx hb dX7_copyFrom_207 (by decide) ?_
  refine lv_aload_n hx hb dX7_copyFrom_208 rfl (lv_at hl 0 rfl) ?_
  refine va_get (D := D) (ci := 7) (v := .ref (r 72)) (C := RX7) (T := TX7) (N := 20) hx hb hg inC7 hown hK hP 59 rfl rfl 15 (by decide) (hg _ wt1_144) (fun _ h9 => h9) rfl dX7_copyFrom_209 ?_
  refine lv_iconst (v := 0) hx hb dX7_copyFrom_212 (by decide) ?_
  refine lv_bipush (v := 8) hx hb dX7_copyFrom_213 (by decide) ?_
  refine va_copyi (ty := .int) hx hb (hml.trans hl.1.symm) hown (hg _ wt4_83) (hg _ wt4_70) (hg _ wt4_69) (hg _ wt1_20) hK hP hD hS 14 72 0 0 rfl rfl rfl rfl rfl (by decide) (by decide) (by decide) (by decide +kernel) (by decide +kernel) (fun i _ => rfl) (by decide) (Nat.le_of_ble_eq_true rfl) dX7_copyFrom_215 (fun H locs hP hD hS => ?_)
  have hP : va_P D vwCl (xX K r f_14 (va_up a_16 72 (va_cpy (a_16 14) (a_16 72) (0 : Int32).toNatClampNeg (0 : Int32).toNatClampNeg (8 : Int32).toNatClampNeg)) g tx) H := hP
  have hD : va_D A (xX K r f_14 (va_up a_16 72 (va_cpy (a_16 14) (a_16 72) (0 : Int32).toNatClampNeg (0 : Int32).toNatClampNeg (8 : Int32).toNatClampNeg)) g tx) := hD
  refine k_gen (P := fun z => va_P D vwCl (xX K r f_14 z g tx) H ∧ va_D A (xX K r f_14 z g tx) ∧ (xI f_14 z) ∧ (gOK K g.2 tt) ∧ (xEk ([1888, 1894, 1900, 1905, 1906], [60, 61, 62, 63, 64, 65, 66, 67, 68, 69, 70, 71, 72], [73]) f a g f_14 z g)) (va_up a_16 72 (va_cpy (a_16 14) (a_16 72) (0 : Int32).toNatClampNeg (0 : Int32).toNatClampNeg (8 : Int32).toNatClampNeg)) ⟨hP, hD, (xI_a hI (by decide)), hG, (xEk_a hE rfl)⟩ (fun a_17 ea_17 hq => ?_)
  obtain ⟨hP, hD, hI, hG, hE⟩ := hq
  have hk0 : f_14 1888 = f 32 := ((show f_14 1888 = f_8 1888 from by rw [← ef_14]; rfl).trans ((show f_8 1888 = f_2 1888 from by rw [← ef_8]; rfl).trans (show f_2 1888 = s32 from by rw [← ef_2]; rfl))).trans es32
  have hk1 : f_14 1894 = f 38 := ((show f_14 1894 = f_8 1894 from by rw [← ef_14]; rfl).trans (show f_8 1894 = s38 from by rw [← ef_8]; rfl)).trans es38
  have hk2 : f_14 1900 = f 44 := (show f_14 1900 = s44 from by rw [← ef_14]; rfl).trans es44
  refine lv_iconst (v := 0) hx hb dX7_copyFrom_218 (by decide) ?_
  refine lv_istore_n (lv' := [(2, .int 0), (0, .ref (r 59)), (1, .ref (r 1))]) hx hb dX7_copyFrom_219 rfl hl (by decide) rfl (fun ls hl => ?_)
  have lp20 : ∀ (n21 : Nat) (G19 : xG) (H : Heap) (locs : List Loc) (ls : Array Slot) (y18 : Int32), (6 < y18.toInt + (n21 : Int)) → (xI f_14 a_17) → (gOK K G19.2 tt) → (xEk ([1888, 1894, 1900, 1905, 1906], [60, 61, 62, 63, 64, 65, 66, 67, 68, 69, 70, 71, 72], [73]) f a g f_14 a_17 G19) → (f_14 1888 = f 32) → (f_14 1894 = f 38) → (f_14 1900 = f 44) → (kb 0 y18 6) → va_P D vwCl (xX K r f_14 a_17 G19 tx) H → va_D A (xX K r f_14 a_17 G19 tx) → va_S A s.heap H locs → lv_has ls 3 [(2, .int y18), (0, .ref (r 59)), (1, .ref (r 1))] → W p l e (rmD 2 0 0) s m ([.ref (r 59), .ref (r 1)] : List Value).toArray below meth c H locs 0 0 (kQv D (tysK K) (fun (u : xS) => xI u.1 u.2.1 ∧ gOK K u.2.2.2 tt ∧ xEk ([1888, 1894, 1900, 1905, 1906], [60, 61, 62, 63, 64, 65, 66, 67, 68, 69, 70, 71, 72], [73]) f a g u.1 u.2.1 u.2.2 ∧ u.1 1888 = f 32 ∧ u.1 1894 = f 38 ∧ u.1 1900 = f 44 ∧ u.1 1905 = f 49 ∧ u.1 1906 = f 50) (fun u => xX K r u.1 u.2.1 u.2.2 tx) A below ([.ref (r 59), .ref (r 1)] : List Value).toArray s 0 0) (F0 m 220 ls []) := by
    intro n21
    induction n21 with
    | zero =>
      intro  G19  H locs ls y18 hmlp20 hI hG hE hk0 hk1 hk2 b22 hP hD hS hl
      exact (by have h1 := b22.2; have h2 := hmlp20; omega : False).elim
    | succ n21 ihlp20 =>
      intro  G19  H locs ls y18 hmlp20 hI hG hE hk0 hk1 hk2 b22 hP hD hS hl
      refine lv_iload_n hx hb dX7_copyFrom_220 rfl (lv_at hl 0 rfl) ?_
      refine lv_bipush (v := 6) hx hb dX7_copyFrom_221 (by decide) ?_
      refine lv_icmp_ge (tgt := 244) hx hb dX7_copyFrom_223 (by decide) (fun c23 => ?_) (fun c23 => ?_)
      · have h24 := (kc_le c23)
        have b25 : kb 6 y18 6 := kr_le2 h24 kc_6 b22
        refine lv_aload_n hx hb dX7_copyFrom_244 rfl (lv_at hl 1 rfl) ?_
        refine lv_aload_n hx hb dX7_copyFrom_245 rfl (lv_at hl 2 rfl) ?_
        refine va_get (D := D) (ci := 7) (v := .int (f_14 49)) (C := RX7) (T := TX7) (N := 20) hx hb hg inC7 hown hK hP 1 rfl rfl 17 (by decide) (hg _ wt1_149) (fun _ h9 => h9) rfl dX7_copyFrom_246 ?_
        refine k_top (z := s49) ((show f_14 49 = f_8 49 from by rw [← ef_14]; rfl).trans ((show f_8 49 = f_2 49 from by rw [← ef_8]; rfl).trans ((show f_2 49 = f 49 from by rw [← ef_2]; rfl).trans es49.symm))) ?_
        refine va_put (D := D) (ci := 7) (v := .int s49) (ty := .int) (C := RX7) (T := TX7) (N := 20) hx hb hg inC7 tyX7 tyX7_ok nmX7 hown hK hP hD hS 59 rfl rfl 17 (by decide) (hg _ wt1_149) (fun _ h9 => h9) rfl (by decide +kernel) rfl rfl (Nat.le_of_ble_eq_true rfl) dX7_copyFrom_249 (fun H locs hP hD hS => ?_)
        have hP : va_P D vwCl (xX K r (upd f_14 1905 s49) a_17 G19 tx) H := hP
        have hD : va_D A (xX K r (upd f_14 1905 s49) a_17 G19 tx) := hD
        refine k_gen (P := fun z => va_P D vwCl (xX K r z a_17 G19 tx) H ∧ va_D A (xX K r z a_17 G19 tx) ∧ (xI z a_17) ∧ (gOK K G19.2 tt) ∧ (xEk ([1888, 1894, 1900, 1905, 1906], [60, 61, 62, 63, 64, 65, 66, 67, 68, 69, 70, 71, 72], [73]) f a g z a_17 G19) ∧ (z 1888 = f 32) ∧ (z 1894 = f 38) ∧ (z 1900 = f 44)) (upd f_14 1905 s49) ⟨hP, hD, (xI_f hI (fI_st hI.1 1905 (kb_any _) (by decide) (by decide))), hG, (xEk_f hE rfl), ((pk_un (by decide)).trans hk0), ((pk_un (by decide)).trans hk1), ((pk_un (by decide)).trans hk2)⟩ (fun f_26 ef_26 hq => ?_)
        obtain ⟨hP, hD, hI, hG, hE, hk0, hk1, hk2⟩ := hq
        refine lv_aload_n hx hb dX7_copyFrom_252 rfl (lv_at hl 1 rfl) ?_
        refine lv_aload_n hx hb dX7_copyFrom_253 rfl (lv_at hl 2 rfl) ?_
        refine va_get (D := D) (ci := 7) (v := .int (f_26 50)) (C := RX7) (T := TX7) (N := 20) hx hb hg inC7 hown hK hP 1 rfl rfl 18 (by decide) (hg _ wt1_151) (fun _ h9 => h9) rfl dX7_copyFrom_254 ?_
        refine k_top (z := s50) ((show f_26 50 = f_14 50 from by rw [← ef_26]; rfl).trans ((show f_14 50 = f_8 50 from by rw [← ef_14]; rfl).trans ((show f_8 50 = f_2 50 from by rw [← ef_8]; rfl).trans ((show f_2 50 = f 50 from by rw [← ef_2]; rfl).trans es50.symm)))) ?_
        refine va_put (D := D) (ci := 7) (v := .int s50) (ty := .int) (C := RX7) (T := TX7) (N := 20) hx hb hg inC7 tyX7 tyX7_ok nmX7 hown hK hP hD hS 59 rfl rfl 18 (by decide) (hg _ wt1_151) (fun _ h9 => h9) rfl (by decide +kernel) rfl rfl (Nat.le_of_ble_eq_true rfl) dX7_copyFrom_257 (fun H locs hP hD hS => ?_)
        have hP : va_P D vwCl (xX K r (upd f_26 1906 s50) a_17 G19 tx) H := hP
        have hD : va_D A (xX K r (upd f_26 1906 s50) a_17 G19 tx) := hD
        refine k_gen (P := fun z => va_P D vwCl (xX K r z a_17 G19 tx) H ∧ va_D A (xX K r z a_17 G19 tx) ∧ (xI z a_17) ∧ (gOK K G19.2 tt) ∧ (xEk ([1888, 1894, 1900, 1905, 1906], [60, 61, 62, 63, 64, 65, 66, 67, 68, 69, 70, 71, 72], [73]) f a g z a_17 G19) ∧ (z 1888 = f 32) ∧ (z 1894 = f 38) ∧ (z 1900 = f 44)) (upd f_26 1906 s50) ⟨hP, hD, (xI_f hI (fI_st hI.1 1906 (kb_any _) (by decide) (by decide))), hG, (xEk_f hE rfl), ((pk_un (by decide)).trans hk0), ((pk_un (by decide)).trans hk1), ((pk_un (by decide)).trans hk2)⟩ (fun f_27 ef_27 hq => ?_)
        obtain ⟨hP, hD, hI, hG, hE, hk0, hk1, hk2⟩ := hq
        exact kV_ret hx hb hr hlocks hK hS dX7_copyFrom_260 (f_27, a_17, G19) hP hD ⟨hI, hG, hE, hk0, hk1, hk2, ((((show f_27 1905 = f_26 1905 from by rw [← ef_27]; rfl).trans (show f_26 1905 = s49 from by rw [← ef_26]; rfl))).trans es49), (((show f_27 1906 = s50 from by rw [← ef_27]; rfl)).trans es50)⟩
      · have h28 := (kc_nle c23)
        have b29 : kb 0 y18 5 := kr_lt1 h28 b22 kc_6 (by decide)
        refine lv_aload_n hx hb dX7_copyFrom_226 rfl (lv_at hl 1 rfl) ?_
        refine va_get (D := D) (ci := 7) (v := .ref (r 73)) (C := RX7) (T := TX7) (N := 20) hx hb hg inC7 hown hK hP 59 rfl rfl 16 (by decide) (hg _ wt1_147) (fun _ h9 => h9) rfl dX7_copyFrom_227 ?_
        refine lv_iload_n hx hb dX7_copyFrom_230 rfl (lv_at hl 0 rfl) ?_
        refine lv_aload_n hx hb dX7_copyFrom_231 rfl (lv_at hl 2 rfl) ?_
        refine va_get (D := D) (ci := 7) (v := .ref (r 15)) (C := RX7) (T := TX7) (N := 20) hx hb hg inC7 hown hK hP 1 rfl rfl 16 (by decide) (hg _ wt1_147) (fun _ h9 => h9) rfl dX7_copyFrom_232 ?_
        refine lv_iload_n hx hb dX7_copyFrom_235 rfl (lv_at hl 0 rfl) ?_
        refine va_aldq hx hb hK hP 15 5 rfl rfl (kb_in b29 (by decide) (by decide)) dX7_copyFrom_236 ?_
        rcases hG 15 (y18.toNatClampNeg) (by decide) with hn31 | hn31
        · refine k_topn hn31 ?_
          refine va_astqN hx hb hK hP hD hS 73 5 rfl rfl (kb_in b29 (by decide) (by decide)) dX7_copyFrom_237 (fun H locs hP hD hS => ?_)
          have hP : va_P D vwCl (xX K r f_14 a_17 (G19.1, va_up G19.2 73 (va_up (G19.2 73) y18.toNatClampNeg none)) tx) H := hP
          have hD : va_D A (xX K r f_14 a_17 (G19.1, va_up G19.2 73 (va_up (G19.2 73) y18.toNatClampNeg none)) tx) := hD
          refine k_gen (P := fun z => va_P D vwCl (xX K r f_14 a_17 z tx) H ∧ va_D A (xX K r f_14 a_17 z tx) ∧ (xI f_14 a_17) ∧ (gOK K z.2 tt) ∧ (xEk ([1888, 1894, 1900, 1905, 1906], [60, 61, 62, 63, 64, 65, 66, 67, 68, 69, 70, 71, 72], [73]) f a g f_14 a_17 z) ∧ (f_14 1888 = f 32) ∧ (f_14 1894 = f 38) ∧ (f_14 1900 = f 44)) ((G19.1, va_up G19.2 73 (va_up (G19.2 73) y18.toNatClampNeg none))) ⟨hP, hD, hI, (gOK_n hG _ _ _ (Or.inl rfl)), (xEk_q hE rfl), hk0, hk1, hk2⟩ (fun g_32 eg_32 hq => ?_)
          obtain ⟨hP, hD, hI, hG, hE, hk0, hk1, hk2⟩ := hq
          obtain ⟨t33, et33⟩ : ∃ z : Int32, z = y18 + Int32.ofInt 1 := ⟨_, rfl⟩
          have qt33 : t33.toInt = y18.toInt + 1 := by rw [et33]; exact km_inc b29 (by decide) (by decide)
          have b34 : kb 1 t33 6 := kb_inc (k := 1) qt33 b29
          refine lv_iinc (v := t33) (lv' := [(2, .int t33), (0, .ref (r 59)), (1, .ref (r 1))]) hx hb dX7_copyFrom_238 hl (k := 0) rfl et33.symm (by decide) rfl (fun ls hl => ?_)
          refine lv_goto (tgt := 220) hx hb dX7_copyFrom_241 (by decide) ?_
          exact ihlp20  g_32 _ _ _ t33 (km_up hmlp20 qt33) hI hG hE hk0 hk1 hk2 (kb_w b34 (by decide) (by decide)) hP hD hS (lv_sub hl [0, 1, 2] rfl)
        · obtain ⟨t30, ht30, hn31⟩ := hn31
          refine k_tops hn31 ?_
          obtain ⟨jt30_0, hjt30_0⟩ := tIn_at (tIn_w hT ht30) (k := 0) rfl
          obtain ⟨jt30_1, hjt30_1⟩ := tIn_at (tIn_w hT ht30) (k := 1) rfl
          obtain ⟨jt30_2, hjt30_2⟩ := tIn_at (tIn_w hT ht30) (k := 2) rfl
          obtain ⟨jt30_3, hjt30_3⟩ := tIn_at (tIn_w hT ht30) (k := 3) rfl
          obtain ⟨jt30_4, hjt30_4⟩ := tIn_at (tIn_w hT ht30) (k := 4) rfl
          have hnt30 : (nI t30.2.2.2).toInt = (t30.2.2.2 : Int) := kn_to (by have w1 := ht30.1; omega)
          refine va_astq hx hb hK hP hD hS 73 5 (jt30_0 + 95) 10 rfl rfl hjt30_0 rfl (kb_in b29 (by decide) (by decide)) dX7_copyFrom_237 (fun H locs hP hD hS => ?_)
          have hP : va_P D vwCl (xX K r f_14 a_17 (G19.1, va_up G19.2 73 (va_up (G19.2 73) y18.toNatClampNeg (some (t30.1 0)))) tx) H := hP
          have hD : va_D A (xX K r f_14 a_17 (G19.1, va_up G19.2 73 (va_up (G19.2 73) y18.toNatClampNeg (some (t30.1 0)))) tx) := hD
          refine k_gen (P := fun z => va_P D vwCl (xX K r f_14 a_17 z tx) H ∧ va_D A (xX K r f_14 a_17 z tx) ∧ (xI f_14 a_17) ∧ (gOK K z.2 tt) ∧ (xEk ([1888, 1894, 1900, 1905, 1906], [60, 61, 62, 63, 64, 65, 66, 67, 68, 69, 70, 71, 72], [73]) f a g f_14 a_17 z) ∧ (f_14 1888 = f 32) ∧ (f_14 1894 = f 38) ∧ (f_14 1900 = f 44)) ((G19.1, va_up G19.2 73 (va_up (G19.2 73) y18.toNatClampNeg (some (t30.1 0))))) ⟨hP, hD, hI, (gOK_n hG _ _ _ (Or.inr ⟨_, ht30, rfl⟩)), (xEk_q hE rfl), hk0, hk1, hk2⟩ (fun g_35 eg_35 hq => ?_)
          obtain ⟨hP, hD, hI, hG, hE, hk0, hk1, hk2⟩ := hq
          obtain ⟨t36, et36⟩ : ∃ z : Int32, z = y18 + Int32.ofInt 1 := ⟨_, rfl⟩
          have qt36 : t36.toInt = y18.toInt + 1 := by rw [et36]; exact km_inc b29 (by decide) (by decide)
          have b37 : kb 1 t36 6 := kb_inc (k := 1) qt36 b29
          refine lv_iinc (v := t36) (lv' := [(2, .int t36), (0, .ref (r 59)), (1, .ref (r 1))]) hx hb dX7_copyFrom_238 hl (k := 0) rfl et36.symm (by decide) rfl (fun ls hl => ?_)
          refine lv_goto (tgt := 220) hx hb dX7_copyFrom_241 (by decide) ?_
          exact ihlp20  g_35 _ _ _ t36 (km_up hmlp20 qt36) hI hG hE hk0 hk1 hk2 (kb_w b37 (by decide) (by decide)) hP hD hS (lv_sub hl [0, 1, 2] rfl)
  exact lp20 (7)  g _ _ _ 0 (by have h1 := (kc_0); unfold kb at h1; omega) hI hG hE hk0 hk1 hk2 (kb_w kc_0 (by decide) (by decide)) hP hD hS (lv_sub hl [0, 1, 2] rfl)