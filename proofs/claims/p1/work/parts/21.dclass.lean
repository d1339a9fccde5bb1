theorem dX0_sendBuilder_0 : decode cX0_sendBuilder 0 = .ok (.aload_n 0, 1) := by decide +kernel
theorem dX0_sendBuilder_1 : decode cX0_sendBuilder 1 = .ok (.getfield 9, 3) := by decide +kernel
theorem dX0_sendBuilder_4 : decode cX0_sendBuilder 4 = .ok (.iload_n 1, 1) := by decide +kernel
theorem dX0_sendBuilder_5 : decode cX0_sendBuilder 5 = .ok (.invokevirtual 19, 3) := by decide +kernel
theorem dX0_sendBuilder_8 : decode cX0_sendBuilder 8 = .ok (.ifCond .eq 14, 3) := by decide +kernel
theorem dX0_sendBuilder_22 : decode cX0_sendBuilder 22 = .ok (.bipush (-2), 2) := by decide +kernel
theorem dX0_sendBuilder_24 : decode cX0_sendBuilder 24 = .ok (.ireturn, 1) := by decide +kernel
theorem dX0_restBuilder_0 : decode cX0_restBuilder 0 = .ok (.aload_n 0, 1) := by decide +kernel
theorem dX0_restBuilder_1 : decode cX0_restBuilder 1 = .ok (.getfield 9, 3) := by decide +kernel
theorem dX0_restBuilder_4 : decode cX0_restBuilder 4 = .ok (.iload_n 1, 1) := by decide +kernel
theorem dX0_restBuilder_5 : decode cX0_restBuilder 5 = .ok (.invokevirtual 19, 3) := by decide +kernel
theorem dX0_restBuilder_8 : decode cX0_restBuilder 8 = .ok (.ifCond .ne 6, 3) := by decide +kernel
theorem dX0_restBuilder_11 : decode cX0_restBuilder 11 = .ok (.bipush (-2), 2) := by decide +kernel
theorem dX0_restBuilder_13 : decode cX0_restBuilder 13 = .ok (.ireturn, 1) := by decide +kernel
theorem dX0_razePart_0 : decode cX0_razePart 0 = .ok (.aload_n 0, 1) := by decide +kernel
theorem dX0_razePart_1 : decode cX0_razePart 1 = .ok (.getfield 9, 3) := by decide +kernel
theorem dX0_razePart_4 : decode cX0_razePart 4 = .ok (.iload_n 1, 1) := by decide +kernel
theorem dX0_razePart_5 : decode cX0_razePart 5 = .ok (.invokevirtual 25, 3) := by decide +kernel
theorem dX0_razePart_8 : decode cX0_razePart 8 = .ok (.ifCond .ne 6, 3) := by decide +kernel
theorem dX0_razePart_11 : decode cX0_razePart 11 = .ok (.bipush (-2), 2) := by decide +kernel
theorem dX0_razePart_13 : decode cX0_razePart 13 = .ok (.ireturn, 1) := by decide +kernel
theorem dX0_passTick_0 : decode cX0_passTick 0 = .ok (.aload_n 0, 1) := by decide +kernel
theorem dX0_passTick_1 : decode cX0_passTick 1 = .ok (.getfield 9, 3) := by decide +kernel
theorem dX0_passTick_4 : decode cX0_passTick 4 = .ok (.getfield 55, 3) := by decide +kernel
theorem dX0_passTick_7 : decode cX0_passTick 7 = .ok (.iconst 0, 1) := by decide +kernel
theorem dX0_passTick_8 : decode cX0_passTick 8 = .ok (.iaload, 1) := by decide +kernel
theorem dX0_passTick_9 : decode cX0_passTick 9 = .ok (.sipush 999, 3) := by decide +kernel
theorem dX0_passTick_12 : decode cX0_passTick 12 = .ok (.if_icmp .lt 6, 3) := by decide +kernel
theorem dX0_passTick_18 : decode cX0_passTick 18 = .ok (.aload_n 0, 1) := by decide +kernel
theorem dX0_passTick_19 : decode cX0_passTick 19 = .ok (.getfield 15, 3) := by decide +kernel
theorem dX0_passTick_22 : decode cX0_passTick 22 = .ok (.iconst 3, 1) := by decide +kernel
theorem dX0_passTick_23 : decode cX0_passTick 23 = .ok (.aload_n 0, 1) := by decide +kernel
theorem dX0_passTick_24 : decode cX0_passTick 24 = .ok (.getfield 9, 3) := by decide +kernel
theorem dX0_passTick_27 : decode cX0_passTick 27 = .ok (.invokevirtual 36, 3) := by decide +kernel
theorem dX0_passTick_30 : decode cX0_passTick 30 = .ok (.aload_n 0, 1) := by decide +kernel
theorem dX0_passTick_31 : decode cX0_passTick 31 = .ok (.getfield 9, 3) := by decide +kernel
theorem dX0_passTick_34 : decode cX0_passTick 34 = .ok (.invokevirtual 58, 3) := by decide +kernel
theorem dX0_passTick_37 : decode cX0_passTick 37 = .ok (.ireturn, 1) := by decide +kernel
theorem dX1_drawNights_0 : decode cX1_drawNights 0 = .ok (.aload_n 0, 1) := by decide +kernel
theorem dX1_drawNights_1 : decode cX1_drawNights 1 = .ok (.getfield 25, 3) := by decide +kernel
theorem dX1_drawNights_4 : decode cX1_drawNights 4 = .ok (.getfield 29, 3) := by decide +kernel
theorem dX1_drawNights_7 : decode cX1_drawNights 7 = .ok (.astore_n 3, 1) := by decide +kernel
theorem dX1_drawNights_8 : decode cX1_drawNights 8 = .ok (.iload_n 1, 1) := by decide +kernel
theorem dX1_drawNights_9 : decode cX1_drawNights 9 = .ok (.istore 4, 2) := by decide +kernel
theorem dX1_drawNights_11 : decode cX1_drawNights 11 = .ok (.iconst 0, 1) := by decide +kernel
theorem dX1_drawNights_12 : decode cX1_drawNights 12 = .ok (.istore 5, 2) := by decide +kernel
theorem dX1_drawNights_14 : decode cX1_drawNights 14 = .ok (.iconst 0, 1) := by decide +kernel
theorem dX1_drawNights_15 : decode cX1_drawNights 15 = .ok (.istore 6, 2) := by decide +kernel
theorem dX1_drawNights_17 : decode cX1_drawNights 17 = .ok (.iload 6, 2) := by decide +kernel
theorem dX1_drawNights_19 : decode cX1_drawNights 19 = .ok (.iload_n 2, 1) := by decide +kernel
theorem dX1_drawNights_20 : decode cX1_drawNights 20 = .ok (.if_icmp .ge 105, 3) := by decide +kernel
theorem dX1_drawNights_23 : decode cX1_drawNights 23 = .ok (.aload_n 0, 1) := by decide +kernel
theorem dX1_drawNights_24 : decode cX1_drawNights 24 = .ok (.getfield 25, 3) := by decide +kernel
theorem dX1_drawNights_27 : decode cX1_drawNights 27 = .ok (.invokevirtual 35, 3) := by decide +kernel
theorem dX1_drawNights_30 : decode cX1_drawNights 30 = .ok (.iconst 0, 1) := by decide +kernel
theorem dX1_drawNights_31 : decode cX1_drawNights 31 = .ok (.istore 7, 2) := by decide +kernel
theorem dX1_drawNights_33 : decode cX1_drawNights 33 = .ok (.iload 7, 2) := by decide +kernel
theorem dX1_drawNights_35 : decode cX1_drawNights 35 = .ok (.aload_n 3, 1) := by decide +kernel
theorem dX1_drawNights_36 : decode cX1_drawNights 36 = .ok (.getfield 38, 3) := by decide +kernel
theorem dX1_drawNights_39 : decode cX1_drawNights 39 = .ok (.iconst 1, 1) := by decide +kernel
theorem dX1_drawNights_40 : decode cX1_drawNights 40 = .ok (.iaload, 1) := by decide +kernel
theorem dX1_drawNights_41 : decode cX1_drawNights 41 = .ok (.if_icmp .ge 65, 3) := by decide +kernel
theorem dX1_drawNights_44 : decode cX1_drawNights 44 = .ok (.aload_n 0, 1) := by decide +kernel
theorem dX1_drawNights_45 : decode cX1_drawNights 45 = .ok (.getfield 25, 3) := by decide +kernel
theorem dX1_drawNights_48 : decode cX1_drawNights 48 = .ok (.bipush 63, 2) := by decide +kernel
theorem dX1_drawNights_50 : decode cX1_drawNights 50 = .ok (.invokevirtual 43, 3) := by decide +kernel
theorem dX1_drawNights_53 : decode cX1_drawNights 53 = .ok (.iload 4, 2) := by decide +kernel
theorem dX1_drawNights_55 : decode cX1_drawNights 55 = .ok (.sipush 1103, 3) := by decide +kernel
theorem dX1_drawNights_58 : decode cX1_drawNights 58 = .ok (.imul, 1) := by decide +kernel
theorem dX1_drawNights_59 : decode cX1_drawNights 59 = .ok (.sipush 12345, 3) := by decide +kernel
theorem dX1_drawNights_62 : decode cX1_drawNights 62 = .ok (.iadd, 1) := by decide +kernel
theorem dX1_drawNights_63 : decode cX1_drawNights 63 = .ok (.ldc 47, 2) := by decide +kernel
theorem dX1_drawNights_65 : decode cX1_drawNights 65 = .ok (.irem, 1) := by decide +kernel
theorem dX1_drawNights_66 : decode cX1_drawNights 66 = .ok (.istore 4, 2) := by decide +kernel
theorem dX1_drawNights_68 : decode cX1_drawNights 68 = .ok (.iload 4, 2) := by decide +kernel
theorem dX1_drawNights_70 : decode cX1_drawNights 70 = .ok (.bipush 10, 2) := by decide +kernel
theorem dX1_drawNights_72 : decode cX1_drawNights 72 = .ok (.irem, 1) := by decide +kernel
theorem dX1_drawNights_73 : decode cX1_drawNights 73 = .ok (.aload_n 3, 1) := by decide +kernel
theorem dX1_drawNights_74 : decode cX1_drawNights 74 = .ok (.getfield 38, 3) := by decide +kernel
theorem dX1_drawNights_77 : decode cX1_drawNights 77 = .ok (.iconst 2, 1) := by decide +kernel
theorem dX1_drawNights_78 : decode cX1_drawNights 78 = .ok (.iaload, 1) := by decide +kernel
theorem dX1_drawNights_79 : decode cX1_drawNights 79 = .ok (.if_icmp .ge 16, 3) := by decide +kernel
theorem dX1_drawNights_82 : decode cX1_drawNights 82 = .ok (.aload_n 3, 1) := by decide +kernel
theorem dX1_drawNights_83 : decode cX1_drawNights 83 = .ok (.getfield 38, 3) := by decide +kernel
theorem dX1_drawNights_86 : decode cX1_drawNights 86 = .ok (.iconst 0, 1) := by decide +kernel
theorem dX1_drawNights_87 : decode cX1_drawNights 87 = .ok (.dup2, 1) := by decide +kernel
theorem dX1_drawNights_88 : decode cX1_drawNights 88 = .ok (.iaload, 1) := by decide +kernel
theorem dX1_drawNights_89 : decode cX1_drawNights 89 = .ok (.iconst 1, 1) := by decide +kernel
theorem dX1_drawNights_90 : decode cX1_drawNights 90 = .ok (.iadd, 1) := by decide +kernel
theorem dX1_drawNights_91 : decode cX1_drawNights 91 = .ok (.iastore, 1) := by decide +kernel
theorem dX1_drawNights_92 : decode cX1_drawNights 92 = .ok (.goto 8, 3) := by decide +kernel
theorem dX1_drawNights_95 : decode cX1_drawNights 95 = .ok (.aload_n 3, 1) := by decide +kernel
theorem dX1_drawNights_96 : decode cX1_drawNights 96 = .ok (.invokevirtual 48, 3) := by decide +kernel
theorem dX1_drawNights_99 : decode cX1_drawNights 99 = .ok (.pop, 1) := by decide +kernel
theorem dX1_drawNights_100 : decode cX1_drawNights 100 = .ok (.iinc 7 1, 3) := by decide +kernel
theorem dX1_drawNights_103 : decode cX1_drawNights 103 = .ok (.goto (-70), 3) := by decide +kernel
theorem dX1_drawNights_106 : decode cX1_drawNights 106 = .ok (.aload_n 0, 1) := by decide +kernel
theorem dX1_drawNights_107 : decode cX1_drawNights 107 = .ok (.getfield 25, 3) := by decide +kernel
theorem dX1_drawNights_110 : decode cX1_drawNights 110 = .ok (.invokevirtual 52, 3) := by decide +kernel
theorem dX1_drawNights_113 : decode cX1_drawNights 113 = .ok (.ifCond .eq 6, 3) := by decide +kernel
theorem dX1_drawNights_116 : decode cX1_drawNights 116 = .ok (.iinc 5 1, 3) := by decide +kernel
theorem dX1_drawNights_119 : decode cX1_drawNights 119 = .ok (.iinc 6 1, 3) := by decide +kernel
theorem dX1_drawNights_122 : decode cX1_drawNights 122 = .ok (.goto (-105), 3) := by decide +kernel
theorem dX1_drawNights_125 : decode cX1_drawNights 125 = .ok (.aload_n 0, 1) := by decide +kernel
theorem dX1_drawNights_126 : decode cX1_drawNights 126 = .ok (.aload_n 3, 1) := by decide +kernel
theorem dX1_drawNights_127 : decode cX1_drawNights 127 = .ok (.getfield 56, 3) := by decide +kernel
theorem dX1_drawNights_130 : decode cX1_drawNights 130 = .ok (.putfield 9, 3) := by decide +kernel
theorem dX1_drawNights_133 : decode cX1_drawNights 133 = .ok (.aload_n 0, 1) := by decide +kernel
theorem dX1_drawNights_134 : decode cX1_drawNights 134 = .ok (.aload_n 3, 1) := by decide +kernel
theorem dX1_drawNights_135 : decode cX1_drawNights 135 = .ok (.getfield 57, 3) := by decide +kernel
theorem dX1_drawNights_138 : decode cX1_drawNights 138 = .ok (.putfield 15, 3) := by decide +kernel
theorem dX1_drawNights_141 : decode cX1_drawNights 141 = .ok (.aload_n 3, 1) := by decide +kernel
theorem dX1_drawNights_142 : decode cX1_drawNights 142 = .ok (.getfield 58, 3) := by decide +kernel
theorem dX1_drawNights_145 : decode cX1_drawNights 145 = .ok (.iconst 0, 1) := by decide +kernel
theorem dX1_drawNights_146 : decode cX1_drawNights 146 = .ok (.aload_n 0, 1) := by decide +kernel
theorem dX1_drawNights_147 : decode cX1_drawNights 147 = .ok (.getfield 18, 3) := by decide +kernel
theorem dX1_drawNights_150 : decode cX1_drawNights 150 = .ok (.iconst 0, 1) := by decide +kernel
theorem dX1_drawNights_151 : decode cX1_drawNights 151 = .ok (.bipush 10, 2) := by decide +kernel
theorem dX1_drawNights_153 : decode cX1_drawNights 153 = .ok (.invokestatic 59, 3) := by decide +kernel
theorem dX1_drawNights_156 : decode cX1_drawNights 156 = .ok (.aload_n 3, 1) := by decide +kernel
theorem dX1_drawNights_157 : decode cX1_drawNights 157 = .ok (.getfield 65, 3) := by decide +kernel
theorem dX1_drawNights_160 : decode cX1_drawNights 160 = .ok (.iconst 0, 1) := by decide +kernel
theorem dX1_drawNights_161 : decode cX1_drawNights 161 = .ok (.aload_n 0, 1) := by decide +kernel
theorem dX1_drawNights_162 : decode cX1_drawNights 162 = .ok (.getfield 22, 3) := by decide +kernel
theorem dX1_drawNights_165 : decode cX1_drawNights 165 = .ok (.iconst 0, 1) := by decide +kernel
theorem dX1_drawNights_166 : decode cX1_drawNights 166 = .ok (.bipush 6, 2) := by decide +kernel
theorem dX1_drawNights_168 : decode cX1_drawNights 168 = .ok (.invokestatic 59, 3) := by decide +kernel
theorem dX1_drawNights_171 : decode cX1_drawNights 171 = .ok (.iload 5, 2) := by decide +kernel
theorem dX1_drawNights_173 : decode cX1_drawNights 173 = .ok (.ireturn, 1) := by decide +kernel
theorem dX1_endOf_0 : decode cX1_endOf 0 = .ok (.iload_n 2, 1) := by decide +kernel
theorem dX1_endOf_1 : decode cX1_endOf 1 = .ok (.ifCond .ne 28, 3) := by decide +kernel
theorem dX1_endOf_4 : decode cX1_endOf 4 = .ok (.iload_n 1, 1) := by decide +kernel
theorem dX1_endOf_5 : decode cX1_endOf 5 = .ok (.ifCond .lt 24, 3) := by decide +kernel
theorem dX1_endOf_8 : decode cX1_endOf 8 = .ok (.iload_n 1, 1) := by decide +kernel
theorem dX1_endOf_9 : decode cX1_endOf 9 = .ok (.aload_n 0, 1) := by decide +kernel
theorem dX1_endOf_10 : decode cX1_endOf 10 = .ok (.getfield 9, 3) := by decide +kernel
theorem dX1_endOf_13 : decode cX1_endOf 13 = .ok (.if_icmp .ge 16, 3) := by decide +kernel
theorem dX1_endOf_29 : decode cX1_endOf 29 = .ok (.iload_n 2, 1) := by decide +kernel
theorem dX1_endOf_30 : decode cX1_endOf 30 = .ok (.iconst 1, 1) := by decide +kernel
theorem dX1_endOf_31 : decode cX1_endOf 31 = .ok (.if_icmp .ne 30, 3) := by decide +kernel
theorem dX1_endOf_34 : decode cX1_endOf 34 = .ok (.iload_n 1, 1) := by decide +kernel
theorem dX1_endOf_35 : decode cX1_endOf 35 = .ok (.ifCond .lt 26, 3) := by decide +kernel
theorem dX1_endOf_38 : decode cX1_endOf 38 = .ok (.iload_n 1, 1) := by decide +kernel
theorem dX1_endOf_39 : decode cX1_endOf 39 = .ok (.aload_n 0, 1) := by decide +kernel
theorem dX1_endOf_40 : decode cX1_endOf 40 = .ok (.getfield 15, 3) := by decide +kernel
theorem dX1_endOf_43 : decode cX1_endOf 43 = .ok (.if_icmp .ge 18, 3) := by decide +kernel
theorem dX1_endOf_61 : decode cX1_endOf 61 = .ok (.iconst (-1), 1) := by decide +kernel
theorem dX1_endOf_62 : decode cX1_endOf 62 = .ok (.ireturn, 1) := by decide +kernel
theorem dX2_clear_0 : decode cX2_clear 0 = .ok (.aload_n 0, 1) := by decide +kernel
theorem dX2_clear_1 : decode cX2_clear 1 = .ok (.iconst 0, 1) := by decide +kernel
theorem dX2_clear_2 : decode cX2_clear 2 = .ok (.putfield 11, 3) := by decide +kernel
theorem dX2_clear_5 : decode cX2_clear 5 = .ok (.aload_n 0, 1) := by decide +kernel
theorem dX2_clear_6 : decode cX2_clear 6 = .ok (.iconst 0, 1) := by decide +kernel
theorem dX2_clear_7 : decode cX2_clear 7 = .ok (.putfield 15, 3) := by decide +kernel
theorem dX2_clear_10 : decode cX2_clear 10 = .ok (.return_, 1) := by decide +kernel
theorem dX2_keep_0 : decode cX2_keep 0 = .ok (.aload_n 0, 1) := by decide +kernel
theorem dX2_keep_1 : decode cX2_keep 1 = .ok (.getfield 15, 3) := by decide +kernel
theorem dX2_keep_4 : decode cX2_keep 4 = .ok (.ifCond .lt 12, 3) := by decide +kernel
theorem dX2_keep_7 : decode cX2_keep 7 = .ok (.aload_n 0, 1) := by decide +kernel
theorem dX2_keep_8 : decode cX2_keep 8 = .ok (.getfield 15, 3) := by decide +kernel
theorem dX2_keep_11 : decode cX2_keep 11 = .ok (.bipush 16, 2) := by decide +kernel
theorem dX2_keep_13 : decode cX2_keep 13 = .ok (.if_icmp .lt 4, 3) := by decide +kernel
theorem dX2_keep_17 : decode cX2_keep 17 = .ok (.aload_n 0, 1) := by decide +kernel
theorem dX2_keep_18 : decode cX2_keep 18 = .ok (.getfield 15, 3) := by decide +kernel
theorem dX2_keep_21 : decode cX2_keep 21 = .ok (.bipush 24, 2) := by decide +kernel
theorem dX2_keep_23 : decode cX2_keep 23 = .ok (.imul, 1) := by decide +kernel
theorem dX2_keep_24 : decode cX2_keep 24 = .ok (.istore_n 3, 1) := by decide +kernel
theorem dX2_keep_25 : decode cX2_keep 25 = .ok (.aload_n 0, 1) := by decide +kernel
theorem dX2_keep_26 : decode cX2_keep 26 = .ok (.getfield 18, 3) := by decide +kernel
theorem dX2_keep_29 : decode cX2_keep 29 = .ok (.iload_n 3, 1) := by decide +kernel
theorem dX2_keep_30 : decode cX2_keep 30 = .ok (.iload_n 1, 1) := by decide +kernel
theorem dX2_keep_31 : decode cX2_keep 31 = .ok (.iastore, 1) := by decide +kernel
theorem dX2_keep_32 : decode cX2_keep 32 = .ok (.aload_n 0, 1) := by decide +kernel
theorem dX2_keep_33 : decode cX2_keep 33 = .ok (.getfield 18, 3) := by decide +kernel
theorem dX2_keep_36 : decode cX2_keep 36 = .ok (.iload_n 3, 1) := by decide +kernel
theorem dX2_keep_37 : decode cX2_keep 37 = .ok (.iconst 1, 1) := by decide +kernel
theorem dX2_keep_38 : decode cX2_keep 38 = .ok (.iadd, 1) := by decide +kernel
theorem dX2_keep_39 : decode cX2_keep 39 = .ok (.aload_n 2, 1) := by decide +kernel
theorem dX2_keep_40 : decode cX2_keep 40 = .ok (.getfield 28, 3) := by decide +kernel
theorem dX2_keep_43 : decode cX2_keep 43 = .ok (.iconst 0, 1) := by decide +kernel
theorem dX2_keep_44 : decode cX2_keep 44 = .ok (.iaload, 1) := by decide +kernel
theorem dX2_keep_45 : decode cX2_keep 45 = .ok (.iastore, 1) := by decide +kernel
theorem dX2_keep_46 : decode cX2_keep 46 = .ok (.aload_n 2, 1) := by decide +kernel
theorem dX2_keep_47 : decode cX2_keep 47 = .ok (.getfield 33, 3) := by decide +kernel
theorem dX2_keep_50 : decode cX2_keep 50 = .ok (.iconst 0, 1) := by decide +kernel
theorem dX2_keep_51 : decode cX2_keep 51 = .ok (.aload_n 0, 1) := by decide +kernel
theorem dX2_keep_52 : decode cX2_keep 52 = .ok (.getfield 18, 3) := by decide +kernel
theorem dX2_keep_55 : decode cX2_keep 55 = .ok (.iload_n 3, 1) := by decide +kernel
theorem dX2_keep_56 : decode cX2_keep 56 = .ok (.iconst 2, 1) := by decide +kernel
theorem dX2_keep_57 : decode cX2_keep 57 = .ok (.iadd, 1) := by decide +kernel
theorem dX2_keep_58 : decode cX2_keep 58 = .ok (.bipush 10, 2) := by decide +kernel
theorem dX2_keep_60 : decode cX2_keep 60 = .ok (.invokestatic 22, 3) := by decide +kernel
theorem dX2_keep_63 : decode cX2_keep 63 = .ok (.aload_n 2, 1) := by decide +kernel
theorem dX2_keep_64 : decode cX2_keep 64 = .ok (.getfield 36, 3) := by decide +kernel
theorem dX2_keep_67 : decode cX2_keep 67 = .ok (.iconst 0, 1) := by decide +kernel
theorem dX2_keep_68 : decode cX2_keep 68 = .ok (.aload_n 0, 1) := by decide +kernel
theorem dX2_keep_69 : decode cX2_keep 69 = .ok (.getfield 18, 3) := by decide +kernel
theorem dX2_keep_72 : decode cX2_keep 72 = .ok (.iload_n 3, 1) := by decide +kernel
theorem dX2_keep_73 : decode cX2_keep 73 = .ok (.bipush 12, 2) := by decide +kernel
theorem dX2_keep_75 : decode cX2_keep 75 = .ok (.iadd, 1) := by decide +kernel
theorem dX2_keep_76 : decode cX2_keep 76 = .ok (.bipush 6, 2) := by decide +kernel
theorem dX2_keep_78 : decode cX2_keep 78 = .ok (.invokestatic 22, 3) := by decide +kernel
theorem dX2_keep_81 : decode cX2_keep 81 = .ok (.aload_n 2, 1) := by decide +kernel
theorem dX2_keep_82 : decode cX2_keep 82 = .ok (.getfield 39, 3) := by decide +kernel
theorem dX2_keep_85 : decode cX2_keep 85 = .ok (.iconst 0, 1) := by decide +kernel
theorem dX2_keep_86 : decode cX2_keep 86 = .ok (.aload_n 0, 1) := by decide +kernel
theorem dX2_keep_87 : decode cX2_keep 87 = .ok (.getfield 18, 3) := by decide +kernel
theorem dX2_keep_90 : decode cX2_keep 90 = .ok (.iload_n 3, 1) := by decide +kernel
theorem dX2_keep_91 : decode cX2_keep 91 = .ok (.bipush 18, 2) := by decide +kernel
theorem dX2_keep_93 : decode cX2_keep 93 = .ok (.iadd, 1) := by decide +kernel
theorem dX2_keep_94 : decode cX2_keep 94 = .ok (.bipush 6, 2) := by decide +kernel
theorem dX2_keep_96 : decode cX2_keep 96 = .ok (.invokestatic 22, 3) := by decide +kernel
theorem dX2_keep_99 : decode cX2_keep 99 = .ok (.aload_n 0, 1) := by decide +kernel
theorem dX2_keep_100 : decode cX2_keep 100 = .ok (.aload_n 0, 1) := by decide +kernel
theorem dX2_keep_101 : decode cX2_keep 101 = .ok (.getfield 15, 3) := by decide +kernel
theorem dX2_keep_104 : decode cX2_keep 104 = .ok (.iconst 1, 1) := by decide +kernel
theorem dX2_keep_105 : decode cX2_keep 105 = .ok (.iadd, 1) := by decide +kernel
theorem dX2_keep_106 : decode cX2_keep 106 = .ok (.bipush 16, 2) := by decide +kernel
theorem dX2_keep_108 : decode cX2_keep 108 = .ok (.irem, 1) := by decide +kernel
theorem dX2_keep_109 : decode cX2_keep 109 = .ok (.putfield 15, 3) := by decide +kernel
theorem dX2_keep_112 : decode cX2_keep 112 = .ok (.aload_n 0, 1) := by decide +kernel
theorem dX2_keep_113 : decode cX2_keep 113 = .ok (.bipush 16, 2) := by decide +kernel
theorem dX2_keep_115 : decode cX2_keep 115 = .ok (.aload_n 0, 1) := by decide +kernel
theorem dX2_keep_116 : decode cX2_keep 116 = .ok (.getfield 11, 3) := by decide +kernel
theorem dX2_keep_119 : decode cX2_keep 119 = .ok (.iconst 1, 1) := by decide +kernel
theorem dX2_keep_120 : decode cX2_keep 120 = .ok (.iadd, 1) := by decide +kernel
theorem dX2_keep_121 : decode cX2_keep 121 = .ok (.invokestatic 42, 3) := by decide +kernel
theorem dX2_keep_124 : decode cX2_keep 124 = .ok (.putfield 11, 3) := by decide +kernel
theorem dX2_keep_127 : decode cX2_keep 127 = .ok (.return_, 1) := by decide +kernel
theorem dX2_restoreLatest_0 : decode cX2_restoreLatest 0 = .ok (.aload_n 0, 1) := by decide +kernel
theorem dX2_restoreLatest_1 : decode cX2_restoreLatest 1 = .ok (.getfield 11, 3) := by decide +kernel
theorem dX2_restoreLatest_4 : decode cX2_restoreLatest 4 = .ok (.ifCond .gt 6, 3) := by decide +kernel
theorem dX2_restoreLatest_7 : decode cX2_restoreLatest 7 = .ok (.bipush (-3), 2) := by decide +kernel
theorem dX2_restoreLatest_9 : decode cX2_restoreLatest 9 = .ok (.ireturn, 1) := by decide +kernel
theorem dX3_begin_0 : decode cX3_begin 0 = .ok (.aload_n 0, 1) := by decide +kernel
theorem dX3_begin_1 : decode cX3_begin 1 = .ok (.getfield 12, 3) := by decide +kernel
theorem dX3_begin_4 : decode cX3_begin 4 = .ok (.aload_n 0, 1) := by decide +kernel
theorem dX3_begin_5 : decode cX3_begin 5 = .ok (.getfield 25, 3) := by decide +kernel
theorem dX3_begin_8 : decode cX3_begin 8 = .ok (.invokevirtual 28, 3) := by decide +kernel
theorem dX3_begin_11 : decode cX3_begin 11 = .ok (.aload_n 0, 1) := by decide +kernel
theorem dX3_begin_12 : decode cX3_begin 12 = .ok (.getfield 12, 3) := by decide +kernel
theorem dX3_begin_15 : decode cX3_begin 15 = .ok (.getfield 32, 3) := by decide +kernel
theorem dX3_begin_18 : decode cX3_begin 18 = .ok (.iconst (-1), 1) := by decide +kernel
theorem dX3_begin_19 : decode cX3_begin 19 = .ok (.invokestatic 36, 3) := by decide +kernel
theorem dX3_begin_22 : decode cX3_begin 22 = .ok (.aload_n 0, 1) := by decide +kernel
theorem dX3_begin_23 : decode cX3_begin 23 = .ok (.getfield 12, 3) := by decide +kernel
theorem dX3_begin_26 : decode cX3_begin 26 = .ok (.aload_n 0, 1) := by decide +kernel
theorem dX3_begin_27 : decode cX3_begin 27 = .ok (.getfield 18, 3) := by decide +kernel
theorem dX3_begin_30 : decode cX3_begin 30 = .ok (.invokevirtual 42, 3) := by decide +kernel
theorem dX3_begin_33 : decode cX3_begin 33 = .ok (.ifCond .eq 22, 3) := by decide +kernel
theorem dX3_begin_55 : decode cX3_begin 55 = .ok (.return_, 1) := by decide +kernel
theorem dX3_run_0 : decode cX3_run 0 = .ok (.iload 4, 2) := by decide +kernel
theorem dX3_run_2 : decode cX3_run 2 = .ok (.ifCond .lt 13, 3) := by decide +kernel
theorem dX3_run_5 : decode cX3_run 5 = .ok (.iload 4, 2) := by decide +kernel
theorem dX3_run_7 : decode cX3_run 7 = .ok (.bipush 11, 2) := by decide +kernel
theorem dX3_run_9 : decode cX3_run 9 = .ok (.iadd, 1) := by decide +kernel
theorem dX3_run_10 : decode cX3_run 10 = .ok (.aload_n 3, 1) := by decide +kernel
theorem dX3_run_11 : decode cX3_run 11 = .ok (.arraylength, 1) := by decide +kernel
theorem dX3_run_12 : decode cX3_run 12 = .ok (.if_icmp .le 5, 3) := by decide +kernel
theorem dX3_run_17 : decode cX3_run 17 = .ok (.aload_n 3, 1) := by decide +kernel
theorem dX3_run_18 : decode cX3_run 18 = .ok (.iload 4, 2) := by decide +kernel
theorem dX3_run_20 : decode cX3_run 20 = .ok (.iaload, 1) := by decide +kernel
theorem dX3_run_21 : decode cX3_run 21 = .ok (.bipush (-2), 2) := by decide +kernel
theorem dX3_run_23 : decode cX3_run 23 = .ok (.if_icmp .eq 8, 3) := by decide +kernel
theorem dX3_run_31 : decode cX3_run 31 = .ok (.iconst 0, 1) := by decide +kernel
theorem dX3_run_32 : decode cX3_run 32 = .ok (.istore 5, 2) := by decide +kernel
theorem dX3_run_34 : decode cX3_run 34 = .ok (.iload 5, 2) := by decide +kernel
theorem dX3_run_36 : decode cX3_run 36 = .ok (.bipush 11, 2) := by decide +kernel
theorem dX3_run_38 : decode cX3_run 38 = .ok (.if_icmp .ge 17, 3) := by decide +kernel
theorem dX3_run_41 : decode cX3_run 41 = .ok (.aload_n 3, 1) := by decide +kernel
theorem dX3_run_42 : decode cX3_run 42 = .ok (.iload 4, 2) := by decide +kernel
theorem dX3_run_44 : decode cX3_run 44 = .ok (.iload 5, 2) := by decide +kernel
theorem dX3_run_46 : decode cX3_run 46 = .ok (.iadd, 1) := by decide +kernel
theorem dX3_run_47 : decode cX3_run 47 = .ok (.iconst (-1), 1) := by decide +kernel
theorem dX3_run_48 : decode cX3_run 48 = .ok (.iastore, 1) := by decide +kernel
theorem dX3_run_49 : decode cX3_run 49 = .ok (.iinc 5 1, 3) := by decide +kernel
theorem dX3_run_52 : decode cX3_run 52 = .ok (.goto (-18), 3) := by decide +kernel
theorem dX3_run_55 : decode cX3_run 55 = .ok (.aload_n 0, 1) := by decide +kernel
theorem dX3_run_56 : decode cX3_run 56 = .ok (.invokevirtual 49, 3) := by decide +kernel
theorem dX3_run_59 : decode cX3_run 59 = .ok (.iconst 0, 1) := by decide +kernel
theorem dX3_run_60 : decode cX3_run 60 = .ok (.istore 5, 2) := by decide +kernel
theorem dX3_run_62 : decode cX3_run 62 = .ok (.iload 5, 2) := by decide +kernel
theorem dX3_run_64 : decode cX3_run 64 = .ok (.iload_n 2, 1) := by decide +kernel
theorem dX3_run_65 : decode cX3_run 65 = .ok (.if_icmp .gt 67, 3) := by decide +kernel
theorem dX3_run_68 : decode cX3_run 68 = .ok (.aload_n 0, 1) := by decide +kernel
theorem dX3_run_69 : decode cX3_run 69 = .ok (.iload 5, 2) := by decide +kernel
theorem dX3_run_71 : decode cX3_run 71 = .ok (.aload_n 3, 1) := by decide +kernel
theorem dX3_run_72 : decode cX3_run 72 = .ok (.iload 4, 2) := by decide +kernel
theorem dX3_run_74 : decode cX3_run 74 = .ok (.invokevirtual 52, 3) := by decide +kernel
theorem dX3_run_77 : decode cX3_run 77 = .ok (.ifCond .eq 12, 3) := by decide +kernel
theorem dX3_run_80 : decode cX3_run 80 = .ok (.aload_n 3, 1) := by decide +kernel
theorem dX3_run_81 : decode cX3_run 81 = .ok (.iload 4, 2) := by decide +kernel
theorem dX3_run_83 : decode cX3_run 83 = .ok (.iload 5, 2) := by decide +kernel
theorem dX3_run_85 : decode cX3_run 85 = .ok (.iastore, 1) := by decide +kernel
theorem dX3_run_86 : decode cX3_run 86 = .ok (.iload 5, 2) := by decide +kernel
theorem dX3_run_88 : decode cX3_run 88 = .ok (.ireturn, 1) := by decide +kernel
theorem dX3_canTick_0 : decode cX3_canTick 0 = .ok (.aload_n 0, 1) := by decide +kernel
theorem dX3_canTick_1 : decode cX3_canTick 1 = .ok (.getfield 12, 3) := by decide +kernel
theorem dX3_canTick_4 : decode cX3_canTick 4 = .ok (.getfield 77, 3) := by decide +kernel
theorem dX3_canTick_7 : decode cX3_canTick 7 = .ok (.iconst 0, 1) := by decide +kernel
theorem dX3_canTick_8 : decode cX3_canTick 8 = .ok (.iaload, 1) := by decide +kernel
theorem dX3_canTick_9 : decode cX3_canTick 9 = .ok (.sipush 999, 3) := by decide +kernel
theorem dX3_canTick_12 : decode cX3_canTick 12 = .ok (.if_icmp .ge 7, 3) := by decide +kernel
theorem dX3_canTick_15 : decode cX3_canTick 15 = .ok (.iconst 1, 1) := by decide +kernel
theorem dX3_canTick_16 : decode cX3_canTick 16 = .ok (.goto 4, 3) := by decide +kernel
theorem dX3_canTick_20 : decode cX3_canTick 20 = .ok (.ireturn, 1) := by decide +kernel
theorem dX3_allStand_0 : decode cX3_allStand 0 = .ok (.aload_n 0, 1) := by decide +kernel
theorem dX3_allStand_1 : decode cX3_allStand 1 = .ok (.getfield 12, 3) := by decide +kernel
theorem dX3_allStand_4 : decode cX3_allStand 4 = .ok (.invokevirtual 80, 3) := by decide +kernel
theorem dX3_allStand_7 : decode cX3_allStand 7 = .ok (.iconst 1, 1) := by decide +kernel
theorem dX3_allStand_8 : decode cX3_allStand 8 = .ok (.aload_n 0, 1) := by decide +kernel
theorem dX3_allStand_9 : decode cX3_allStand 9 = .ok (.getfield 12, 3) := by decide +kernel
theorem dX3_allStand_12 : decode cX3_allStand 12 = .ok (.getfield 83, 3) := by decide +kernel
theorem dX3_allStand_15 : decode cX3_allStand 15 = .ok (.ishl, 1) := by decide +kernel
theorem dX3_allStand_16 : decode cX3_allStand 16 = .ok (.iconst 1, 1) := by decide +kernel
theorem dX3_allStand_17 : decode cX3_allStand 17 = .ok (.isub, 1) := by decide +kernel
theorem dX3_allStand_18 : decode cX3_allStand 18 = .ok (.if_icmp .ne 7, 3) := by decide +kernel
theorem dX3_allStand_21 : decode cX3_allStand 21 = .ok (.iconst 1, 1) := by decide +kernel
theorem dX3_allStand_22 : decode cX3_allStand 22 = .ok (.goto 4, 3) := by decide +kernel
theorem dX3_allStand_26 : decode cX3_allStand 26 = .ok (.ireturn, 1) := by decide +kernel
theorem dX3_noteStanding_0 : decode cX3_noteStanding 0 = .ok (.iconst 0, 1) := by decide +kernel
theorem dX3_noteStanding_1 : decode cX3_noteStanding 1 = .ok (.istore 4, 2) := by decide +kernel
theorem dX3_noteStanding_3 : decode cX3_noteStanding 3 = .ok (.iconst 0, 1) := by decide +kernel
theorem dX3_noteStanding_4 : decode cX3_noteStanding 4 = .ok (.istore 5, 2) := by decide +kernel
theorem dX3_noteStanding_6 : decode cX3_noteStanding 6 = .ok (.iload 5, 2) := by decide +kernel
theorem dX3_noteStanding_8 : decode cX3_noteStanding 8 = .ok (.aload_n 0, 1) := by decide +kernel
theorem dX3_noteStanding_9 : decode cX3_noteStanding 9 = .ok (.getfield 12, 3) := by decide +kernel
theorem dX3_noteStanding_12 : decode cX3_noteStanding 12 = .ok (.getfield 83, 3) := by decide +kernel
theorem dX3_noteStanding_15 : decode cX3_noteStanding 15 = .ok (.if_icmp .ge 53, 3) := by decide +kernel
theorem dX3_noteStanding_68 : decode cX3_noteStanding 68 = .ok (.iload 4, 2) := by decide +kernel
theorem dX3_noteStanding_70 : decode cX3_noteStanding 70 = .ok (.aload_n 0, 1) := by decide +kernel
theorem dX3_noteStanding_71 : decode cX3_noteStanding 71 = .ok (.getfield 12, 3) := by decide +kernel
theorem dX3_noteStanding_74 : decode cX3_noteStanding 74 = .ok (.getfield 83, 3) := by decide +kernel
theorem dX3_noteStanding_77 : decode cX3_noteStanding 77 = .ok (.if_icmp .ne 7, 3) := by decide +kernel
theorem dX3_noteStanding_80 : decode cX3_noteStanding 80 = .ok (.iconst 1, 1) := by decide +kernel
theorem dX3_noteStanding_81 : decode cX3_noteStanding 81 = .ok (.goto 4, 3) := by decide +kernel
theorem dX3_noteStanding_85 : decode cX3_noteStanding 85 = .ok (.ireturn, 1) := by decide +kernel
theorem dX3_sendFree_0 : decode cX3_sendFree 0 = .ok (.aload_n 0, 1) := by decide +kernel
theorem dX3_sendFree_1 : decode cX3_sendFree 1 = .ok (.getfield 12, 3) := by decide +kernel
theorem dX3_sendFree_4 : decode cX3_sendFree 4 = .ok (.getfield 89, 3) := by decide +kernel
theorem dX3_sendFree_7 : decode cX3_sendFree 7 = .ok (.getfield 93, 3) := by decide +kernel
theorem dX3_sendFree_10 : decode cX3_sendFree 10 = .ok (.astore_n 2, 1) := by decide +kernel
theorem dX3_sendFree_11 : decode cX3_sendFree 11 = .ok (.iconst (-1), 1) := by decide +kernel
theorem dX3_sendFree_12 : decode cX3_sendFree 12 = .ok (.istore_n 3, 1) := by decide +kernel
theorem dX3_sendFree_13 : decode cX3_sendFree 13 = .ok (.iconst 0, 1) := by decide +kernel
theorem dX3_sendFree_14 : decode cX3_sendFree 14 = .ok (.istore 4, 2) := by decide +kernel
theorem dX3_sendFree_16 : decode cX3_sendFree 16 = .ok (.iload 4, 2) := by decide +kernel
theorem dX3_sendFree_18 : decode cX3_sendFree 18 = .ok (.aload_n 0, 1) := by decide +kernel
theorem dX3_sendFree_19 : decode cX3_sendFree 19 = .ok (.getfield 12, 3) := by decide +kernel
theorem dX3_sendFree_22 : decode cX3_sendFree 22 = .ok (.getfield 74, 3) := by decide +kernel
theorem dX3_sendFree_25 : decode cX3_sendFree 25 = .ok (.if_icmp .ge 179, 3) := by decide +kernel
theorem dX3_sendFree_204 : decode cX3_sendFree 204 = .ok (.return_, 1) := by decide +kernel
theorem dX3_chanceUnseen_0 : decode cX3_chanceUnseen 0 = .ok (.aload_n 0, 1) := by decide +kernel
theorem dX3_chanceUnseen_1 : decode cX3_chanceUnseen 1 = .ok (.invokevirtual 49, 3) := by decide +kernel
theorem dX3_chanceUnseen_4 : decode cX3_chanceUnseen 4 = .ok (.ldc2_w 108, 3) := by decide +kernel
theorem dX3_chanceUnseen_7 : decode cX3_chanceUnseen 7 = .ok (.lstore_n 2, 1) := by decide +kernel
theorem dX3_chanceUnseen_8 : decode cX3_chanceUnseen 8 = .ok (.iconst 0, 1) := by decide +kernel
theorem dX3_chanceUnseen_9 : decode cX3_chanceUnseen 9 = .ok (.istore 4, 2) := by decide +kernel
theorem dX3_chanceUnseen_11 : decode cX3_chanceUnseen 11 = .ok (.iload 4, 2) := by decide +kernel
theorem dX3_chanceUnseen_13 : decode cX3_chanceUnseen 13 = .ok (.iload_n 1, 1) := by decide +kernel
theorem dX3_chanceUnseen_14 : decode cX3_chanceUnseen 14 = .ok (.if_icmp .ge 116, 3) := by decide +kernel
theorem dX3_chanceUnseen_17 : decode cX3_chanceUnseen 17 = .ok (.aload_n 0, 1) := by decide +kernel
theorem dX3_chanceUnseen_18 : decode cX3_chanceUnseen 18 = .ok (.invokevirtual 56, 3) := by decide +kernel
theorem dX3_chanceUnseen_21 : decode cX3_chanceUnseen 21 = .ok (.ifCond .eq 109, 3) := by decide +kernel
theorem dX3_chanceUnseen_24 : decode cX3_chanceUnseen 24 = .ok (.aload_n 0, 1) := by decide +kernel
theorem dX3_chanceUnseen_25 : decode cX3_chanceUnseen 25 = .ok (.invokevirtual 110, 3) := by decide +kernel
theorem dX3_chanceUnseen_28 : decode cX3_chanceUnseen 28 = .ok (.ifCond .ne 102, 3) := by decide +kernel
theorem dX3_chanceUnseen_130 : decode cX3_chanceUnseen 130 = .ok (.lload_n 2, 1) := by decide +kernel
theorem dX3_chanceUnseen_131 : decode cX3_chanceUnseen 131 = .ok (.lreturn, 1) := by decide +kernel
theorem dX4_read_0 : decode cX4_read 0 = .ok (.aload_n 0, 1) := by decide +kernel
theorem dX4_read_1 : decode cX4_read 1 = .ok (.aload_n 1, 1) := by decide +kernel
theorem dX4_read_2 : decode cX4_read 2 = .ok (.iload_n 2, 1) := by decide +kernel
theorem dX4_read_3 : decode cX4_read 3 = .ok (.aload_n 1, 1) := by decide +kernel
theorem dX4_read_4 : decode cX4_read 4 = .ok (.arraylength, 1) := by decide +kernel
theorem dX4_read_5 : decode cX4_read 5 = .ok (.sipush 400, 3) := by decide +kernel
theorem dX4_read_8 : decode cX4_read 8 = .ok (.invokestatic 41, 3) := by decide +kernel
theorem dX4_read_11 : decode cX4_read 11 = .ok (.invokestatic 41, 3) := by decide +kernel
theorem dX4_read_14 : decode cX4_read 14 = .ok (.invokevirtual 47, 3) := by decide +kernel
theorem dX4_read_17 : decode cX4_read 17 = .ok (.aload_n 0, 1) := by decide +kernel
theorem dX4_read_18 : decode cX4_read 18 = .ok (.getfield 16, 3) := by decide +kernel
theorem dX4_read_21 : decode cX4_read 21 = .ok (.invokevirtual 51, 3) := by decide +kernel
theorem dX4_read_24 : decode cX4_read 24 = .ok (.aload_n 0, 1) := by decide +kernel
theorem dX4_read_25 : decode cX4_read 25 = .ok (.iconst 0, 1) := by decide +kernel
theorem dX4_read_26 : decode cX4_read 26 = .ok (.putfield 31, 3) := by decide +kernel
theorem dX4_read_29 : decode cX4_read 29 = .ok (.aload_n 0, 1) := by decide +kernel
theorem dX4_read_30 : decode cX4_read 30 = .ok (.iconst 0, 1) := by decide +kernel
theorem dX4_read_31 : decode cX4_read 31 = .ok (.putfield 34, 3) := by decide +kernel
theorem dX4_read_34 : decode cX4_read 34 = .ok (.aload_n 0, 1) := by decide +kernel
theorem dX4_read_35 : decode cX4_read 35 = .ok (.iload_n 3, 1) := by decide +kernel
theorem dX4_read_36 : decode cX4_read 36 = .ok (.putfield 37, 3) := by decide +kernel
theorem dX4_read_39 : decode cX4_read 39 = .ok (.iconst 0, 1) := by decide +kernel
theorem dX4_read_40 : decode cX4_read 40 = .ok (.istore 4, 2) := by decide +kernel
theorem dX4_read_42 : decode cX4_read 42 = .ok (.iload 4, 2) := by decide +kernel
theorem dX4_read_44 : decode cX4_read 44 = .ok (.bipush 12, 2) := by decide +kernel
theorem dX4_read_46 : decode cX4_read 46 = .ok (.if_icmp .ge 113, 3) := by decide +kernel
theorem dX4_read_49 : decode cX4_read 49 = .ok (.iload_n 3, 1) := by decide +kernel
theorem dX4_read_50 : decode cX4_read 50 = .ok (.ifCond .eq 13, 3) := by decide +kernel
theorem dX4_read_53 : decode cX4_read 53 = .ok (.aload_n 0, 1) := by decide +kernel
theorem dX4_read_54 : decode cX4_read 54 = .ok (.invokevirtual 54, 3) := by decide +kernel
theorem dX4_read_57 : decode cX4_read 57 = .ok (.ifCond .eq 13, 3) := by decide +kernel
theorem dX4_read_63 : decode cX4_read 63 = .ok (.aload_n 0, 1) := by decide +kernel
theorem dX4_read_64 : decode cX4_read 64 = .ok (.invokevirtual 58, 3) := by decide +kernel
theorem dX4_read_67 : decode cX4_read 67 = .ok (.ifCond .ne 8, 3) := by decide +kernel
theorem dX4_read_70 : decode cX4_read 70 = .ok (.aload_n 0, 1) := by decide +kernel
theorem dX4_read_71 : decode cX4_read 71 = .ok (.invokevirtual 61, 3) := by decide +kernel
theorem dX4_read_74 : decode cX4_read 74 = .ok (.ireturn, 1) := by decide +kernel
theorem dX4_inHand_0 : decode cX4_inHand 0 = .ok (.aload_n 0, 1) := by decide +kernel
theorem dX4_inHand_1 : decode cX4_inHand 1 = .ok (.getfield 31, 3) := by decide +kernel
theorem dX4_inHand_4 : decode cX4_inHand 4 = .ok (.ifCond .lt 38, 3) := by decide +kernel
theorem dX4_inHand_7 : decode cX4_inHand 7 = .ok (.aload_n 0, 1) := by decide +kernel
theorem dX4_inHand_8 : decode cX4_inHand 8 = .ok (.getfield 31, 3) := by decide +kernel
theorem dX4_inHand_11 : decode cX4_inHand 11 = .ok (.aload_n 0, 1) := by decide +kernel
theorem dX4_inHand_12 : decode cX4_inHand 12 = .ok (.getfield 27, 3) := by decide +kernel
theorem dX4_inHand_15 : decode cX4_inHand 15 = .ok (.if_icmp .ge 27, 3) := by decide +kernel
theorem dX4_inHand_18 : decode cX4_inHand 18 = .ok (.aload_n 0, 1) := by decide +kernel
theorem dX4_inHand_19 : decode cX4_inHand 19 = .ok (.getfield 31, 3) := by decide +kernel
theorem dX4_inHand_22 : decode cX4_inHand 22 = .ok (.aload_n 0, 1) := by decide +kernel
theorem dX4_inHand_23 : decode cX4_inHand 23 = .ok (.getfield 20, 3) := by decide +kernel
theorem dX4_inHand_26 : decode cX4_inHand 26 = .ok (.arraylength, 1) := by decide +kernel
theorem dX4_inHand_27 : decode cX4_inHand 27 = .ok (.if_icmp .ge 15, 3) := by decide +kernel
theorem dX4_inHand_30 : decode cX4_inHand 30 = .ok (.aload_n 0, 1) := by decide +kernel
theorem dX4_inHand_31 : decode cX4_inHand 31 = .ok (.getfield 20, 3) := by decide +kernel
theorem dX4_inHand_34 : decode cX4_inHand 34 = .ok (.aload_n 0, 1) := by decide +kernel
theorem dX4_inHand_35 : decode cX4_inHand 35 = .ok (.getfield 31, 3) := by decide +kernel
theorem dX4_inHand_38 : decode cX4_inHand 38 = .ok (.iaload, 1) := by decide +kernel
theorem dX4_inHand_39 : decode cX4_inHand 39 = .ok (.goto 6, 3) := by decide +kernel
theorem dX4_inHand_45 : decode cX4_inHand 45 = .ok (.ireturn, 1) := by decide +kernel
theorem dX4_placeInHand_0 : decode cX4_placeInHand 0 = .ok (.aload_n 0, 1) := by decide +kernel
theorem dX4_placeInHand_1 : decode cX4_placeInHand 1 = .ok (.getfield 31, 3) := by decide +kernel
theorem dX4_placeInHand_4 : decode cX4_placeInHand 4 = .ok (.ifCond .lt 38, 3) := by decide +kernel
theorem dX4_placeInHand_7 : decode cX4_placeInHand 7 = .ok (.aload_n 0, 1) := by decide +kernel
theorem dX4_placeInHand_8 : decode cX4_placeInHand 8 = .ok (.getfield 31, 3) := by decide +kernel
theorem dX4_placeInHand_11 : decode cX4_placeInHand 11 = .ok (.aload_n 0, 1) := by decide +kernel
theorem dX4_placeInHand_12 : decode cX4_placeInHand 12 = .ok (.getfield 27, 3) := by decide +kernel
theorem dX4_placeInHand_15 : decode cX4_placeInHand 15 = .ok (.if_icmp .ge 27, 3) := by decide +kernel
theorem dX4_placeInHand_18 : decode cX4_placeInHand 18 = .ok (.aload_n 0, 1) := by decide +kernel
theorem dX4_placeInHand_19 : decode cX4_placeInHand 19 = .ok (.getfield 31, 3) := by decide +kernel
theorem dX4_placeInHand_22 : decode cX4_placeInHand 22 = .ok (.aload_n 0, 1) := by decide +kernel
theorem dX4_placeInHand_23 : decode cX4_placeInHand 23 = .ok (.getfield 24, 3) := by decide +kernel
theorem dX4_placeInHand_26 : decode cX4_placeInHand 26 = .ok (.arraylength, 1) := by decide +kernel
theorem dX4_placeInHand_27 : decode cX4_placeInHand 27 = .ok (.if_icmp .ge 15, 3) := by decide +kernel
theorem dX4_placeInHand_30 : decode cX4_placeInHand 30 = .ok (.aload_n 0, 1) := by decide +kernel
theorem dX4_placeInHand_31 : decode cX4_placeInHand 31 = .ok (.getfield 24, 3) := by decide +kernel
theorem dX4_placeInHand_34 : decode cX4_placeInHand 34 = .ok (.aload_n 0, 1) := by decide +kernel
theorem dX4_placeInHand_35 : decode cX4_placeInHand 35 = .ok (.getfield 31, 3) := by decide +kernel
theorem dX4_placeInHand_38 : decode cX4_placeInHand 38 = .ok (.iaload, 1) := by decide +kernel
theorem dX4_placeInHand_39 : decode cX4_placeInHand 39 = .ok (.goto 4, 3) := by decide +kernel
theorem dX4_placeInHand_43 : decode cX4_placeInHand 43 = .ok (.ireturn, 1) := by decide +kernel
theorem dX4_split_0 : decode cX4_split 0 = .ok (.aload_n 0, 1) := by decide +kernel
theorem dX4_split_1 : decode cX4_split 1 = .ok (.iconst 0, 1) := by decide +kernel
theorem dX4_split_2 : decode cX4_split 2 = .ok (.putfield 27, 3) := by decide +kernel
theorem dX4_split_5 : decode cX4_split 5 = .ok (.iconst 0, 1) := by decide +kernel
theorem dX4_split_6 : decode cX4_split 6 = .ok (.istore_n 3, 1) := by decide +kernel
theorem dX4_split_7 : decode cX4_split 7 = .ok (.iconst 0, 1) := by decide +kernel
theorem dX4_split_8 : decode cX4_split 8 = .ok (.istore 4, 2) := by decide +kernel
theorem dX4_split_10 : decode cX4_split 10 = .ok (.iload 4, 2) := by decide +kernel
theorem dX4_split_12 : decode cX4_split 12 = .ok (.iload_n 2, 1) := by decide +kernel
theorem dX4_split_13 : decode cX4_split 13 = .ok (.if_icmp .ge 150, 3) := by decide +kernel
theorem dX4_split_163 : decode cX4_split 163 = .ok (.aload_n 0, 1) := by decide +kernel
theorem dX4_split_164 : decode cX4_split 164 = .ok (.sipush 4000, 3) := by decide +kernel
theorem dX4_split_167 : decode cX4_split 167 = .ok (.iload_n 2, 1) := by decide +kernel
theorem dX4_split_168 : decode cX4_split 168 = .ok (.invokevirtual 89, 3) := by decide +kernel
theorem dX4_split_171 : decode cX4_split 171 = .ok (.return_, 1) := by decide +kernel
theorem dX4_addToken_0 : decode cX4_addToken 0 = .ok (.aload_n 0, 1) := by decide +kernel
theorem dX4_addToken_1 : decode cX4_addToken 1 = .ok (.getfield 27, 3) := by decide +kernel
theorem dX4_addToken_4 : decode cX4_addToken 4 = .ok (.ifCond .lt 45, 3) := by decide +kernel
theorem dX4_addToken_7 : decode cX4_addToken 7 = .ok (.aload_n 0, 1) := by decide +kernel
theorem dX4_addToken_8 : decode cX4_addToken 8 = .ok (.getfield 27, 3) := by decide +kernel
theorem dX4_addToken_11 : decode cX4_addToken 11 = .ok (.aload_n 0, 1) := by decide +kernel
theorem dX4_addToken_12 : decode cX4_addToken 12 = .ok (.getfield 20, 3) := by decide +kernel
theorem dX4_addToken_15 : decode cX4_addToken 15 = .ok (.arraylength, 1) := by decide +kernel
theorem dX4_addToken_16 : decode cX4_addToken 16 = .ok (.if_icmp .ge 33, 3) := by decide +kernel
theorem dX4_addToken_19 : decode cX4_addToken 19 = .ok (.aload_n 0, 1) := by decide +kernel
theorem dX4_addToken_20 : decode cX4_addToken 20 = .ok (.getfield 20, 3) := by decide +kernel
theorem dX4_addToken_23 : decode cX4_addToken 23 = .ok (.aload_n 0, 1) := by decide +kernel
theorem dX4_addToken_24 : decode cX4_addToken 24 = .ok (.getfield 27, 3) := by decide +kernel
theorem dX4_addToken_27 : decode cX4_addToken 27 = .ok (.iload_n 1, 1) := by decide +kernel
theorem dX4_addToken_28 : decode cX4_addToken 28 = .ok (.iastore, 1) := by decide +kernel
theorem dX4_addToken_29 : decode cX4_addToken 29 = .ok (.aload_n 0, 1) := by decide +kernel
theorem dX4_addToken_30 : decode cX4_addToken 30 = .ok (.getfield 24, 3) := by decide +kernel
theorem dX4_addToken_33 : decode cX4_addToken 33 = .ok (.aload_n 0, 1) := by decide +kernel
theorem dX4_addToken_34 : decode cX4_addToken 34 = .ok (.getfield 27, 3) := by decide +kernel
theorem dX4_addToken_37 : decode cX4_addToken 37 = .ok (.iload_n 2, 1) := by decide +kernel
theorem dX4_addToken_38 : decode cX4_addToken 38 = .ok (.iastore, 1) := by decide +kernel
theorem dX4_addToken_39 : decode cX4_addToken 39 = .ok (.aload_n 0, 1) := by decide +kernel
theorem dX4_addToken_40 : decode cX4_addToken 40 = .ok (.dup, 1) := by decide +kernel
theorem dX4_addToken_41 : decode cX4_addToken 41 = .ok (.getfield 27, 3) := by decide +kernel
theorem dX4_addToken_44 : decode cX4_addToken 44 = .ok (.iconst 1, 1) := by decide +kernel
theorem dX4_addToken_45 : decode cX4_addToken 45 = .ok (.iadd, 1) := by decide +kernel
theorem dX4_addToken_46 : decode cX4_addToken 46 = .ok (.putfield 27, 3) := by decide +kernel
theorem dX4_addToken_49 : decode cX4_addToken 49 = .ok (.return_, 1) := by decide +kernel
theorem dX4_readRule_0 : decode cX4_readRule 0 = .ok (.aload_n 0, 1) := by decide +kernel
theorem dX4_readRule_1 : decode cX4_readRule 1 = .ok (.invokevirtual 65, 3) := by decide +kernel
theorem dX4_readRule_4 : decode cX4_readRule 4 = .ok (.sipush 2004, 3) := by decide +kernel
theorem dX4_readRule_7 : decode cX4_readRule 7 = .ok (.isub, 1) := by decide +kernel
theorem dX4_readRule_8 : decode cX4_readRule 8 = .ok (.istore_n 1, 1) := by decide +kernel
theorem dX4_readRule_9 : decode cX4_readRule 9 = .ok (.iload_n 1, 1) := by decide +kernel
theorem dX4_readRule_10 : decode cX4_readRule 10 = .ok (.ifCond .lt 19, 3) := by decide +kernel
theorem dX4_readRule_13 : decode cX4_readRule 13 = .ok (.iload_n 1, 1) := by decide +kernel
theorem dX4_readRule_14 : decode cX4_readRule 14 = .ok (.iconst 4, 1) := by decide +kernel
theorem dX4_readRule_15 : decode cX4_readRule 15 = .ok (.if_icmp .ge 14, 3) := by decide +kernel
theorem dX4_readRule_29 : decode cX4_readRule 29 = .ok (.iconst 0, 1) := by decide +kernel
theorem dX4_readRule_30 : decode cX4_readRule 30 = .ok (.ireturn, 1) := by decide +kernel
theorem dX4_readOrder_0 : decode cX4_readOrder 0 = .ok (.aload_n 0, 1) := by decide +kernel
theorem dX4_readOrder_1 : decode cX4_readOrder 1 = .ok (.invokevirtual 65, 3) := by decide +kernel
theorem dX4_readOrder_4 : decode cX4_readOrder 4 = .ok (.sipush 2018, 3) := by decide +kernel
theorem dX4_readOrder_7 : decode cX4_readOrder 7 = .ok (.isub, 1) := by decide +kernel
theorem dX4_readOrder_8 : decode cX4_readOrder 8 = .ok (.istore_n 1, 1) := by decide +kernel
theorem dX4_readOrder_9 : decode cX4_readOrder 9 = .ok (.iload_n 1, 1) := by decide +kernel
theorem dX4_readOrder_10 : decode cX4_readOrder 10 = .ok (.ifCond .lt 19, 3) := by decide +kernel
theorem dX4_readOrder_13 : decode cX4_readOrder 13 = .ok (.iload_n 1, 1) := by decide +kernel
theorem dX4_readOrder_14 : decode cX4_readOrder 14 = .ok (.iconst 4, 1) := by decide +kernel
theorem dX4_readOrder_15 : decode cX4_readOrder 15 = .ok (.if_icmp .ge 14, 3) := by decide +kernel
theorem dX4_readOrder_29 : decode cX4_readOrder 29 = .ok (.iconst 0, 1) := by decide +kernel
theorem dX4_readOrder_30 : decode cX4_readOrder 30 = .ok (.ireturn, 1) := by decide +kernel
theorem dX6_clear_0 : decode cX6_clear 0 = .ok (.aload_n 0, 1) := by decide +kernel
theorem dX6_clear_1 : decode cX6_clear 1 = .ok (.iconst 0, 1) := by decide +kernel
theorem dX6_clear_2 : decode cX6_clear 2 = .ok (.putfield 15, 3) := by decide +kernel
theorem dX6_clear_5 : decode cX6_clear 5 = .ok (.return_, 1) := by decide +kernel
theorem dX6_total_0 : decode cX6_total 0 = .ok (.aload_n 0, 1) := by decide +kernel
theorem dX6_total_1 : decode cX6_total 1 = .ok (.invokevirtual 23, 3) := by decide +kernel
theorem dX6_total_4 : decode cX6_total 4 = .ok (.aload_n 0, 1) := by decide +kernel
theorem dX6_total_5 : decode cX6_total 5 = .ok (.getfield 19, 3) := by decide +kernel
theorem dX6_total_8 : decode cX6_total 8 = .ok (.invokevirtual 26, 3) := by decide +kernel
theorem dX6_total_11 : decode cX6_total 11 = .ok (.istore_n 1, 1) := by decide +kernel
theorem dX6_total_12 : decode cX6_total 12 = .ok (.iload_n 1, 1) := by decide +kernel
theorem dX6_total_13 : decode cX6_total 13 = .ok (.ifCond .lt 19, 3) := by decide +kernel
theorem dX6_total_16 : decode cX6_total 16 = .ok (.iload_n 1, 1) := by decide +kernel
theorem dX6_total_17 : decode cX6_total 17 = .ok (.sipush 1024, 3) := by decide +kernel
theorem dX6_total_20 : decode cX6_total 20 = .ok (.if_icmp .ge 12, 3) := by decide +kernel
theorem dX6_total_23 : decode cX6_total 23 = .ok (.aload_n 0, 1) := by decide +kernel
theorem dX6_total_24 : decode cX6_total 24 = .ok (.getfield 11, 3) := by decide +kernel
theorem dX6_total_27 : decode cX6_total 27 = .ok (.iload_n 1, 1) := by decide +kernel
theorem dX6_total_28 : decode cX6_total 28 = .ok (.iaload, 1) := by decide +kernel
theorem dX6_total_29 : decode cX6_total 29 = .ok (.goto 4, 3) := by decide +kernel
theorem dX6_total_33 : decode cX6_total 33 = .ok (.ireturn, 1) := by decide +kernel
theorem dX6_partAt_0 : decode cX6_partAt 0 = .ok (.iload_n 1, 1) := by decide +kernel
theorem dX6_partAt_1 : decode cX6_partAt 1 = .ok (.ifCond .lt 21, 3) := by decide +kernel
theorem dX6_partAt_4 : decode cX6_partAt 4 = .ok (.iload_n 1, 1) := by decide +kernel
theorem dX6_partAt_5 : decode cX6_partAt 5 = .ok (.aload_n 0, 1) := by decide +kernel
theorem dX6_partAt_6 : decode cX6_partAt 6 = .ok (.invokevirtual 32, 3) := by decide +kernel
theorem dX6_partAt_9 : decode cX6_partAt 9 = .ok (.if_icmp .ge 13, 3) := by decide +kernel
theorem dX6_partAt_12 : decode cX6_partAt 12 = .ok (.iload_n 2, 1) := by decide +kernel
theorem dX6_partAt_13 : decode cX6_partAt 13 = .ok (.ifCond .lt 9, 3) := by decide +kernel
theorem dX6_partAt_16 : decode cX6_partAt 16 = .ok (.iload_n 2, 1) := by decide +kernel
theorem dX6_partAt_17 : decode cX6_partAt 17 = .ok (.bipush 10, 2) := by decide +kernel
theorem dX6_partAt_19 : decode cX6_partAt 19 = .ok (.if_icmp .lt 5, 3) := by decide +kernel
theorem dX6_partAt_22 : decode cX6_partAt 22 = .ok (.iconst (-1), 1) := by decide +kernel
theorem dX6_partAt_23 : decode cX6_partAt 23 = .ok (.ireturn, 1) := by decide +kernel
theorem dX6_partAt_24 : decode cX6_partAt 24 = .ok (.aload_n 0, 1) := by decide +kernel
theorem dX6_partAt_25 : decode cX6_partAt 25 = .ok (.getfield 19, 3) := by decide +kernel
theorem dX6_partAt_28 : decode cX6_partAt 28 = .ok (.invokevirtual 26, 3) := by decide +kernel
theorem dX6_partAt_31 : decode cX6_partAt 31 = .ok (.istore_n 3, 1) := by decide +kernel
theorem dX6_partAt_32 : decode cX6_partAt 32 = .ok (.iload_n 1, 1) := by decide +kernel
theorem dX6_partAt_33 : decode cX6_partAt 33 = .ok (.istore 4, 2) := by decide +kernel
theorem dX6_partAt_35 : decode cX6_partAt 35 = .ok (.iconst (-1), 1) := by decide +kernel
theorem dX6_partAt_36 : decode cX6_partAt 36 = .ok (.istore 5, 2) := by decide +kernel
theorem dX6_partAt_38 : decode cX6_partAt 38 = .ok (.iconst 0, 1) := by decide +kernel
theorem dX6_partAt_39 : decode cX6_partAt 39 = .ok (.istore 6, 2) := by decide +kernel
theorem dX6_partAt_41 : decode cX6_partAt 41 = .ok (.iload 6, 2) := by decide +kernel
theorem dX6_partAt_43 : decode cX6_partAt 43 = .ok (.iload_n 2, 1) := by decide +kernel
theorem dX6_partAt_44 : decode cX6_partAt 44 = .ok (.if_icmp .gt 91, 3) := by decide +kernel
theorem dX6_partAt_47 : decode cX6_partAt 47 = .ok (.iconst (-1), 1) := by decide +kernel
theorem dX6_partAt_48 : decode cX6_partAt 48 = .ok (.istore 5, 2) := by decide +kernel
theorem dX6_partAt_50 : decode cX6_partAt 50 = .ok (.iconst 0, 1) := by decide +kernel
theorem dX6_partAt_51 : decode cX6_partAt 51 = .ok (.istore 7, 2) := by decide +kernel
theorem dX6_partAt_53 : decode cX6_partAt 53 = .ok (.iload 7, 2) := by decide +kernel
theorem dX6_partAt_55 : decode cX6_partAt 55 = .ok (.aload_n 0, 1) := by decide +kernel
theorem dX6_partAt_56 : decode cX6_partAt 56 = .ok (.getfield 19, 3) := by decide +kernel
theorem dX6_partAt_59 : decode cX6_partAt 59 = .ok (.getfield 35, 3) := by decide +kernel
theorem dX6_partAt_62 : decode cX6_partAt 62 = .ok (.if_icmp .ge 52, 3) := by decide +kernel
theorem dX6_partAt_114 : decode cX6_partAt 114 = .ok (.iload 5, 2) := by decide +kernel
theorem dX6_partAt_116 : decode cX6_partAt 116 = .ok (.iconst (-1), 1) := by decide +kernel
theorem dX6_partAt_117 : decode cX6_partAt 117 = .ok (.if_icmp .ne 5, 3) := by decide +kernel
theorem dX6_partAt_120 : decode cX6_partAt 120 = .ok (.iconst (-1), 1) := by decide +kernel
theorem dX6_partAt_121 : decode cX6_partAt 121 = .ok (.ireturn, 1) := by decide +kernel
theorem dX6_partAt_135 : decode cX6_partAt 135 = .ok (.iload 5, 2) := by decide +kernel
theorem dX6_partAt_137 : decode cX6_partAt 137 = .ok (.ireturn, 1) := by decide +kernel
theorem dX6_reckonWays_0 : decode cX6_reckonWays 0 = .ok (.aload_n 0, 1) := by decide +kernel
theorem dX6_reckonWays_1 : decode cX6_reckonWays 1 = .ok (.getfield 15, 3) := by decide +kernel
theorem dX6_reckonWays_4 : decode cX6_reckonWays 4 = .ok (.ifCond .eq 4, 3) := by decide +kernel
theorem dX6_reckonWays_8 : decode cX6_reckonWays 8 = .ok (.aload_n 0, 1) := by decide +kernel
theorem dX6_reckonWays_9 : decode cX6_reckonWays 9 = .ok (.getfield 19, 3) := by decide +kernel
theorem dX6_reckonWays_12 : decode cX6_reckonWays 12 = .ok (.invokevirtual 26, 3) := by decide +kernel
theorem dX6_reckonWays_15 : decode cX6_reckonWays 15 = .ok (.istore_n 1, 1) := by decide +kernel
theorem dX6_reckonWays_16 : decode cX6_reckonWays 16 = .ok (.iconst 1, 1) := by decide +kernel
theorem dX6_reckonWays_17 : decode cX6_reckonWays 17 = .ok (.aload_n 0, 1) := by decide +kernel
theorem dX6_reckonWays_18 : decode cX6_reckonWays 18 = .ok (.getfield 19, 3) := by decide +kernel
theorem dX6_reckonWays_21 : decode cX6_reckonWays 21 = .ok (.getfield 35, 3) := by decide +kernel
theorem dX6_reckonWays_24 : decode cX6_reckonWays 24 = .ok (.ishl, 1) := by decide +kernel
theorem dX6_reckonWays_25 : decode cX6_reckonWays 25 = .ok (.iconst 1, 1) := by decide +kernel
theorem dX6_reckonWays_26 : decode cX6_reckonWays 26 = .ok (.isub, 1) := by decide +kernel
theorem dX6_reckonWays_27 : decode cX6_reckonWays 27 = .ok (.istore_n 2, 1) := by decide +kernel
theorem dX6_reckonWays_28 : decode cX6_reckonWays 28 = .ok (.iload_n 2, 1) := by decide +kernel
theorem dX6_reckonWays_29 : decode cX6_reckonWays 29 = .ok (.sipush 1023, 3) := by decide +kernel
theorem dX6_reckonWays_32 : decode cX6_reckonWays 32 = .ok (.invokestatic 43, 3) := by decide +kernel
theorem dX6_reckonWays_35 : decode cX6_reckonWays 35 = .ok (.istore_n 3, 1) := by decide +kernel
theorem dX6_reckonWays_36 : decode cX6_reckonWays 36 = .ok (.iload_n 3, 1) := by decide +kernel
theorem dX6_reckonWays_37 : decode cX6_reckonWays 37 = .ok (.ifCond .lt 79, 3) := by decide +kernel
theorem dX6_reckonWays_40 : decode cX6_reckonWays 40 = .ok (.iload_n 3, 1) := by decide +kernel
theorem dX6_reckonWays_41 : decode cX6_reckonWays 41 = .ok (.iload_n 1, 1) := by decide +kernel
theorem dX6_reckonWays_42 : decode cX6_reckonWays 42 = .ok (.iand, 1) := by decide +kernel
theorem dX6_reckonWays_43 : decode cX6_reckonWays 43 = .ok (.iload_n 1, 1) := by decide +kernel
theorem dX6_reckonWays_44 : decode cX6_reckonWays 44 = .ok (.if_icmp .eq 6, 3) := by decide +kernel
theorem dX6_reckonWays_50 : decode cX6_reckonWays 50 = .ok (.iload_n 3, 1) := by decide +kernel
theorem dX6_reckonWays_51 : decode cX6_reckonWays 51 = .ok (.iload_n 2, 1) := by decide +kernel
theorem dX6_reckonWays_52 : decode cX6_reckonWays 52 = .ok (.if_icmp .ne 7, 3) := by decide +kernel
theorem dX6_reckonWays_55 : decode cX6_reckonWays 55 = .ok (.iconst 1, 1) := by decide +kernel
theorem dX6_reckonWays_56 : decode cX6_reckonWays 56 = .ok (.goto 4, 3) := by decide +kernel
theorem dX6_reckonWays_60 : decode cX6_reckonWays 60 = .ok (.istore 4, 2) := by decide +kernel
theorem dX6_reckonWays_62 : decode cX6_reckonWays 62 = .ok (.iconst 0, 1) := by decide +kernel
theorem dX6_reckonWays_63 : decode cX6_reckonWays 63 = .ok (.istore 5, 2) := by decide +kernel
theorem dX6_reckonWays_65 : decode cX6_reckonWays 65 = .ok (.iload 5, 2) := by decide +kernel
theorem dX6_reckonWays_67 : decode cX6_reckonWays 67 = .ok (.aload_n 0, 1) := by decide +kernel
theorem dX6_reckonWays_68 : decode cX6_reckonWays 68 = .ok (.getfield 19, 3) := by decide +kernel
theorem dX6_reckonWays_71 : decode cX6_reckonWays 71 = .ok (.getfield 35, 3) := by decide +kernel
theorem dX6_reckonWays_74 : decode cX6_reckonWays 74 = .ok (.if_icmp .ge 28, 3) := by decide +kernel
theorem dX6_reckonWays_102 : decode cX6_reckonWays 102 = .ok (.aload_n 0, 1) := by decide +kernel
theorem dX6_reckonWays_103 : decode cX6_reckonWays 103 = .ok (.getfield 11, 3) := by decide +kernel
theorem dX6_reckonWays_106 : decode cX6_reckonWays 106 = .ok (.iload_n 3, 1) := by decide +kernel
theorem dX6_reckonWays_107 : decode cX6_reckonWays 107 = .ok (.iload 4, 2) := by decide +kernel
theorem dX6_reckonWays_109 : decode cX6_reckonWays 109 = .ok (.iastore, 1) := by decide +kernel
theorem dX6_reckonWays_110 : decode cX6_reckonWays 110 = .ok (.iinc 3 (-1), 3) := by decide +kernel
theorem dX6_reckonWays_113 : decode cX6_reckonWays 113 = .ok (.goto (-77), 3) := by decide +kernel
theorem dX6_reckonWays_116 : decode cX6_reckonWays 116 = .ok (.aload_n 0, 1) := by decide +kernel
theorem dX6_reckonWays_117 : decode cX6_reckonWays 117 = .ok (.iconst 1, 1) := by decide +kernel
theorem dX6_reckonWays_118 : decode cX6_reckonWays 118 = .ok (.putfield 15, 3) := by decide +kernel
theorem dX6_reckonWays_121 : decode cX6_reckonWays 121 = .ok (.return_, 1) := by decide +kernel
theorem dX7_copyFrom_0 : decode cX7_copyFrom 0 = .ok (.aload_n 0, 1) := by decide +kernel
theorem dX7_copyFrom_1 : decode cX7_copyFrom 1 = .ok (.aload_n 1, 1) := by decide +kernel
theorem dX7_copyFrom_2 : decode cX7_copyFrom 2 = .ok (.getfield 9, 3) := by decide +kernel
theorem dX7_copyFrom_5 : decode cX7_copyFrom 5 = .ok (.putfield 9, 3) := by decide +kernel
theorem dX7_copyFrom_8 : decode cX7_copyFrom 8 = .ok (.aload_n 1, 1) := by decide +kernel
theorem dX7_copyFrom_9 : decode cX7_copyFrom 9 = .ok (.getfield 15, 3) := by decide +kernel
theorem dX7_copyFrom_12 : decode cX7_copyFrom 12 = .ok (.iconst 0, 1) := by decide +kernel
theorem dX7_copyFrom_13 : decode cX7_copyFrom 13 = .ok (.aload_n 0, 1) := by decide +kernel
theorem dX7_copyFrom_14 : decode cX7_copyFrom 14 = .ok (.getfield 15, 3) := by decide +kernel
theorem dX7_copyFrom_17 : decode cX7_copyFrom 17 = .ok (.iconst 0, 1) := by decide +kernel
theorem dX7_copyFrom_18 : decode cX7_copyFrom 18 = .ok (.bipush 10, 2) := by decide +kernel
theorem dX7_copyFrom_20 : decode cX7_copyFrom 20 = .ok (.invokestatic 88, 3) := by decide +kernel
theorem dX7_copyFrom_23 : decode cX7_copyFrom 23 = .ok (.aload_n 1, 1) := by decide +kernel
theorem dX7_copyFrom_24 : decode cX7_copyFrom 24 = .ok (.getfield 19, 3) := by decide +kernel
theorem dX7_copyFrom_27 : decode cX7_copyFrom 27 = .ok (.iconst 0, 1) := by decide +kernel
theorem dX7_copyFrom_28 : decode cX7_copyFrom 28 = .ok (.aload_n 0, 1) := by decide +kernel
theorem dX7_copyFrom_29 : decode cX7_copyFrom 29 = .ok (.getfield 19, 3) := by decide +kernel
theorem dX7_copyFrom_32 : decode cX7_copyFrom 32 = .ok (.iconst 0, 1) := by decide +kernel
theorem dX7_copyFrom_33 : decode cX7_copyFrom 33 = .ok (.bipush 10, 2) := by decide +kernel
theorem dX7_copyFrom_35 : decode cX7_copyFrom 35 = .ok (.invokestatic 88, 3) := by decide +kernel
theorem dX7_copyFrom_38 : decode cX7_copyFrom 38 = .ok (.aload_n 1, 1) := by decide +kernel
theorem dX7_copyFrom_39 : decode cX7_copyFrom 39 = .ok (.getfield 22, 3) := by decide +kernel
theorem dX7_copyFrom_42 : decode cX7_copyFrom 42 = .ok (.iconst 0, 1) := by decide +kernel
theorem dX7_copyFrom_43 : decode cX7_copyFrom 43 = .ok (.aload_n 0, 1) := by decide +kernel
theorem dX7_copyFrom_44 : decode cX7_copyFrom 44 = .ok (.getfield 22, 3) := by decide +kernel
theorem dX7_copyFrom_47 : decode cX7_copyFrom 47 = .ok (.iconst 0, 1) := by decide +kernel
theorem dX7_copyFrom_48 : decode cX7_copyFrom 48 = .ok (.bipush 10, 2) := by decide +kernel
theorem dX7_copyFrom_50 : decode cX7_copyFrom 50 = .ok (.invokestatic 88, 3) := by decide +kernel
theorem dX7_copyFrom_53 : decode cX7_copyFrom 53 = .ok (.aload_n 1, 1) := by decide +kernel
theorem dX7_copyFrom_54 : decode cX7_copyFrom 54 = .ok (.getfield 25, 3) := by decide +kernel
theorem dX7_copyFrom_57 : decode cX7_copyFrom 57 = .ok (.iconst 0, 1) := by decide +kernel
theorem dX7_copyFrom_58 : decode cX7_copyFrom 58 = .ok (.aload_n 0, 1) := by decide +kernel
theorem dX7_copyFrom_59 : decode cX7_copyFrom 59 = .ok (.getfield 25, 3) := by decide +kernel
theorem dX7_copyFrom_62 : decode cX7_copyFrom 62 = .ok (.iconst 0, 1) := by decide +kernel
theorem dX7_copyFrom_63 : decode cX7_copyFrom 63 = .ok (.bipush 10, 2) := by decide +kernel
theorem dX7_copyFrom_65 : decode cX7_copyFrom 65 = .ok (.invokestatic 88, 3) := by decide +kernel
theorem dX7_copyFrom_68 : decode cX7_copyFrom 68 = .ok (.aload_n 1, 1) := by decide +kernel
theorem dX7_copyFrom_69 : decode cX7_copyFrom 69 = .ok (.getfield 28, 3) := by decide +kernel
theorem dX7_copyFrom_72 : decode cX7_copyFrom 72 = .ok (.iconst 0, 1) := by decide +kernel
theorem dX7_copyFrom_73 : decode cX7_copyFrom 73 = .ok (.aload_n 0, 1) := by decide +kernel
theorem dX7_copyFrom_74 : decode cX7_copyFrom 74 = .ok (.getfield 28, 3) := by decide +kernel
theorem dX7_copyFrom_77 : decode cX7_copyFrom 77 = .ok (.iconst 0, 1) := by decide +kernel
theorem dX7_copyFrom_78 : decode cX7_copyFrom 78 = .ok (.bipush 10, 2) := by decide +kernel
theorem dX7_copyFrom_80 : decode cX7_copyFrom 80 = .ok (.invokestatic 88, 3) := by decide +kernel
theorem dX7_copyFrom_83 : decode cX7_copyFrom 83 = .ok (.aload_n 0, 1) := by decide +kernel
theorem dX7_copyFrom_84 : decode cX7_copyFrom 84 = .ok (.aload_n 1, 1) := by decide +kernel
theorem dX7_copyFrom_85 : decode cX7_copyFrom 85 = .ok (.getfield 31, 3) := by decide +kernel
theorem dX7_copyFrom_88 : decode cX7_copyFrom 88 = .ok (.putfield 31, 3) := by decide +kernel
theorem dX7_copyFrom_91 : decode cX7_copyFrom 91 = .ok (.aload_n 1, 1) := by decide +kernel
theorem dX7_copyFrom_92 : decode cX7_copyFrom 92 = .ok (.getfield 34, 3) := by decide +kernel
theorem dX7_copyFrom_95 : decode cX7_copyFrom 95 = .ok (.iconst 0, 1) := by decide +kernel
theorem dX7_copyFrom_96 : decode cX7_copyFrom 96 = .ok (.aload_n 0, 1) := by decide +kernel
theorem dX7_copyFrom_97 : decode cX7_copyFrom 97 = .ok (.getfield 34, 3) := by decide +kernel
theorem dX7_copyFrom_100 : decode cX7_copyFrom 100 = .ok (.iconst 0, 1) := by decide +kernel
theorem dX7_copyFrom_101 : decode cX7_copyFrom 101 = .ok (.bipush 6, 2) := by decide +kernel
theorem dX7_copyFrom_103 : decode cX7_copyFrom 103 = .ok (.invokestatic 88, 3) := by decide +kernel
theorem dX7_copyFrom_106 : decode cX7_copyFrom 106 = .ok (.aload_n 1, 1) := by decide +kernel
theorem dX7_copyFrom_107 : decode cX7_copyFrom 107 = .ok (.getfield 37, 3) := by decide +kernel
theorem dX7_copyFrom_110 : decode cX7_copyFrom 110 = .ok (.iconst 0, 1) := by decide +kernel
theorem dX7_copyFrom_111 : decode cX7_copyFrom 111 = .ok (.aload_n 0, 1) := by decide +kernel
theorem dX7_copyFrom_112 : decode cX7_copyFrom 112 = .ok (.getfield 37, 3) := by decide +kernel
theorem dX7_copyFrom_115 : decode cX7_copyFrom 115 = .ok (.iconst 0, 1) := by decide +kernel
theorem dX7_copyFrom_116 : decode cX7_copyFrom 116 = .ok (.bipush 6, 2) := by decide +kernel
theorem dX7_copyFrom_118 : decode cX7_copyFrom 118 = .ok (.invokestatic 88, 3) := by decide +kernel
theorem dX7_copyFrom_121 : decode cX7_copyFrom 121 = .ok (.aload_n 1, 1) := by decide +kernel
theorem dX7_copyFrom_122 : decode cX7_copyFrom 122 = .ok (.getfield 40, 3) := by decide +kernel
theorem dX7_copyFrom_125 : decode cX7_copyFrom 125 = .ok (.iconst 0, 1) := by decide +kernel
theorem dX7_copyFrom_126 : decode cX7_copyFrom 126 = .ok (.aload_n 0, 1) := by decide +kernel
theorem dX7_copyFrom_127 : decode cX7_copyFrom 127 = .ok (.getfield 40, 3) := by decide +kernel
theorem dX7_copyFrom_130 : decode cX7_copyFrom 130 = .ok (.iconst 0, 1) := by decide +kernel
theorem dX7_copyFrom_131 : decode cX7_copyFrom 131 = .ok (.bipush 6, 2) := by decide +kernel
theorem dX7_copyFrom_133 : decode cX7_copyFrom 133 = .ok (.invokestatic 88, 3) := by decide +kernel
theorem dX7_copyFrom_136 : decode cX7_copyFrom 136 = .ok (.aload_n 1, 1) := by decide +kernel
theorem dX7_copyFrom_137 : decode cX7_copyFrom 137 = .ok (.getfield 43, 3) := by decide +kernel
theorem dX7_copyFrom_140 : decode cX7_copyFrom 140 = .ok (.iconst 0, 1) := by decide +kernel
theorem dX7_copyFrom_141 : decode cX7_copyFrom 141 = .ok (.aload_n 0, 1) := by decide +kernel
theorem dX7_copyFrom_142 : decode cX7_copyFrom 142 = .ok (.getfield 43, 3) := by decide +kernel
theorem dX7_copyFrom_145 : decode cX7_copyFrom 145 = .ok (.iconst 0, 1) := by decide +kernel
theorem dX7_copyFrom_146 : decode cX7_copyFrom 146 = .ok (.bipush 6, 2) := by decide +kernel
theorem dX7_copyFrom_148 : decode cX7_copyFrom 148 = .ok (.invokestatic 88, 3) := by decide +kernel
theorem dX7_copyFrom_151 : decode cX7_copyFrom 151 = .ok (.aload_n 1, 1) := by decide +kernel
theorem dX7_copyFrom_152 : decode cX7_copyFrom 152 = .ok (.getfield 54, 3) := by decide +kernel
theorem dX7_copyFrom_155 : decode cX7_copyFrom 155 = .ok (.iconst 0, 1) := by decide +kernel
theorem dX7_copyFrom_156 : decode cX7_copyFrom 156 = .ok (.aload_n 0, 1) := by decide +kernel
theorem dX7_copyFrom_157 : decode cX7_copyFrom 157 = .ok (.getfield 54, 3) := by decide +kernel
theorem dX7_copyFrom_160 : decode cX7_copyFrom 160 = .ok (.iconst 0, 1) := by decide +kernel
theorem dX7_copyFrom_161 : decode cX7_copyFrom 161 = .ok (.iconst 4, 1) := by decide +kernel
theorem dX7_copyFrom_162 : decode cX7_copyFrom 162 = .ok (.invokestatic 88, 3) := by decide +kernel
theorem dX7_copyFrom_165 : decode cX7_copyFrom 165 = .ok (.aload_n 0, 1) := by decide +kernel
theorem dX7_copyFrom_166 : decode cX7_copyFrom 166 = .ok (.aload_n 1, 1) := by decide +kernel
theorem dX7_copyFrom_167 : decode cX7_copyFrom 167 = .ok (.getfield 57, 3) := by decide +kernel
theorem dX7_copyFrom_170 : decode cX7_copyFrom 170 = .ok (.putfield 57, 3) := by decide +kernel
theorem dX7_copyFrom_173 : decode cX7_copyFrom 173 = .ok (.aload_n 1, 1) := by decide +kernel
theorem dX7_copyFrom_174 : decode cX7_copyFrom 174 = .ok (.getfield 60, 3) := by decide +kernel
theorem dX7_copyFrom_177 : decode cX7_copyFrom 177 = .ok (.iconst 0, 1) := by decide +kernel
theorem dX7_copyFrom_178 : decode cX7_copyFrom 178 = .ok (.aload_n 0, 1) := by decide +kernel
theorem dX7_copyFrom_179 : decode cX7_copyFrom 179 = .ok (.getfield 60, 3) := by decide +kernel
theorem dX7_copyFrom_182 : decode cX7_copyFrom 182 = .ok (.iconst 0, 1) := by decide +kernel
theorem dX7_copyFrom_183 : decode cX7_copyFrom 183 = .ok (.bipush 8, 2) := by decide +kernel
theorem dX7_copyFrom_185 : decode cX7_copyFrom 185 = .ok (.invokestatic 88, 3) := by decide +kernel
theorem dX7_copyFrom_188 : decode cX7_copyFrom 188 = .ok (.aload_n 1, 1) := by decide +kernel
theorem dX7_copyFrom_189 : decode cX7_copyFrom 189 = .ok (.getfield 63, 3) := by decide +kernel
theorem dX7_copyFrom_192 : decode cX7_copyFrom 192 = .ok (.iconst 0, 1) := by decide +kernel
theorem dX7_copyFrom_193 : decode cX7_copyFrom 193 = .ok (.aload_n 0, 1) := by decide +kernel
theorem dX7_copyFrom_194 : decode cX7_copyFrom 194 = .ok (.getfield 63, 3) := by decide +kernel
theorem dX7_copyFrom_197 : decode cX7_copyFrom 197 = .ok (.iconst 0, 1) := by decide +kernel
theorem dX7_copyFrom_198 : decode cX7_copyFrom 198 = .ok (.bipush 8, 2) := by decide +kernel
theorem dX7_copyFrom_200 : decode cX7_copyFrom 200 = .ok (.invokestatic 88, 3) := by decide +kernel
theorem dX7_copyFrom_203 : decode cX7_copyFrom 203 = .ok (.aload_n 1, 1) := by decide +kernel
theorem dX7_copyFrom_204 : decode cX7_copyFrom 204 = .ok (.getfield 66, 3) := by decide +kernel
theorem dX7_copyFrom_207 : decode cX7_copyFrom 207 = .ok (.iconst 0, 1) := by decide +kernel
theorem dX7_copyFrom_208 : decode cX7_copyFrom 208 = .ok (.aload_n 0, 1) := by decide +kernel
theorem dX7_copyFrom_209 : decode cX7_copyFrom 209 = .ok (.getfield 66, 3) := by decide +kernel
theorem dX7_copyFrom_212 : decode cX7_copyFrom 212 = .ok (.iconst 0, 1) := by decide +kernel
theorem dX7_copyFrom_213 : decode cX7_copyFrom 213 = .ok (.bipush 8, 2) := by decide +kernel
theorem dX7_copyFrom_215 : decode cX7_copyFrom 215 = .ok (.invokestatic 88, 3) := by decide +kernel
theorem dX7_copyFrom_218 : decode cX7_copyFrom 218 = .ok (.iconst 0, 1) := by decide +kernel
theorem dX7_copyFrom_219 : decode cX7_copyFrom 219 = .ok (.istore_n 2, 1) := by decide +kernel
theorem dX7_copyFrom_220 : decode cX7_copyFrom 220 = .ok (.iload_n 2, 1) := by decide +kernel
theorem dX7_copyFrom_221 : decode cX7_copyFrom 221 = .ok (.bipush 6, 2) := by decide +kernel
theorem dX7_copyFrom_223 : decode cX7_copyFrom 223 = .ok (.if_icmp .ge 21, 3) := by decide +kernel
theorem dX7_copyFrom_226 : decode cX7_copyFrom 226 = .ok (.aload_n 0, 1) := by decide +kernel
theorem dX7_copyFrom_227 : decode cX7_copyFrom 227 = .ok (.getfield 71, 3) := by decide +kernel
theorem dX7_copyFrom_230 : decode cX7_copyFrom 230 = .ok (.iload_n 2, 1) := by decide +kernel
theorem dX7_copyFrom_231 : decode cX7_copyFrom 231 = .ok (.aload_n 1, 1) := by decide +kernel
theorem dX7_copyFrom_232 : decode cX7_copyFrom 232 = .ok (.getfield 71, 3) := by decide +kernel
theorem dX7_copyFrom_235 : decode cX7_copyFrom 235 = .ok (.iload_n 2, 1) := by decide +kernel
theorem dX7_copyFrom_236 : decode cX7_copyFrom 236 = .ok (.aaload, 1) := by decide +kernel
theorem dX7_copyFrom_237 : decode cX7_copyFrom 237 = .ok (.aastore, 1) := by decide +kernel
theorem dX7_copyFrom_238 : decode cX7_copyFrom 238 = .ok (.iinc 2 1, 3) := by decide +kernel
theorem dX7_copyFrom_241 : decode cX7_copyFrom 241 = .ok (.goto (-21), 3) := by decide +kernel
theorem dX7_copyFrom_244 : decode cX7_copyFrom 244 = .ok (.aload_n 0, 1) := by decide +kernel
theorem dX7_copyFrom_245 : decode cX7_copyFrom 245 = .ok (.aload_n 1, 1) := by decide +kernel
theorem dX7_copyFrom_246 : decode cX7_copyFrom 246 = .ok (.getfield 75, 3) := by decide +kernel
theorem dX7_copyFrom_249 : decode cX7_copyFrom 249 = .ok (.putfield 75, 3) := by decide +kernel
theorem dX7_copyFrom_252 : decode cX7_copyFrom 252 = .ok (.aload_n 0, 1) := by decide +kernel
theorem dX7_copyFrom_253 : decode cX7_copyFrom 253 = .ok (.aload_n 1, 1) := by decide +kernel
theorem dX7_copyFrom_254 : decode cX7_copyFrom 254 = .ok (.getfield 78, 3) := by decide +kernel
theorem dX7_copyFrom_257 : decode cX7_copyFrom 257 = .ok (.putfield 78, 3) := by decide +kernel
theorem dX7_copyFrom_260 : decode cX7_copyFrom 260 = .ok (.return_, 1) := by decide +kernel
theorem dX7_hasPart_0 : decode cX7_hasPart 0 = .ok (.iload_n 1, 1) := by decide +kernel
theorem dX7_hasPart_1 : decode cX7_hasPart 1 = .ok (.ifCond .lt 21, 3) := by decide +kernel
theorem dX7_hasPart_4 : decode cX7_hasPart 4 = .ok (.iload_n 1, 1) := by decide +kernel
theorem dX7_hasPart_5 : decode cX7_hasPart 5 = .ok (.aload_n 0, 1) := by decide +kernel
theorem dX7_hasPart_6 : decode cX7_hasPart 6 = .ok (.getfield 9, 3) := by decide +kernel
theorem dX7_hasPart_9 : decode cX7_hasPart 9 = .ok (.if_icmp .ge 13, 3) := by decide +kernel
theorem dX7_hasPart_22 : decode cX7_hasPart 22 = .ok (.iconst 0, 1) := by decide +kernel
theorem dX7_hasPart_23 : decode cX7_hasPart 23 = .ok (.ireturn, 1) := by decide +kernel
theorem dX7_hasBuilder_0 : decode cX7_hasBuilder 0 = .ok (.iload_n 1, 1) := by decide +kernel
theorem dX7_hasBuilder_1 : decode cX7_hasBuilder 1 = .ok (.ifCond .lt 21, 3) := by decide +kernel
theorem dX7_hasBuilder_4 : decode cX7_hasBuilder 4 = .ok (.iload_n 1, 1) := by decide +kernel
theorem dX7_hasBuilder_5 : decode cX7_hasBuilder 5 = .ok (.aload_n 0, 1) := by decide +kernel
theorem dX7_hasBuilder_6 : decode cX7_hasBuilder 6 = .ok (.getfield 31, 3) := by decide +kernel
theorem dX7_hasBuilder_9 : decode cX7_hasBuilder 9 = .ok (.if_icmp .ge 13, 3) := by decide +kernel
theorem dX7_hasBuilder_22 : decode cX7_hasBuilder 22 = .ok (.iconst 0, 1) := by decide +kernel
theorem dX7_hasBuilder_23 : decode cX7_hasBuilder 23 = .ok (.ireturn, 1) := by decide +kernel
theorem dX7_addPart_0 : decode cX7_addPart 0 = .ok (.iload_n 2, 1) := by decide +kernel
theorem dX7_addPart_1 : decode cX7_addPart 1 = .ok (.iconst (-1), 1) := by decide +kernel
theorem dX7_addPart_2 : decode cX7_addPart 2 = .ok (.aload_n 0, 1) := by decide +kernel
theorem dX7_addPart_3 : decode cX7_addPart 3 = .ok (.getfield 9, 3) := by decide +kernel
theorem dX7_addPart_6 : decode cX7_addPart 6 = .ok (.ishl, 1) := by decide +kernel
theorem dX7_addPart_7 : decode cX7_addPart 7 = .ok (.iand, 1) := by decide +kernel
theorem dX7_addPart_8 : decode cX7_addPart 8 = .ok (.ifCond .ne 7, 3) := by decide +kernel
theorem dX7_addPart_11 : decode cX7_addPart 11 = .ok (.iconst 1, 1) := by decide +kernel
theorem dX7_addPart_12 : decode cX7_addPart 12 = .ok (.goto 4, 3) := by decide +kernel
theorem dX7_addPart_15 : decode cX7_addPart 15 = .ok (.iconst 0, 1) := by decide +kernel
theorem dX7_addPart_16 : decode cX7_addPart 16 = .ok (.istore 5, 2) := by decide +kernel
theorem dX7_addPart_18 : decode cX7_addPart 18 = .ok (.iload_n 1, 1) := by decide +kernel
theorem dX7_addPart_19 : decode cX7_addPart 19 = .ok (.iconst 1, 1) := by decide +kernel
theorem dX7_addPart_20 : decode cX7_addPart 20 = .ok (.if_icmp .lt 35, 3) := by decide +kernel
theorem dX7_addPart_23 : decode cX7_addPart 23 = .ok (.iload_n 1, 1) := by decide +kernel
theorem dX7_addPart_24 : decode cX7_addPart 24 = .ok (.bipush 99, 2) := by decide +kernel
theorem dX7_addPart_26 : decode cX7_addPart 26 = .ok (.if_icmp .gt 29, 3) := by decide +kernel
theorem dX7_addPart_29 : decode cX7_addPart 29 = .ok (.iload 5, 2) := by decide +kernel
theorem dX7_addPart_31 : decode cX7_addPart 31 = .ok (.ifCond .eq 24, 3) := by decide +kernel
theorem dX7_addPart_34 : decode cX7_addPart 34 = .ok (.iload_n 3, 1) := by decide +kernel
theorem dX7_addPart_35 : decode cX7_addPart 35 = .ok (.ifCond .lt 20, 3) := by decide +kernel
theorem dX7_addPart_38 : decode cX7_addPart 38 = .ok (.iload_n 3, 1) := by decide +kernel
theorem dX7_addPart_39 : decode cX7_addPart 39 = .ok (.iconst 4, 1) := by decide +kernel
theorem dX7_addPart_40 : decode cX7_addPart 40 = .ok (.if_icmp .ge 15, 3) := by decide +kernel
theorem dX7_addPart_43 : decode cX7_addPart 43 = .ok (.iload 4, 2) := by decide +kernel
theorem dX7_addPart_45 : decode cX7_addPart 45 = .ok (.ifCond .lt 10, 3) := by decide +kernel
theorem dX7_addPart_48 : decode cX7_addPart 48 = .ok (.iload 4, 2) := by decide +kernel
theorem dX7_addPart_50 : decode cX7_addPart 50 = .ok (.bipush 9, 2) := by decide +kernel
theorem dX7_addPart_52 : decode cX7_addPart 52 = .ok (.if_icmp .le 5, 3) := by decide +kernel
theorem dX7_addPart_55 : decode cX7_addPart 55 = .ok (.iconst (-1), 1) := by decide +kernel
theorem dX7_addPart_56 : decode cX7_addPart 56 = .ok (.ireturn, 1) := by decide +kernel
theorem dX7_addPart_57 : decode cX7_addPart 57 = .ok (.aload_n 0, 1) := by decide +kernel
theorem dX7_addPart_58 : decode cX7_addPart 58 = .ok (.getfield 9, 3) := by decide +kernel
theorem dX7_addPart_61 : decode cX7_addPart 61 = .ok (.ifCond .lt 12, 3) := by decide +kernel
theorem dX7_addPart_64 : decode cX7_addPart 64 = .ok (.aload_n 0, 1) := by decide +kernel
theorem dX7_addPart_65 : decode cX7_addPart 65 = .ok (.getfield 9, 3) := by decide +kernel
theorem dX7_addPart_68 : decode cX7_addPart 68 = .ok (.bipush 10, 2) := by decide +kernel
theorem dX7_addPart_70 : decode cX7_addPart 70 = .ok (.if_icmp .lt 6, 3) := by decide +kernel
theorem dX7_addPart_76 : decode cX7_addPart 76 = .ok (.aload_n 0, 1) := by decide +kernel
theorem dX7_addPart_77 : decode cX7_addPart 77 = .ok (.getfield 15, 3) := by decide +kernel
theorem dX7_addPart_80 : decode cX7_addPart 80 = .ok (.aload_n 0, 1) := by decide +kernel
theorem dX7_addPart_81 : decode cX7_addPart 81 = .ok (.getfield 9, 3) := by decide +kernel
theorem dX7_addPart_84 : decode cX7_addPart 84 = .ok (.iload_n 1, 1) := by decide +kernel
theorem dX7_addPart_85 : decode cX7_addPart 85 = .ok (.iastore, 1) := by decide +kernel
theorem dX7_addPart_86 : decode cX7_addPart 86 = .ok (.aload_n 0, 1) := by decide +kernel
theorem dX7_addPart_87 : decode cX7_addPart 87 = .ok (.getfield 19, 3) := by decide +kernel
theorem dX7_addPart_90 : decode cX7_addPart 90 = .ok (.aload_n 0, 1) := by decide +kernel
theorem dX7_addPart_91 : decode cX7_addPart 91 = .ok (.getfield 9, 3) := by decide +kernel
theorem dX7_addPart_94 : decode cX7_addPart 94 = .ok (.iload_n 2, 1) := by decide +kernel
theorem dX7_addPart_95 : decode cX7_addPart 95 = .ok (.iastore, 1) := by decide +kernel
theorem dX7_addPart_96 : decode cX7_addPart 96 = .ok (.aload_n 0, 1) := by decide +kernel
theorem dX7_addPart_97 : decode cX7_addPart 97 = .ok (.getfield 22, 3) := by decide +kernel
theorem dX7_addPart_100 : decode cX7_addPart 100 = .ok (.aload_n 0, 1) := by decide +kernel
theorem dX7_addPart_101 : decode cX7_addPart 101 = .ok (.getfield 9, 3) := by decide +kernel
theorem dX7_addPart_104 : decode cX7_addPart 104 = .ok (.iload_n 3, 1) := by decide +kernel
theorem dX7_addPart_105 : decode cX7_addPart 105 = .ok (.iastore, 1) := by decide +kernel
theorem dX7_addPart_106 : decode cX7_addPart 106 = .ok (.aload_n 0, 1) := by decide +kernel
theorem dX7_addPart_107 : decode cX7_addPart 107 = .ok (.getfield 25, 3) := by decide +kernel
theorem dX7_addPart_110 : decode cX7_addPart 110 = .ok (.aload_n 0, 1) := by decide +kernel
theorem dX7_addPart_111 : decode cX7_addPart 111 = .ok (.getfield 9, 3) := by decide +kernel
theorem dX7_addPart_114 : decode cX7_addPart 114 = .ok (.iload 4, 2) := by decide +kernel
theorem dX7_addPart_116 : decode cX7_addPart 116 = .ok (.iastore, 1) := by decide +kernel
theorem dX7_addPart_117 : decode cX7_addPart 117 = .ok (.aload_n 0, 1) := by decide +kernel
theorem dX7_addPart_118 : decode cX7_addPart 118 = .ok (.getfield 28, 3) := by decide +kernel
theorem dX7_addPart_121 : decode cX7_addPart 121 = .ok (.aload_n 0, 1) := by decide +kernel
theorem dX7_addPart_122 : decode cX7_addPart 122 = .ok (.getfield 9, 3) := by decide +kernel
theorem dX7_addPart_125 : decode cX7_addPart 125 = .ok (.iload_n 1, 1) := by decide +kernel
theorem dX7_addPart_126 : decode cX7_addPart 126 = .ok (.iastore, 1) := by decide +kernel
theorem dX7_addPart_127 : decode cX7_addPart 127 = .ok (.aload_n 0, 1) := by decide +kernel
theorem dX7_addPart_128 : decode cX7_addPart 128 = .ok (.dup, 1) := by decide +kernel
theorem dX7_addPart_129 : decode cX7_addPart 129 = .ok (.getfield 9, 3) := by decide +kernel
theorem dX7_addPart_132 : decode cX7_addPart 132 = .ok (.iconst 1, 1) := by decide +kernel
theorem dX7_addPart_133 : decode cX7_addPart 133 = .ok (.iadd, 1) := by decide +kernel
theorem dX7_addPart_134 : decode cX7_addPart 134 = .ok (.putfield 9, 3) := by decide +kernel
theorem dX7_addPart_137 : decode cX7_addPart 137 = .ok (.aload_n 0, 1) := by decide +kernel
theorem dX7_addPart_138 : decode cX7_addPart 138 = .ok (.getfield 9, 3) := by decide +kernel
theorem dX7_addPart_141 : decode cX7_addPart 141 = .ok (.iconst 1, 1) := by decide +kernel
theorem dX7_addPart_142 : decode cX7_addPart 142 = .ok (.isub, 1) := by decide +kernel
theorem dX7_addPart_143 : decode cX7_addPart 143 = .ok (.ireturn, 1) := by decide +kernel
theorem dX7_addBuilder_0 : decode cX7_addBuilder 0 = .ok (.iload_n 1, 1) := by decide +kernel
theorem dX7_addBuilder_1 : decode cX7_addBuilder 1 = .ok (.iconst 1, 1) := by decide +kernel
theorem dX7_addBuilder_2 : decode cX7_addBuilder 2 = .ok (.if_icmp .lt 20, 3) := by decide +kernel
theorem dX7_addBuilder_5 : decode cX7_addBuilder 5 = .ok (.iload_n 1, 1) := by decide +kernel
theorem dX7_addBuilder_6 : decode cX7_addBuilder 6 = .ok (.bipush 15, 2) := by decide +kernel
theorem dX7_addBuilder_8 : decode cX7_addBuilder 8 = .ok (.if_icmp .gt 14, 3) := by decide +kernel
theorem dX7_addBuilder_11 : decode cX7_addBuilder 11 = .ok (.iload_n 2, 1) := by decide +kernel
theorem dX7_addBuilder_12 : decode cX7_addBuilder 12 = .ok (.iconst 1, 1) := by decide +kernel
theorem dX7_addBuilder_13 : decode cX7_addBuilder 13 = .ok (.if_icmp .lt 9, 3) := by decide +kernel
theorem dX7_addBuilder_16 : decode cX7_addBuilder 16 = .ok (.iload_n 2, 1) := by decide +kernel
theorem dX7_addBuilder_17 : decode cX7_addBuilder 17 = .ok (.bipush 9, 2) := by decide +kernel
theorem dX7_addBuilder_19 : decode cX7_addBuilder 19 = .ok (.if_icmp .le 5, 3) := by decide +kernel
theorem dX7_addBuilder_22 : decode cX7_addBuilder 22 = .ok (.iconst (-1), 1) := by decide +kernel
theorem dX7_addBuilder_23 : decode cX7_addBuilder 23 = .ok (.ireturn, 1) := by decide +kernel
theorem dX7_addBuilder_24 : decode cX7_addBuilder 24 = .ok (.aload_n 0, 1) := by decide +kernel
theorem dX7_addBuilder_25 : decode cX7_addBuilder 25 = .ok (.getfield 31, 3) := by decide +kernel
theorem dX7_addBuilder_28 : decode cX7_addBuilder 28 = .ok (.ifCond .lt 12, 3) := by decide +kernel
theorem dX7_addBuilder_31 : decode cX7_addBuilder 31 = .ok (.aload_n 0, 1) := by decide +kernel
theorem dX7_addBuilder_32 : decode cX7_addBuilder 32 = .ok (.getfield 31, 3) := by decide +kernel
theorem dX7_addBuilder_35 : decode cX7_addBuilder 35 = .ok (.bipush 6, 2) := by decide +kernel
theorem dX7_addBuilder_37 : decode cX7_addBuilder 37 = .ok (.if_icmp .lt 6, 3) := by decide +kernel
theorem dX7_addBuilder_43 : decode cX7_addBuilder 43 = .ok (.aload_n 0, 1) := by decide +kernel
theorem dX7_addBuilder_44 : decode cX7_addBuilder 44 = .ok (.getfield 34, 3) := by decide +kernel
theorem dX7_addBuilder_47 : decode cX7_addBuilder 47 = .ok (.aload_n 0, 1) := by decide +kernel
theorem dX7_addBuilder_48 : decode cX7_addBuilder 48 = .ok (.getfield 31, 3) := by decide +kernel
theorem dX7_addBuilder_51 : decode cX7_addBuilder 51 = .ok (.iload_n 1, 1) := by decide +kernel
theorem dX7_addBuilder_52 : decode cX7_addBuilder 52 = .ok (.iastore, 1) := by decide +kernel
theorem dX7_addBuilder_53 : decode cX7_addBuilder 53 = .ok (.aload_n 0, 1) := by decide +kernel
theorem dX7_addBuilder_54 : decode cX7_addBuilder 54 = .ok (.getfield 37, 3) := by decide +kernel
theorem dX7_addBuilder_57 : decode cX7_addBuilder 57 = .ok (.aload_n 0, 1) := by decide +kernel
theorem dX7_addBuilder_58 : decode cX7_addBuilder 58 = .ok (.getfield 31, 3) := by decide +kernel
theorem dX7_addBuilder_61 : decode cX7_addBuilder 61 = .ok (.iload_n 2, 1) := by decide +kernel
theorem dX7_addBuilder_62 : decode cX7_addBuilder 62 = .ok (.iastore, 1) := by decide +kernel
theorem dX7_addBuilder_63 : decode cX7_addBuilder 63 = .ok (.aload_n 0, 1) := by decide +kernel
theorem dX7_addBuilder_64 : decode cX7_addBuilder 64 = .ok (.getfield 40, 3) := by decide +kernel
theorem dX7_addBuilder_67 : decode cX7_addBuilder 67 = .ok (.aload_n 0, 1) := by decide +kernel
theorem dX7_addBuilder_68 : decode cX7_addBuilder 68 = .ok (.getfield 31, 3) := by decide +kernel
theorem dX7_addBuilder_71 : decode cX7_addBuilder 71 = .ok (.iconst 0, 1) := by decide +kernel
theorem dX7_addBuilder_72 : decode cX7_addBuilder 72 = .ok (.iastore, 1) := by decide +kernel
theorem dX7_addBuilder_73 : decode cX7_addBuilder 73 = .ok (.aload_n 0, 1) := by decide +kernel
theorem dX7_addBuilder_74 : decode cX7_addBuilder 74 = .ok (.getfield 43, 3) := by decide +kernel
theorem dX7_addBuilder_77 : decode cX7_addBuilder 77 = .ok (.aload_n 0, 1) := by decide +kernel
theorem dX7_addBuilder_78 : decode cX7_addBuilder 78 = .ok (.getfield 31, 3) := by decide +kernel
theorem dX7_addBuilder_81 : decode cX7_addBuilder 81 = .ok (.iconst (-1), 1) := by decide +kernel
theorem dX7_addBuilder_82 : decode cX7_addBuilder 82 = .ok (.iastore, 1) := by decide +kernel
theorem dX7_addBuilder_83 : decode cX7_addBuilder 83 = .ok (.aload_n 0, 1) := by decide +kernel
theorem dX7_addBuilder_84 : decode cX7_addBuilder 84 = .ok (.dup, 1) := by decide +kernel
theorem dX7_addBuilder_85 : decode cX7_addBuilder 85 = .ok (.getfield 31, 3) := by decide +kernel
theorem dX7_addBuilder_88 : decode cX7_addBuilder 88 = .ok (.iconst 1, 1) := by decide +kernel
theorem dX7_addBuilder_89 : decode cX7_addBuilder 89 = .ok (.iadd, 1) := by decide +kernel
theorem dX7_addBuilder_90 : decode cX7_addBuilder 90 = .ok (.putfield 31, 3) := by decide +kernel
theorem dX7_addBuilder_93 : decode cX7_addBuilder 93 = .ok (.aload_n 0, 1) := by decide +kernel
theorem dX7_addBuilder_94 : decode cX7_addBuilder 94 = .ok (.getfield 31, 3) := by decide +kernel
theorem dX7_addBuilder_97 : decode cX7_addBuilder 97 = .ok (.iconst 1, 1) := by decide +kernel
theorem dX7_addBuilder_98 : decode cX7_addBuilder 98 = .ok (.isub, 1) := by decide +kernel
theorem dX7_addBuilder_99 : decode cX7_addBuilder 99 = .ok (.ireturn, 1) := by decide +kernel
theorem dX7_upMask_0 : decode cX7_upMask 0 = .ok (.iconst 0, 1) := by decide +kernel
theorem dX7_upMask_1 : decode cX7_upMask 1 = .ok (.istore_n 1, 1) := by decide +kernel
theorem dX7_upMask_2 : decode cX7_upMask 2 = .ok (.iconst 0, 1) := by decide +kernel
theorem dX7_upMask_3 : decode cX7_upMask 3 = .ok (.istore_n 2, 1) := by decide +kernel
theorem dX7_upMask_4 : decode cX7_upMask 4 = .ok (.iload_n 2, 1) := by decide +kernel
theorem dX7_upMask_5 : decode cX7_upMask 5 = .ok (.aload_n 0, 1) := by decide +kernel
theorem dX7_upMask_6 : decode cX7_upMask 6 = .ok (.getfield 9, 3) := by decide +kernel
theorem dX7_upMask_9 : decode cX7_upMask 9 = .ok (.if_icmp .ge 30, 3) := by decide +kernel
theorem dX7_upMask_39 : decode cX7_upMask 39 = .ok (.iload_n 1, 1) := by decide +kernel
theorem dX7_upMask_40 : decode cX7_upMask 40 = .ok (.ireturn, 1) := by decide +kernel
theorem dX7_readyMask_0 : decode cX7_readyMask 0 = .ok (.aload_n 0, 1) := by decide +kernel
theorem dX7_readyMask_1 : decode cX7_readyMask 1 = .ok (.invokevirtual 94, 3) := by decide +kernel
theorem dX7_readyMask_4 : decode cX7_readyMask 4 = .ok (.istore_n 1, 1) := by decide +kernel
theorem dX7_readyMask_5 : decode cX7_readyMask 5 = .ok (.iconst 0, 1) := by decide +kernel
theorem dX7_readyMask_6 : decode cX7_readyMask 6 = .ok (.istore_n 2, 1) := by decide +kernel
theorem dX7_readyMask_7 : decode cX7_readyMask 7 = .ok (.iconst 0, 1) := by decide +kernel
theorem dX7_readyMask_8 : decode cX7_readyMask 8 = .ok (.istore_n 3, 1) := by decide +kernel
theorem dX7_readyMask_9 : decode cX7_readyMask 9 = .ok (.iload_n 3, 1) := by decide +kernel
theorem dX7_readyMask_10 : decode cX7_readyMask 10 = .ok (.aload_n 0, 1) := by decide +kernel
theorem dX7_readyMask_11 : decode cX7_readyMask 11 = .ok (.getfield 9, 3) := by decide +kernel
theorem dX7_readyMask_14 : decode cX7_readyMask 14 = .ok (.if_icmp .ge 43, 3) := by decide +kernel
theorem dX7_readyMask_57 : decode cX7_readyMask 57 = .ok (.iload_n 2, 1) := by decide +kernel
theorem dX7_readyMask_58 : decode cX7_readyMask 58 = .ok (.ireturn, 1) := by decide +kernel
theorem dX7_reckonChains_0 : decode cX7_reckonChains 0 = .ok (.iconst 0, 1) := by decide +kernel
theorem dX7_reckonChains_1 : decode cX7_reckonChains 1 = .ok (.istore_n 1, 1) := by decide +kernel
theorem dX7_reckonChains_2 : decode cX7_reckonChains 2 = .ok (.aload_n 0, 1) := by decide +kernel
theorem dX7_reckonChains_3 : decode cX7_reckonChains 3 = .ok (.getfield 9, 3) := by decide +kernel
theorem dX7_reckonChains_6 : decode cX7_reckonChains 6 = .ok (.bipush 10, 2) := by decide +kernel
theorem dX7_reckonChains_8 : decode cX7_reckonChains 8 = .ok (.invokestatic 98, 3) := by decide +kernel
theorem dX7_reckonChains_11 : decode cX7_reckonChains 11 = .ok (.iconst 1, 1) := by decide +kernel
theorem dX7_reckonChains_12 : decode cX7_reckonChains 12 = .ok (.isub, 1) := by decide +kernel
theorem dX7_reckonChains_13 : decode cX7_reckonChains 13 = .ok (.istore_n 2, 1) := by decide +kernel
theorem dX7_reckonChains_14 : decode cX7_reckonChains 14 = .ok (.iload_n 2, 1) := by decide +kernel
theorem dX7_reckonChains_15 : decode cX7_reckonChains 15 = .ok (.ifCond .lt 119, 3) := by decide +kernel
theorem dX7_reckonChains_134 : decode cX7_reckonChains 134 = .ok (.iload_n 1, 1) := by decide +kernel
theorem dX7_reckonChains_135 : decode cX7_reckonChains 135 = .ok (.ireturn, 1) := by decide +kernel
theorem dX7_workOneTick_0 : decode cX7_workOneTick 0 = .ok (.iconst 0, 1) := by decide +kernel
theorem dX7_workOneTick_1 : decode cX7_workOneTick 1 = .ok (.istore_n 1, 1) := by decide +kernel
theorem dX7_workOneTick_2 : decode cX7_workOneTick 2 = .ok (.iload_n 1, 1) := by decide +kernel
theorem dX7_workOneTick_3 : decode cX7_workOneTick 3 = .ok (.aload_n 0, 1) := by decide +kernel
theorem dX7_workOneTick_4 : decode cX7_workOneTick 4 = .ok (.getfield 31, 3) := by decide +kernel
theorem dX7_workOneTick_7 : decode cX7_workOneTick 7 = .ok (.if_icmp .ge 70, 3) := by decide +kernel
theorem dX7_workOneTick_77 : decode cX7_workOneTick 77 = .ok (.aload_n 0, 1) := by decide +kernel
theorem dX7_workOneTick_78 : decode cX7_workOneTick 78 = .ok (.invokevirtual 94, 3) := by decide +kernel
theorem dX7_workOneTick_81 : decode cX7_workOneTick 81 = .ok (.istore_n 1, 1) := by decide +kernel
theorem dX7_workOneTick_82 : decode cX7_workOneTick 82 = .ok (.iconst 0, 1) := by decide +kernel
theorem dX7_workOneTick_83 : decode cX7_workOneTick 83 = .ok (.istore_n 2, 1) := by decide +kernel
theorem dX7_workOneTick_84 : decode cX7_workOneTick 84 = .ok (.iload_n 2, 1) := by decide +kernel
theorem dX7_workOneTick_85 : decode cX7_workOneTick 85 = .ok (.aload_n 0, 1) := by decide +kernel
theorem dX7_workOneTick_86 : decode cX7_workOneTick 86 = .ok (.getfield 31, 3) := by decide +kernel
theorem dX7_workOneTick_89 : decode cX7_workOneTick 89 = .ok (.if_icmp .ge 104, 3) := by decide +kernel
theorem dX7_workOneTick_193 : decode cX7_workOneTick 193 = .ok (.iconst 0, 1) := by decide +kernel
theorem dX7_workOneTick_194 : decode cX7_workOneTick 194 = .ok (.istore_n 2, 1) := by decide +kernel
theorem dX7_workOneTick_195 : decode cX7_workOneTick 195 = .ok (.iload_n 2, 1) := by decide +kernel
theorem dX7_workOneTick_196 : decode cX7_workOneTick 196 = .ok (.aload_n 0, 1) := by decide +kernel
theorem dX7_workOneTick_197 : decode cX7_workOneTick 197 = .ok (.getfield 31, 3) := by decide +kernel
theorem dX7_workOneTick_200 : decode cX7_workOneTick 200 = .ok (.if_icmp .ge 49, 3) := by decide +kernel
theorem dX7_workOneTick_249 : decode cX7_workOneTick 249 = .ok (.aload_n 0, 1) := by decide +kernel
theorem dX7_workOneTick_250 : decode cX7_workOneTick 250 = .ok (.getfield 54, 3) := by decide +kernel
theorem dX7_workOneTick_253 : decode cX7_workOneTick 253 = .ok (.iconst 0, 1) := by decide +kernel
theorem dX7_workOneTick_254 : decode cX7_workOneTick 254 = .ok (.dup2, 1) := by decide +kernel
theorem dX7_workOneTick_255 : decode cX7_workOneTick 255 = .ok (.iaload, 1) := by decide +kernel
theorem dX7_workOneTick_256 : decode cX7_workOneTick 256 = .ok (.iconst 1, 1) := by decide +kernel
theorem dX7_workOneTick_257 : decode cX7_workOneTick 257 = .ok (.iadd, 1) := by decide +kernel
theorem dX7_workOneTick_258 : decode cX7_workOneTick 258 = .ok (.iastore, 1) := by decide +kernel
theorem dX7_workOneTick_259 : decode cX7_workOneTick 259 = .ok (.aload_n 0, 1) := by decide +kernel
theorem dX7_workOneTick_260 : decode cX7_workOneTick 260 = .ok (.invokevirtual 94, 3) := by decide +kernel
theorem dX7_workOneTick_263 : decode cX7_workOneTick 263 = .ok (.iload_n 1, 1) := by decide +kernel
theorem dX7_workOneTick_264 : decode cX7_workOneTick 264 = .ok (.iconst (-1), 1) := by decide +kernel
theorem dX7_workOneTick_265 : decode cX7_workOneTick 265 = .ok (.ixor, 1) := by decide +kernel
theorem dX7_workOneTick_266 : decode cX7_workOneTick 266 = .ok (.iand, 1) := by decide +kernel
theorem dX7_workOneTick_267 : decode cX7_workOneTick 267 = .ok (.invokestatic 165, 3) := by decide +kernel
theorem dX7_workOneTick_270 : decode cX7_workOneTick 270 = .ok (.ireturn, 1) := by decide +kernel
theorem dX9_clear_0 : decode cX9_clear 0 = .ok (.aload_n 0, 1) := by decide +kernel
theorem dX9_clear_1 : decode cX9_clear 1 = .ok (.getfield 11, 3) := by decide +kernel
theorem dX9_clear_4 : decode cX9_clear 4 = .ok (.iconst 0, 1) := by decide +kernel
theorem dX9_clear_5 : decode cX9_clear 5 = .ok (.bipush (-2), 2) := by decide +kernel
theorem dX9_clear_7 : decode cX9_clear 7 = .ok (.iastore, 1) := by decide +kernel
theorem dX9_clear_8 : decode cX9_clear 8 = .ok (.aload_n 0, 1) := by decide +kernel
theorem dX9_clear_9 : decode cX9_clear 9 = .ok (.iconst 0, 1) := by decide +kernel
theorem dX9_clear_10 : decode cX9_clear 10 = .ok (.putfield 23, 3) := by decide +kernel
theorem dX9_clear_13 : decode cX9_clear 13 = .ok (.aload_n 0, 1) := by decide +kernel
theorem dX9_clear_14 : decode cX9_clear 14 = .ok (.iconst 0, 1) := by decide +kernel
theorem dX9_clear_15 : decode cX9_clear 15 = .ok (.putfield 27, 3) := by decide +kernel
theorem dX9_clear_18 : decode cX9_clear 18 = .ok (.return_, 1) := by decide +kernel
theorem dX9_planTicks_0 : decode cX9_planTicks 0 = .ok (.aload_n 0, 1) := by decide +kernel
theorem dX9_planTicks_1 : decode cX9_planTicks 1 = .ok (.getfield 45, 3) := by decide +kernel
theorem dX9_planTicks_4 : decode cX9_planTicks 4 = .ok (.bipush 63, 2) := by decide +kernel
theorem dX9_planTicks_6 : decode cX9_planTicks 6 = .ok (.sipush 200, 3) := by decide +kernel
theorem dX9_planTicks_9 : decode cX9_planTicks 9 = .ok (.aload_n 0, 1) := by decide +kernel
theorem dX9_planTicks_10 : decode cX9_planTicks 10 = .ok (.getfield 11, 3) := by decide +kernel
theorem dX9_planTicks_13 : decode cX9_planTicks 13 = .ok (.iconst 0, 1) := by decide +kernel
theorem dX9_planTicks_14 : decode cX9_planTicks 14 = .ok (.invokevirtual 49, 3) := by decide +kernel
theorem dX9_planTicks_17 : decode cX9_planTicks 17 = .ok (.ireturn, 1) := by decide +kernel
theorem dX9_bestLesson_0 : decode cX9_bestLesson 0 = .ok (.aload_n 0, 1) := by decide +kernel
theorem dX9_bestLesson_1 : decode cX9_bestLesson 1 = .ok (.getfield 27, 3) := by decide +kernel
theorem dX9_bestLesson_4 : decode cX9_bestLesson 4 = .ok (.ifCond .ne 148, 3) := by decide +kernel
theorem dX9_bestLesson_7 : decode cX9_bestLesson 7 = .ok (.aload_n 0, 1) := by decide +kernel
theorem dX9_bestLesson_8 : decode cX9_bestLesson 8 = .ok (.getfield 31, 3) := by decide +kernel
theorem dX9_bestLesson_11 : decode cX9_bestLesson 11 = .ok (.iconst (-1), 1) := by decide +kernel
theorem dX9_bestLesson_12 : decode cX9_bestLesson 12 = .ok (.invokestatic 57, 3) := by decide +kernel
theorem dX9_bestLesson_15 : decode cX9_bestLesson 15 = .ok (.aload_n 0, 1) := by decide +kernel
theorem dX9_bestLesson_16 : decode cX9_bestLesson 16 = .ok (.invokevirtual 53, 3) := by decide +kernel
theorem dX9_bestLesson_19 : decode cX9_bestLesson 19 = .ok (.istore_n 2, 1) := by decide +kernel
theorem dX9_bestLesson_20 : decode cX9_bestLesson 20 = .ok (.iload_n 2, 1) := by decide +kernel
theorem dX9_bestLesson_21 : decode cX9_bestLesson 21 = .ok (.iconst (-1), 1) := by decide +kernel
theorem dX9_bestLesson_22 : decode cX9_bestLesson 22 = .ok (.if_icmp .ne 9, 3) := by decide +kernel
theorem dX9_bestLesson_31 : decode cX9_bestLesson 31 = .ok (.iload_n 2, 1) := by decide +kernel
theorem dX9_bestLesson_32 : decode cX9_bestLesson 32 = .ok (.iconst 1, 1) := by decide +kernel
theorem dX9_bestLesson_33 : decode cX9_bestLesson 33 = .ok (.isub, 1) := by decide +kernel
theorem dX9_bestLesson_34 : decode cX9_bestLesson 34 = .ok (.istore_n 3, 1) := by decide +kernel
theorem dX9_bestLesson_35 : decode cX9_bestLesson 35 = .ok (.iconst 0, 1) := by decide +kernel
theorem dX9_bestLesson_36 : decode cX9_bestLesson 36 = .ok (.istore 4, 2) := by decide +kernel
theorem dX9_bestLesson_38 : decode cX9_bestLesson 38 = .ok (.iload 4, 2) := by decide +kernel
theorem dX9_bestLesson_40 : decode cX9_bestLesson 40 = .ok (.aload_n 0, 1) := by decide +kernel
theorem dX9_bestLesson_41 : decode cX9_bestLesson 41 = .ok (.getfield 41, 3) := by decide +kernel
theorem dX9_bestLesson_44 : decode cX9_bestLesson 44 = .ok (.getfield 63, 3) := by decide +kernel
theorem dX9_bestLesson_47 : decode cX9_bestLesson 47 = .ok (.if_icmp .ge 100, 3) := by decide +kernel
theorem dX9_bestLesson_147 : decode cX9_bestLesson 147 = .ok (.aload_n 0, 1) := by decide +kernel
theorem dX9_bestLesson_148 : decode cX9_bestLesson 148 = .ok (.iconst 1, 1) := by decide +kernel
theorem dX9_bestLesson_149 : decode cX9_bestLesson 149 = .ok (.putfield 27, 3) := by decide +kernel
theorem dX9_bestLesson_152 : decode cX9_bestLesson 152 = .ok (.iload_n 1, 1) := by decide +kernel
theorem dX9_bestLesson_153 : decode cX9_bestLesson 153 = .ok (.ifCond .lt 21, 3) := by decide +kernel
theorem dX9_bestLesson_156 : decode cX9_bestLesson 156 = .ok (.iload_n 1, 1) := by decide +kernel
theorem dX9_bestLesson_157 : decode cX9_bestLesson 157 = .ok (.aload_n 0, 1) := by decide +kernel
theorem dX9_bestLesson_158 : decode cX9_bestLesson 158 = .ok (.getfield 31, 3) := by decide +kernel
theorem dX9_bestLesson_161 : decode cX9_bestLesson 161 = .ok (.arraylength, 1) := by decide +kernel
theorem dX9_bestLesson_162 : decode cX9_bestLesson 162 = .ok (.if_icmp .ge 12, 3) := by decide +kernel
theorem dX9_bestLesson_165 : decode cX9_bestLesson 165 = .ok (.aload_n 0, 1) := by decide +kernel
theorem dX9_bestLesson_166 : decode cX9_bestLesson 166 = .ok (.getfield 31, 3) := by decide +kernel
theorem dX9_bestLesson_169 : decode cX9_bestLesson 169 = .ok (.iload_n 1, 1) := by decide +kernel
theorem dX9_bestLesson_170 : decode cX9_bestLesson 170 = .ok (.iaload, 1) := by decide +kernel
theorem dX9_bestLesson_171 : decode cX9_bestLesson 171 = .ok (.goto 4, 3) := by decide +kernel
theorem dX9_bestLesson_175 : decode cX9_bestLesson 175 = .ok (.ireturn, 1) := by decide +kernel
theorem dX9_openSets_0 : decode cX9_openSets 0 = .ok (.bipush 40, 2) := by decide +kernel
theorem dX9_openSets_2 : decode cX9_openSets 2 = .ok (.aload_n 0, 1) := by decide +kernel
theorem dX9_openSets_3 : decode cX9_openSets 3 = .ok (.getfield 41, 3) := by decide +kernel
theorem dX9_openSets_6 : decode cX9_openSets 6 = .ok (.getfield 79, 3) := by decide +kernel
theorem dX9_openSets_9 : decode cX9_openSets 9 = .ok (.iconst 1, 1) := by decide +kernel
theorem dX9_openSets_10 : decode cX9_openSets 10 = .ok (.iaload, 1) := by decide +kernel
theorem dX9_openSets_11 : decode cX9_openSets 11 = .ok (.invokestatic 82, 3) := by decide +kernel
theorem dX9_openSets_14 : decode cX9_openSets 14 = .ok (.istore_n 1, 1) := by decide +kernel
theorem dX9_openSets_15 : decode cX9_openSets 15 = .ok (.iconst 0, 1) := by decide +kernel
theorem dX9_openSets_16 : decode cX9_openSets 16 = .ok (.istore_n 2, 1) := by decide +kernel
theorem dX9_openSets_17 : decode cX9_openSets 17 = .ok (.iload_n 2, 1) := by decide +kernel
theorem dX9_openSets_18 : decode cX9_openSets 18 = .ok (.aload_n 0, 1) := by decide +kernel
theorem dX9_openSets_19 : decode cX9_openSets 19 = .ok (.getfield 41, 3) := by decide +kernel
theorem dX9_openSets_22 : decode cX9_openSets 22 = .ok (.getfield 88, 3) := by decide +kernel
theorem dX9_openSets_25 : decode cX9_openSets 25 = .ok (.if_icmp .ge 29, 3) := by decide +kernel
theorem dX9_openSets_54 : decode cX9_openSets 54 = .ok (.iload_n 1, 1) := by decide +kernel
theorem dX9_openSets_55 : decode cX9_openSets 55 = .ok (.aload_n 0, 1) := by decide +kernel
theorem dX9_openSets_56 : decode cX9_openSets 56 = .ok (.getfield 23, 3) := by decide +kernel
theorem dX9_openSets_59 : decode cX9_openSets 59 = .ok (.if_icmp .le 33, 3) := by decide +kernel
theorem dX9_openSets_62 : decode cX9_openSets 62 = .ok (.aload_n 0, 1) := by decide +kernel
theorem dX9_openSets_63 : decode cX9_openSets 63 = .ok (.iload_n 1, 1) := by decide +kernel
theorem dX9_openSets_64 : decode cX9_openSets 64 = .ok (.putfield 23, 3) := by decide +kernel
theorem dX9_openSets_67 : decode cX9_openSets 67 = .ok (.iconst 0, 1) := by decide +kernel
theorem dX9_openSets_68 : decode cX9_openSets 68 = .ok (.istore_n 2, 1) := by decide +kernel
theorem dX9_openSets_69 : decode cX9_openSets 69 = .ok (.iload_n 2, 1) := by decide +kernel
theorem dX9_openSets_70 : decode cX9_openSets 70 = .ok (.bipush 64, 2) := by decide +kernel
theorem dX9_openSets_72 : decode cX9_openSets 72 = .ok (.if_icmp .ge 20, 3) := by decide +kernel
theorem dX9_openSets_75 : decode cX9_openSets 75 = .ok (.aload_n 0, 1) := by decide +kernel
theorem dX9_openSets_76 : decode cX9_openSets 76 = .ok (.getfield 20, 3) := by decide +kernel
theorem dX9_openSets_79 : decode cX9_openSets 79 = .ok (.iload_n 2, 1) := by decide +kernel
theorem dX9_openSets_80 : decode cX9_openSets 80 = .ok (.bipush 11, 2) := by decide +kernel
theorem dX9_openSets_82 : decode cX9_openSets 82 = .ok (.imul, 1) := by decide +kernel
theorem dX9_openSets_83 : decode cX9_openSets 83 = .ok (.bipush (-2), 2) := by decide +kernel
theorem dX9_openSets_85 : decode cX9_openSets 85 = .ok (.iastore, 1) := by decide +kernel
theorem dX9_openSets_86 : decode cX9_openSets 86 = .ok (.iinc 2 1, 3) := by decide +kernel
theorem dX9_openSets_89 : decode cX9_openSets 89 = .ok (.goto (-20), 3) := by decide +kernel
theorem dX9_openSets_92 : decode cX9_openSets 92 = .ok (.return_, 1) := by decide +kernel
theorem dX9_fewestHands_0 : decode cX9_fewestHands 0 = .ok (.aload_n 0, 1) := by decide +kernel
theorem dX9_fewestHands_1 : decode cX9_fewestHands 1 = .ok (.invokevirtual 94, 3) := by decide +kernel
theorem dX9_fewestHands_4 : decode cX9_fewestHands 4 = .ok (.iconst 0, 1) := by decide +kernel
theorem dX9_fewestHands_5 : decode cX9_fewestHands 5 = .ok (.istore_n 1, 1) := by decide +kernel
theorem dX9_fewestHands_6 : decode cX9_fewestHands 6 = .ok (.iload_n 1, 1) := by decide +kernel
theorem dX9_fewestHands_7 : decode cX9_fewestHands 7 = .ok (.aload_n 0, 1) := by decide +kernel
theorem dX9_fewestHands_8 : decode cX9_fewestHands 8 = .ok (.getfield 41, 3) := by decide +kernel
theorem dX9_fewestHands_11 : decode cX9_fewestHands 11 = .ok (.getfield 63, 3) := by decide +kernel
theorem dX9_fewestHands_14 : decode cX9_fewestHands 14 = .ok (.if_icmp .gt 94, 3) := by decide +kernel
theorem dX9_fewestHands_17 : decode cX9_fewestHands 17 = .ok (.iload_n 1, 1) := by decide +kernel
theorem dX9_fewestHands_18 : decode cX9_fewestHands 18 = .ok (.bipush 6, 2) := by decide +kernel
theorem dX9_fewestHands_20 : decode cX9_fewestHands 20 = .ok (.if_icmp .gt 88, 3) := by decide +kernel
theorem dX9_fewestHands_23 : decode cX9_fewestHands 23 = .ok (.iconst 0, 1) := by decide +kernel
theorem dX9_fewestHands_24 : decode cX9_fewestHands 24 = .ok (.istore_n 2, 1) := by decide +kernel
theorem dX9_fewestHands_25 : decode cX9_fewestHands 25 = .ok (.iload_n 2, 1) := by decide +kernel
theorem dX9_fewestHands_26 : decode cX9_fewestHands 26 = .ok (.iconst 1, 1) := by decide +kernel
theorem dX9_fewestHands_27 : decode cX9_fewestHands 27 = .ok (.aload_n 0, 1) := by decide +kernel
theorem dX9_fewestHands_28 : decode cX9_fewestHands 28 = .ok (.getfield 41, 3) := by decide +kernel
theorem dX9_fewestHands_31 : decode cX9_fewestHands 31 = .ok (.getfield 63, 3) := by decide +kernel
theorem dX9_fewestHands_34 : decode cX9_fewestHands 34 = .ok (.ishl, 1) := by decide +kernel
theorem dX9_fewestHands_35 : decode cX9_fewestHands 35 = .ok (.if_icmp .ge 67, 3) := by decide +kernel
theorem dX9_fewestHands_38 : decode cX9_fewestHands 38 = .ok (.iload_n 2, 1) := by decide +kernel
theorem dX9_fewestHands_39 : decode cX9_fewestHands 39 = .ok (.bipush 64, 2) := by decide +kernel
theorem dX9_fewestHands_41 : decode cX9_fewestHands 41 = .ok (.if_icmp .ge 61, 3) := by decide +kernel
theorem dX9_fewestHands_44 : decode cX9_fewestHands 44 = .ok (.iload_n 2, 1) := by decide +kernel
theorem dX9_fewestHands_45 : decode cX9_fewestHands 45 = .ok (.invokestatic 97, 3) := by decide +kernel
theorem dX9_fewestHands_48 : decode cX9_fewestHands 48 = .ok (.iload_n 1, 1) := by decide +kernel
theorem dX9_fewestHands_49 : decode cX9_fewestHands 49 = .ok (.if_icmp .eq 6, 3) := by decide +kernel
theorem dX9_fewestHands_55 : decode cX9_fewestHands 55 = .ok (.aload_n 0, 1) := by decide +kernel
theorem dX9_fewestHands_56 : decode cX9_fewestHands 56 = .ok (.getfield 45, 3) := by decide +kernel
theorem dX9_fewestHands_59 : decode cX9_fewestHands 59 = .ok (.iload_n 2, 1) := by decide +kernel
theorem dX9_fewestHands_60 : decode cX9_fewestHands 60 = .ok (.aload_n 0, 1) := by decide +kernel
theorem dX9_fewestHands_61 : decode cX9_fewestHands 61 = .ok (.getfield 23, 3) := by decide +kernel
theorem dX9_fewestHands_64 : decode cX9_fewestHands 64 = .ok (.aload_n 0, 1) := by decide +kernel
theorem dX9_fewestHands_65 : decode cX9_fewestHands 65 = .ok (.getfield 20, 3) := by decide +kernel
theorem dX9_fewestHands_68 : decode cX9_fewestHands 68 = .ok (.iload_n 2, 1) := by decide +kernel
theorem dX9_fewestHands_69 : decode cX9_fewestHands 69 = .ok (.bipush 11, 2) := by decide +kernel
theorem dX9_fewestHands_71 : decode cX9_fewestHands 71 = .ok (.imul, 1) := by decide +kernel
theorem dX9_fewestHands_72 : decode cX9_fewestHands 72 = .ok (.invokevirtual 49, 3) := by decide +kernel
theorem dX9_fewestHands_75 : decode cX9_fewestHands 75 = .ok (.istore_n 3, 1) := by decide +kernel
theorem dX9_fewestHands_76 : decode cX9_fewestHands 76 = .ok (.iload_n 3, 1) := by decide +kernel
theorem dX9_fewestHands_77 : decode cX9_fewestHands 77 = .ok (.iconst (-1), 1) := by decide +kernel
theorem dX9_fewestHands_78 : decode cX9_fewestHands 78 = .ok (.if_icmp .eq 18, 3) := by decide +kernel
theorem dX9_fewestHands_81 : decode cX9_fewestHands 81 = .ok (.iload_n 3, 1) := by decide +kernel
theorem dX9_fewestHands_82 : decode cX9_fewestHands 82 = .ok (.aload_n 0, 1) := by decide +kernel
theorem dX9_fewestHands_83 : decode cX9_fewestHands 83 = .ok (.getfield 41, 3) := by decide +kernel
theorem dX9_fewestHands_86 : decode cX9_fewestHands 86 = .ok (.getfield 79, 3) := by decide +kernel
theorem dX9_fewestHands_89 : decode cX9_fewestHands 89 = .ok (.iconst 1, 1) := by decide +kernel
theorem dX9_fewestHands_90 : decode cX9_fewestHands 90 = .ok (.iaload, 1) := by decide +kernel
theorem dX9_fewestHands_91 : decode cX9_fewestHands 91 = .ok (.if_icmp .gt 5, 3) := by decide +kernel
theorem dX9_fewestHands_94 : decode cX9_fewestHands 94 = .ok (.iload_n 2, 1) := by decide +kernel
theorem dX9_fewestHands_95 : decode cX9_fewestHands 95 = .ok (.ireturn, 1) := by decide +kernel
theorem dX9_suspects_0 : decode cX9_suspects 0 = .ok (.aload_n 0, 1) := by decide +kernel
theorem dX9_suspects_1 : decode cX9_suspects 1 = .ok (.invokevirtual 94, 3) := by decide +kernel
theorem dX9_suspects_4 : decode cX9_suspects 4 = .ok (.iconst 0, 1) := by decide +kernel
theorem dX9_suspects_5 : decode cX9_suspects 5 = .ok (.istore_n 2, 1) := by decide +kernel
theorem dX9_suspects_6 : decode cX9_suspects 6 = .ok (.iconst 0, 1) := by decide +kernel
theorem dX9_suspects_7 : decode cX9_suspects 7 = .ok (.istore_n 3, 1) := by decide +kernel
theorem dX9_suspects_8 : decode cX9_suspects 8 = .ok (.iload_n 3, 1) := by decide +kernel
theorem dX9_suspects_9 : decode cX9_suspects 9 = .ok (.iconst 1, 1) := by decide +kernel
theorem dX9_suspects_10 : decode cX9_suspects 10 = .ok (.aload_n 0, 1) := by decide +kernel
theorem dX9_suspects_11 : decode cX9_suspects 11 = .ok (.getfield 41, 3) := by decide +kernel
theorem dX9_suspects_14 : decode cX9_suspects 14 = .ok (.getfield 63, 3) := by decide +kernel
theorem dX9_suspects_17 : decode cX9_suspects 17 = .ok (.ishl, 1) := by decide +kernel
theorem dX9_suspects_18 : decode cX9_suspects 18 = .ok (.if_icmp .ge 66, 3) := by decide +kernel
theorem dX9_suspects_21 : decode cX9_suspects 21 = .ok (.iload_n 3, 1) := by decide +kernel
theorem dX9_suspects_22 : decode cX9_suspects 22 = .ok (.bipush 64, 2) := by decide +kernel
theorem dX9_suspects_24 : decode cX9_suspects 24 = .ok (.if_icmp .ge 60, 3) := by decide +kernel
theorem dX9_suspects_27 : decode cX9_suspects 27 = .ok (.aload_n 0, 1) := by decide +kernel
theorem dX9_suspects_28 : decode cX9_suspects 28 = .ok (.getfield 45, 3) := by decide +kernel
theorem dX9_suspects_31 : decode cX9_suspects 31 = .ok (.iload_n 3, 1) := by decide +kernel
theorem dX9_suspects_32 : decode cX9_suspects 32 = .ok (.aload_n 0, 1) := by decide +kernel
theorem dX9_suspects_33 : decode cX9_suspects 33 = .ok (.getfield 23, 3) := by decide +kernel
theorem dX9_suspects_36 : decode cX9_suspects 36 = .ok (.aload_n 0, 1) := by decide +kernel
theorem dX9_suspects_37 : decode cX9_suspects 37 = .ok (.getfield 20, 3) := by decide +kernel
theorem dX9_suspects_40 : decode cX9_suspects 40 = .ok (.iload_n 3, 1) := by decide +kernel
theorem dX9_suspects_41 : decode cX9_suspects 41 = .ok (.bipush 11, 2) := by decide +kernel
theorem dX9_suspects_43 : decode cX9_suspects 43 = .ok (.imul, 1) := by decide +kernel
theorem dX9_suspects_44 : decode cX9_suspects 44 = .ok (.invokevirtual 49, 3) := by decide +kernel
theorem dX9_suspects_47 : decode cX9_suspects 47 = .ok (.pop, 1) := by decide +kernel
theorem dX9_suspects_48 : decode cX9_suspects 48 = .ok (.aload_n 0, 1) := by decide +kernel
theorem dX9_suspects_49 : decode cX9_suspects 49 = .ok (.getfield 34, 3) := by decide +kernel
theorem dX9_suspects_52 : decode cX9_suspects 52 = .ok (.iload_n 3, 1) := by decide +kernel
theorem dX9_suspects_53 : decode cX9_suspects 53 = .ok (.aload_n 0, 1) := by decide +kernel
theorem dX9_suspects_54 : decode cX9_suspects 54 = .ok (.iload_n 3, 1) := by decide +kernel
theorem dX9_suspects_55 : decode cX9_suspects 55 = .ok (.invokevirtual 103, 3) := by decide +kernel
theorem dX9_suspects_58 : decode cX9_suspects 58 = .ok (.bastore, 1) := by decide +kernel
theorem dX9_suspects_59 : decode cX9_suspects 59 = .ok (.aload_n 0, 1) := by decide +kernel
theorem dX9_suspects_60 : decode cX9_suspects 60 = .ok (.getfield 34, 3) := by decide +kernel
theorem dX9_suspects_63 : decode cX9_suspects 63 = .ok (.iload_n 3, 1) := by decide +kernel
theorem dX9_suspects_64 : decode cX9_suspects 64 = .ok (.baload, 1) := by decide +kernel
theorem dX9_suspects_65 : decode cX9_suspects 65 = .ok (.ifCond .eq 13, 3) := by decide +kernel
theorem dX9_suspects_68 : decode cX9_suspects 68 = .ok (.iload_n 2, 1) := by decide +kernel
theorem dX9_suspects_69 : decode cX9_suspects 69 = .ok (.iload_n 1, 1) := by decide +kernel
theorem dX9_suspects_70 : decode cX9_suspects 70 = .ok (.if_icmp .ne 5, 3) := by decide +kernel
theorem dX9_suspects_73 : decode cX9_suspects 73 = .ok (.iload_n 3, 1) := by decide +kernel
theorem dX9_suspects_74 : decode cX9_suspects 74 = .ok (.ireturn, 1) := by decide +kernel
theorem dX9_suspects_75 : decode cX9_suspects 75 = .ok (.iinc 2 1, 3) := by decide +kernel
theorem dX9_suspects_78 : decode cX9_suspects 78 = .ok (.iinc 3 1, 3) := by decide +kernel
theorem dX9_suspects_81 : decode cX9_suspects 81 = .ok (.goto (-73), 3) := by decide +kernel
theorem dX9_suspects_84 : decode cX9_suspects 84 = .ok (.iload_n 1, 1) := by decide +kernel
theorem dX9_suspects_85 : decode cX9_suspects 85 = .ok (.iconst (-1), 1) := by decide +kernel
theorem dX9_suspects_86 : decode cX9_suspects 86 = .ok (.if_icmp .ne 7, 3) := by decide +kernel
theorem dX9_suspects_89 : decode cX9_suspects 89 = .ok (.iload_n 2, 1) := by decide +kernel
theorem dX9_suspects_90 : decode cX9_suspects 90 = .ok (.goto 4, 3) := by decide +kernel
theorem dX9_suspects_93 : decode cX9_suspects 93 = .ok (.iconst (-1), 1) := by decide +kernel
theorem dX9_suspects_94 : decode cX9_suspects 94 = .ok (.ireturn, 1) := by decide +kernel
theorem dX9_fitsAll_0 : decode cX9_fitsAll 0 = .ok (.iconst 0, 1) := by decide +kernel
theorem dX9_fitsAll_1 : decode cX9_fitsAll 1 = .ok (.istore_n 2, 1) := by decide +kernel
theorem dX9_fitsAll_2 : decode cX9_fitsAll 2 = .ok (.iload_n 2, 1) := by decide +kernel
theorem dX9_fitsAll_3 : decode cX9_fitsAll 3 = .ok (.aload_n 0, 1) := by decide +kernel
theorem dX9_fitsAll_4 : decode cX9_fitsAll 4 = .ok (.getfield 41, 3) := by decide +kernel
theorem dX9_fitsAll_7 : decode cX9_fitsAll 7 = .ok (.getfield 88, 3) := by decide +kernel
theorem dX9_fitsAll_10 : decode cX9_fitsAll 10 = .ok (.if_icmp .ge 63, 3) := by decide +kernel
theorem dX9_fitsAll_73 : decode cX9_fitsAll 73 = .ok (.iconst 1, 1) := by decide +kernel
theorem dX9_fitsAll_74 : decode cX9_fitsAll 74 = .ok (.ireturn, 1) := by decide +kernel
theorem dX9_nextLook_0 : decode cX9_nextLook 0 = .ok (.aload_n 0, 1) := by decide +kernel
theorem dX9_nextLook_1 : decode cX9_nextLook 1 = .ok (.iconst (-1), 1) := by decide +kernel
theorem dX9_nextLook_2 : decode cX9_nextLook 2 = .ok (.invokevirtual 117, 3) := by decide +kernel
theorem dX9_nextLook_5 : decode cX9_nextLook 5 = .ok (.ifCond .ne 5, 3) := by decide +kernel
theorem dX9_nextLook_10 : decode cX9_nextLook 10 = .ok (.iconst 0, 1) := by decide +kernel
theorem dX9_nextLook_11 : decode cX9_nextLook 11 = .ok (.istore_n 2, 1) := by decide +kernel
theorem dX9_nextLook_12 : decode cX9_nextLook 12 = .ok (.bipush 65, 2) := by decide +kernel
theorem dX9_nextLook_14 : decode cX9_nextLook 14 = .ok (.istore_n 3, 1) := by decide +kernel
theorem dX9_nextLook_15 : decode cX9_nextLook 15 = .ok (.iconst 0, 1) := by decide +kernel
theorem dX9_nextLook_16 : decode cX9_nextLook 16 = .ok (.istore 4, 2) := by decide +kernel
theorem dX9_nextLook_18 : decode cX9_nextLook 18 = .ok (.iload 4, 2) := by decide +kernel
theorem dX9_nextLook_20 : decode cX9_nextLook 20 = .ok (.bipush 40, 2) := by decide +kernel
theorem dX9_nextLook_22 : decode cX9_nextLook 22 = .ok (.if_icmp .gt 29, 3) := by decide +kernel
theorem dX9_nextLook_25 : decode cX9_nextLook 25 = .ok (.aload_n 0, 1) := by decide +kernel
theorem dX9_nextLook_26 : decode cX9_nextLook 26 = .ok (.iload 4, 2) := by decide +kernel
theorem dX9_nextLook_28 : decode cX9_nextLook 28 = .ok (.invokevirtual 120, 3) := by decide +kernel
theorem dX9_nextLook_31 : decode cX9_nextLook 31 = .ok (.istore 5, 2) := by decide +kernel
theorem dX9_nextLook_33 : decode cX9_nextLook 33 = .ok (.iload 5, 2) := by decide +kernel
theorem dX9_nextLook_35 : decode cX9_nextLook 35 = .ok (.iload_n 3, 1) := by decide +kernel
theorem dX9_nextLook_36 : decode cX9_nextLook 36 = .ok (.if_icmp .ge 9, 3) := by decide +kernel
theorem dX9_nextLook_39 : decode cX9_nextLook 39 = .ok (.iload 5, 2) := by decide +kernel
theorem dX9_nextLook_41 : decode cX9_nextLook 41 = .ok (.istore_n 3, 1) := by decide +kernel
theorem dX9_nextLook_42 : decode cX9_nextLook 42 = .ok (.iload 4, 2) := by decide +kernel
theorem dX9_nextLook_44 : decode cX9_nextLook 44 = .ok (.istore_n 2, 1) := by decide +kernel
theorem dX9_nextLook_45 : decode cX9_nextLook 45 = .ok (.iinc 4 1, 3) := by decide +kernel
theorem dX9_nextLook_48 : decode cX9_nextLook 48 = .ok (.goto (-30), 3) := by decide +kernel
theorem dX9_nextLook_51 : decode cX9_nextLook 51 = .ok (.iload_n 1, 1) := by decide +kernel
theorem dX9_nextLook_52 : decode cX9_nextLook 52 = .ok (.ifCond .ne 7, 3) := by decide +kernel
theorem dX9_nextLook_55 : decode cX9_nextLook 55 = .ok (.iload_n 2, 1) := by decide +kernel
theorem dX9_nextLook_56 : decode cX9_nextLook 56 = .ok (.goto 4, 3) := by decide +kernel
theorem dX9_nextLook_59 : decode cX9_nextLook 59 = .ok (.iload_n 3, 1) := by decide +kernel
theorem dX9_nextLook_60 : decode cX9_nextLook 60 = .ok (.ireturn, 1) := by decide +kernel
theorem dX9_mostAlike_0 : decode cX9_mostAlike 0 = .ok (.aload_n 0, 1) := by decide +kernel
theorem dX9_mostAlike_1 : decode cX9_mostAlike 1 = .ok (.getfield 38, 3) := by decide +kernel
theorem dX9_mostAlike_4 : decode cX9_mostAlike 4 = .ok (.iconst 0, 1) := by decide +kernel
theorem dX9_mostAlike_5 : decode cX9_mostAlike 5 = .ok (.invokestatic 57, 3) := by decide +kernel
theorem dX9_mostAlike_8 : decode cX9_mostAlike 8 = .ok (.iconst 0, 1) := by decide +kernel
theorem dX9_mostAlike_9 : decode cX9_mostAlike 9 = .ok (.istore_n 2, 1) := by decide +kernel
theorem dX9_mostAlike_10 : decode cX9_mostAlike 10 = .ok (.iconst 0, 1) := by decide +kernel
theorem dX9_mostAlike_11 : decode cX9_mostAlike 11 = .ok (.istore_n 3, 1) := by decide +kernel
theorem dX9_mostAlike_12 : decode cX9_mostAlike 12 = .ok (.iload_n 3, 1) := by decide +kernel
theorem dX9_mostAlike_13 : decode cX9_mostAlike 13 = .ok (.iconst 1, 1) := by decide +kernel
theorem dX9_mostAlike_14 : decode cX9_mostAlike 14 = .ok (.aload_n 0, 1) := by decide +kernel
theorem dX9_mostAlike_15 : decode cX9_mostAlike 15 = .ok (.getfield 41, 3) := by decide +kernel
theorem dX9_mostAlike_18 : decode cX9_mostAlike 18 = .ok (.getfield 63, 3) := by decide +kernel
theorem dX9_mostAlike_21 : decode cX9_mostAlike 21 = .ok (.ishl, 1) := by decide +kernel
theorem dX9_mostAlike_22 : decode cX9_mostAlike 22 = .ok (.if_icmp .ge 95, 3) := by decide +kernel
theorem dX9_mostAlike_25 : decode cX9_mostAlike 25 = .ok (.iload_n 3, 1) := by decide +kernel
theorem dX9_mostAlike_26 : decode cX9_mostAlike 26 = .ok (.bipush 64, 2) := by decide +kernel
theorem dX9_mostAlike_28 : decode cX9_mostAlike 28 = .ok (.if_icmp .ge 89, 3) := by decide +kernel
theorem dX9_mostAlike_31 : decode cX9_mostAlike 31 = .ok (.aload_n 0, 1) := by decide +kernel
theorem dX9_mostAlike_32 : decode cX9_mostAlike 32 = .ok (.getfield 34, 3) := by decide +kernel
theorem dX9_mostAlike_35 : decode cX9_mostAlike 35 = .ok (.iload_n 3, 1) := by decide +kernel
theorem dX9_mostAlike_36 : decode cX9_mostAlike 36 = .ok (.baload, 1) := by decide +kernel
theorem dX9_mostAlike_37 : decode cX9_mostAlike 37 = .ok (.ifCond .ne 6, 3) := by decide +kernel
theorem dX9_mostAlike_43 : decode cX9_mostAlike 43 = .ok (.iconst 0, 1) := by decide +kernel
theorem dX9_mostAlike_44 : decode cX9_mostAlike 44 = .ok (.istore 4, 2) := by decide +kernel
theorem dX9_mostAlike_46 : decode cX9_mostAlike 46 = .ok (.iconst 0, 1) := by decide +kernel
theorem dX9_mostAlike_47 : decode cX9_mostAlike 47 = .ok (.istore 5, 2) := by decide +kernel
theorem dX9_mostAlike_49 : decode cX9_mostAlike 49 = .ok (.iload 5, 2) := by decide +kernel
theorem dX9_mostAlike_51 : decode cX9_mostAlike 51 = .ok (.aload_n 0, 1) := by decide +kernel
theorem dX9_mostAlike_52 : decode cX9_mostAlike 52 = .ok (.getfield 41, 3) := by decide +kernel
theorem dX9_mostAlike_55 : decode cX9_mostAlike 55 = .ok (.getfield 123, 3) := by decide +kernel
theorem dX9_mostAlike_58 : decode cX9_mostAlike 58 = .ok (.if_icmp .ge 30, 3) := by decide +kernel
theorem dX9_mostAlike_88 : decode cX9_mostAlike 88 = .ok (.aload_n 0, 1) := by decide +kernel
theorem dX9_mostAlike_89 : decode cX9_mostAlike 89 = .ok (.getfield 38, 3) := by decide +kernel
theorem dX9_mostAlike_92 : decode cX9_mostAlike 92 = .ok (.iload 4, 2) := by decide +kernel
theorem dX9_mostAlike_94 : decode cX9_mostAlike 94 = .ok (.dup2, 1) := by decide +kernel
theorem dX9_mostAlike_95 : decode cX9_mostAlike 95 = .ok (.iaload, 1) := by decide +kernel
theorem dX9_mostAlike_96 : decode cX9_mostAlike 96 = .ok (.iconst 1, 1) := by decide +kernel
theorem dX9_mostAlike_97 : decode cX9_mostAlike 97 = .ok (.iadd, 1) := by decide +kernel
theorem dX9_mostAlike_98 : decode cX9_mostAlike 98 = .ok (.iastore, 1) := by decide +kernel
theorem dX9_mostAlike_99 : decode cX9_mostAlike 99 = .ok (.iload_n 2, 1) := by decide +kernel
theorem dX9_mostAlike_100 : decode cX9_mostAlike 100 = .ok (.aload_n 0, 1) := by decide +kernel
theorem dX9_mostAlike_101 : decode cX9_mostAlike 101 = .ok (.getfield 38, 3) := by decide +kernel
theorem dX9_mostAlike_104 : decode cX9_mostAlike 104 = .ok (.iload 4, 2) := by decide +kernel
theorem dX9_mostAlike_106 : decode cX9_mostAlike 106 = .ok (.iaload, 1) := by decide +kernel
theorem dX9_mostAlike_107 : decode cX9_mostAlike 107 = .ok (.invokestatic 82, 3) := by decide +kernel
theorem dX9_mostAlike_110 : decode cX9_mostAlike 110 = .ok (.istore_n 2, 1) := by decide +kernel
theorem dX9_mostAlike_111 : decode cX9_mostAlike 111 = .ok (.iinc 3 1, 3) := by decide +kernel
theorem dX9_mostAlike_114 : decode cX9_mostAlike 114 = .ok (.goto (-102), 3) := by decide +kernel
theorem dX9_mostAlike_117 : decode cX9_mostAlike 117 = .ok (.iload_n 2, 1) := by decide +kernel
theorem dX9_mostAlike_118 : decode cX9_mostAlike 118 = .ok (.ireturn, 1) := by decide +kernel
theorem dX10_clear_0 : decode cX10_clear 0 = .ok (.aload_n 0, 1) := by decide +kernel
theorem dX10_clear_1 : decode cX10_clear 1 = .ok (.iconst 0, 1) := by decide +kernel
theorem dX10_clear_2 : decode cX10_clear 2 = .ok (.putfield 9, 3) := by decide +kernel
theorem dX10_clear_5 : decode cX10_clear 5 = .ok (.aload_n 0, 1) := by decide +kernel
theorem dX10_clear_6 : decode cX10_clear 6 = .ok (.iconst 0, 1) := by decide +kernel
theorem dX10_clear_7 : decode cX10_clear 7 = .ok (.putfield 25, 3) := by decide +kernel
theorem dX10_clear_10 : decode cX10_clear 10 = .ok (.aload_n 0, 1) := by decide +kernel
theorem dX10_clear_11 : decode cX10_clear 11 = .ok (.getfield 22, 3) := by decide +kernel
theorem dX10_clear_14 : decode cX10_clear 14 = .ok (.iconst 0, 1) := by decide +kernel
theorem dX10_clear_15 : decode cX10_clear 15 = .ok (.invokestatic 46, 3) := by decide +kernel
theorem dX10_clear_18 : decode cX10_clear 18 = .ok (.return_, 1) := by decide +kernel
theorem dX11_part_0 : decode cX11_part 0 = .ok (.aload_n 0, 1) := by decide +kernel
theorem dX11_part_1 : decode cX11_part 1 = .ok (.getfield 10, 3) := by decide +kernel
theorem dX11_part_4 : decode cX11_part 4 = .ok (.iload_n 1, 1) := by decide +kernel
theorem dX11_part_5 : decode cX11_part 5 = .ok (.iload_n 2, 1) := by decide +kernel
theorem dX11_part_6 : decode cX11_part 6 = .ok (.iload_n 3, 1) := by decide +kernel
theorem dX11_part_7 : decode cX11_part 7 = .ok (.iload 4, 2) := by decide +kernel
theorem dX11_part_9 : decode cX11_part 9 = .ok (.invokevirtual 110, 3) := by decide +kernel
theorem dX11_part_12 : decode cX11_part 12 = .ok (.istore 5, 2) := by decide +kernel
theorem dX11_part_14 : decode cX11_part 14 = .ok (.iload 5, 2) := by decide +kernel
theorem dX11_part_16 : decode cX11_part 16 = .ok (.ifCond .ge 10, 3) := by decide +kernel
theorem dX11_part_19 : decode cX11_part 19 = .ok (.aload_n 0, 1) := by decide +kernel
theorem dX11_part_20 : decode cX11_part 20 = .ok (.iload 5, 2) := by decide +kernel
theorem dX11_part_22 : decode cX11_part 22 = .ok (.invokevirtual 114, 3) := by decide +kernel
theorem dX11_part_25 : decode cX11_part 25 = .ok (.ireturn, 1) := by decide +kernel
theorem dX11_part_26 : decode cX11_part 26 = .ok (.aload_n 0, 1) := by decide +kernel
theorem dX11_part_27 : decode cX11_part 27 = .ok (.getfield 19, 3) := by decide +kernel
theorem dX11_part_30 : decode cX11_part 30 = .ok (.invokevirtual 118, 3) := by decide +kernel
theorem dX11_part_33 : decode cX11_part 33 = .ok (.aload_n 0, 1) := by decide +kernel
theorem dX11_part_34 : decode cX11_part 34 = .ok (.iload 5, 2) := by decide +kernel
theorem dX11_part_36 : decode cX11_part 36 = .ok (.invokevirtual 121, 3) := by decide +kernel
theorem dX11_part_39 : decode cX11_part 39 = .ok (.ireturn, 1) := by decide +kernel
theorem dX11_of_0 : decode cX11_of 0 = .ok (.aload_n 0, 1) := by decide +kernel
theorem dX11_of_1 : decode cX11_of 1 = .ok (.getfield 10, 3) := by decide +kernel
theorem dX11_of_4 : decode cX11_of 4 = .ok (.iload_n 1, 1) := by decide +kernel
theorem dX11_of_5 : decode cX11_of 5 = .ok (.invokevirtual 124, 3) := by decide +kernel
theorem dX11_of_8 : decode cX11_of 8 = .ok (.ifCond .ne 5, 3) := by decide +kernel
theorem dX11_of_11 : decode cX11_of 11 = .ok (.iconst (-1), 1) := by decide +kernel
theorem dX11_of_12 : decode cX11_of 12 = .ok (.ireturn, 1) := by decide +kernel
theorem dX11_builder_0 : decode cX11_builder 0 = .ok (.aload_n 0, 1) := by decide +kernel
theorem dX11_builder_1 : decode cX11_builder 1 = .ok (.getfield 10, 3) := by decide +kernel
theorem dX11_builder_4 : decode cX11_builder 4 = .ok (.iload_n 1, 1) := by decide +kernel
theorem dX11_builder_5 : decode cX11_builder 5 = .ok (.iload_n 2, 1) := by decide +kernel
theorem dX11_builder_6 : decode cX11_builder 6 = .ok (.invokevirtual 159, 3) := by decide +kernel
theorem dX11_builder_9 : decode cX11_builder 9 = .ok (.istore_n 3, 1) := by decide +kernel
theorem dX11_builder_10 : decode cX11_builder 10 = .ok (.iload_n 3, 1) := by decide +kernel
theorem dX11_builder_11 : decode cX11_builder 11 = .ok (.ifCond .ge 9, 3) := by decide +kernel
theorem dX11_builder_14 : decode cX11_builder 14 = .ok (.aload_n 0, 1) := by decide +kernel
theorem dX11_builder_15 : decode cX11_builder 15 = .ok (.iload_n 3, 1) := by decide +kernel
theorem dX11_builder_16 : decode cX11_builder 16 = .ok (.invokevirtual 114, 3) := by decide +kernel
theorem dX11_builder_19 : decode cX11_builder 19 = .ok (.ireturn, 1) := by decide +kernel
theorem dX11_builder_20 : decode cX11_builder 20 = .ok (.aload_n 0, 1) := by decide +kernel
theorem dX11_builder_21 : decode cX11_builder 21 = .ok (.getfield 19, 3) := by decide +kernel
theorem dX11_builder_24 : decode cX11_builder 24 = .ok (.invokevirtual 118, 3) := by decide +kernel
theorem dX11_builder_27 : decode cX11_builder 27 = .ok (.aload_n 0, 1) := by decide +kernel
theorem dX11_builder_28 : decode cX11_builder 28 = .ok (.iload_n 3, 1) := by decide +kernel
theorem dX11_builder_29 : decode cX11_builder 29 = .ok (.invokevirtual 121, 3) := by decide +kernel
theorem dX11_builder_32 : decode cX11_builder 32 = .ok (.ireturn, 1) := by decide +kernel
theorem dX11_at_0 : decode cX11_at 0 = .ok (.aload_n 0, 1) := by decide +kernel
theorem dX11_at_1 : decode cX11_at 1 = .ok (.getfield 10, 3) := by decide +kernel
theorem dX11_at_4 : decode cX11_at 4 = .ok (.iload_n 1, 1) := by decide +kernel
theorem dX11_at_5 : decode cX11_at 5 = .ok (.invokevirtual 163, 3) := by decide +kernel
theorem dX11_at_8 : decode cX11_at 8 = .ok (.ifCond .ne 5, 3) := by decide +kernel
theorem dX11_at_11 : decode cX11_at 11 = .ok (.iconst (-1), 1) := by decide +kernel
theorem dX11_at_12 : decode cX11_at 12 = .ok (.ireturn, 1) := by decide +kernel
theorem dX11_asks_0 : decode cX11_asks 0 = .ok (.aload_n 0, 1) := by decide +kernel
theorem dX11_asks_1 : decode cX11_asks 1 = .ok (.getfield 10, 3) := by decide +kernel
theorem dX11_asks_4 : decode cX11_asks 4 = .ok (.iload_n 1, 1) := by decide +kernel
theorem dX11_asks_5 : decode cX11_asks 5 = .ok (.invokevirtual 163, 3) := by decide +kernel
theorem dX11_asks_8 : decode cX11_asks 8 = .ok (.ifCond .eq 26, 3) := by decide +kernel
theorem dX11_asks_34 : decode cX11_asks 34 = .ok (.iconst (-1), 1) := by decide +kernel
theorem dX11_asks_35 : decode cX11_asks 35 = .ok (.ireturn, 1) := by decide +kernel
theorem dX11_feed_0 : decode cX11_feed 0 = .ok (.aload_n 0, 1) := by decide +kernel
theorem dX11_feed_1 : decode cX11_feed 1 = .ok (.getfield 94, 3) := by decide +kernel
theorem dX11_feed_4 : decode cX11_feed 4 = .ok (.ifCond .lt 13, 3) := by decide +kernel
theorem dX11_feed_7 : decode cX11_feed 7 = .ok (.aload_n 0, 1) := by decide +kernel
theorem dX11_feed_8 : decode cX11_feed 8 = .ok (.getfield 94, 3) := by decide +kernel
theorem dX11_feed_11 : decode cX11_feed 11 = .ok (.sipush 380, 3) := by decide +kernel
theorem dX11_feed_14 : decode cX11_feed 14 = .ok (.if_icmp .le 5, 3) := by decide +kernel
theorem dX11_feed_19 : decode cX11_feed 19 = .ok (.aload_n 0, 1) := by decide +kernel
theorem dX11_feed_20 : decode cX11_feed 20 = .ok (.aload_n 0, 1) := by decide +kernel
theorem dX11_feed_21 : decode cX11_feed 21 = .ok (.getfield 94, 3) := by decide +kernel
theorem dX11_feed_24 : decode cX11_feed 24 = .ok (.iload_n 1, 1) := by decide +kernel
theorem dX11_feed_25 : decode cX11_feed 25 = .ok (.invokevirtual 194, 3) := by decide +kernel
theorem dX11_feed_28 : decode cX11_feed 28 = .ok (.aload_n 0, 1) := by decide +kernel
theorem dX11_feed_29 : decode cX11_feed 29 = .ok (.aload_n 0, 1) := by decide +kernel
theorem dX11_feed_30 : decode cX11_feed 30 = .ok (.getfield 94, 3) := by decide +kernel
theorem dX11_feed_33 : decode cX11_feed 33 = .ok (.iconst 4, 1) := by decide +kernel
theorem dX11_feed_34 : decode cX11_feed 34 = .ok (.iadd, 1) := by decide +kernel
theorem dX11_feed_35 : decode cX11_feed 35 = .ok (.iload_n 2, 1) := by decide +kernel
theorem dX11_feed_36 : decode cX11_feed 36 = .ok (.invokevirtual 194, 3) := by decide +kernel
theorem dX11_feed_39 : decode cX11_feed 39 = .ok (.aload_n 0, 1) := by decide +kernel
theorem dX11_feed_40 : decode cX11_feed 40 = .ok (.aload_n 0, 1) := by decide +kernel
theorem dX11_feed_41 : decode cX11_feed 41 = .ok (.getfield 94, 3) := by decide +kernel
theorem dX11_feed_44 : decode cX11_feed 44 = .ok (.bipush 8, 2) := by decide +kernel
theorem dX11_feed_46 : decode cX11_feed 46 = .ok (.iadd, 1) := by decide +kernel
theorem dX11_feed_47 : decode cX11_feed 47 = .ok (.iload_n 3, 1) := by decide +kernel
theorem dX11_feed_48 : decode cX11_feed 48 = .ok (.invokevirtual 194, 3) := by decide +kernel
theorem dX11_feed_51 : decode cX11_feed 51 = .ok (.aload_n 0, 1) := by decide +kernel
theorem dX11_feed_52 : decode cX11_feed 52 = .ok (.aload_n 0, 1) := by decide +kernel
theorem dX11_feed_53 : decode cX11_feed 53 = .ok (.getfield 94, 3) := by decide +kernel
theorem dX11_feed_56 : decode cX11_feed 56 = .ok (.bipush 12, 2) := by decide +kernel
theorem dX11_feed_58 : decode cX11_feed 58 = .ok (.iadd, 1) := by decide +kernel
theorem dX11_feed_59 : decode cX11_feed 59 = .ok (.iload 4, 2) := by decide +kernel
theorem dX11_feed_61 : decode cX11_feed 61 = .ok (.invokevirtual 194, 3) := by decide +kernel
theorem dX11_feed_64 : decode cX11_feed 64 = .ok (.aload_n 0, 1) := by decide +kernel
theorem dX11_feed_65 : decode cX11_feed 65 = .ok (.aload_n 0, 1) := by decide +kernel
theorem dX11_feed_66 : decode cX11_feed 66 = .ok (.getfield 94, 3) := by decide +kernel
theorem dX11_feed_69 : decode cX11_feed 69 = .ok (.bipush 16, 2) := by decide +kernel
theorem dX11_feed_71 : decode cX11_feed 71 = .ok (.iadd, 1) := by decide +kernel
theorem dX11_feed_72 : decode cX11_feed 72 = .ok (.iload 5, 2) := by decide +kernel
theorem dX11_feed_74 : decode cX11_feed 74 = .ok (.invokevirtual 194, 3) := by decide +kernel
theorem dX11_feed_77 : decode cX11_feed 77 = .ok (.aload_n 0, 1) := by decide +kernel
theorem dX11_feed_78 : decode cX11_feed 78 = .ok (.dup, 1) := by decide +kernel
theorem dX11_feed_79 : decode cX11_feed 79 = .ok (.getfield 94, 3) := by decide +kernel
theorem dX11_feed_82 : decode cX11_feed 82 = .ok (.bipush 20, 2) := by decide +kernel
theorem dX11_feed_84 : decode cX11_feed 84 = .ok (.iadd, 1) := by decide +kernel
theorem dX11_feed_85 : decode cX11_feed 85 = .ok (.putfield 94, 3) := by decide +kernel
theorem dX11_feed_88 : decode cX11_feed 88 = .ok (.aload_n 0, 1) := by decide +kernel
theorem dX11_feed_89 : decode cX11_feed 89 = .ok (.getfield 94, 3) := by decide +kernel
theorem dX11_feed_92 : decode cX11_feed 92 = .ok (.ireturn, 1) := by decide +kernel
theorem dX11_end_0 : decode cX11_end 0 = .ok (.iload_n 1, 1) := by decide +kernel
theorem dX11_end_1 : decode cX11_end 1 = .ok (.ifCond .lt 11, 3) := by decide +kernel
theorem dX11_end_4 : decode cX11_end 4 = .ok (.iload_n 1, 1) := by decide +kernel
theorem dX11_end_5 : decode cX11_end 5 = .ok (.aload_n 0, 1) := by decide +kernel
theorem dX11_end_6 : decode cX11_end 6 = .ok (.getfield 94, 3) := by decide +kernel
theorem dX11_end_9 : decode cX11_end 9 = .ok (.if_icmp .le 5, 3) := by decide +kernel
theorem dX11_end_12 : decode cX11_end 12 = .ok (.iconst (-1), 1) := by decide +kernel
theorem dX11_end_13 : decode cX11_end 13 = .ok (.ireturn, 1) := by decide +kernel
theorem dX11_end_14 : decode cX11_end 14 = .ok (.aload_n 0, 1) := by decide +kernel
theorem dX11_end_15 : decode cX11_end 15 = .ok (.iload_n 1, 1) := by decide +kernel
theorem dX11_end_16 : decode cX11_end 16 = .ok (.putfield 94, 3) := by decide +kernel
theorem dX11_end_19 : decode cX11_end 19 = .ok (.iload_n 1, 1) := by decide +kernel
theorem dX11_end_20 : decode cX11_end 20 = .ok (.ireturn, 1) := by decide +kernel
theorem dX11_row_0 : decode cX11_row 0 = .ok (.aload_n 0, 1) := by decide +kernel
theorem dX11_row_1 : decode cX11_row 1 = .ok (.invokevirtual 198, 3) := by decide +kernel
theorem dX11_row_4 : decode cX11_row 4 = .ok (.istore_n 1, 1) := by decide +kernel
theorem dX11_row_5 : decode cX11_row 5 = .ok (.iload_n 1, 1) := by decide +kernel
theorem dX11_row_6 : decode cX11_row 6 = .ok (.ifCond .ne 10, 3) := by decide +kernel
theorem dX11_row_9 : decode cX11_row 9 = .ok (.aload_n 0, 1) := by decide +kernel
theorem dX11_row_10 : decode cX11_row 10 = .ok (.bipush (-6), 2) := by decide +kernel
theorem dX11_row_12 : decode cX11_row 12 = .ok (.invokevirtual 114, 3) := by decide +kernel
theorem dX11_row_15 : decode cX11_row 15 = .ok (.ireturn, 1) := by decide +kernel
theorem dX11_chaff_0 : decode cX11_chaff 0 = .ok (.aload_n 0, 1) := by decide +kernel
theorem dX11_chaff_1 : decode cX11_chaff 1 = .ok (.getfield 101, 3) := by decide +kernel
theorem dX11_chaff_4 : decode cX11_chaff 4 = .ok (.ireturn, 1) := by decide +kernel
theorem dX11_law_0 : decode cX11_law 0 = .ok (.aload_n 0, 1) := by decide +kernel
theorem dX11_law_1 : decode cX11_law 1 = .ok (.invokevirtual 198, 3) := by decide +kernel
theorem dX11_law_4 : decode cX11_law 4 = .ok (.istore_n 1, 1) := by decide +kernel
theorem dX11_law_5 : decode cX11_law 5 = .ok (.aload_n 0, 1) := by decide +kernel
theorem dX11_law_6 : decode cX11_law 6 = .ok (.getfield 10, 3) := by decide +kernel
theorem dX11_law_9 : decode cX11_law 9 = .ok (.getfield 204, 3) := by decide +kernel
theorem dX11_law_12 : decode cX11_law 12 = .ok (.ifCond .lt 15, 3) := by decide +kernel
theorem dX11_law_15 : decode cX11_law 15 = .ok (.aload_n 0, 1) := by decide +kernel
theorem dX11_law_16 : decode cX11_law 16 = .ok (.getfield 10, 3) := by decide +kernel
theorem dX11_law_19 : decode cX11_law 19 = .ok (.getfield 204, 3) := by decide +kernel
theorem dX11_law_22 : decode cX11_law 22 = .ok (.bipush 6, 2) := by decide +kernel
theorem dX11_law_24 : decode cX11_law 24 = .ok (.if_icmp .lt 10, 3) := by decide +kernel
theorem dX11_law_34 : decode cX11_law 34 = .ok (.aload_n 0, 1) := by decide +kernel
theorem dX11_law_35 : decode cX11_law 35 = .ok (.aload_n 0, 1) := by decide +kernel
theorem dX11_law_36 : decode cX11_law 36 = .ok (.getfield 44, 3) := by decide +kernel
theorem dX11_law_39 : decode cX11_law 39 = .ok (.aload_n 0, 1) := by decide +kernel
theorem dX11_law_40 : decode cX11_law 40 = .ok (.getfield 86, 3) := by decide +kernel
theorem dX11_law_43 : decode cX11_law 43 = .ok (.iload_n 1, 1) := by decide +kernel
theorem dX11_law_44 : decode cX11_law 44 = .ok (.iconst 0, 1) := by decide +kernel
theorem dX11_law_45 : decode cX11_law 45 = .ok (.invokevirtual 207, 3) := by decide +kernel
theorem dX11_law_48 : decode cX11_law 48 = .ok (.putfield 98, 3) := by decide +kernel
theorem dX11_law_51 : decode cX11_law 51 = .ok (.aload_n 0, 1) := by decide +kernel
theorem dX11_law_52 : decode cX11_law 52 = .ok (.getfield 98, 3) := by decide +kernel
theorem dX11_law_55 : decode cX11_law 55 = .ok (.iconst (-1), 1) := by decide +kernel
theorem dX11_law_56 : decode cX11_law 56 = .ok (.if_icmp .eq 10, 3) := by decide +kernel
theorem dX11_law_59 : decode cX11_law 59 = .ok (.aload_n 0, 1) := by decide +kernel
theorem dX11_law_60 : decode cX11_law 60 = .ok (.bipush (-6), 2) := by decide +kernel
theorem dX11_law_62 : decode cX11_law 62 = .ok (.invokevirtual 114, 3) := by decide +kernel
theorem dX11_law_65 : decode cX11_law 65 = .ok (.ireturn, 1) := by decide +kernel
theorem dX11_orders_0 : decode cX11_orders 0 = .ok (.aload_n 0, 1) := by decide +kernel
theorem dX11_orders_1 : decode cX11_orders 1 = .ok (.invokevirtual 198, 3) := by decide +kernel
theorem dX11_orders_4 : decode cX11_orders 4 = .ok (.istore_n 1, 1) := by decide +kernel
theorem dX11_orders_5 : decode cX11_orders 5 = .ok (.aload_n 0, 1) := by decide +kernel
theorem dX11_orders_6 : decode cX11_orders 6 = .ok (.iconst (-1), 1) := by decide +kernel
theorem dX11_orders_7 : decode cX11_orders 7 = .ok (.putfield 104, 3) := by decide +kernel
theorem dX11_orders_10 : decode cX11_orders 10 = .ok (.aload_n 0, 1) := by decide +kernel
theorem dX11_orders_11 : decode cX11_orders 11 = .ok (.aload_n 0, 1) := by decide +kernel
theorem dX11_orders_12 : decode cX11_orders 12 = .ok (.getfield 44, 3) := by decide +kernel
theorem dX11_orders_15 : decode cX11_orders 15 = .ok (.aload_n 0, 1) := by decide +kernel
theorem dX11_orders_16 : decode cX11_orders 16 = .ok (.getfield 86, 3) := by decide +kernel
theorem dX11_orders_19 : decode cX11_orders 19 = .ok (.iload_n 1, 1) := by decide +kernel
theorem dX11_orders_20 : decode cX11_orders 20 = .ok (.iconst 1, 1) := by decide +kernel
theorem dX11_orders_21 : decode cX11_orders 21 = .ok (.invokevirtual 207, 3) := by decide +kernel
theorem dX11_orders_24 : decode cX11_orders 24 = .ok (.putfield 98, 3) := by decide +kernel
theorem dX11_orders_27 : decode cX11_orders 27 = .ok (.aload_n 0, 1) := by decide +kernel
theorem dX11_orders_28 : decode cX11_orders 28 = .ok (.getfield 98, 3) := by decide +kernel
theorem dX11_orders_31 : decode cX11_orders 31 = .ok (.iconst (-1), 1) := by decide +kernel
theorem dX11_orders_32 : decode cX11_orders 32 = .ok (.if_icmp .eq 10, 3) := by decide +kernel
theorem dX11_orders_35 : decode cX11_orders 35 = .ok (.aload_n 0, 1) := by decide +kernel
theorem dX11_orders_36 : decode cX11_orders 36 = .ok (.bipush (-6), 2) := by decide +kernel
theorem dX11_orders_38 : decode cX11_orders 38 = .ok (.invokevirtual 114, 3) := by decide +kernel
theorem dX11_orders_41 : decode cX11_orders 41 = .ok (.ireturn, 1) := by decide +kernel
theorem dX11_fault_0 : decode cX11_fault 0 = .ok (.aload_n 0, 1) := by decide +kernel
theorem dX11_fault_1 : decode cX11_fault 1 = .ok (.getfield 98, 3) := by decide +kernel
theorem dX11_fault_4 : decode cX11_fault 4 = .ok (.ireturn, 1) := by decide +kernel
theorem dX11_stopped_0 : decode cX11_stopped 0 = .ok (.aload_n 0, 1) := by decide +kernel
theorem dX11_stopped_1 : decode cX11_stopped 1 = .ok (.getfield 104, 3) := by decide +kernel
theorem dX11_stopped_4 : decode cX11_stopped 4 = .ok (.ireturn, 1) := by decide +kernel
theorem dX11_force_0 : decode cX11_force 0 = .ok (.iload_n 1, 1) := by decide +kernel
theorem dX11_force_1 : decode cX11_force 1 = .ok (.iconst (-1), 1) := by decide +kernel
theorem dX11_force_2 : decode cX11_force 2 = .ok (.if_icmp .eq 25, 3) := by decide +kernel
theorem dX11_force_5 : decode cX11_force 5 = .ok (.iload_n 1, 1) := by decide +kernel
theorem dX11_force_6 : decode cX11_force 6 = .ok (.ifCond .lt 14, 3) := by decide +kernel
theorem dX11_force_9 : decode cX11_force 9 = .ok (.iload_n 1, 1) := by decide +kernel
theorem dX11_force_10 : decode cX11_force 10 = .ok (.aload_n 0, 1) := by decide +kernel
theorem dX11_force_11 : decode cX11_force 11 = .ok (.getfield 10, 3) := by decide +kernel
theorem dX11_force_14 : decode cX11_force 14 = .ok (.getfield 204, 3) := by decide +kernel
theorem dX11_force_17 : decode cX11_force 17 = .ok (.if_icmp .lt 10, 3) := by decide +kernel
theorem dX11_force_20 : decode cX11_force 20 = .ok (.aload_n 0, 1) := by decide +kernel
theorem dX11_force_21 : decode cX11_force 21 = .ok (.bipush (-2), 2) := by decide +kernel
theorem dX11_force_23 : decode cX11_force 23 = .ok (.invokevirtual 114, 3) := by decide +kernel
theorem dX11_force_26 : decode cX11_force 26 = .ok (.ireturn, 1) := by decide +kernel
theorem dX11_force_27 : decode cX11_force 27 = .ok (.aload_n 0, 1) := by decide +kernel
theorem dX11_force_28 : decode cX11_force 28 = .ok (.getfield 10, 3) := by decide +kernel
theorem dX11_force_31 : decode cX11_force 31 = .ok (.getfield 235, 3) := by decide +kernel
theorem dX11_force_34 : decode cX11_force 34 = .ok (.istore_n 2, 1) := by decide +kernel
theorem dX11_force_35 : decode cX11_force 35 = .ok (.aload_n 0, 1) := by decide +kernel
theorem dX11_force_36 : decode cX11_force 36 = .ok (.getfield 10, 3) := by decide +kernel
theorem dX11_force_39 : decode cX11_force 39 = .ok (.iload_n 1, 1) := by decide +kernel
theorem dX11_force_40 : decode cX11_force 40 = .ok (.putfield 235, 3) := by decide +kernel
theorem dX11_force_43 : decode cX11_force 43 = .ok (.aload_n 0, 1) := by decide +kernel
theorem dX11_force_44 : decode cX11_force 44 = .ok (.iload_n 2, 1) := by decide +kernel
theorem dX11_force_45 : decode cX11_force 45 = .ok (.invokevirtual 121, 3) := by decide +kernel
theorem dX11_force_48 : decode cX11_force 48 = .ok (.ireturn, 1) := by decide +kernel
theorem dX11_stands_0 : decode cX11_stands 0 = .ok (.iload_n 1, 1) := by decide +kernel
theorem dX11_stands_1 : decode cX11_stands 1 = .ok (.lookupswitch 43 #[(0, 27), (1, 35)], 27) := by decide +kernel
theorem dX11_stands_28 : decode cX11_stands 28 = .ok (.aload_n 0, 1) := by decide +kernel
theorem dX11_stands_29 : decode cX11_stands 29 = .ok (.getfield 10, 3) := by decide +kernel
theorem dX11_stands_32 : decode cX11_stands 32 = .ok (.invokevirtual 238, 3) := by decide +kernel
theorem dX11_stands_35 : decode cX11_stands 35 = .ok (.ireturn, 1) := by decide +kernel
theorem dX11_stands_36 : decode cX11_stands 36 = .ok (.aload_n 0, 1) := by decide +kernel
theorem dX11_stands_37 : decode cX11_stands 37 = .ok (.getfield 10, 3) := by decide +kernel
theorem dX11_stands_40 : decode cX11_stands 40 = .ok (.invokevirtual 143, 3) := by decide +kernel
theorem dX11_stands_43 : decode cX11_stands 43 = .ok (.ireturn, 1) := by decide +kernel
theorem dX11_stands_44 : decode cX11_stands 44 = .ok (.iconst (-1), 1) := by decide +kernel
theorem dX11_stands_45 : decode cX11_stands 45 = .ok (.ireturn, 1) := by decide +kernel
theorem dX11_send_0 : decode cX11_send 0 = .ok (.aload_n 0, 1) := by decide +kernel
theorem dX11_send_1 : decode cX11_send 1 = .ok (.aload_n 0, 1) := by decide +kernel
theorem dX11_send_2 : decode cX11_send 2 = .ok (.getfield 28, 3) := by decide +kernel
theorem dX11_send_5 : decode cX11_send 5 = .ok (.iload_n 1, 1) := by decide +kernel
theorem dX11_send_6 : decode cX11_send 6 = .ok (.iload_n 2, 1) := by decide +kernel
theorem dX11_send_7 : decode cX11_send 7 = .ok (.invokevirtual 241, 3) := by decide +kernel
theorem dX11_send_10 : decode cX11_send 10 = .ok (.invokevirtual 244, 3) := by decide +kernel
theorem dX11_send_13 : decode cX11_send 13 = .ok (.ireturn, 1) := by decide +kernel
theorem dX11_rest_0 : decode cX11_rest 0 = .ok (.aload_n 0, 1) := by decide +kernel
theorem dX11_rest_1 : decode cX11_rest 1 = .ok (.aload_n 0, 1) := by decide +kernel
theorem dX11_rest_2 : decode cX11_rest 2 = .ok (.getfield 28, 3) := by decide +kernel
theorem dX11_rest_5 : decode cX11_rest 5 = .ok (.iload_n 1, 1) := by decide +kernel
theorem dX11_rest_6 : decode cX11_rest 6 = .ok (.invokevirtual 247, 3) := by decide +kernel
theorem dX11_rest_9 : decode cX11_rest 9 = .ok (.invokevirtual 244, 3) := by decide +kernel
theorem dX11_rest_12 : decode cX11_rest 12 = .ok (.ireturn, 1) := by decide +kernel
theorem dX11_throwDown_0 : decode cX11_throwDown 0 = .ok (.aload_n 0, 1) := by decide +kernel
theorem dX11_throwDown_1 : decode cX11_throwDown 1 = .ok (.aload_n 0, 1) := by decide +kernel
theorem dX11_throwDown_2 : decode cX11_throwDown 2 = .ok (.getfield 28, 3) := by decide +kernel
theorem dX11_throwDown_5 : decode cX11_throwDown 5 = .ok (.iload_n 1, 1) := by decide +kernel
theorem dX11_throwDown_6 : decode cX11_throwDown 6 = .ok (.invokevirtual 250, 3) := by decide +kernel
theorem dX11_throwDown_9 : decode cX11_throwDown 9 = .ok (.invokevirtual 244, 3) := by decide +kernel
theorem dX11_throwDown_12 : decode cX11_throwDown 12 = .ok (.ireturn, 1) := by decide +kernel
theorem dX11_tick_0 : decode cX11_tick 0 = .ok (.aload_n 0, 1) := by decide +kernel
theorem dX11_tick_1 : decode cX11_tick 1 = .ok (.aload_n 0, 1) := by decide +kernel
theorem dX11_tick_2 : decode cX11_tick 2 = .ok (.getfield 28, 3) := by decide +kernel
theorem dX11_tick_5 : decode cX11_tick 5 = .ok (.invokevirtual 253, 3) := by decide +kernel
theorem dX11_tick_8 : decode cX11_tick 8 = .ok (.invokevirtual 244, 3) := by decide +kernel
theorem dX11_tick_11 : decode cX11_tick 11 = .ok (.ireturn, 1) := by decide +kernel
theorem dX11_undo_0 : decode cX11_undo 0 = .ok (.aload_n 0, 1) := by decide +kernel
theorem dX11_undo_1 : decode cX11_undo 1 = .ok (.aload_n 0, 1) := by decide +kernel
theorem dX11_undo_2 : decode cX11_undo 2 = .ok (.getfield 19, 3) := by decide +kernel
theorem dX11_undo_5 : decode cX11_undo 5 = .ok (.aload_n 0, 1) := by decide +kernel
theorem dX11_undo_6 : decode cX11_undo 6 = .ok (.getfield 10, 3) := by decide +kernel
theorem dX11_undo_9 : decode cX11_undo 9 = .ok (.invokevirtual 256, 3) := by decide +kernel
theorem dX11_undo_12 : decode cX11_undo 12 = .ok (.invokevirtual 244, 3) := by decide +kernel
theorem dX11_undo_15 : decode cX11_undo 15 = .ok (.ireturn, 1) := by decide +kernel
theorem dX11_longest_0 : decode cX11_longest 0 = .ok (.aload_n 0, 1) := by decide +kernel
theorem dX11_longest_1 : decode cX11_longest 1 = .ok (.getfield 10, 3) := by decide +kernel
theorem dX11_longest_4 : decode cX11_longest 4 = .ok (.invokevirtual 147, 3) := by decide +kernel
theorem dX11_longest_7 : decode cX11_longest 7 = .ok (.ireturn, 1) := by decide +kernel
theorem dX11_rows_0 : decode cX11_rows 0 = .ok (.iload_n 1, 1) := by decide +kernel
theorem dX11_rows_1 : decode cX11_rows 1 = .ok (.iconst (-1), 1) := by decide +kernel
theorem dX11_rows_2 : decode cX11_rows 2 = .ok (.if_icmp .ne 13, 3) := by decide +kernel
theorem dX11_rows_5 : decode cX11_rows 5 = .ok (.aload_n 0, 1) := by decide +kernel
theorem dX11_rows_6 : decode cX11_rows 6 = .ok (.getfield 69, 3) := by decide +kernel
theorem dX11_rows_9 : decode cX11_rows 9 = .ok (.invokevirtual 260, 3) := by decide +kernel
theorem dX11_rows_12 : decode cX11_rows 12 = .ok (.goto 12, 3) := by decide +kernel
theorem dX11_rows_15 : decode cX11_rows 15 = .ok (.aload_n 0, 1) := by decide +kernel
theorem dX11_rows_16 : decode cX11_rows 16 = .ok (.getfield 69, 3) := by decide +kernel
theorem dX11_rows_19 : decode cX11_rows 19 = .ok (.iload_n 1, 1) := by decide +kernel
theorem dX11_rows_20 : decode cX11_rows 20 = .ok (.iload_n 2, 1) := by decide +kernel
theorem dX11_rows_21 : decode cX11_rows 21 = .ok (.invokevirtual 263, 3) := by decide +kernel
theorem dX11_rows_24 : decode cX11_rows 24 = .ok (.ireturn, 1) := by decide +kernel
theorem dX11_plan_0 : decode cX11_plan 0 = .ok (.iload_n 1, 1) := by decide +kernel
theorem dX11_plan_1 : decode cX11_plan 1 = .ok (.iconst (-1), 1) := by decide +kernel
theorem dX11_plan_2 : decode cX11_plan 2 = .ok (.if_icmp .ne 11, 3) := by decide +kernel
theorem dX11_plan_5 : decode cX11_plan 5 = .ok (.aload_n 0, 1) := by decide +kernel
theorem dX11_plan_6 : decode cX11_plan 6 = .ok (.getfield 62, 3) := by decide +kernel
theorem dX11_plan_9 : decode cX11_plan 9 = .ok (.invokevirtual 266, 3) := by decide +kernel
theorem dX11_plan_12 : decode cX11_plan 12 = .ok (.ireturn, 1) := by decide +kernel
theorem dX11_plan_13 : decode cX11_plan 13 = .ok (.aload_n 0, 1) := by decide +kernel
theorem dX11_plan_14 : decode cX11_plan 14 = .ok (.getfield 10, 3) := by decide +kernel
theorem dX11_plan_17 : decode cX11_plan 17 = .ok (.iload_n 1, 1) := by decide +kernel
theorem dX11_plan_18 : decode cX11_plan 18 = .ok (.invokevirtual 124, 3) := by decide +kernel
theorem dX11_plan_21 : decode cX11_plan 21 = .ok (.ifCond .eq 14, 3) := by decide +kernel
theorem dX11_plan_35 : decode cX11_plan 35 = .ok (.iconst (-1), 1) := by decide +kernel
theorem dX11_plan_36 : decode cX11_plan 36 = .ok (.ireturn, 1) := by decide +kernel
theorem dX11_hands_0 : decode cX11_hands 0 = .ok (.iload_n 1, 1) := by decide +kernel
theorem dX11_hands_1 : decode cX11_hands 1 = .ok (.ifCond .eq 10, 3) := by decide +kernel
theorem dX11_hands_4 : decode cX11_hands 4 = .ok (.iload_n 1, 1) := by decide +kernel
theorem dX11_hands_5 : decode cX11_hands 5 = .ok (.iconst 1, 1) := by decide +kernel
theorem dX11_hands_6 : decode cX11_hands 6 = .ok (.if_icmp .eq 5, 3) := by decide +kernel
theorem dX11_hands_9 : decode cX11_hands 9 = .ok (.iconst (-1), 1) := by decide +kernel
theorem dX11_hands_10 : decode cX11_hands 10 = .ok (.ireturn, 1) := by decide +kernel
theorem dX11_hands_11 : decode cX11_hands 11 = .ok (.aload_n 0, 1) := by decide +kernel
theorem dX11_hands_12 : decode cX11_hands 12 = .ok (.getfield 62, 3) := by decide +kernel
theorem dX11_hands_15 : decode cX11_hands 15 = .ok (.invokevirtual 272, 3) := by decide +kernel
theorem dX11_hands_18 : decode cX11_hands 18 = .ok (.istore_n 2, 1) := by decide +kernel
theorem dX11_hands_19 : decode cX11_hands 19 = .ok (.iload_n 1, 1) := by decide +kernel
theorem dX11_hands_20 : decode cX11_hands 20 = .ok (.ifCond .ne 15, 3) := by decide +kernel
theorem dX11_hands_23 : decode cX11_hands 23 = .ok (.iload_n 2, 1) := by decide +kernel
theorem dX11_hands_24 : decode cX11_hands 24 = .ok (.iconst (-1), 1) := by decide +kernel
theorem dX11_hands_25 : decode cX11_hands 25 = .ok (.if_icmp .eq 10, 3) := by decide +kernel
theorem dX11_hands_28 : decode cX11_hands 28 = .ok (.iload_n 2, 1) := by decide +kernel
theorem dX11_hands_29 : decode cX11_hands 29 = .ok (.invokestatic 275, 3) := by decide +kernel
theorem dX11_hands_32 : decode cX11_hands 32 = .ok (.goto 4, 3) := by decide +kernel
theorem dX11_hands_35 : decode cX11_hands 35 = .ok (.iload_n 2, 1) := by decide +kernel
theorem dX11_hands_36 : decode cX11_hands 36 = .ok (.ireturn, 1) := by decide +kernel
theorem dX11_taught_0 : decode cX11_taught 0 = .ok (.iload_n 1, 1) := by decide +kernel
theorem dX11_taught_1 : decode cX11_taught 1 = .ok (.ifCond .lt 8, 3) := by decide +kernel
theorem dX11_taught_4 : decode cX11_taught 4 = .ok (.iload_n 1, 1) := by decide +kernel
theorem dX11_taught_5 : decode cX11_taught 5 = .ok (.iconst 2, 1) := by decide +kernel
theorem dX11_taught_6 : decode cX11_taught 6 = .ok (.if_icmp .le 7, 3) := by decide +kernel
theorem dX11_taught_9 : decode cX11_taught 9 = .ok (.iconst (-1), 1) := by decide +kernel
theorem dX11_taught_10 : decode cX11_taught 10 = .ok (.goto 11, 3) := by decide +kernel
theorem dX11_taught_13 : decode cX11_taught 13 = .ok (.aload_n 0, 1) := by decide +kernel
theorem dX11_taught_14 : decode cX11_taught 14 = .ok (.getfield 62, 3) := by decide +kernel
theorem dX11_taught_17 : decode cX11_taught 17 = .ok (.iload_n 1, 1) := by decide +kernel
theorem dX11_taught_18 : decode cX11_taught 18 = .ok (.invokevirtual 280, 3) := by decide +kernel
theorem dX11_taught_21 : decode cX11_taught 21 = .ok (.ireturn, 1) := by decide +kernel
theorem dX11_unseen_0 : decode cX11_unseen 0 = .ok (.iload_n 1, 1) := by decide +kernel
theorem dX11_unseen_1 : decode cX11_unseen 1 = .ok (.ifCond .lt 9, 3) := by decide +kernel
theorem dX11_unseen_4 : decode cX11_unseen 4 = .ok (.iload_n 1, 1) := by decide +kernel
theorem dX11_unseen_5 : decode cX11_unseen 5 = .ok (.bipush 99, 2) := by decide +kernel
theorem dX11_unseen_7 : decode cX11_unseen 7 = .ok (.if_icmp .le 9, 3) := by decide +kernel
theorem dX11_unseen_10 : decode cX11_unseen 10 = .ok (.ldc2_w 283, 3) := by decide +kernel
theorem dX11_unseen_13 : decode cX11_unseen 13 = .ok (.goto 11, 3) := by decide +kernel
theorem dX11_unseen_16 : decode cX11_unseen 16 = .ok (.aload_n 0, 1) := by decide +kernel
theorem dX11_unseen_17 : decode cX11_unseen 17 = .ok (.getfield 53, 3) := by decide +kernel
theorem dX11_unseen_20 : decode cX11_unseen 20 = .ok (.iload_n 1, 1) := by decide +kernel
theorem dX11_unseen_21 : decode cX11_unseen 21 = .ok (.invokevirtual 285, 3) := by decide +kernel
theorem dX11_unseen_24 : decode cX11_unseen 24 = .ok (.lreturn, 1) := by decide +kernel
theorem dX11_sight_0 : decode cX11_sight 0 = .ok (.iload_n 1, 1) := by decide +kernel
theorem dX11_sight_1 : decode cX11_sight 1 = .ok (.ifCond .lt 18, 3) := by decide +kernel
theorem dX11_sight_4 : decode cX11_sight 4 = .ok (.iload_n 1, 1) := by decide +kernel
theorem dX11_sight_5 : decode cX11_sight 5 = .ok (.bipush 99, 2) := by decide +kernel
theorem dX11_sight_7 : decode cX11_sight 7 = .ok (.if_icmp .gt 12, 3) := by decide +kernel
theorem dX11_sight_10 : decode cX11_sight 10 = .ok (.iload_n 3, 1) := by decide +kernel
theorem dX11_sight_11 : decode cX11_sight 11 = .ok (.ifCond .lt 8, 3) := by decide +kernel
theorem dX11_sight_14 : decode cX11_sight 14 = .ok (.iload_n 3, 1) := by decide +kernel
theorem dX11_sight_15 : decode cX11_sight 15 = .ok (.iconst 1, 1) := by decide +kernel
theorem dX11_sight_16 : decode cX11_sight 16 = .ok (.if_icmp .le 9, 3) := by decide +kernel
theorem dX11_sight_19 : decode cX11_sight 19 = .ok (.aload_n 0, 1) := by decide +kernel
theorem dX11_sight_20 : decode cX11_sight 20 = .ok (.iconst (-1), 1) := by decide +kernel
theorem dX11_sight_21 : decode cX11_sight 21 = .ok (.invokevirtual 114, 3) := by decide +kernel
theorem dX11_sight_24 : decode cX11_sight 24 = .ok (.ireturn, 1) := by decide +kernel
theorem dX11_sight_25 : decode cX11_sight 25 = .ok (.aload_n 0, 1) := by decide +kernel
theorem dX11_sight_26 : decode cX11_sight 26 = .ok (.getfield 10, 3) := by decide +kernel
theorem dX11_sight_29 : decode cX11_sight 29 = .ok (.iload_n 2, 1) := by decide +kernel
theorem dX11_sight_30 : decode cX11_sight 30 = .ok (.invokevirtual 124, 3) := by decide +kernel
theorem dX11_sight_33 : decode cX11_sight 33 = .ok (.ifCond .ne 10, 3) := by decide +kernel
theorem dX11_sight_36 : decode cX11_sight 36 = .ok (.aload_n 0, 1) := by decide +kernel
theorem dX11_sight_37 : decode cX11_sight 37 = .ok (.bipush (-2), 2) := by decide +kernel
theorem dX11_sight_39 : decode cX11_sight 39 = .ok (.invokevirtual 114, 3) := by decide +kernel
theorem dX11_sight_42 : decode cX11_sight 42 = .ok (.ireturn, 1) := by decide +kernel
theorem dX11_forget_0 : decode cX11_forget 0 = .ok (.aload_n 0, 1) := by decide +kernel
theorem dX11_forget_1 : decode cX11_forget 1 = .ok (.getfield 10, 3) := by decide +kernel
theorem dX11_forget_4 : decode cX11_forget 4 = .ok (.getfield 289, 3) := by decide +kernel
theorem dX11_forget_7 : decode cX11_forget 7 = .ok (.istore_n 1, 1) := by decide +kernel
theorem dX11_forget_8 : decode cX11_forget 8 = .ok (.aload_n 0, 1) := by decide +kernel
theorem dX11_forget_9 : decode cX11_forget 9 = .ok (.getfield 10, 3) := by decide +kernel
theorem dX11_forget_12 : decode cX11_forget 12 = .ok (.iconst 0, 1) := by decide +kernel
theorem dX11_forget_13 : decode cX11_forget 13 = .ok (.putfield 289, 3) := by decide +kernel
theorem dX11_forget_16 : decode cX11_forget 16 = .ok (.iload_n 1, 1) := by decide +kernel
theorem dX11_forget_17 : decode cX11_forget 17 = .ok (.ireturn, 1) := by decide +kernel
theorem dX11_whose_0 : decode cX11_whose 0 = .ok (.aload_n 0, 1) := by decide +kernel
theorem dX11_whose_1 : decode cX11_whose 1 = .ok (.getfield 62, 3) := by decide +kernel
theorem dX11_whose_4 : decode cX11_whose 4 = .ok (.iload_n 1, 1) := by decide +kernel
theorem dX11_whose_5 : decode cX11_whose 5 = .ok (.invokevirtual 301, 3) := by decide +kernel
theorem dX11_whose_8 : decode cX11_whose 8 = .ok (.ireturn, 1) := by decide +kernel
theorem dX11_look_0 : decode cX11_look 0 = .ok (.iload_n 1, 1) := by decide +kernel
theorem dX11_look_1 : decode cX11_look 1 = .ok (.ifCond .eq 8, 3) := by decide +kernel
theorem dX11_look_4 : decode cX11_look 4 = .ok (.iload_n 1, 1) := by decide +kernel
theorem dX11_look_5 : decode cX11_look 5 = .ok (.iconst 1, 1) := by decide +kernel
theorem dX11_look_6 : decode cX11_look 6 = .ok (.if_icmp .ne 14, 3) := by decide +kernel
theorem dX11_look_9 : decode cX11_look 9 = .ok (.aload_n 0, 1) := by decide +kernel
theorem dX11_look_10 : decode cX11_look 10 = .ok (.getfield 62, 3) := by decide +kernel
theorem dX11_look_13 : decode cX11_look 13 = .ok (.iload_n 1, 1) := by decide +kernel
theorem dX11_look_14 : decode cX11_look 14 = .ok (.invokevirtual 304, 3) := by decide +kernel
theorem dX11_look_17 : decode cX11_look 17 = .ok (.goto 4, 3) := by decide +kernel
theorem dX11_look_20 : decode cX11_look 20 = .ok (.iconst (-1), 1) := by decide +kernel
theorem dX11_look_21 : decode cX11_look 21 = .ok (.ireturn, 1) := by decide +kernel
theorem dX11_nights_0 : decode cX11_nights 0 = .ok (.iload_n 1, 1) := by decide +kernel
theorem dX11_nights_1 : decode cX11_nights 1 = .ok (.ifCond .lt 21, 3) := by decide +kernel
theorem dX11_nights_4 : decode cX11_nights 4 = .ok (.iload_n 1, 1) := by decide +kernel
theorem dX11_nights_5 : decode cX11_nights 5 = .ok (.ldc_w 307, 3) := by decide +kernel
theorem dX11_nights_8 : decode cX11_nights 8 = .ok (.if_icmp .gt 14, 3) := by decide +kernel
theorem dX11_nights_11 : decode cX11_nights 11 = .ok (.iload_n 2, 1) := by decide +kernel
theorem dX11_nights_12 : decode cX11_nights 12 = .ok (.iconst 1, 1) := by decide +kernel
theorem dX11_nights_13 : decode cX11_nights 13 = .ok (.if_icmp .lt 9, 3) := by decide +kernel
theorem dX11_nights_16 : decode cX11_nights 16 = .ok (.iload_n 2, 1) := by decide +kernel
theorem dX11_nights_17 : decode cX11_nights 17 = .ok (.bipush 20, 2) := by decide +kernel
theorem dX11_nights_19 : decode cX11_nights 19 = .ok (.if_icmp .le 9, 3) := by decide +kernel
theorem dX11_nights_22 : decode cX11_nights 22 = .ok (.aload_n 0, 1) := by decide +kernel
theorem dX11_nights_23 : decode cX11_nights 23 = .ok (.iconst (-1), 1) := by decide +kernel
theorem dX11_nights_24 : decode cX11_nights 24 = .ok (.invokevirtual 114, 3) := by decide +kernel
theorem dX11_nights_27 : decode cX11_nights 27 = .ok (.ireturn, 1) := by decide +kernel
theorem dX11_nights_28 : decode cX11_nights 28 = .ok (.aload_n 0, 1) := by decide +kernel
theorem dX11_nights_29 : decode cX11_nights 29 = .ok (.aload_n 0, 1) := by decide +kernel
theorem dX11_nights_30 : decode cX11_nights 30 = .ok (.getfield 78, 3) := by decide +kernel
theorem dX11_nights_33 : decode cX11_nights 33 = .ok (.iload_n 1, 1) := by decide +kernel
theorem dX11_nights_34 : decode cX11_nights 34 = .ok (.iload_n 2, 1) := by decide +kernel
theorem dX11_nights_35 : decode cX11_nights 35 = .ok (.invokevirtual 308, 3) := by decide +kernel
theorem dX11_nights_38 : decode cX11_nights 38 = .ok (.invokevirtual 225, 3) := by decide +kernel
theorem dX11_nights_41 : decode cX11_nights 41 = .ok (.ireturn, 1) := by decide +kernel
theorem dX11_drawn_0 : decode cX11_drawn 0 = .ok (.aload_n 0, 1) := by decide +kernel
theorem dX11_drawn_1 : decode cX11_drawn 1 = .ok (.getfield 78, 3) := by decide +kernel
theorem dX11_drawn_4 : decode cX11_drawn 4 = .ok (.iload_n 1, 1) := by decide +kernel
theorem dX11_drawn_5 : decode cX11_drawn 5 = .ok (.iload_n 2, 1) := by decide +kernel
theorem dX11_drawn_6 : decode cX11_drawn 6 = .ok (.invokevirtual 311, 3) := by decide +kernel
theorem dX11_drawn_9 : decode cX11_drawn 9 = .ok (.ireturn, 1) := by decide +kernel
theorem dX11_back_0 : decode cX11_back 0 = .ok (.iload_n 1, 1) := by decide +kernel
theorem dX11_back_1 : decode cX11_back 1 = .ok (.ifCond .lt 8, 3) := by decide +kernel
theorem dX11_back_4 : decode cX11_back 4 = .ok (.iload_n 1, 1) := by decide +kernel
theorem dX11_back_5 : decode cX11_back 5 = .ok (.iconst 2, 1) := by decide +kernel
theorem dX11_back_6 : decode cX11_back 6 = .ok (.if_icmp .lt 9, 3) := by decide +kernel
theorem dX11_back_9 : decode cX11_back 9 = .ok (.aload_n 0, 1) := by decide +kernel
theorem dX11_back_10 : decode cX11_back 10 = .ok (.iconst (-1), 1) := by decide +kernel
theorem dX11_back_11 : decode cX11_back 11 = .ok (.invokevirtual 114, 3) := by decide +kernel
theorem dX11_back_14 : decode cX11_back 14 = .ok (.ireturn, 1) := by decide +kernel
theorem dX11_back_15 : decode cX11_back 15 = .ok (.aload_n 0, 1) := by decide +kernel
theorem dX11_back_16 : decode cX11_back 16 = .ok (.getfield 82, 3) := by decide +kernel
theorem dX11_back_19 : decode cX11_back 19 = .ok (.iload_n 1, 1) := by decide +kernel
theorem dX11_back_20 : decode cX11_back 20 = .ok (.aaload, 1) := by decide +kernel
theorem dX11_back_21 : decode cX11_back 21 = .ok (.ifnonnull 10, 3) := by decide +kernel
theorem dX11_back_24 : decode cX11_back 24 = .ok (.aload_n 0, 1) := by decide +kernel
theorem dX11_back_25 : decode cX11_back 25 = .ok (.bipush (-2), 2) := by decide +kernel
theorem dX11_back_27 : decode cX11_back 27 = .ok (.invokevirtual 114, 3) := by decide +kernel
theorem dX11_back_30 : decode cX11_back 30 = .ok (.ireturn, 1) := by decide +kernel
theorem dX11_count_0 : decode cX11_count 0 = .ok (.iload_n 1, 1) := by decide +kernel
theorem dX11_count_1 : decode cX11_count 1 = .ok (.bipush 7, 2) := by decide +kernel
theorem dX11_count_3 : decode cX11_count 3 = .ok (.if_icmp .lt 19, 3) := by decide +kernel
theorem dX11_count_6 : decode cX11_count 6 = .ok (.iload_n 1, 1) := by decide +kernel
theorem dX11_count_7 : decode cX11_count 7 = .ok (.bipush 11, 2) := by decide +kernel
theorem dX11_count_9 : decode cX11_count 9 = .ok (.if_icmp .gt 13, 3) := by decide +kernel
theorem dX11_count_12 : decode cX11_count 12 = .ok (.aload_n 0, 1) := by decide +kernel
theorem dX11_count_13 : decode cX11_count 13 = .ok (.getfield 90, 3) := by decide +kernel
theorem dX11_count_16 : decode cX11_count 16 = .ok (.iload_n 1, 1) := by decide +kernel
theorem dX11_count_17 : decode cX11_count 17 = .ok (.bipush 7, 2) := by decide +kernel
theorem dX11_count_19 : decode cX11_count 19 = .ok (.isub, 1) := by decide +kernel
theorem dX11_count_20 : decode cX11_count 20 = .ok (.iaload, 1) := by decide +kernel
theorem dX11_count_21 : decode cX11_count 21 = .ok (.ireturn, 1) := by decide +kernel
theorem dX11_count_22 : decode cX11_count 22 = .ok (.iload_n 1, 1) := by decide +kernel
theorem dX11_count_23 : decode cX11_count 23 = .ok (.bipush 13, 2) := by decide +kernel
theorem dX11_count_25 : decode cX11_count 25 = .ok (.if_icmp .lt 22, 3) := by decide +kernel
theorem dX11_count_28 : decode cX11_count 28 = .ok (.iload_n 1, 1) := by decide +kernel
theorem dX11_count_29 : decode cX11_count 29 = .ok (.bipush 16, 2) := by decide +kernel
theorem dX11_count_31 : decode cX11_count 31 = .ok (.if_icmp .gt 16, 3) := by decide +kernel
theorem dX11_count_34 : decode cX11_count 34 = .ok (.aload_n 0, 1) := by decide +kernel
theorem dX11_count_35 : decode cX11_count 35 = .ok (.getfield 10, 3) := by decide +kernel
theorem dX11_count_38 : decode cX11_count 38 = .ok (.getfield 191, 3) := by decide +kernel
theorem dX11_count_41 : decode cX11_count 41 = .ok (.iload_n 1, 1) := by decide +kernel
theorem dX11_count_42 : decode cX11_count 42 = .ok (.bipush 13, 2) := by decide +kernel
theorem dX11_count_44 : decode cX11_count 44 = .ok (.isub, 1) := by decide +kernel
theorem dX11_count_45 : decode cX11_count 45 = .ok (.iaload, 1) := by decide +kernel
theorem dX11_count_46 : decode cX11_count 46 = .ok (.ireturn, 1) := by decide +kernel
theorem dX11_count_47 : decode cX11_count 47 = .ok (.iload_n 1, 1) := by decide +kernel
theorem dX11_count_48 : decode cX11_count 48 = .ok (.tableswitch 132 0 12 #[68, 76, 87, 95, 103, 111, 119, 132, 132, 132, 132, 132, 124], 68) := by decide +kernel
theorem dX11_count_116 : decode cX11_count 116 = .ok (.aload_n 0, 1) := by decide +kernel
theorem dX11_count_117 : decode cX11_count 117 = .ok (.getfield 10, 3) := by decide +kernel
theorem dX11_count_120 : decode cX11_count 120 = .ok (.getfield 317, 3) := by decide +kernel
theorem dX11_count_123 : decode cX11_count 123 = .ok (.ireturn, 1) := by decide +kernel
theorem dX11_count_124 : decode cX11_count 124 = .ok (.aload_n 0, 1) := by decide +kernel
theorem dX11_count_125 : decode cX11_count 125 = .ok (.getfield 10, 3) := by decide +kernel
theorem dX11_count_128 : decode cX11_count 128 = .ok (.invokevirtual 238, 3) := by decide +kernel
theorem dX11_count_131 : decode cX11_count 131 = .ok (.invokestatic 275, 3) := by decide +kernel
theorem dX11_count_134 : decode cX11_count 134 = .ok (.ireturn, 1) := by decide +kernel
theorem dX11_count_135 : decode cX11_count 135 = .ok (.aload_n 0, 1) := by decide +kernel
theorem dX11_count_136 : decode cX11_count 136 = .ok (.getfield 10, 3) := by decide +kernel
theorem dX11_count_139 : decode cX11_count 139 = .ok (.getfield 320, 3) := by decide +kernel
theorem dX11_count_142 : decode cX11_count 142 = .ok (.ireturn, 1) := by decide +kernel
theorem dX11_count_143 : decode cX11_count 143 = .ok (.aload_n 0, 1) := by decide +kernel
theorem dX11_count_144 : decode cX11_count 144 = .ok (.getfield 10, 3) := by decide +kernel
theorem dX11_count_147 : decode cX11_count 147 = .ok (.getfield 289, 3) := by decide +kernel
theorem dX11_count_150 : decode cX11_count 150 = .ok (.ireturn, 1) := by decide +kernel
theorem dX11_count_151 : decode cX11_count 151 = .ok (.aload_n 0, 1) := by decide +kernel
theorem dX11_count_152 : decode cX11_count 152 = .ok (.getfield 10, 3) := by decide +kernel
theorem dX11_count_155 : decode cX11_count 155 = .ok (.getfield 204, 3) := by decide +kernel
theorem dX11_count_158 : decode cX11_count 158 = .ok (.ireturn, 1) := by decide +kernel
theorem dX11_count_159 : decode cX11_count 159 = .ok (.aload_n 0, 1) := by decide +kernel
theorem dX11_count_160 : decode cX11_count 160 = .ok (.getfield 19, 3) := by decide +kernel
theorem dX11_count_163 : decode cX11_count 163 = .ok (.getfield 323, 3) := by decide +kernel
theorem dX11_count_166 : decode cX11_count 166 = .ok (.ireturn, 1) := by decide +kernel
theorem dX11_count_167 : decode cX11_count 167 = .ok (.aload_n 0, 1) := by decide +kernel
theorem dX11_count_168 : decode cX11_count 168 = .ok (.getfield 94, 3) := by decide +kernel
theorem dX11_count_171 : decode cX11_count 171 = .ok (.ireturn, 1) := by decide +kernel
theorem dX11_count_172 : decode cX11_count 172 = .ok (.aload_n 0, 1) := by decide +kernel
theorem dX11_count_173 : decode cX11_count 173 = .ok (.getfield 10, 3) := by decide +kernel
theorem dX11_count_176 : decode cX11_count 176 = .ok (.getfield 235, 3) := by decide +kernel
theorem dX11_count_179 : decode cX11_count 179 = .ok (.ireturn, 1) := by decide +kernel
theorem dX11_count_180 : decode cX11_count 180 = .ok (.iconst (-1), 1) := by decide +kernel
theorem dX11_count_181 : decode cX11_count 181 = .ok (.ireturn, 1) := by decide +kernel
theorem dX11_status_0 : decode cX11_status 0 = .ok (.aload_n 0, 1) := by decide +kernel
theorem dX11_status_1 : decode cX11_status 1 = .ok (.getfield 107, 3) := by decide +kernel
theorem dX11_status_4 : decode cX11_status 4 = .ok (.ireturn, 1) := by decide +kernel
theorem dX11_refuse_0 : decode cX11_refuse 0 = .ok (.iload_n 1, 1) := by decide +kernel
theorem dX11_refuse_1 : decode cX11_refuse 1 = .ok (.bipush (-5), 2) := by decide +kernel
theorem dX11_refuse_3 : decode cX11_refuse 3 = .ok (.if_icmp .ne 7, 3) := by decide +kernel
theorem dX11_refuse_10 : decode cX11_refuse 10 = .ok (.iload_n 1, 1) := by decide +kernel
theorem dX11_refuse_11 : decode cX11_refuse 11 = .ok (.bipush (-6), 2) := by decide +kernel
theorem dX11_refuse_13 : decode cX11_refuse 13 = .ok (.if_icmp .ne 7, 3) := by decide +kernel
theorem dX11_refuse_16 : decode cX11_refuse 16 = .ok (.iconst 4, 1) := by decide +kernel
theorem dX11_refuse_17 : decode cX11_refuse 17 = .ok (.goto 7, 3) := by decide +kernel
theorem dX11_refuse_20 : decode cX11_refuse 20 = .ok (.iload_n 1, 1) := by decide +kernel
theorem dX11_refuse_21 : decode cX11_refuse 21 = .ok (.ineg, 1) := by decide +kernel
theorem dX11_refuse_22 : decode cX11_refuse 22 = .ok (.iconst 1, 1) := by decide +kernel
theorem dX11_refuse_23 : decode cX11_refuse 23 = .ok (.isub, 1) := by decide +kernel
theorem dX11_refuse_24 : decode cX11_refuse 24 = .ok (.istore_n 2, 1) := by decide +kernel
theorem dX11_refuse_25 : decode cX11_refuse 25 = .ok (.iload_n 2, 1) := by decide +kernel
theorem dX11_refuse_26 : decode cX11_refuse 26 = .ok (.ifCond .lt 22, 3) := by decide +kernel
theorem dX11_refuse_29 : decode cX11_refuse 29 = .ok (.iload_n 2, 1) := by decide +kernel
theorem dX11_refuse_30 : decode cX11_refuse 30 = .ok (.aload_n 0, 1) := by decide +kernel
theorem dX11_refuse_31 : decode cX11_refuse 31 = .ok (.getfield 90, 3) := by decide +kernel
theorem dX11_refuse_34 : decode cX11_refuse 34 = .ok (.arraylength, 1) := by decide +kernel
theorem dX11_refuse_35 : decode cX11_refuse 35 = .ok (.if_icmp .ge 13, 3) := by decide +kernel
theorem dX11_refuse_38 : decode cX11_refuse 38 = .ok (.aload_n 0, 1) := by decide +kernel
theorem dX11_refuse_39 : decode cX11_refuse 39 = .ok (.getfield 90, 3) := by decide +kernel
theorem dX11_refuse_42 : decode cX11_refuse 42 = .ok (.iload_n 2, 1) := by decide +kernel
theorem dX11_refuse_43 : decode cX11_refuse 43 = .ok (.dup2, 1) := by decide +kernel
theorem dX11_refuse_44 : decode cX11_refuse 44 = .ok (.iaload, 1) := by decide +kernel
theorem dX11_refuse_45 : decode cX11_refuse 45 = .ok (.iconst 1, 1) := by decide +kernel
theorem dX11_refuse_46 : decode cX11_refuse 46 = .ok (.iadd, 1) := by decide +kernel
theorem dX11_refuse_47 : decode cX11_refuse 47 = .ok (.iastore, 1) := by decide +kernel
theorem dX11_refuse_48 : decode cX11_refuse 48 = .ok (.aload_n 0, 1) := by decide +kernel
theorem dX11_refuse_49 : decode cX11_refuse 49 = .ok (.iload_n 1, 1) := by decide +kernel
theorem dX11_refuse_50 : decode cX11_refuse 50 = .ok (.putfield 107, 3) := by decide +kernel
theorem dX11_refuse_53 : decode cX11_refuse 53 = .ok (.iload_n 1, 1) := by decide +kernel
theorem dX11_refuse_54 : decode cX11_refuse 54 = .ok (.ireturn, 1) := by decide +kernel
theorem dX11_agree_0 : decode cX11_agree 0 = .ok (.aload_n 0, 1) := by decide +kernel
theorem dX11_agree_1 : decode cX11_agree 1 = .ok (.iconst 0, 1) := by decide +kernel
theorem dX11_agree_2 : decode cX11_agree 2 = .ok (.putfield 107, 3) := by decide +kernel
theorem dX11_agree_5 : decode cX11_agree 5 = .ok (.iload_n 1, 1) := by decide +kernel
theorem dX11_agree_6 : decode cX11_agree 6 = .ok (.ireturn, 1) := by decide +kernel
theorem dX11_agreeChanged_0 : decode cX11_agreeChanged 0 = .ok (.aload_n 0, 1) := by decide +kernel
theorem dX11_agreeChanged_1 : decode cX11_agreeChanged 1 = .ok (.getfield 62, 3) := by decide +kernel
theorem dX11_agreeChanged_4 : decode cX11_agreeChanged 4 = .ok (.invokevirtual 326, 3) := by decide +kernel
theorem dX11_agreeChanged_7 : decode cX11_agreeChanged 7 = .ok (.aload_n 0, 1) := by decide +kernel
theorem dX11_agreeChanged_8 : decode cX11_agreeChanged 8 = .ok (.getfield 69, 3) := by decide +kernel
theorem dX11_agreeChanged_11 : decode cX11_agreeChanged 11 = .ok (.invokevirtual 327, 3) := by decide +kernel
theorem dX11_agreeChanged_14 : decode cX11_agreeChanged 14 = .ok (.aload_n 0, 1) := by decide +kernel
theorem dX11_agreeChanged_15 : decode cX11_agreeChanged 15 = .ok (.iload_n 1, 1) := by decide +kernel
theorem dX11_agreeChanged_16 : decode cX11_agreeChanged 16 = .ok (.invokevirtual 225, 3) := by decide +kernel
theorem dX11_agreeChanged_19 : decode cX11_agreeChanged 19 = .ok (.ireturn, 1) := by decide +kernel
theorem dX11_settle_0 : decode cX11_settle 0 = .ok (.iload_n 1, 1) := by decide +kernel
theorem dX11_settle_1 : decode cX11_settle 1 = .ok (.ifCond .ge 11, 3) := by decide +kernel
theorem dX11_settle_4 : decode cX11_settle 4 = .ok (.aload_n 0, 1) := by decide +kernel
theorem dX11_settle_5 : decode cX11_settle 5 = .ok (.iload_n 1, 1) := by decide +kernel
theorem dX11_settle_6 : decode cX11_settle 6 = .ok (.invokevirtual 114, 3) := by decide +kernel
theorem dX11_settle_9 : decode cX11_settle 9 = .ok (.goto 8, 3) := by decide +kernel
theorem dX11_settle_12 : decode cX11_settle 12 = .ok (.aload_n 0, 1) := by decide +kernel
theorem dX11_settle_13 : decode cX11_settle 13 = .ok (.iload_n 1, 1) := by decide +kernel
theorem dX11_settle_14 : decode cX11_settle 14 = .ok (.invokevirtual 121, 3) := by decide +kernel
theorem dX11_settle_17 : decode cX11_settle 17 = .ok (.ireturn, 1) := by decide +kernel
theorem dX11_emptyTape_0 : decode cX11_emptyTape 0 = .ok (.aload_n 0, 1) := by decide +kernel
theorem dX11_emptyTape_1 : decode cX11_emptyTape 1 = .ok (.getfield 94, 3) := by decide +kernel
theorem dX11_emptyTape_4 : decode cX11_emptyTape 4 = .ok (.istore_n 1, 1) := by decide +kernel
theorem dX11_emptyTape_5 : decode cX11_emptyTape 5 = .ok (.aload_n 0, 1) := by decide +kernel
theorem dX11_emptyTape_6 : decode cX11_emptyTape 6 = .ok (.iconst 0, 1) := by decide +kernel
theorem dX11_emptyTape_7 : decode cX11_emptyTape 7 = .ok (.putfield 94, 3) := by decide +kernel
theorem dX11_emptyTape_10 : decode cX11_emptyTape 10 = .ok (.iload_n 1, 1) := by decide +kernel
theorem dX11_emptyTape_11 : decode cX11_emptyTape 11 = .ok (.ireturn, 1) := by decide +kernel
theorem dX11_writeNumber_0 : decode cX11_writeNumber 0 = .ok (.iconst 0, 1) := by decide +kernel
theorem dX11_writeNumber_1 : decode cX11_writeNumber 1 = .ok (.istore_n 3, 1) := by decide +kernel
theorem dX11_writeNumber_2 : decode cX11_writeNumber 2 = .ok (.iload_n 3, 1) := by decide +kernel
theorem dX11_writeNumber_3 : decode cX11_writeNumber 3 = .ok (.iconst 4, 1) := by decide +kernel
theorem dX11_writeNumber_4 : decode cX11_writeNumber 4 = .ok (.if_icmp .ge 44, 3) := by decide +kernel
theorem dX11_writeNumber_7 : decode cX11_writeNumber 7 = .ok (.iload_n 1, 1) := by decide +kernel
theorem dX11_writeNumber_8 : decode cX11_writeNumber 8 = .ok (.iload_n 3, 1) := by decide +kernel
theorem dX11_writeNumber_9 : decode cX11_writeNumber 9 = .ok (.iadd, 1) := by decide +kernel
theorem dX11_writeNumber_10 : decode cX11_writeNumber 10 = .ok (.ifCond .lt 32, 3) := by decide +kernel
theorem dX11_writeNumber_13 : decode cX11_writeNumber 13 = .ok (.iload_n 1, 1) := by decide +kernel
theorem dX11_writeNumber_14 : decode cX11_writeNumber 14 = .ok (.iload_n 3, 1) := by decide +kernel
theorem dX11_writeNumber_15 : decode cX11_writeNumber 15 = .ok (.iadd, 1) := by decide +kernel
theorem dX11_writeNumber_16 : decode cX11_writeNumber 16 = .ok (.aload_n 0, 1) := by decide +kernel
theorem dX11_writeNumber_17 : decode cX11_writeNumber 17 = .ok (.getfield 86, 3) := by decide +kernel
theorem dX11_writeNumber_20 : decode cX11_writeNumber 20 = .ok (.arraylength, 1) := by decide +kernel
theorem dX11_writeNumber_21 : decode cX11_writeNumber 21 = .ok (.if_icmp .ge 21, 3) := by decide +kernel
theorem dX11_writeNumber_24 : decode cX11_writeNumber 24 = .ok (.aload_n 0, 1) := by decide +kernel
theorem dX11_writeNumber_25 : decode cX11_writeNumber 25 = .ok (.getfield 86, 3) := by decide +kernel
theorem dX11_writeNumber_28 : decode cX11_writeNumber 28 = .ok (.iload_n 1, 1) := by decide +kernel
theorem dX11_writeNumber_29 : decode cX11_writeNumber 29 = .ok (.iload_n 3, 1) := by decide +kernel
theorem dX11_writeNumber_30 : decode cX11_writeNumber 30 = .ok (.iadd, 1) := by decide +kernel
theorem dX11_writeNumber_31 : decode cX11_writeNumber 31 = .ok (.iload_n 2, 1) := by decide +kernel
theorem dX11_writeNumber_32 : decode cX11_writeNumber 32 = .ok (.bipush 24, 2) := by decide +kernel
theorem dX11_writeNumber_34 : decode cX11_writeNumber 34 = .ok (.bipush 8, 2) := by decide +kernel
theorem dX11_writeNumber_36 : decode cX11_writeNumber 36 = .ok (.iload_n 3, 1) := by decide +kernel
theorem dX11_writeNumber_37 : decode cX11_writeNumber 37 = .ok (.imul, 1) := by decide +kernel
theorem dX11_writeNumber_38 : decode cX11_writeNumber 38 = .ok (.isub, 1) := by decide +kernel
theorem dX11_writeNumber_39 : decode cX11_writeNumber 39 = .ok (.ishr, 1) := by decide +kernel
theorem dX11_writeNumber_40 : decode cX11_writeNumber 40 = .ok (.i2b, 1) := by decide +kernel
theorem dX11_writeNumber_41 : decode cX11_writeNumber 41 = .ok (.bastore, 1) := by decide +kernel
theorem dX11_writeNumber_42 : decode cX11_writeNumber 42 = .ok (.iinc 3 1, 3) := by decide +kernel
theorem dX11_writeNumber_45 : decode cX11_writeNumber 45 = .ok (.goto (-43), 3) := by decide +kernel
theorem dX11_writeNumber_48 : decode cX11_writeNumber 48 = .ok (.return_, 1) := by decide +kernel
theorem dJ6_bitCount_0f7a4_0 : decode cJ6_bitCount_0f7a4 0 = .ok (.iload_n 0, 1) := by decide +kernel
theorem dJ6_bitCount_0f7a4_1 : decode cJ6_bitCount_0f7a4 1 = .ok (.iload_n 0, 1) := by decide +kernel
theorem dJ6_bitCount_0f7a4_2 : decode cJ6_bitCount_0f7a4 2 = .ok (.iconst 1, 1) := by decide +kernel
theorem dJ6_bitCount_0f7a4_3 : decode cJ6_bitCount_0f7a4 3 = .ok (.iushr, 1) := by decide +kernel
theorem dJ6_bitCount_0f7a4_4 : decode cJ6_bitCount_0f7a4 4 = .ok (.ldc_w 265, 3) := by decide +kernel
theorem dJ6_bitCount_0f7a4_7 : decode cJ6_bitCount_0f7a4 7 = .ok (.iand, 1) := by decide +kernel
theorem dJ6_bitCount_0f7a4_8 : decode cJ6_bitCount_0f7a4 8 = .ok (.isub, 1) := by decide +kernel
theorem dJ6_bitCount_0f7a4_9 : decode cJ6_bitCount_0f7a4 9 = .ok (.istore_n 0, 1) := by decide +kernel
theorem dJ6_bitCount_0f7a4_10 : decode cJ6_bitCount_0f7a4 10 = .ok (.iload_n 0, 1) := by decide +kernel
theorem dJ6_bitCount_0f7a4_11 : decode cJ6_bitCount_0f7a4 11 = .ok (.ldc_w 266, 3) := by decide +kernel
theorem dJ6_bitCount_0f7a4_14 : decode cJ6_bitCount_0f7a4 14 = .ok (.iand, 1) := by decide +kernel
theorem dJ6_bitCount_0f7a4_15 : decode cJ6_bitCount_0f7a4 15 = .ok (.iload_n 0, 1) := by decide +kernel
theorem dJ6_bitCount_0f7a4_16 : decode cJ6_bitCount_0f7a4 16 = .ok (.iconst 2, 1) := by decide +kernel
theorem dJ6_bitCount_0f7a4_17 : decode cJ6_bitCount_0f7a4 17 = .ok (.iushr, 1) := by decide +kernel
theorem dJ6_bitCount_0f7a4_18 : decode cJ6_bitCount_0f7a4 18 = .ok (.ldc_w 266, 3) := by decide +kernel
theorem dJ6_bitCount_0f7a4_21 : decode cJ6_bitCount_0f7a4 21 = .ok (.iand, 1) := by decide +kernel
theorem dJ6_bitCount_0f7a4_22 : decode cJ6_bitCount_0f7a4 22 = .ok (.iadd, 1) := by decide +kernel
theorem dJ6_bitCount_0f7a4_23 : decode cJ6_bitCount_0f7a4 23 = .ok (.istore_n 0, 1) := by decide +kernel
theorem dJ6_bitCount_0f7a4_24 : decode cJ6_bitCount_0f7a4 24 = .ok (.iload_n 0, 1) := by decide +kernel
theorem dJ6_bitCount_0f7a4_25 : decode cJ6_bitCount_0f7a4 25 = .ok (.iload_n 0, 1) := by decide +kernel
theorem dJ6_bitCount_0f7a4_26 : decode cJ6_bitCount_0f7a4 26 = .ok (.iconst 4, 1) := by decide +kernel
theorem dJ6_bitCount_0f7a4_27 : decode cJ6_bitCount_0f7a4 27 = .ok (.iushr, 1) := by decide +kernel
theorem dJ6_bitCount_0f7a4_28 : decode cJ6_bitCount_0f7a4 28 = .ok (.iadd, 1) := by decide +kernel
theorem dJ6_bitCount_0f7a4_29 : decode cJ6_bitCount_0f7a4 29 = .ok (.ldc_w 267, 3) := by decide +kernel
theorem dJ6_bitCount_0f7a4_32 : decode cJ6_bitCount_0f7a4 32 = .ok (.iand, 1) := by decide +kernel
theorem dJ6_bitCount_0f7a4_33 : decode cJ6_bitCount_0f7a4 33 = .ok (.istore_n 0, 1) := by decide +kernel
theorem dJ6_bitCount_0f7a4_34 : decode cJ6_bitCount_0f7a4 34 = .ok (.iload_n 0, 1) := by decide +kernel
theorem dJ6_bitCount_0f7a4_35 : decode cJ6_bitCount_0f7a4 35 = .ok (.iload_n 0, 1) := by decide +kernel
theorem dJ6_bitCount_0f7a4_36 : decode cJ6_bitCount_0f7a4 36 = .ok (.bipush 8, 2) := by decide +kernel
theorem dJ6_bitCount_0f7a4_38 : decode cJ6_bitCount_0f7a4 38 = .ok (.iushr, 1) := by decide +kernel
theorem dJ6_bitCount_0f7a4_39 : decode cJ6_bitCount_0f7a4 39 = .ok (.iadd, 1) := by decide +kernel
theorem dJ6_bitCount_0f7a4_40 : decode cJ6_bitCount_0f7a4 40 = .ok (.istore_n 0, 1) := by decide +kernel
theorem dJ6_bitCount_0f7a4_41 : decode cJ6_bitCount_0f7a4 41 = .ok (.iload_n 0, 1) := by decide +kernel
theorem dJ6_bitCount_0f7a4_42 : decode cJ6_bitCount_0f7a4 42 = .ok (.iload_n 0, 1) := by decide +kernel
theorem dJ6_bitCount_0f7a4_43 : decode cJ6_bitCount_0f7a4 43 = .ok (.bipush 16, 2) := by decide +kernel
theorem dJ6_bitCount_0f7a4_45 : decode cJ6_bitCount_0f7a4 45 = .ok (.iushr, 1) := by decide +kernel
theorem dJ6_bitCount_0f7a4_46 : decode cJ6_bitCount_0f7a4 46 = .ok (.iadd, 1) := by decide +kernel
theorem dJ6_bitCount_0f7a4_47 : decode cJ6_bitCount_0f7a4 47 = .ok (.istore_n 0, 1) := by decide +kernel
theorem dJ6_bitCount_0f7a4_48 : decode cJ6_bitCount_0f7a4 48 = .ok (.iload_n 0, 1) := by decide +kernel
theorem dJ6_bitCount_0f7a4_49 : decode cJ6_bitCount_0f7a4 49 = .ok (.bipush 63, 2) := by decide +kernel
theorem dJ6_bitCount_0f7a4_51 : decode cJ6_bitCount_0f7a4 51 = .ok (.iand, 1) := by decide +kernel
theorem dJ6_bitCount_0f7a4_52 : decode cJ6_bitCount_0f7a4 52 = .ok (.ireturn, 1) := by decide +kernel
theorem dJ7_fill_53178_0 : decode cJ7_fill_53178 0 = .ok (.iconst 0, 1) := by decide +kernel
theorem dJ7_fill_53178_1 : decode cJ7_fill_53178 1 = .ok (.istore_n 2, 1) := by decide +kernel
theorem dJ7_fill_53178_2 : decode cJ7_fill_53178 2 = .ok (.aload_n 0, 1) := by decide +kernel
theorem dJ7_fill_53178_3 : decode cJ7_fill_53178 3 = .ok (.arraylength, 1) := by decide +kernel
theorem dJ7_fill_53178_4 : decode cJ7_fill_53178 4 = .ok (.istore_n 3, 1) := by decide +kernel
theorem dJ7_fill_53178_5 : decode cJ7_fill_53178 5 = .ok (.iload_n 2, 1) := by decide +kernel
theorem dJ7_fill_53178_6 : decode cJ7_fill_53178 6 = .ok (.iload_n 3, 1) := by decide +kernel
theorem dJ7_fill_53178_7 : decode cJ7_fill_53178 7 = .ok (.if_icmp .ge 13, 3) := by decide +kernel
theorem dJ7_fill_53178_10 : decode cJ7_fill_53178 10 = .ok (.aload_n 0, 1) := by decide +kernel
theorem dJ7_fill_53178_11 : decode cJ7_fill_53178 11 = .ok (.iload_n 2, 1) := by decide +kernel
theorem dJ7_fill_53178_12 : decode cJ7_fill_53178 12 = .ok (.iload_n 1, 1) := by decide +kernel
theorem dJ7_fill_53178_13 : decode cJ7_fill_53178 13 = .ok (.iastore, 1) := by decide +kernel
theorem dJ7_fill_53178_14 : decode cJ7_fill_53178 14 = .ok (.iinc 2 1, 3) := by decide +kernel
theorem dJ7_fill_53178_17 : decode cJ7_fill_53178 17 = .ok (.goto (-12), 3) := by decide +kernel
theorem dJ7_fill_53178_20 : decode cJ7_fill_53178 20 = .ok (.return_, 1) := by decide +kernel
