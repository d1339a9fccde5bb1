theorem dX1_drawNights_0 : decode cX1_drawNights 0 = .ok (.aload_n 0, 1) := by decide +kernel
theorem dX1_drawNights_1 : decode cX1_drawNights 1 = .ok (.getfield 25, 3) := by decide +kernel
theorem dX1_drawNights_4 : decode cX1_drawNights 4 = .ok (.getfield 29, 3) := by decide +kernel
theorem dX1_drawNights_7 : decode cX1_drawNights 7 = .ok (.astore_n 3, 1) := by decide +kernel
theorem dX1_drawNights_8 : decode cX1_drawNights 8 = .ok (.iload_n 1, 1) := by decide +kernel
theorem dX1_drawNights_9 : decode cX1_drawNights 9 = .ok (.istore 4, 2) := by decide +kernel
theorem dX1_drawNights_11 : decode cX1_drawNights 11 = .ok (.iconst 0, 1) := by decide +kernel
theorem dX1_drawNights_12 : decode cX1_drawNights 12 = .ok (.istore 5, 2) := by decide +kernel
theorem dX1_drawNights_14 : decode cX1_drawNights 14 = .ok (.iconst 0, 1) := by decide +kernel
theorem dX1_drawNights_15 : decode cX1_drawNights 15 = .ok (.istore 6, 2) := by decide +kernel
theorem dX1_drawNights_17 : decode cX1_drawNights 17 = .ok (.iload 6, 2) := by decide +kernel
theorem dX1_drawNights_19 : decode cX1_drawNights 19 = .ok (.iload_n 2, 1) := by decide +kernel
theorem dX1_drawNights_20 : decode cX1_drawNights 20 = .ok (.if_icmp .ge 105, 3) := by decide +kernel
theorem dX1_drawNights_23 : decode cX1_drawNights 23 = .ok (.aload_n 0, 1) := by decide +kernel
theorem dX1_drawNights_24 : decode cX1_drawNights 24 = .ok (.getfield 25, 3) := by decide +kernel
theorem dX1_drawNights_27 : decode cX1_drawNights 27 = .ok (.invokevirtual 35, 3) := by decide +kernel
theorem dX1_drawNights_30 : decode cX1_drawNights 30 = .ok (.iconst 0, 1) := by decide +kernel
theorem dX1_drawNights_31 : decode cX1_drawNights 31 = .ok (.istore 7, 2) := by decide +kernel
theorem dX1_drawNights_33 : decode cX1_drawNights 33 = .ok (.iload 7, 2) := by decide +kernel
theorem dX1_drawNights_35 : decode cX1_drawNights 35 = .ok (.aload_n 3, 1) := by decide +kernel
theorem dX1_drawNights_36 : decode cX1_drawNights 36 = .ok (.getfield 38, 3) := by decide +kernel
theorem dX1_drawNights_39 : decode cX1_drawNights 39 = .ok (.iconst 1, 1) := by decide +kernel
theorem dX1_drawNights_40 : decode cX1_drawNights 40 = .ok (.iaload, 1) := by decide +kernel
theorem dX1_drawNights_41 : decode cX1_drawNights 41 = .ok (.if_icmp .ge 65, 3) := by decide +kernel
theorem dX1_drawNights_44 : decode cX1_drawNights 44 = .ok (.aload_n 0, 1) := by decide +kernel
theorem dX1_drawNights_45 : decode cX1_drawNights 45 = .ok (.getfield 25, 3) := by decide +kernel
theorem dX1_drawNights_48 : decode cX1_drawNights 48 = .ok (.bipush 63, 2) := by decide +kernel
theorem dX1_drawNights_50 : decode cX1_drawNights 50 = .ok (.invokevirtual 43, 3) := by decide +kernel
theorem dX1_drawNights_53 : decode cX1_drawNights 53 = .ok (.iload 4, 2) := by decide +kernel
theorem dX1_drawNights_55 : decode cX1_drawNights 55 = .ok (.sipush 1103, 3) := by decide +kernel
theorem dX1_drawNights_58 : decode cX1_drawNights 58 = .ok (.imul, 1) := by decide +kernel
theorem dX1_drawNights_59 : decode cX1_drawNights 59 = .ok (.sipush 12345, 3) := by decide +kernel
theorem dX1_drawNights_62 : decode cX1_drawNights 62 = .ok (.iadd, 1) := by decide +kernel
theorem dX1_drawNights_63 : decode cX1_drawNights 63 = .ok (.ldc 47, 2) := by decide +kernel
theorem dX1_drawNights_65 : decode cX1_drawNights 65 = .ok (.irem, 1) := by decide +kernel
theorem dX1_drawNights_66 : decode cX1_drawNights 66 = .ok (.istore 4, 2) := by decide +kernel
theorem dX1_drawNights_68 : decode cX1_drawNights 68 = .ok (.iload 4, 2) := by decide +kernel
theorem dX1_drawNights_70 : decode cX1_drawNights 70 = .ok (.bipush 10, 2) := by decide +kernel
theorem dX1_drawNights_72 : decode cX1_drawNights 72 = .ok (.irem, 1) := by decide +kernel
theorem dX1_drawNights_73 : decode cX1_drawNights 73 = .ok (.aload_n 3, 1) := by decide +kernel
theorem dX1_drawNights_74 : decode cX1_drawNights 74 = .ok (.getfield 38, 3) := by decide +kernel
theorem dX1_drawNights_77 : decode cX1_drawNights 77 = .ok (.iconst 2, 1) := by decide +kernel
theorem dX1_drawNights_78 : decode cX1_drawNights 78 = .ok (.iaload, 1) := by decide +kernel
theorem dX1_drawNights_79 : decode cX1_drawNights 79 = .ok (.if_icmp .ge 16, 3) := by decide +kernel
theorem dX1_drawNights_82 : decode cX1_drawNights 82 = .ok (.aload_n 3, 1) := by decide +kernel
theorem dX1_drawNights_83 : decode cX1_drawNights 83 = .ok (.getfield 38, 3) := by decide +kernel
theorem dX1_drawNights_86 : decode cX1_drawNights 86 = .ok (.iconst 0, 1) := by decide +kernel
theorem dX1_drawNights_87 : decode cX1_drawNights 87 = .ok (.dup2, 1) := by decide +kernel
theorem dX1_drawNights_88 : decode cX1_drawNights 88 = .ok (.iaload, 1) := by decide +kernel
theorem dX1_drawNights_89 : decode cX1_drawNights 89 = .ok (.iconst 1, 1) := by decide +kernel
theorem dX1_drawNights_90 : decode cX1_drawNights 90 = .ok (.iadd, 1) := by decide +kernel
theorem dX1_drawNights_91 : decode cX1_drawNights 91 = .ok (.iastore, 1) := by decide +kernel
theorem dX1_drawNights_92 : decode cX1_drawNights 92 = .ok (.goto 8, 3) := by decide +kernel
theorem dX1_drawNights_95 : decode cX1_drawNights 95 = .ok (.aload_n 3, 1) := by decide +kernel
theorem dX1_drawNights_96 : decode cX1_drawNights 96 = .ok (.invokevirtual 48, 3) := by decide +kernel
theorem dX1_drawNights_99 : decode cX1_drawNights 99 = .ok (.pop, 1) := by decide +kernel
theorem dX1_drawNights_100 : decode cX1_drawNights 100 = .ok (.iinc 7 1, 3) := by decide +kernel
theorem dX1_drawNights_103 : decode cX1_drawNights 103 = .ok (.goto (-70), 3) := by decide +kernel
theorem dX1_drawNights_106 : decode cX1_drawNights 106 = .ok (.aload_n 0, 1) := by decide +kernel
theorem dX1_drawNights_107 : decode cX1_drawNights 107 = .ok (.getfield 25, 3) := by decide +kernel
theorem dX1_drawNights_110 : decode cX1_drawNights 110 = .ok (.invokevirtual 52, 3) := by decide +kernel
theorem dX1_drawNights_113 : decode cX1_drawNights 113 = .ok (.ifCond .eq 6, 3) := by decide +kernel
theorem dX1_drawNights_116 : decode cX1_drawNights 116 = .ok (.iinc 5 1, 3) := by decide +kernel
theorem dX1_drawNights_119 : decode cX1_drawNights 119 = .ok (.iinc 6 1, 3) := by decide +kernel
theorem dX1_drawNights_122 : decode cX1_drawNights 122 = .ok (.goto (-105), 3) := by decide +kernel
theorem dX1_drawNights_125 : decode cX1_drawNights 125 = .ok (.aload_n 0, 1) := by decide +kernel
theorem dX1_drawNights_126 : decode cX1_drawNights 126 = .ok (.aload_n 3, 1) := by decide +kernel
theorem dX1_drawNights_127 : decode cX1_drawNights 127 = .ok (.getfield 56, 3) := by decide +kernel
theorem dX1_drawNights_130 : decode cX1_drawNights 130 = .ok (.putfield 9, 3) := by decide +kernel
theorem dX1_drawNights_133 : decode cX1_drawNights 133 = .ok (.aload_n 0, 1) := by decide +kernel
theorem dX1_drawNights_134 : decode cX1_drawNights 134 = .ok (.aload_n 3, 1) := by decide +kernel
theorem dX1_drawNights_135 : decode cX1_drawNights 135 = .ok (.getfield 57, 3) := by decide +kernel
theorem dX1_drawNights_138 : decode cX1_drawNights 138 = .ok (.putfield 15, 3) := by decide +kernel
theorem dX1_drawNights_141 : decode cX1_drawNights 141 = .ok (.aload_n 3, 1) := by decide +kernel
theorem dX1_drawNights_142 : decode cX1_drawNights 142 = .ok (.getfield 58, 3) := by decide +kernel
theorem dX1_drawNights_145 : decode cX1_drawNights 145 = .ok (.iconst 0, 1) := by decide +kernel
theorem dX1_drawNights_146 : decode cX1_drawNights 146 = .ok (.aload_n 0, 1) := by decide +kernel
theorem dX1_drawNights_147 : decode cX1_drawNights 147 = .ok (.getfield 18, 3) := by decide +kernel
theorem dX1_drawNights_150 : decode cX1_drawNights 150 = .ok (.iconst 0, 1) := by decide +kernel
theorem dX1_drawNights_151 : decode cX1_drawNights 151 = .ok (.bipush 10, 2) := by decide +kernel
theorem dX1_drawNights_153 : decode cX1_drawNights 153 = .ok (.invokestatic 59, 3) := by decide +kernel
theorem dX1_drawNights_156 : decode cX1_drawNights 156 = .ok (.aload_n 3, 1) := by decide +kernel
theorem dX1_drawNights_157 : decode cX1_drawNights 157 = .ok (.getfield 65, 3) := by decide +kernel
theorem dX1_drawNights_160 : decode cX1_drawNights 160 = .ok (.iconst 0, 1) := by decide +kernel
theorem dX1_drawNights_161 : decode cX1_drawNights 161 = .ok (.aload_n 0, 1) := by decide +kernel
theorem dX1_drawNights_162 : decode cX1_drawNights 162 = .ok (.getfield 22, 3) := by decide +kernel
theorem dX1_drawNights_165 : decode cX1_drawNights 165 = .ok (.iconst 0, 1) := by decide +kernel
theorem dX1_drawNights_166 : decode cX1_drawNights 166 = .ok (.bipush 6, 2) := by decide +kernel
theorem dX1_drawNights_168 : decode cX1_drawNights 168 = .ok (.invokestatic 59, 3) := by decide +kernel
theorem dX1_drawNights_171 : decode cX1_drawNights 171 = .ok (.iload 5, 2) := by decide +kernel
theorem dX1_drawNights_173 : decode cX1_drawNights 173 = .ok (.ireturn, 1) := by decide +kernel
theorem dX1_endOf_0 : decode cX1_endOf 0 = .ok (.iload_n 2, 1) := by decide +kernel
theorem dX1_endOf_1 : decode cX1_endOf 1 = .ok (.ifCond .ne 28, 3) := by decide +kernel
theorem dX1_endOf_4 : decode cX1_endOf 4 = .ok (.iload_n 1, 1) := by decide +kernel
theorem dX1_endOf_5 : decode cX1_endOf 5 = .ok (.ifCond .lt 24, 3) := by decide +kernel
theorem dX1_endOf_8 : decode cX1_endOf 8 = .ok (.iload_n 1, 1) := by decide +kernel
theorem dX1_endOf_9 : decode cX1_endOf 9 = .ok (.aload_n 0, 1) := by decide +kernel
theorem dX1_endOf_10 : decode cX1_endOf 10 = .ok (.getfield 9, 3) := by decide +kernel
theorem dX1_endOf_13 : decode cX1_endOf 13 = .ok (.if_icmp .ge 16, 3) := by decide +kernel
theorem dX1_endOf_16 : decode cX1_endOf 16 = .ok (.iload_n 1, 1) := by decide +kernel
theorem dX1_endOf_17 : decode cX1_endOf 17 = .ok (.bipush 10, 2) := by decide +kernel
theorem dX1_endOf_19 : decode cX1_endOf 19 = .ok (.if_icmp .ge 10, 3) := by decide +kernel
theorem dX1_endOf_22 : decode cX1_endOf 22 = .ok (.aload_n 0, 1) := by decide +kernel
theorem dX1_endOf_23 : decode cX1_endOf 23 = .ok (.getfield 18, 3) := by decide +kernel
theorem dX1_endOf_26 : decode cX1_endOf 26 = .ok (.iload_n 1, 1) := by decide +kernel
theorem dX1_endOf_27 : decode cX1_endOf 27 = .ok (.iaload, 1) := by decide +kernel
theorem dX1_endOf_28 : decode cX1_endOf 28 = .ok (.ireturn, 1) := by decide +kernel
theorem dX1_endOf_29 : decode cX1_endOf 29 = .ok (.iload_n 2, 1) := by decide +kernel
theorem dX1_endOf_30 : decode cX1_endOf 30 = .ok (.iconst 1, 1) := by decide +kernel
theorem dX1_endOf_31 : decode cX1_endOf 31 = .ok (.if_icmp .ne 30, 3) := by decide +kernel
theorem dX1_endOf_34 : decode cX1_endOf 34 = .ok (.iload_n 1, 1) := by decide +kernel
theorem dX1_endOf_35 : decode cX1_endOf 35 = .ok (.ifCond .lt 26, 3) := by decide +kernel
theorem dX1_endOf_38 : decode cX1_endOf 38 = .ok (.iload_n 1, 1) := by decide +kernel
theorem dX1_endOf_39 : decode cX1_endOf 39 = .ok (.aload_n 0, 1) := by decide +kernel
theorem dX1_endOf_40 : decode cX1_endOf 40 = .ok (.getfield 15, 3) := by decide +kernel
theorem dX1_endOf_43 : decode cX1_endOf 43 = .ok (.if_icmp .ge 18, 3) := by decide +kernel
theorem dX1_endOf_46 : decode cX1_endOf 46 = .ok (.iload_n 1, 1) := by decide +kernel
theorem dX1_endOf_47 : decode cX1_endOf 47 = .ok (.bipush 6, 2) := by decide +kernel
theorem dX1_endOf_49 : decode cX1_endOf 49 = .ok (.if_icmp .ge 12, 3) := by decide +kernel
theorem dX1_endOf_52 : decode cX1_endOf 52 = .ok (.aload_n 0, 1) := by decide +kernel
theorem dX1_endOf_53 : decode cX1_endOf 53 = .ok (.getfield 22, 3) := by decide +kernel
theorem dX1_endOf_56 : decode cX1_endOf 56 = .ok (.iload_n 1, 1) := by decide +kernel
theorem dX1_endOf_57 : decode cX1_endOf 57 = .ok (.iaload, 1) := by decide +kernel
theorem dX1_endOf_58 : decode cX1_endOf 58 = .ok (.goto 4, 3) := by decide +kernel
theorem dX1_endOf_61 : decode cX1_endOf 61 = .ok (.iconst (-1), 1) := by decide +kernel
theorem dX1_endOf_62 : decode cX1_endOf 62 = .ok (.ireturn, 1) := by decide +kernel
theorem dX6_clear_0 : decode cX6_clear 0 = .ok (.aload_n 0, 1) := by decide +kernel
theorem dX6_clear_1 : decode cX6_clear 1 = .ok (.iconst 0, 1) := by decide +kernel
theorem dX6_clear_2 : decode cX6_clear 2 = .ok (.putfield 15, 3) := by decide +kernel
theorem dX6_clear_5 : decode cX6_clear 5 = .ok (.return_, 1) := by decide +kernel
theorem dX6_total_0 : decode cX6_total 0 = .ok (.aload_n 0, 1) := by decide +kernel
theorem dX6_total_1 : decode cX6_total 1 = .ok (.invokevirtual 23, 3) := by decide +kernel
theorem dX6_total_4 : decode cX6_total 4 = .ok (.aload_n 0, 1) := by decide +kernel
theorem dX6_total_5 : decode cX6_total 5 = .ok (.getfield 19, 3) := by decide +kernel
theorem dX6_total_8 : decode cX6_total 8 = .ok (.invokevirtual 26, 3) := by decide +kernel
theorem dX6_total_11 : decode cX6_total 11 = .ok (.istore_n 1, 1) := by decide +kernel
theorem dX6_total_12 : decode cX6_total 12 = .ok (.iload_n 1, 1) := by decide +kernel
theorem dX6_total_13 : decode cX6_total 13 = .ok (.ifCond .lt 19, 3) := by decide +kernel
theorem dX6_total_16 : decode cX6_total 16 = .ok (.iload_n 1, 1) := by decide +kernel
theorem dX6_total_17 : decode cX6_total 17 = .ok (.sipush 1024, 3) := by decide +kernel
theorem dX6_total_20 : decode cX6_total 20 = .ok (.if_icmp .ge 12, 3) := by decide +kernel
theorem dX6_total_23 : decode cX6_total 23 = .ok (.aload_n 0, 1) := by decide +kernel
theorem dX6_total_24 : decode cX6_total 24 = .ok (.getfield 11, 3) := by decide +kernel
theorem dX6_total_27 : decode cX6_total 27 = .ok (.iload_n 1, 1) := by decide +kernel
theorem dX6_total_28 : decode cX6_total 28 = .ok (.iaload, 1) := by decide +kernel
theorem dX6_total_29 : decode cX6_total 29 = .ok (.goto 4, 3) := by decide +kernel
theorem dX6_total_32 : decode cX6_total 32 = .ok (.iconst (-1), 1) := by decide +kernel
theorem dX6_total_33 : decode cX6_total 33 = .ok (.ireturn, 1) := by decide +kernel
theorem dX6_partAt_0 : decode cX6_partAt 0 = .ok (.iload_n 1, 1) := by decide +kernel
theorem dX6_partAt_1 : decode cX6_partAt 1 = .ok (.ifCond .lt 21, 3) := by decide +kernel
theorem dX6_partAt_4 : decode cX6_partAt 4 = .ok (.iload_n 1, 1) := by decide +kernel
theorem dX6_partAt_5 : decode cX6_partAt 5 = .ok (.aload_n 0, 1) := by decide +kernel
theorem dX6_partAt_6 : decode cX6_partAt 6 = .ok (.invokevirtual 32, 3) := by decide +kernel
theorem dX6_partAt_9 : decode cX6_partAt 9 = .ok (.if_icmp .ge 13, 3) := by decide +kernel
theorem dX6_partAt_12 : decode cX6_partAt 12 = .ok (.iload_n 2, 1) := by decide +kernel
theorem dX6_partAt_13 : decode cX6_partAt 13 = .ok (.ifCond .lt 9, 3) := by decide +kernel
theorem dX6_partAt_16 : decode cX6_partAt 16 = .ok (.iload_n 2, 1) := by decide +kernel
theorem dX6_partAt_17 : decode cX6_partAt 17 = .ok (.bipush 10, 2) := by decide +kernel
theorem dX6_partAt_19 : decode cX6_partAt 19 = .ok (.if_icmp .lt 5, 3) := by decide +kernel
theorem dX6_partAt_22 : decode cX6_partAt 22 = .ok (.iconst (-1), 1) := by decide +kernel
theorem dX6_partAt_23 : decode cX6_partAt 23 = .ok (.ireturn, 1) := by decide +kernel
theorem dX6_partAt_24 : decode cX6_partAt 24 = .ok (.aload_n 0, 1) := by decide +kernel
theorem dX6_partAt_25 : decode cX6_partAt 25 = .ok (.getfield 19, 3) := by decide +kernel
theorem dX6_partAt_28 : decode cX6_partAt 28 = .ok (.invokevirtual 26, 3) := by decide +kernel
theorem dX6_partAt_31 : decode cX6_partAt 31 = .ok (.istore_n 3, 1) := by decide +kernel
theorem dX6_partAt_32 : decode cX6_partAt 32 = .ok (.iload_n 1, 1) := by decide +kernel
theorem dX6_partAt_33 : decode cX6_partAt 33 = .ok (.istore 4, 2) := by decide +kernel
theorem dX6_partAt_35 : decode cX6_partAt 35 = .ok (.iconst (-1), 1) := by decide +kernel
theorem dX6_partAt_36 : decode cX6_partAt 36 = .ok (.istore 5, 2) := by decide +kernel
theorem dX6_partAt_38 : decode cX6_partAt 38 = .ok (.iconst 0, 1) := by decide +kernel
theorem dX6_partAt_39 : decode cX6_partAt 39 = .ok (.istore 6, 2) := by decide +kernel
theorem dX6_partAt_41 : decode cX6_partAt 41 = .ok (.iload 6, 2) := by decide +kernel
theorem dX6_partAt_43 : decode cX6_partAt 43 = .ok (.iload_n 2, 1) := by decide +kernel
theorem dX6_partAt_44 : decode cX6_partAt 44 = .ok (.if_icmp .gt 91, 3) := by decide +kernel
theorem dX6_partAt_47 : decode cX6_partAt 47 = .ok (.iconst (-1), 1) := by decide +kernel
theorem dX6_partAt_48 : decode cX6_partAt 48 = .ok (.istore 5, 2) := by decide +kernel
theorem dX6_partAt_50 : decode cX6_partAt 50 = .ok (.iconst 0, 1) := by decide +kernel
theorem dX6_partAt_51 : decode cX6_partAt 51 = .ok (.istore 7, 2) := by decide +kernel
theorem dX6_partAt_53 : decode cX6_partAt 53 = .ok (.iload 7, 2) := by decide +kernel
theorem dX6_partAt_55 : decode cX6_partAt 55 = .ok (.aload_n 0, 1) := by decide +kernel
theorem dX6_partAt_56 : decode cX6_partAt 56 = .ok (.getfield 19, 3) := by decide +kernel
theorem dX6_partAt_59 : decode cX6_partAt 59 = .ok (.getfield 35, 3) := by decide +kernel
theorem dX6_partAt_62 : decode cX6_partAt 62 = .ok (.if_icmp .ge 52, 3) := by decide +kernel
theorem dX6_partAt_65 : decode cX6_partAt 65 = .ok (.iload 7, 2) := by decide +kernel
theorem dX6_partAt_67 : decode cX6_partAt 67 = .ok (.bipush 10, 2) := by decide +kernel
theorem dX6_partAt_69 : decode cX6_partAt 69 = .ok (.if_icmp .ge 45, 3) := by decide +kernel
theorem dX6_partAt_72 : decode cX6_partAt 72 = .ok (.iload 5, 2) := by decide +kernel
theorem dX6_partAt_74 : decode cX6_partAt 74 = .ok (.iconst (-1), 1) := by decide +kernel
theorem dX6_partAt_75 : decode cX6_partAt 75 = .ok (.if_icmp .ne 39, 3) := by decide +kernel
theorem dX6_partAt_78 : decode cX6_partAt 78 = .ok (.aload_n 0, 1) := by decide +kernel
theorem dX6_partAt_79 : decode cX6_partAt 79 = .ok (.iload_n 3, 1) := by decide +kernel
theorem dX6_partAt_80 : decode cX6_partAt 80 = .ok (.iload 7, 2) := by decide +kernel
theorem dX6_partAt_82 : decode cX6_partAt 82 = .ok (.invokevirtual 39, 3) := by decide +kernel
theorem dX6_partAt_85 : decode cX6_partAt 85 = .ok (.istore 8, 2) := by decide +kernel
theorem dX6_partAt_87 : decode cX6_partAt 87 = .ok (.iload 4, 2) := by decide +kernel
theorem dX6_partAt_89 : decode cX6_partAt 89 = .ok (.iload 8, 2) := by decide +kernel
theorem dX6_partAt_91 : decode cX6_partAt 91 = .ok (.if_icmp .ge 10, 3) := by decide +kernel
theorem dX6_partAt_94 : decode cX6_partAt 94 = .ok (.iload 7, 2) := by decide +kernel
theorem dX6_partAt_96 : decode cX6_partAt 96 = .ok (.istore 5, 2) := by decide +kernel
theorem dX6_partAt_98 : decode cX6_partAt 98 = .ok (.goto 10, 3) := by decide +kernel
theorem dX6_partAt_101 : decode cX6_partAt 101 = .ok (.iload 4, 2) := by decide +kernel
theorem dX6_partAt_103 : decode cX6_partAt 103 = .ok (.iload 8, 2) := by decide +kernel
theorem dX6_partAt_105 : decode cX6_partAt 105 = .ok (.isub, 1) := by decide +kernel
theorem dX6_partAt_106 : decode cX6_partAt 106 = .ok (.istore 4, 2) := by decide +kernel
theorem dX6_partAt_108 : decode cX6_partAt 108 = .ok (.iinc 7 1, 3) := by decide +kernel
theorem dX6_partAt_111 : decode cX6_partAt 111 = .ok (.goto (-58), 3) := by decide +kernel
theorem dX6_partAt_114 : decode cX6_partAt 114 = .ok (.iload 5, 2) := by decide +kernel
theorem dX6_partAt_116 : decode cX6_partAt 116 = .ok (.iconst (-1), 1) := by decide +kernel
theorem dX6_partAt_117 : decode cX6_partAt 117 = .ok (.if_icmp .ne 5, 3) := by decide +kernel
theorem dX6_partAt_120 : decode cX6_partAt 120 = .ok (.iconst (-1), 1) := by decide +kernel
theorem dX6_partAt_121 : decode cX6_partAt 121 = .ok (.ireturn, 1) := by decide +kernel
theorem dX6_partAt_122 : decode cX6_partAt 122 = .ok (.iload_n 3, 1) := by decide +kernel
theorem dX6_partAt_123 : decode cX6_partAt 123 = .ok (.iconst 1, 1) := by decide +kernel
theorem dX6_partAt_124 : decode cX6_partAt 124 = .ok (.iload 5, 2) := by decide +kernel
theorem dX6_partAt_126 : decode cX6_partAt 126 = .ok (.ishl, 1) := by decide +kernel
theorem dX6_partAt_127 : decode cX6_partAt 127 = .ok (.ior, 1) := by decide +kernel
theorem dX6_partAt_128 : decode cX6_partAt 128 = .ok (.istore_n 3, 1) := by decide +kernel
theorem dX6_partAt_129 : decode cX6_partAt 129 = .ok (.iinc 6 1, 3) := by decide +kernel
theorem dX6_partAt_132 : decode cX6_partAt 132 = .ok (.goto (-91), 3) := by decide +kernel
theorem dX6_partAt_135 : decode cX6_partAt 135 = .ok (.iload 5, 2) := by decide +kernel
theorem dX6_partAt_137 : decode cX6_partAt 137 = .ok (.ireturn, 1) := by decide +kernel
theorem dX6_reckonWays_0 : decode cX6_reckonWays 0 = .ok (.aload_n 0, 1) := by decide +kernel
theorem dX6_reckonWays_1 : decode cX6_reckonWays 1 = .ok (.getfield 15, 3) := by decide +kernel
theorem dX6_reckonWays_4 : decode cX6_reckonWays 4 = .ok (.ifCond .eq 4, 3) := by decide +kernel
theorem dX6_reckonWays_7 : decode cX6_reckonWays 7 = .ok (.return_, 1) := by decide +kernel
theorem dX6_reckonWays_8 : decode cX6_reckonWays 8 = .ok (.aload_n 0, 1) := by decide +kernel
theorem dX6_reckonWays_9 : decode cX6_reckonWays 9 = .ok (.getfield 19, 3) := by decide +kernel
theorem dX6_reckonWays_12 : decode cX6_reckonWays 12 = .ok (.invokevirtual 26, 3) := by decide +kernel
theorem dX6_reckonWays_15 : decode cX6_reckonWays 15 = .ok (.istore_n 1, 1) := by decide +kernel
theorem dX6_reckonWays_16 : decode cX6_reckonWays 16 = .ok (.iconst 1, 1) := by decide +kernel
theorem dX6_reckonWays_17 : decode cX6_reckonWays 17 = .ok (.aload_n 0, 1) := by decide +kernel
theorem dX6_reckonWays_18 : decode cX6_reckonWays 18 = .ok (.getfield 19, 3) := by decide +kernel
theorem dX6_reckonWays_21 : decode cX6_reckonWays 21 = .ok (.getfield 35, 3) := by decide +kernel
theorem dX6_reckonWays_24 : decode cX6_reckonWays 24 = .ok (.ishl, 1) := by decide +kernel
theorem dX6_reckonWays_25 : decode cX6_reckonWays 25 = .ok (.iconst 1, 1) := by decide +kernel
theorem dX6_reckonWays_26 : decode cX6_reckonWays 26 = .ok (.isub, 1) := by decide +kernel
theorem dX6_reckonWays_27 : decode cX6_reckonWays 27 = .ok (.istore_n 2, 1) := by decide +kernel
theorem dX6_reckonWays_28 : decode cX6_reckonWays 28 = .ok (.iload_n 2, 1) := by decide +kernel
theorem dX6_reckonWays_29 : decode cX6_reckonWays 29 = .ok (.sipush 1023, 3) := by decide +kernel
theorem dX6_reckonWays_32 : decode cX6_reckonWays 32 = .ok (.invokestatic 43, 3) := by decide +kernel
theorem dX6_reckonWays_35 : decode cX6_reckonWays 35 = .ok (.istore_n 3, 1) := by decide +kernel
theorem dX6_reckonWays_36 : decode cX6_reckonWays 36 = .ok (.iload_n 3, 1) := by decide +kernel
theorem dX6_reckonWays_37 : decode cX6_reckonWays 37 = .ok (.ifCond .lt 79, 3) := by decide +kernel
theorem dX6_reckonWays_40 : decode cX6_reckonWays 40 = .ok (.iload_n 3, 1) := by decide +kernel
theorem dX6_reckonWays_41 : decode cX6_reckonWays 41 = .ok (.iload_n 1, 1) := by decide +kernel
theorem dX6_reckonWays_42 : decode cX6_reckonWays 42 = .ok (.iand, 1) := by decide +kernel
theorem dX6_reckonWays_43 : decode cX6_reckonWays 43 = .ok (.iload_n 1, 1) := by decide +kernel
theorem dX6_reckonWays_44 : decode cX6_reckonWays 44 = .ok (.if_icmp .eq 6, 3) := by decide +kernel
theorem dX6_reckonWays_47 : decode cX6_reckonWays 47 = .ok (.goto 63, 3) := by decide +kernel
theorem dX6_reckonWays_50 : decode cX6_reckonWays 50 = .ok (.iload_n 3, 1) := by decide +kernel
theorem dX6_reckonWays_51 : decode cX6_reckonWays 51 = .ok (.iload_n 2, 1) := by decide +kernel
theorem dX6_reckonWays_52 : decode cX6_reckonWays 52 = .ok (.if_icmp .ne 7, 3) := by decide +kernel
theorem dX6_reckonWays_55 : decode cX6_reckonWays 55 = .ok (.iconst 1, 1) := by decide +kernel
theorem dX6_reckonWays_56 : decode cX6_reckonWays 56 = .ok (.goto 4, 3) := by decide +kernel
theorem dX6_reckonWays_59 : decode cX6_reckonWays 59 = .ok (.iconst 0, 1) := by decide +kernel
theorem dX6_reckonWays_60 : decode cX6_reckonWays 60 = .ok (.istore 4, 2) := by decide +kernel
theorem dX6_reckonWays_62 : decode cX6_reckonWays 62 = .ok (.iconst 0, 1) := by decide +kernel
theorem dX6_reckonWays_63 : decode cX6_reckonWays 63 = .ok (.istore 5, 2) := by decide +kernel
theorem dX6_reckonWays_65 : decode cX6_reckonWays 65 = .ok (.iload 5, 2) := by decide +kernel
theorem dX6_reckonWays_67 : decode cX6_reckonWays 67 = .ok (.aload_n 0, 1) := by decide +kernel
theorem dX6_reckonWays_68 : decode cX6_reckonWays 68 = .ok (.getfield 19, 3) := by decide +kernel
theorem dX6_reckonWays_71 : decode cX6_reckonWays 71 = .ok (.getfield 35, 3) := by decide +kernel
theorem dX6_reckonWays_74 : decode cX6_reckonWays 74 = .ok (.if_icmp .ge 28, 3) := by decide +kernel
theorem dX6_reckonWays_77 : decode cX6_reckonWays 77 = .ok (.iload 5, 2) := by decide +kernel
theorem dX6_reckonWays_79 : decode cX6_reckonWays 79 = .ok (.bipush 10, 2) := by decide +kernel
theorem dX6_reckonWays_81 : decode cX6_reckonWays 81 = .ok (.if_icmp .ge 21, 3) := by decide +kernel
theorem dX6_reckonWays_84 : decode cX6_reckonWays 84 = .ok (.iload 4, 2) := by decide +kernel
theorem dX6_reckonWays_86 : decode cX6_reckonWays 86 = .ok (.aload_n 0, 1) := by decide +kernel
theorem dX6_reckonWays_87 : decode cX6_reckonWays 87 = .ok (.iload_n 3, 1) := by decide +kernel
theorem dX6_reckonWays_88 : decode cX6_reckonWays 88 = .ok (.iload 5, 2) := by decide +kernel
theorem dX6_reckonWays_90 : decode cX6_reckonWays 90 = .ok (.invokevirtual 39, 3) := by decide +kernel
theorem dX6_reckonWays_93 : decode cX6_reckonWays 93 = .ok (.iadd, 1) := by decide +kernel
theorem dX6_reckonWays_94 : decode cX6_reckonWays 94 = .ok (.istore 4, 2) := by decide +kernel
theorem dX6_reckonWays_96 : decode cX6_reckonWays 96 = .ok (.iinc 5 1, 3) := by decide +kernel
theorem dX6_reckonWays_99 : decode cX6_reckonWays 99 = .ok (.goto (-34), 3) := by decide +kernel
theorem dX6_reckonWays_102 : decode cX6_reckonWays 102 = .ok (.aload_n 0, 1) := by decide +kernel
theorem dX6_reckonWays_103 : decode cX6_reckonWays 103 = .ok (.getfield 11, 3) := by decide +kernel
theorem dX6_reckonWays_106 : decode cX6_reckonWays 106 = .ok (.iload_n 3, 1) := by decide +kernel
theorem dX6_reckonWays_107 : decode cX6_reckonWays 107 = .ok (.iload 4, 2) := by decide +kernel
theorem dX6_reckonWays_109 : decode cX6_reckonWays 109 = .ok (.iastore, 1) := by decide +kernel
theorem dX6_reckonWays_110 : decode cX6_reckonWays 110 = .ok (.iinc 3 (-1), 3) := by decide +kernel
theorem dX6_reckonWays_113 : decode cX6_reckonWays 113 = .ok (.goto (-77), 3) := by decide +kernel
theorem dX6_reckonWays_116 : decode cX6_reckonWays 116 = .ok (.aload_n 0, 1) := by decide +kernel
theorem dX6_reckonWays_117 : decode cX6_reckonWays 117 = .ok (.iconst 1, 1) := by decide +kernel
theorem dX6_reckonWays_118 : decode cX6_reckonWays 118 = .ok (.putfield 15, 3) := by decide +kernel
theorem dX6_reckonWays_121 : decode cX6_reckonWays 121 = .ok (.return_, 1) := by decide +kernel
theorem dX6_waysWith_0 : decode cX6_waysWith 0 = .ok (.iload_n 1, 1) := by decide +kernel
theorem dX6_waysWith_1 : decode cX6_waysWith 1 = .ok (.iload_n 2, 1) := by decide +kernel
theorem dX6_waysWith_2 : decode cX6_waysWith 2 = .ok (.ishr, 1) := by decide +kernel
theorem dX6_waysWith_3 : decode cX6_waysWith 3 = .ok (.iconst 1, 1) := by decide +kernel
theorem dX6_waysWith_4 : decode cX6_waysWith 4 = .ok (.iand, 1) := by decide +kernel
theorem dX6_waysWith_5 : decode cX6_waysWith 5 = .ok (.ifCond .ne 23, 3) := by decide +kernel
theorem dX6_waysWith_8 : decode cX6_waysWith 8 = .ok (.aload_n 0, 1) := by decide +kernel
theorem dX6_waysWith_9 : decode cX6_waysWith 9 = .ok (.getfield 19, 3) := by decide +kernel
theorem dX6_waysWith_12 : decode cX6_waysWith 12 = .ok (.getfield 48, 3) := by decide +kernel
theorem dX6_waysWith_15 : decode cX6_waysWith 15 = .ok (.iload_n 2, 1) := by decide +kernel
theorem dX6_waysWith_16 : decode cX6_waysWith 16 = .ok (.iaload, 1) := by decide +kernel
theorem dX6_waysWith_17 : decode cX6_waysWith 17 = .ok (.iload_n 1, 1) := by decide +kernel
theorem dX6_waysWith_18 : decode cX6_waysWith 18 = .ok (.iconst (-1), 1) := by decide +kernel
theorem dX6_waysWith_19 : decode cX6_waysWith 19 = .ok (.ixor, 1) := by decide +kernel
theorem dX6_waysWith_20 : decode cX6_waysWith 20 = .ok (.iand, 1) := by decide +kernel
theorem dX6_waysWith_21 : decode cX6_waysWith 21 = .ok (.ifCond .ne 7, 3) := by decide +kernel
theorem dX6_waysWith_24 : decode cX6_waysWith 24 = .ok (.iconst 1, 1) := by decide +kernel
theorem dX6_waysWith_25 : decode cX6_waysWith 25 = .ok (.goto 4, 3) := by decide +kernel
theorem dX6_waysWith_28 : decode cX6_waysWith 28 = .ok (.iconst 0, 1) := by decide +kernel
theorem dX6_waysWith_29 : decode cX6_waysWith 29 = .ok (.istore_n 3, 1) := by decide +kernel
theorem dX6_waysWith_30 : decode cX6_waysWith 30 = .ok (.iload_n 1, 1) := by decide +kernel
theorem dX6_waysWith_31 : decode cX6_waysWith 31 = .ok (.iconst 1, 1) := by decide +kernel
theorem dX6_waysWith_32 : decode cX6_waysWith 32 = .ok (.iload_n 2, 1) := by decide +kernel
theorem dX6_waysWith_33 : decode cX6_waysWith 33 = .ok (.ishl, 1) := by decide +kernel
theorem dX6_waysWith_34 : decode cX6_waysWith 34 = .ok (.ior, 1) := by decide +kernel
theorem dX6_waysWith_35 : decode cX6_waysWith 35 = .ok (.istore 4, 2) := by decide +kernel
theorem dX6_waysWith_37 : decode cX6_waysWith 37 = .ok (.iload_n 3, 1) := by decide +kernel
theorem dX6_waysWith_38 : decode cX6_waysWith 38 = .ok (.ifCond .eq 26, 3) := by decide +kernel
theorem dX6_waysWith_41 : decode cX6_waysWith 41 = .ok (.iload 4, 2) := by decide +kernel
theorem dX6_waysWith_43 : decode cX6_waysWith 43 = .ok (.ifCond .lt 21, 3) := by decide +kernel
theorem dX6_waysWith_46 : decode cX6_waysWith 46 = .ok (.iload 4, 2) := by decide +kernel
theorem dX6_waysWith_48 : decode cX6_waysWith 48 = .ok (.sipush 1024, 3) := by decide +kernel
theorem dX6_waysWith_51 : decode cX6_waysWith 51 = .ok (.if_icmp .ge 13, 3) := by decide +kernel
theorem dX6_waysWith_54 : decode cX6_waysWith 54 = .ok (.aload_n 0, 1) := by decide +kernel
theorem dX6_waysWith_55 : decode cX6_waysWith 55 = .ok (.getfield 11, 3) := by decide +kernel
theorem dX6_waysWith_58 : decode cX6_waysWith 58 = .ok (.iload 4, 2) := by decide +kernel
theorem dX6_waysWith_60 : decode cX6_waysWith 60 = .ok (.iaload, 1) := by decide +kernel
theorem dX6_waysWith_61 : decode cX6_waysWith 61 = .ok (.goto 4, 3) := by decide +kernel
theorem dX6_waysWith_64 : decode cX6_waysWith 64 = .ok (.iconst 0, 1) := by decide +kernel
theorem dX6_waysWith_65 : decode cX6_waysWith 65 = .ok (.ireturn, 1) := by decide +kernel
theorem dX9_clear_0 : decode cX9_clear 0 = .ok (.aload_n 0, 1) := by decide +kernel
theorem dX9_clear_1 : decode cX9_clear 1 = .ok (.getfield 11, 3) := by decide +kernel
theorem dX9_clear_4 : decode cX9_clear 4 = .ok (.iconst 0, 1) := by decide +kernel
theorem dX9_clear_5 : decode cX9_clear 5 = .ok (.bipush (-2), 2) := by decide +kernel
theorem dX9_clear_7 : decode cX9_clear 7 = .ok (.iastore, 1) := by decide +kernel
theorem dX9_clear_8 : decode cX9_clear 8 = .ok (.aload_n 0, 1) := by decide +kernel
theorem dX9_clear_9 : decode cX9_clear 9 = .ok (.iconst 0, 1) := by decide +kernel
theorem dX9_clear_10 : decode cX9_clear 10 = .ok (.putfield 23, 3) := by decide +kernel
theorem dX9_clear_13 : decode cX9_clear 13 = .ok (.aload_n 0, 1) := by decide +kernel
theorem dX9_clear_14 : decode cX9_clear 14 = .ok (.iconst 0, 1) := by decide +kernel
theorem dX9_clear_15 : decode cX9_clear 15 = .ok (.putfield 27, 3) := by decide +kernel
theorem dX9_clear_18 : decode cX9_clear 18 = .ok (.return_, 1) := by decide +kernel
theorem dX9_planTicks_0 : decode cX9_planTicks 0 = .ok (.aload_n 0, 1) := by decide +kernel
theorem dX9_planTicks_1 : decode cX9_planTicks 1 = .ok (.getfield 45, 3) := by decide +kernel
theorem dX9_planTicks_4 : decode cX9_planTicks 4 = .ok (.bipush 63, 2) := by decide +kernel
theorem dX9_planTicks_6 : decode cX9_planTicks 6 = .ok (.sipush 200, 3) := by decide +kernel
theorem dX9_planTicks_9 : decode cX9_planTicks 9 = .ok (.aload_n 0, 1) := by decide +kernel
theorem dX9_planTicks_10 : decode cX9_planTicks 10 = .ok (.getfield 11, 3) := by decide +kernel
theorem dX9_planTicks_13 : decode cX9_planTicks 13 = .ok (.iconst 0, 1) := by decide +kernel
theorem dX9_planTicks_14 : decode cX9_planTicks 14 = .ok (.invokevirtual 49, 3) := by decide +kernel
theorem dX9_planTicks_17 : decode cX9_planTicks 17 = .ok (.ireturn, 1) := by decide +kernel
theorem dX9_planStood_0 : decode cX9_planStood 0 = .ok (.aload_n 0, 1) := by decide +kernel
theorem dX9_planStood_1 : decode cX9_planStood 1 = .ok (.invokevirtual 53, 3) := by decide +kernel
theorem dX9_planStood_4 : decode cX9_planStood 4 = .ok (.pop, 1) := by decide +kernel
theorem dX9_planStood_5 : decode cX9_planStood 5 = .ok (.iload_n 1, 1) := by decide +kernel
theorem dX9_planStood_6 : decode cX9_planStood 6 = .ok (.ifCond .lt 20, 3) := by decide +kernel
theorem dX9_planStood_9 : decode cX9_planStood 9 = .ok (.iload_n 1, 1) := by decide +kernel
theorem dX9_planStood_10 : decode cX9_planStood 10 = .ok (.bipush 10, 2) := by decide +kernel
theorem dX9_planStood_12 : decode cX9_planStood 12 = .ok (.if_icmp .ge 14, 3) := by decide +kernel
theorem dX9_planStood_15 : decode cX9_planStood 15 = .ok (.aload_n 0, 1) := by decide +kernel
theorem dX9_planStood_16 : decode cX9_planStood 16 = .ok (.getfield 11, 3) := by decide +kernel
theorem dX9_planStood_19 : decode cX9_planStood 19 = .ok (.iconst 1, 1) := by decide +kernel
theorem dX9_planStood_20 : decode cX9_planStood 20 = .ok (.iload_n 1, 1) := by decide +kernel
theorem dX9_planStood_21 : decode cX9_planStood 21 = .ok (.iadd, 1) := by decide +kernel
theorem dX9_planStood_22 : decode cX9_planStood 22 = .ok (.iaload, 1) := by decide +kernel
theorem dX9_planStood_23 : decode cX9_planStood 23 = .ok (.goto 4, 3) := by decide +kernel
theorem dX9_planStood_26 : decode cX9_planStood 26 = .ok (.iconst (-1), 1) := by decide +kernel
theorem dX9_planStood_27 : decode cX9_planStood 27 = .ok (.ireturn, 1) := by decide +kernel
theorem dX9_bestLesson_0 : decode cX9_bestLesson 0 = .ok (.aload_n 0, 1) := by decide +kernel
theorem dX9_bestLesson_1 : decode cX9_bestLesson 1 = .ok (.getfield 27, 3) := by decide +kernel
theorem dX9_bestLesson_4 : decode cX9_bestLesson 4 = .ok (.ifCond .ne 148, 3) := by decide +kernel
theorem dX9_bestLesson_7 : decode cX9_bestLesson 7 = .ok (.aload_n 0, 1) := by decide +kernel
theorem dX9_bestLesson_8 : decode cX9_bestLesson 8 = .ok (.getfield 31, 3) := by decide +kernel
theorem dX9_bestLesson_11 : decode cX9_bestLesson 11 = .ok (.iconst (-1), 1) := by decide +kernel
theorem dX9_bestLesson_12 : decode cX9_bestLesson 12 = .ok (.invokestatic 57, 3) := by decide +kernel
theorem dX9_bestLesson_15 : decode cX9_bestLesson 15 = .ok (.aload_n 0, 1) := by decide +kernel
theorem dX9_bestLesson_16 : decode cX9_bestLesson 16 = .ok (.invokevirtual 53, 3) := by decide +kernel
theorem dX9_bestLesson_19 : decode cX9_bestLesson 19 = .ok (.istore_n 2, 1) := by decide +kernel
theorem dX9_bestLesson_20 : decode cX9_bestLesson 20 = .ok (.iload_n 2, 1) := by decide +kernel
theorem dX9_bestLesson_21 : decode cX9_bestLesson 21 = .ok (.iconst (-1), 1) := by decide +kernel
theorem dX9_bestLesson_22 : decode cX9_bestLesson 22 = .ok (.if_icmp .ne 9, 3) := by decide +kernel
theorem dX9_bestLesson_25 : decode cX9_bestLesson 25 = .ok (.sipush 200, 3) := by decide +kernel
theorem dX9_bestLesson_28 : decode cX9_bestLesson 28 = .ok (.goto 6, 3) := by decide +kernel
theorem dX9_bestLesson_31 : decode cX9_bestLesson 31 = .ok (.iload_n 2, 1) := by decide +kernel
theorem dX9_bestLesson_32 : decode cX9_bestLesson 32 = .ok (.iconst 1, 1) := by decide +kernel
theorem dX9_bestLesson_33 : decode cX9_bestLesson 33 = .ok (.isub, 1) := by decide +kernel
theorem dX9_bestLesson_34 : decode cX9_bestLesson 34 = .ok (.istore_n 3, 1) := by decide +kernel
theorem dX9_bestLesson_35 : decode cX9_bestLesson 35 = .ok (.iconst 0, 1) := by decide +kernel
theorem dX9_bestLesson_36 : decode cX9_bestLesson 36 = .ok (.istore 4, 2) := by decide +kernel
theorem dX9_bestLesson_38 : decode cX9_bestLesson 38 = .ok (.iload 4, 2) := by decide +kernel
theorem dX9_bestLesson_40 : decode cX9_bestLesson 40 = .ok (.aload_n 0, 1) := by decide +kernel
theorem dX9_bestLesson_41 : decode cX9_bestLesson 41 = .ok (.getfield 41, 3) := by decide +kernel
theorem dX9_bestLesson_44 : decode cX9_bestLesson 44 = .ok (.getfield 63, 3) := by decide +kernel
theorem dX9_bestLesson_47 : decode cX9_bestLesson 47 = .ok (.if_icmp .ge 100, 3) := by decide +kernel
theorem dX9_bestLesson_50 : decode cX9_bestLesson 50 = .ok (.iload 4, 2) := by decide +kernel
theorem dX9_bestLesson_52 : decode cX9_bestLesson 52 = .ok (.bipush 6, 2) := by decide +kernel
theorem dX9_bestLesson_54 : decode cX9_bestLesson 54 = .ok (.if_icmp .ge 93, 3) := by decide +kernel
theorem dX9_bestLesson_57 : decode cX9_bestLesson 57 = .ok (.iconst 0, 1) := by decide +kernel
theorem dX9_bestLesson_58 : decode cX9_bestLesson 58 = .ok (.istore 5, 2) := by decide +kernel
theorem dX9_bestLesson_60 : decode cX9_bestLesson 60 = .ok (.iload 5, 2) := by decide +kernel
theorem dX9_bestLesson_62 : decode cX9_bestLesson 62 = .ok (.iconst 4, 1) := by decide +kernel
theorem dX9_bestLesson_63 : decode cX9_bestLesson 63 = .ok (.if_icmp .ge 78, 3) := by decide +kernel
theorem dX9_bestLesson_66 : decode cX9_bestLesson 66 = .ok (.aload_n 0, 1) := by decide +kernel
theorem dX9_bestLesson_67 : decode cX9_bestLesson 67 = .ok (.getfield 41, 3) := by decide +kernel
theorem dX9_bestLesson_70 : decode cX9_bestLesson 70 = .ok (.getfield 68, 3) := by decide +kernel
theorem dX9_bestLesson_73 : decode cX9_bestLesson 73 = .ok (.iload 4, 2) := by decide +kernel
theorem dX9_bestLesson_75 : decode cX9_bestLesson 75 = .ok (.iaload, 1) := by decide +kernel
theorem dX9_bestLesson_76 : decode cX9_bestLesson 76 = .ok (.iload 5, 2) := by decide +kernel
theorem dX9_bestLesson_78 : decode cX9_bestLesson 78 = .ok (.ishr, 1) := by decide +kernel
theorem dX9_bestLesson_79 : decode cX9_bestLesson 79 = .ok (.iconst 1, 1) := by decide +kernel
theorem dX9_bestLesson_80 : decode cX9_bestLesson 80 = .ok (.iand, 1) := by decide +kernel
theorem dX9_bestLesson_81 : decode cX9_bestLesson 81 = .ok (.iconst 1, 1) := by decide +kernel
theorem dX9_bestLesson_82 : decode cX9_bestLesson 82 = .ok (.if_icmp .ne 7, 3) := by decide +kernel
theorem dX9_bestLesson_85 : decode cX9_bestLesson 85 = .ok (.iconst (-1), 1) := by decide +kernel
theorem dX9_bestLesson_86 : decode cX9_bestLesson 86 = .ok (.goto 12, 3) := by decide +kernel
theorem dX9_bestLesson_89 : decode cX9_bestLesson 89 = .ok (.aload_n 0, 1) := by decide +kernel
theorem dX9_bestLesson_90 : decode cX9_bestLesson 90 = .ok (.iload 4, 2) := by decide +kernel
theorem dX9_bestLesson_92 : decode cX9_bestLesson 92 = .ok (.iload 5, 2) := by decide +kernel
theorem dX9_bestLesson_94 : decode cX9_bestLesson 94 = .ok (.iload_n 3, 1) := by decide +kernel
theorem dX9_bestLesson_95 : decode cX9_bestLesson 95 = .ok (.invokevirtual 71, 3) := by decide +kernel
theorem dX9_bestLesson_98 : decode cX9_bestLesson 98 = .ok (.istore 6, 2) := by decide +kernel
theorem dX9_bestLesson_100 : decode cX9_bestLesson 100 = .ok (.iload 6, 2) := by decide +kernel
theorem dX9_bestLesson_102 : decode cX9_bestLesson 102 = .ok (.iconst (-1), 1) := by decide +kernel
theorem dX9_bestLesson_103 : decode cX9_bestLesson 103 = .ok (.if_icmp .eq 32, 3) := by decide +kernel
theorem dX9_bestLesson_106 : decode cX9_bestLesson 106 = .ok (.aload_n 0, 1) := by decide +kernel
theorem dX9_bestLesson_107 : decode cX9_bestLesson 107 = .ok (.getfield 31, 3) := by decide +kernel
theorem dX9_bestLesson_110 : decode cX9_bestLesson 110 = .ok (.iconst 0, 1) := by decide +kernel
theorem dX9_bestLesson_111 : decode cX9_bestLesson 111 = .ok (.iload 4, 2) := by decide +kernel
theorem dX9_bestLesson_113 : decode cX9_bestLesson 113 = .ok (.iastore, 1) := by decide +kernel
theorem dX9_bestLesson_114 : decode cX9_bestLesson 114 = .ok (.aload_n 0, 1) := by decide +kernel
theorem dX9_bestLesson_115 : decode cX9_bestLesson 115 = .ok (.getfield 31, 3) := by decide +kernel
theorem dX9_bestLesson_118 : decode cX9_bestLesson 118 = .ok (.iconst 1, 1) := by decide +kernel
theorem dX9_bestLesson_119 : decode cX9_bestLesson 119 = .ok (.iload 5, 2) := by decide +kernel
theorem dX9_bestLesson_121 : decode cX9_bestLesson 121 = .ok (.iastore, 1) := by decide +kernel
theorem dX9_bestLesson_122 : decode cX9_bestLesson 122 = .ok (.aload_n 0, 1) := by decide +kernel
theorem dX9_bestLesson_123 : decode cX9_bestLesson 123 = .ok (.getfield 31, 3) := by decide +kernel
theorem dX9_bestLesson_126 : decode cX9_bestLesson 126 = .ok (.iconst 2, 1) := by decide +kernel
theorem dX9_bestLesson_127 : decode cX9_bestLesson 127 = .ok (.iload 6, 2) := by decide +kernel
theorem dX9_bestLesson_129 : decode cX9_bestLesson 129 = .ok (.iastore, 1) := by decide +kernel
theorem dX9_bestLesson_130 : decode cX9_bestLesson 130 = .ok (.iload 6, 2) := by decide +kernel
theorem dX9_bestLesson_132 : decode cX9_bestLesson 132 = .ok (.iconst 1, 1) := by decide +kernel
theorem dX9_bestLesson_133 : decode cX9_bestLesson 133 = .ok (.isub, 1) := by decide +kernel
theorem dX9_bestLesson_134 : decode cX9_bestLesson 134 = .ok (.istore_n 3, 1) := by decide +kernel
theorem dX9_bestLesson_135 : decode cX9_bestLesson 135 = .ok (.iinc 5 1, 3) := by decide +kernel
theorem dX9_bestLesson_138 : decode cX9_bestLesson 138 = .ok (.goto (-78), 3) := by decide +kernel
theorem dX9_bestLesson_141 : decode cX9_bestLesson 141 = .ok (.iinc 4 1, 3) := by decide +kernel
theorem dX9_bestLesson_144 : decode cX9_bestLesson 144 = .ok (.goto (-106), 3) := by decide +kernel
theorem dX9_bestLesson_147 : decode cX9_bestLesson 147 = .ok (.aload_n 0, 1) := by decide +kernel
theorem dX9_bestLesson_148 : decode cX9_bestLesson 148 = .ok (.iconst 1, 1) := by decide +kernel
theorem dX9_bestLesson_149 : decode cX9_bestLesson 149 = .ok (.putfield 27, 3) := by decide +kernel
theorem dX9_bestLesson_152 : decode cX9_bestLesson 152 = .ok (.iload_n 1, 1) := by decide +kernel
theorem dX9_bestLesson_153 : decode cX9_bestLesson 153 = .ok (.ifCond .lt 21, 3) := by decide +kernel
theorem dX9_bestLesson_156 : decode cX9_bestLesson 156 = .ok (.iload_n 1, 1) := by decide +kernel
theorem dX9_bestLesson_157 : decode cX9_bestLesson 157 = .ok (.aload_n 0, 1) := by decide +kernel
theorem dX9_bestLesson_158 : decode cX9_bestLesson 158 = .ok (.getfield 31, 3) := by decide +kernel
theorem dX9_bestLesson_161 : decode cX9_bestLesson 161 = .ok (.arraylength, 1) := by decide +kernel
theorem dX9_bestLesson_162 : decode cX9_bestLesson 162 = .ok (.if_icmp .ge 12, 3) := by decide +kernel
theorem dX9_bestLesson_165 : decode cX9_bestLesson 165 = .ok (.aload_n 0, 1) := by decide +kernel
theorem dX9_bestLesson_166 : decode cX9_bestLesson 166 = .ok (.getfield 31, 3) := by decide +kernel
theorem dX9_bestLesson_169 : decode cX9_bestLesson 169 = .ok (.iload_n 1, 1) := by decide +kernel
theorem dX9_bestLesson_170 : decode cX9_bestLesson 170 = .ok (.iaload, 1) := by decide +kernel
theorem dX9_bestLesson_171 : decode cX9_bestLesson 171 = .ok (.goto 4, 3) := by decide +kernel
theorem dX9_bestLesson_174 : decode cX9_bestLesson 174 = .ok (.iconst (-1), 1) := by decide +kernel
theorem dX9_bestLesson_175 : decode cX9_bestLesson 175 = .ok (.ireturn, 1) := by decide +kernel
theorem dX9_ticksWith_0 : decode cX9_ticksWith 0 = .ok (.aload_n 0, 1) := by decide +kernel
theorem dX9_ticksWith_1 : decode cX9_ticksWith 1 = .ok (.getfield 45, 3) := by decide +kernel
theorem dX9_ticksWith_4 : decode cX9_ticksWith 4 = .ok (.iload_n 1, 1) := by decide +kernel
theorem dX9_ticksWith_5 : decode cX9_ticksWith 5 = .ok (.iload_n 2, 1) := by decide +kernel
theorem dX9_ticksWith_6 : decode cX9_ticksWith 6 = .ok (.invokevirtual 75, 3) := by decide +kernel
theorem dX9_ticksWith_9 : decode cX9_ticksWith 9 = .ok (.aload_n 0, 1) := by decide +kernel
theorem dX9_ticksWith_10 : decode cX9_ticksWith 10 = .ok (.getfield 17, 3) := by decide +kernel
theorem dX9_ticksWith_13 : decode cX9_ticksWith 13 = .ok (.iconst 0, 1) := by decide +kernel
theorem dX9_ticksWith_14 : decode cX9_ticksWith 14 = .ok (.bipush (-2), 2) := by decide +kernel
theorem dX9_ticksWith_16 : decode cX9_ticksWith 16 = .ok (.iastore, 1) := by decide +kernel
theorem dX9_ticksWith_17 : decode cX9_ticksWith 17 = .ok (.aload_n 0, 1) := by decide +kernel
theorem dX9_ticksWith_18 : decode cX9_ticksWith 18 = .ok (.getfield 45, 3) := by decide +kernel
theorem dX9_ticksWith_21 : decode cX9_ticksWith 21 = .ok (.bipush 63, 2) := by decide +kernel
theorem dX9_ticksWith_23 : decode cX9_ticksWith 23 = .ok (.iload_n 3, 1) := by decide +kernel
theorem dX9_ticksWith_24 : decode cX9_ticksWith 24 = .ok (.aload_n 0, 1) := by decide +kernel
theorem dX9_ticksWith_25 : decode cX9_ticksWith 25 = .ok (.getfield 17, 3) := by decide +kernel
theorem dX9_ticksWith_28 : decode cX9_ticksWith 28 = .ok (.iconst 0, 1) := by decide +kernel
theorem dX9_ticksWith_29 : decode cX9_ticksWith 29 = .ok (.invokevirtual 49, 3) := by decide +kernel
theorem dX9_ticksWith_32 : decode cX9_ticksWith 32 = .ok (.istore 4, 2) := by decide +kernel
theorem dX9_ticksWith_34 : decode cX9_ticksWith 34 = .ok (.aload_n 0, 1) := by decide +kernel
theorem dX9_ticksWith_35 : decode cX9_ticksWith 35 = .ok (.getfield 45, 3) := by decide +kernel
theorem dX9_ticksWith_38 : decode cX9_ticksWith 38 = .ok (.iconst (-1), 1) := by decide +kernel
theorem dX9_ticksWith_39 : decode cX9_ticksWith 39 = .ok (.iconst 0, 1) := by decide +kernel
theorem dX9_ticksWith_40 : decode cX9_ticksWith 40 = .ok (.invokevirtual 75, 3) := by decide +kernel
theorem dX9_ticksWith_43 : decode cX9_ticksWith 43 = .ok (.iload 4, 2) := by decide +kernel
theorem dX9_ticksWith_45 : decode cX9_ticksWith 45 = .ok (.ireturn, 1) := by decide +kernel
theorem dX9_openSets_0 : decode cX9_openSets 0 = .ok (.bipush 40, 2) := by decide +kernel
theorem dX9_openSets_2 : decode cX9_openSets 2 = .ok (.aload_n 0, 1) := by decide +kernel
theorem dX9_openSets_3 : decode cX9_openSets 3 = .ok (.getfield 41, 3) := by decide +kernel
theorem dX9_openSets_6 : decode cX9_openSets 6 = .ok (.getfield 79, 3) := by decide +kernel
theorem dX9_openSets_9 : decode cX9_openSets 9 = .ok (.iconst 1, 1) := by decide +kernel
theorem dX9_openSets_10 : decode cX9_openSets 10 = .ok (.iaload, 1) := by decide +kernel
theorem dX9_openSets_11 : decode cX9_openSets 11 = .ok (.invokestatic 82, 3) := by decide +kernel
theorem dX9_openSets_14 : decode cX9_openSets 14 = .ok (.istore_n 1, 1) := by decide +kernel
theorem dX9_openSets_15 : decode cX9_openSets 15 = .ok (.iconst 0, 1) := by decide +kernel
theorem dX9_openSets_16 : decode cX9_openSets 16 = .ok (.istore_n 2, 1) := by decide +kernel
theorem dX9_openSets_17 : decode cX9_openSets 17 = .ok (.iload_n 2, 1) := by decide +kernel
theorem dX9_openSets_18 : decode cX9_openSets 18 = .ok (.aload_n 0, 1) := by decide +kernel
theorem dX9_openSets_19 : decode cX9_openSets 19 = .ok (.getfield 41, 3) := by decide +kernel
theorem dX9_openSets_22 : decode cX9_openSets 22 = .ok (.getfield 88, 3) := by decide +kernel
theorem dX9_openSets_25 : decode cX9_openSets 25 = .ok (.if_icmp .ge 29, 3) := by decide +kernel
theorem dX9_openSets_28 : decode cX9_openSets 28 = .ok (.iload_n 2, 1) := by decide +kernel
theorem dX9_openSets_29 : decode cX9_openSets 29 = .ok (.bipush 8, 2) := by decide +kernel
theorem dX9_openSets_31 : decode cX9_openSets 31 = .ok (.if_icmp .ge 23, 3) := by decide +kernel
theorem dX9_openSets_34 : decode cX9_openSets 34 = .ok (.iload_n 1, 1) := by decide +kernel
theorem dX9_openSets_35 : decode cX9_openSets 35 = .ok (.aload_n 0, 1) := by decide +kernel
theorem dX9_openSets_36 : decode cX9_openSets 36 = .ok (.getfield 41, 3) := by decide +kernel
theorem dX9_openSets_39 : decode cX9_openSets 39 = .ok (.getfield 91, 3) := by decide +kernel
theorem dX9_openSets_42 : decode cX9_openSets 42 = .ok (.iload_n 2, 1) := by decide +kernel
theorem dX9_openSets_43 : decode cX9_openSets 43 = .ok (.iaload, 1) := by decide +kernel
theorem dX9_openSets_44 : decode cX9_openSets 44 = .ok (.invokestatic 82, 3) := by decide +kernel
theorem dX9_openSets_47 : decode cX9_openSets 47 = .ok (.istore_n 1, 1) := by decide +kernel
theorem dX9_openSets_48 : decode cX9_openSets 48 = .ok (.iinc 2 1, 3) := by decide +kernel
theorem dX9_openSets_51 : decode cX9_openSets 51 = .ok (.goto (-34), 3) := by decide +kernel
theorem dX9_openSets_54 : decode cX9_openSets 54 = .ok (.iload_n 1, 1) := by decide +kernel
theorem dX9_openSets_55 : decode cX9_openSets 55 = .ok (.aload_n 0, 1) := by decide +kernel
theorem dX9_openSets_56 : decode cX9_openSets 56 = .ok (.getfield 23, 3) := by decide +kernel
theorem dX9_openSets_59 : decode cX9_openSets 59 = .ok (.if_icmp .le 33, 3) := by decide +kernel
theorem dX9_openSets_62 : decode cX9_openSets 62 = .ok (.aload_n 0, 1) := by decide +kernel
theorem dX9_openSets_63 : decode cX9_openSets 63 = .ok (.iload_n 1, 1) := by decide +kernel
theorem dX9_openSets_64 : decode cX9_openSets 64 = .ok (.putfield 23, 3) := by decide +kernel
theorem dX9_openSets_67 : decode cX9_openSets 67 = .ok (.iconst 0, 1) := by decide +kernel
theorem dX9_openSets_68 : decode cX9_openSets 68 = .ok (.istore_n 2, 1) := by decide +kernel
theorem dX9_openSets_69 : decode cX9_openSets 69 = .ok (.iload_n 2, 1) := by decide +kernel
theorem dX9_openSets_70 : decode cX9_openSets 70 = .ok (.bipush 64, 2) := by decide +kernel
theorem dX9_openSets_72 : decode cX9_openSets 72 = .ok (.if_icmp .ge 20, 3) := by decide +kernel
theorem dX9_openSets_75 : decode cX9_openSets 75 = .ok (.aload_n 0, 1) := by decide +kernel
theorem dX9_openSets_76 : decode cX9_openSets 76 = .ok (.getfield 20, 3) := by decide +kernel
theorem dX9_openSets_79 : decode cX9_openSets 79 = .ok (.iload_n 2, 1) := by decide +kernel
theorem dX9_openSets_80 : decode cX9_openSets 80 = .ok (.bipush 11, 2) := by decide +kernel
theorem dX9_openSets_82 : decode cX9_openSets 82 = .ok (.imul, 1) := by decide +kernel
theorem dX9_openSets_83 : decode cX9_openSets 83 = .ok (.bipush (-2), 2) := by decide +kernel
theorem dX9_openSets_85 : decode cX9_openSets 85 = .ok (.iastore, 1) := by decide +kernel
theorem dX9_openSets_86 : decode cX9_openSets 86 = .ok (.iinc 2 1, 3) := by decide +kernel
theorem dX9_openSets_89 : decode cX9_openSets 89 = .ok (.goto (-20), 3) := by decide +kernel
theorem dX9_openSets_92 : decode cX9_openSets 92 = .ok (.return_, 1) := by decide +kernel
theorem dX9_fewestHands_0 : decode cX9_fewestHands 0 = .ok (.aload_n 0, 1) := by decide +kernel
theorem dX9_fewestHands_1 : decode cX9_fewestHands 1 = .ok (.invokevirtual 94, 3) := by decide +kernel
theorem dX9_fewestHands_4 : decode cX9_fewestHands 4 = .ok (.iconst 0, 1) := by decide +kernel
theorem dX9_fewestHands_5 : decode cX9_fewestHands 5 = .ok (.istore_n 1, 1) := by decide +kernel
theorem dX9_fewestHands_6 : decode cX9_fewestHands 6 = .ok (.iload_n 1, 1) := by decide +kernel
theorem dX9_fewestHands_7 : decode cX9_fewestHands 7 = .ok (.aload_n 0, 1) := by decide +kernel
theorem dX9_fewestHands_8 : decode cX9_fewestHands 8 = .ok (.getfield 41, 3) := by decide +kernel
theorem dX9_fewestHands_11 : decode cX9_fewestHands 11 = .ok (.getfield 63, 3) := by decide +kernel
theorem dX9_fewestHands_14 : decode cX9_fewestHands 14 = .ok (.if_icmp .gt 94, 3) := by decide +kernel
theorem dX9_fewestHands_17 : decode cX9_fewestHands 17 = .ok (.iload_n 1, 1) := by decide +kernel
theorem dX9_fewestHands_18 : decode cX9_fewestHands 18 = .ok (.bipush 6, 2) := by decide +kernel
theorem dX9_fewestHands_20 : decode cX9_fewestHands 20 = .ok (.if_icmp .gt 88, 3) := by decide +kernel
theorem dX9_fewestHands_23 : decode cX9_fewestHands 23 = .ok (.iconst 0, 1) := by decide +kernel
theorem dX9_fewestHands_24 : decode cX9_fewestHands 24 = .ok (.istore_n 2, 1) := by decide +kernel
theorem dX9_fewestHands_25 : decode cX9_fewestHands 25 = .ok (.iload_n 2, 1) := by decide +kernel
theorem dX9_fewestHands_26 : decode cX9_fewestHands 26 = .ok (.iconst 1, 1) := by decide +kernel
theorem dX9_fewestHands_27 : decode cX9_fewestHands 27 = .ok (.aload_n 0, 1) := by decide +kernel
theorem dX9_fewestHands_28 : decode cX9_fewestHands 28 = .ok (.getfield 41, 3) := by decide +kernel
theorem dX9_fewestHands_31 : decode cX9_fewestHands 31 = .ok (.getfield 63, 3) := by decide +kernel
theorem dX9_fewestHands_34 : decode cX9_fewestHands 34 = .ok (.ishl, 1) := by decide +kernel
theorem dX9_fewestHands_35 : decode cX9_fewestHands 35 = .ok (.if_icmp .ge 67, 3) := by decide +kernel
theorem dX9_fewestHands_38 : decode cX9_fewestHands 38 = .ok (.iload_n 2, 1) := by decide +kernel
theorem dX9_fewestHands_39 : decode cX9_fewestHands 39 = .ok (.bipush 64, 2) := by decide +kernel
theorem dX9_fewestHands_41 : decode cX9_fewestHands 41 = .ok (.if_icmp .ge 61, 3) := by decide +kernel
theorem dX9_fewestHands_44 : decode cX9_fewestHands 44 = .ok (.iload_n 2, 1) := by decide +kernel
theorem dX9_fewestHands_45 : decode cX9_fewestHands 45 = .ok (.invokestatic 97, 3) := by decide +kernel
theorem dX9_fewestHands_48 : decode cX9_fewestHands 48 = .ok (.iload_n 1, 1) := by decide +kernel
theorem dX9_fewestHands_49 : decode cX9_fewestHands 49 = .ok (.if_icmp .eq 6, 3) := by decide +kernel
theorem dX9_fewestHands_52 : decode cX9_fewestHands 52 = .ok (.goto 44, 3) := by decide +kernel
theorem dX9_fewestHands_55 : decode cX9_fewestHands 55 = .ok (.aload_n 0, 1) := by decide +kernel
theorem dX9_fewestHands_56 : decode cX9_fewestHands 56 = .ok (.getfield 45, 3) := by decide +kernel
theorem dX9_fewestHands_59 : decode cX9_fewestHands 59 = .ok (.iload_n 2, 1) := by decide +kernel
theorem dX9_fewestHands_60 : decode cX9_fewestHands 60 = .ok (.aload_n 0, 1) := by decide +kernel
theorem dX9_fewestHands_61 : decode cX9_fewestHands 61 = .ok (.getfield 23, 3) := by decide +kernel
theorem dX9_fewestHands_64 : decode cX9_fewestHands 64 = .ok (.aload_n 0, 1) := by decide +kernel
theorem dX9_fewestHands_65 : decode cX9_fewestHands 65 = .ok (.getfield 20, 3) := by decide +kernel
theorem dX9_fewestHands_68 : decode cX9_fewestHands 68 = .ok (.iload_n 2, 1) := by decide +kernel
theorem dX9_fewestHands_69 : decode cX9_fewestHands 69 = .ok (.bipush 11, 2) := by decide +kernel
theorem dX9_fewestHands_71 : decode cX9_fewestHands 71 = .ok (.imul, 1) := by decide +kernel
theorem dX9_fewestHands_72 : decode cX9_fewestHands 72 = .ok (.invokevirtual 49, 3) := by decide +kernel
theorem dX9_fewestHands_75 : decode cX9_fewestHands 75 = .ok (.istore_n 3, 1) := by decide +kernel
theorem dX9_fewestHands_76 : decode cX9_fewestHands 76 = .ok (.iload_n 3, 1) := by decide +kernel
theorem dX9_fewestHands_77 : decode cX9_fewestHands 77 = .ok (.iconst (-1), 1) := by decide +kernel
theorem dX9_fewestHands_78 : decode cX9_fewestHands 78 = .ok (.if_icmp .eq 18, 3) := by decide +kernel
theorem dX9_fewestHands_81 : decode cX9_fewestHands 81 = .ok (.iload_n 3, 1) := by decide +kernel
theorem dX9_fewestHands_82 : decode cX9_fewestHands 82 = .ok (.aload_n 0, 1) := by decide +kernel
theorem dX9_fewestHands_83 : decode cX9_fewestHands 83 = .ok (.getfield 41, 3) := by decide +kernel
theorem dX9_fewestHands_86 : decode cX9_fewestHands 86 = .ok (.getfield 79, 3) := by decide +kernel
theorem dX9_fewestHands_89 : decode cX9_fewestHands 89 = .ok (.iconst 1, 1) := by decide +kernel
theorem dX9_fewestHands_90 : decode cX9_fewestHands 90 = .ok (.iaload, 1) := by decide +kernel
theorem dX9_fewestHands_91 : decode cX9_fewestHands 91 = .ok (.if_icmp .gt 5, 3) := by decide +kernel
theorem dX9_fewestHands_94 : decode cX9_fewestHands 94 = .ok (.iload_n 2, 1) := by decide +kernel
theorem dX9_fewestHands_95 : decode cX9_fewestHands 95 = .ok (.ireturn, 1) := by decide +kernel
theorem dX9_fewestHands_96 : decode cX9_fewestHands 96 = .ok (.iinc 2 1, 3) := by decide +kernel
theorem dX9_fewestHands_99 : decode cX9_fewestHands 99 = .ok (.goto (-74), 3) := by decide +kernel
theorem dX9_fewestHands_102 : decode cX9_fewestHands 102 = .ok (.iinc 1 1, 3) := by decide +kernel
theorem dX9_fewestHands_105 : decode cX9_fewestHands 105 = .ok (.goto (-99), 3) := by decide +kernel
theorem dX9_fewestHands_108 : decode cX9_fewestHands 108 = .ok (.iconst (-1), 1) := by decide +kernel
theorem dX9_fewestHands_109 : decode cX9_fewestHands 109 = .ok (.ireturn, 1) := by decide +kernel
theorem dX9_suspects_0 : decode cX9_suspects 0 = .ok (.aload_n 0, 1) := by decide +kernel
theorem dX9_suspects_1 : decode cX9_suspects 1 = .ok (.invokevirtual 94, 3) := by decide +kernel
theorem dX9_suspects_4 : decode cX9_suspects 4 = .ok (.iconst 0, 1) := by decide +kernel
theorem dX9_suspects_5 : decode cX9_suspects 5 = .ok (.istore_n 2, 1) := by decide +kernel
theorem dX9_suspects_6 : decode cX9_suspects 6 = .ok (.iconst 0, 1) := by decide +kernel
theorem dX9_suspects_7 : decode cX9_suspects 7 = .ok (.istore_n 3, 1) := by decide +kernel
theorem dX9_suspects_8 : decode cX9_suspects 8 = .ok (.iload_n 3, 1) := by decide +kernel
theorem dX9_suspects_9 : decode cX9_suspects 9 = .ok (.iconst 1, 1) := by decide +kernel
theorem dX9_suspects_10 : decode cX9_suspects 10 = .ok (.aload_n 0, 1) := by decide +kernel
theorem dX9_suspects_11 : decode cX9_suspects 11 = .ok (.getfield 41, 3) := by decide +kernel
theorem dX9_suspects_14 : decode cX9_suspects 14 = .ok (.getfield 63, 3) := by decide +kernel
theorem dX9_suspects_17 : decode cX9_suspects 17 = .ok (.ishl, 1) := by decide +kernel
theorem dX9_suspects_18 : decode cX9_suspects 18 = .ok (.if_icmp .ge 66, 3) := by decide +kernel
theorem dX9_suspects_21 : decode cX9_suspects 21 = .ok (.iload_n 3, 1) := by decide +kernel
theorem dX9_suspects_22 : decode cX9_suspects 22 = .ok (.bipush 64, 2) := by decide +kernel
theorem dX9_suspects_24 : decode cX9_suspects 24 = .ok (.if_icmp .ge 60, 3) := by decide +kernel
theorem dX9_suspects_27 : decode cX9_suspects 27 = .ok (.aload_n 0, 1) := by decide +kernel
theorem dX9_suspects_28 : decode cX9_suspects 28 = .ok (.getfield 45, 3) := by decide +kernel
theorem dX9_suspects_31 : decode cX9_suspects 31 = .ok (.iload_n 3, 1) := by decide +kernel
theorem dX9_suspects_32 : decode cX9_suspects 32 = .ok (.aload_n 0, 1) := by decide +kernel
theorem dX9_suspects_33 : decode cX9_suspects 33 = .ok (.getfield 23, 3) := by decide +kernel
theorem dX9_suspects_36 : decode cX9_suspects 36 = .ok (.aload_n 0, 1) := by decide +kernel
theorem dX9_suspects_37 : decode cX9_suspects 37 = .ok (.getfield 20, 3) := by decide +kernel
theorem dX9_suspects_40 : decode cX9_suspects 40 = .ok (.iload_n 3, 1) := by decide +kernel
theorem dX9_suspects_41 : decode cX9_suspects 41 = .ok (.bipush 11, 2) := by decide +kernel
theorem dX9_suspects_43 : decode cX9_suspects 43 = .ok (.imul, 1) := by decide +kernel
theorem dX9_suspects_44 : decode cX9_suspects 44 = .ok (.invokevirtual 49, 3) := by decide +kernel
theorem dX9_suspects_47 : decode cX9_suspects 47 = .ok (.pop, 1) := by decide +kernel
theorem dX9_suspects_48 : decode cX9_suspects 48 = .ok (.aload_n 0, 1) := by decide +kernel
theorem dX9_suspects_49 : decode cX9_suspects 49 = .ok (.getfield 34, 3) := by decide +kernel
theorem dX9_suspects_52 : decode cX9_suspects 52 = .ok (.iload_n 3, 1) := by decide +kernel
theorem dX9_suspects_53 : decode cX9_suspects 53 = .ok (.aload_n 0, 1) := by decide +kernel
theorem dX9_suspects_54 : decode cX9_suspects 54 = .ok (.iload_n 3, 1) := by decide +kernel
theorem dX9_suspects_55 : decode cX9_suspects 55 = .ok (.invokevirtual 103, 3) := by decide +kernel
theorem dX9_suspects_58 : decode cX9_suspects 58 = .ok (.bastore, 1) := by decide +kernel
theorem dX9_suspects_59 : decode cX9_suspects 59 = .ok (.aload_n 0, 1) := by decide +kernel
theorem dX9_suspects_60 : decode cX9_suspects 60 = .ok (.getfield 34, 3) := by decide +kernel
theorem dX9_suspects_63 : decode cX9_suspects 63 = .ok (.iload_n 3, 1) := by decide +kernel
theorem dX9_suspects_64 : decode cX9_suspects 64 = .ok (.baload, 1) := by decide +kernel
theorem dX9_suspects_65 : decode cX9_suspects 65 = .ok (.ifCond .eq 13, 3) := by decide +kernel
theorem dX9_suspects_68 : decode cX9_suspects 68 = .ok (.iload_n 2, 1) := by decide +kernel
theorem dX9_suspects_69 : decode cX9_suspects 69 = .ok (.iload_n 1, 1) := by decide +kernel
theorem dX9_suspects_70 : decode cX9_suspects 70 = .ok (.if_icmp .ne 5, 3) := by decide +kernel
theorem dX9_suspects_73 : decode cX9_suspects 73 = .ok (.iload_n 3, 1) := by decide +kernel
theorem dX9_suspects_74 : decode cX9_suspects 74 = .ok (.ireturn, 1) := by decide +kernel
theorem dX9_suspects_75 : decode cX9_suspects 75 = .ok (.iinc 2 1, 3) := by decide +kernel
theorem dX9_suspects_78 : decode cX9_suspects 78 = .ok (.iinc 3 1, 3) := by decide +kernel
theorem dX9_suspects_81 : decode cX9_suspects 81 = .ok (.goto (-73), 3) := by decide +kernel
theorem dX9_suspects_84 : decode cX9_suspects 84 = .ok (.iload_n 1, 1) := by decide +kernel
theorem dX9_suspects_85 : decode cX9_suspects 85 = .ok (.iconst (-1), 1) := by decide +kernel
theorem dX9_suspects_86 : decode cX9_suspects 86 = .ok (.if_icmp .ne 7, 3) := by decide +kernel
theorem dX9_suspects_89 : decode cX9_suspects 89 = .ok (.iload_n 2, 1) := by decide +kernel
theorem dX9_suspects_90 : decode cX9_suspects 90 = .ok (.goto 4, 3) := by decide +kernel
theorem dX9_suspects_93 : decode cX9_suspects 93 = .ok (.iconst (-1), 1) := by decide +kernel
theorem dX9_suspects_94 : decode cX9_suspects 94 = .ok (.ireturn, 1) := by decide +kernel
theorem dX9_fitsAll_0 : decode cX9_fitsAll 0 = .ok (.iconst 0, 1) := by decide +kernel
theorem dX9_fitsAll_1 : decode cX9_fitsAll 1 = .ok (.istore_n 2, 1) := by decide +kernel
theorem dX9_fitsAll_2 : decode cX9_fitsAll 2 = .ok (.iload_n 2, 1) := by decide +kernel
theorem dX9_fitsAll_3 : decode cX9_fitsAll 3 = .ok (.aload_n 0, 1) := by decide +kernel
theorem dX9_fitsAll_4 : decode cX9_fitsAll 4 = .ok (.getfield 41, 3) := by decide +kernel
theorem dX9_fitsAll_7 : decode cX9_fitsAll 7 = .ok (.getfield 88, 3) := by decide +kernel
theorem dX9_fitsAll_10 : decode cX9_fitsAll 10 = .ok (.if_icmp .ge 63, 3) := by decide +kernel
theorem dX9_fitsAll_13 : decode cX9_fitsAll 13 = .ok (.iload_n 2, 1) := by decide +kernel
theorem dX9_fitsAll_14 : decode cX9_fitsAll 14 = .ok (.bipush 8, 2) := by decide +kernel
theorem dX9_fitsAll_16 : decode cX9_fitsAll 16 = .ok (.if_icmp .ge 57, 3) := by decide +kernel
theorem dX9_fitsAll_19 : decode cX9_fitsAll 19 = .ok (.aload_n 0, 1) := by decide +kernel
theorem dX9_fitsAll_20 : decode cX9_fitsAll 20 = .ok (.getfield 41, 3) := by decide +kernel
theorem dX9_fitsAll_23 : decode cX9_fitsAll 23 = .ok (.getfield 107, 3) := by decide +kernel
theorem dX9_fitsAll_26 : decode cX9_fitsAll 26 = .ok (.iload_n 2, 1) := by decide +kernel
theorem dX9_fitsAll_27 : decode cX9_fitsAll 27 = .ok (.iaload, 1) := by decide +kernel
theorem dX9_fitsAll_28 : decode cX9_fitsAll 28 = .ok (.iconst 1, 1) := by decide +kernel
theorem dX9_fitsAll_29 : decode cX9_fitsAll 29 = .ok (.if_icmp .ne 7, 3) := by decide +kernel
theorem dX9_fitsAll_32 : decode cX9_fitsAll 32 = .ok (.iconst 1, 1) := by decide +kernel
theorem dX9_fitsAll_33 : decode cX9_fitsAll 33 = .ok (.goto 4, 3) := by decide +kernel
theorem dX9_fitsAll_36 : decode cX9_fitsAll 36 = .ok (.iconst 0, 1) := by decide +kernel
theorem dX9_fitsAll_37 : decode cX9_fitsAll 37 = .ok (.istore_n 3, 1) := by decide +kernel
theorem dX9_fitsAll_38 : decode cX9_fitsAll 38 = .ok (.aload_n 0, 1) := by decide +kernel
theorem dX9_fitsAll_39 : decode cX9_fitsAll 39 = .ok (.iload_n 1, 1) := by decide +kernel
theorem dX9_fitsAll_40 : decode cX9_fitsAll 40 = .ok (.aload_n 0, 1) := by decide +kernel
theorem dX9_fitsAll_41 : decode cX9_fitsAll 41 = .ok (.getfield 41, 3) := by decide +kernel
theorem dX9_fitsAll_44 : decode cX9_fitsAll 44 = .ok (.getfield 110, 3) := by decide +kernel
theorem dX9_fitsAll_47 : decode cX9_fitsAll 47 = .ok (.iload_n 2, 1) := by decide +kernel
theorem dX9_fitsAll_48 : decode cX9_fitsAll 48 = .ok (.iaload, 1) := by decide +kernel
theorem dX9_fitsAll_49 : decode cX9_fitsAll 49 = .ok (.aload_n 0, 1) := by decide +kernel
theorem dX9_fitsAll_50 : decode cX9_fitsAll 50 = .ok (.getfield 41, 3) := by decide +kernel
theorem dX9_fitsAll_53 : decode cX9_fitsAll 53 = .ok (.getfield 91, 3) := by decide +kernel
theorem dX9_fitsAll_56 : decode cX9_fitsAll 56 = .ok (.iload_n 2, 1) := by decide +kernel
theorem dX9_fitsAll_57 : decode cX9_fitsAll 57 = .ok (.iaload, 1) := by decide +kernel
theorem dX9_fitsAll_58 : decode cX9_fitsAll 58 = .ok (.invokevirtual 113, 3) := by decide +kernel
theorem dX9_fitsAll_61 : decode cX9_fitsAll 61 = .ok (.iload_n 3, 1) := by decide +kernel
theorem dX9_fitsAll_62 : decode cX9_fitsAll 62 = .ok (.if_icmp .eq 5, 3) := by decide +kernel
theorem dX9_fitsAll_65 : decode cX9_fitsAll 65 = .ok (.iconst 0, 1) := by decide +kernel
theorem dX9_fitsAll_66 : decode cX9_fitsAll 66 = .ok (.ireturn, 1) := by decide +kernel
theorem dX9_fitsAll_67 : decode cX9_fitsAll 67 = .ok (.iinc 2 1, 3) := by decide +kernel
theorem dX9_fitsAll_70 : decode cX9_fitsAll 70 = .ok (.goto (-68), 3) := by decide +kernel
theorem dX9_fitsAll_73 : decode cX9_fitsAll 73 = .ok (.iconst 1, 1) := by decide +kernel
theorem dX9_fitsAll_74 : decode cX9_fitsAll 74 = .ok (.ireturn, 1) := by decide +kernel
theorem dX9_stoodBehind_0 : decode cX9_stoodBehind 0 = .ok (.iload_n 1, 1) := by decide +kernel
theorem dX9_stoodBehind_1 : decode cX9_stoodBehind 1 = .ok (.bipush 11, 2) := by decide +kernel
theorem dX9_stoodBehind_3 : decode cX9_stoodBehind 3 = .ok (.imul, 1) := by decide +kernel
theorem dX9_stoodBehind_4 : decode cX9_stoodBehind 4 = .ok (.iconst 1, 1) := by decide +kernel
theorem dX9_stoodBehind_5 : decode cX9_stoodBehind 5 = .ok (.iadd, 1) := by decide +kernel
theorem dX9_stoodBehind_6 : decode cX9_stoodBehind 6 = .ok (.iload_n 2, 1) := by decide +kernel
theorem dX9_stoodBehind_7 : decode cX9_stoodBehind 7 = .ok (.iadd, 1) := by decide +kernel
theorem dX9_stoodBehind_8 : decode cX9_stoodBehind 8 = .ok (.istore 4, 2) := by decide +kernel
theorem dX9_stoodBehind_10 : decode cX9_stoodBehind 10 = .ok (.iload 4, 2) := by decide +kernel
theorem dX9_stoodBehind_12 : decode cX9_stoodBehind 12 = .ok (.ifCond .lt 39, 3) := by decide +kernel
theorem dX9_stoodBehind_15 : decode cX9_stoodBehind 15 = .ok (.iload 4, 2) := by decide +kernel
theorem dX9_stoodBehind_17 : decode cX9_stoodBehind 17 = .ok (.aload_n 0, 1) := by decide +kernel
theorem dX9_stoodBehind_18 : decode cX9_stoodBehind 18 = .ok (.getfield 20, 3) := by decide +kernel
theorem dX9_stoodBehind_21 : decode cX9_stoodBehind 21 = .ok (.arraylength, 1) := by decide +kernel
theorem dX9_stoodBehind_22 : decode cX9_stoodBehind 22 = .ok (.if_icmp .ge 29, 3) := by decide +kernel
theorem dX9_stoodBehind_25 : decode cX9_stoodBehind 25 = .ok (.aload_n 0, 1) := by decide +kernel
theorem dX9_stoodBehind_26 : decode cX9_stoodBehind 26 = .ok (.getfield 20, 3) := by decide +kernel
theorem dX9_stoodBehind_29 : decode cX9_stoodBehind 29 = .ok (.iload 4, 2) := by decide +kernel
theorem dX9_stoodBehind_31 : decode cX9_stoodBehind 31 = .ok (.iaload, 1) := by decide +kernel
theorem dX9_stoodBehind_32 : decode cX9_stoodBehind 32 = .ok (.iconst (-1), 1) := by decide +kernel
theorem dX9_stoodBehind_33 : decode cX9_stoodBehind 33 = .ok (.if_icmp .eq 18, 3) := by decide +kernel
theorem dX9_stoodBehind_36 : decode cX9_stoodBehind 36 = .ok (.aload_n 0, 1) := by decide +kernel
theorem dX9_stoodBehind_37 : decode cX9_stoodBehind 37 = .ok (.getfield 20, 3) := by decide +kernel
theorem dX9_stoodBehind_40 : decode cX9_stoodBehind 40 = .ok (.iload 4, 2) := by decide +kernel
theorem dX9_stoodBehind_42 : decode cX9_stoodBehind 42 = .ok (.iaload, 1) := by decide +kernel
theorem dX9_stoodBehind_43 : decode cX9_stoodBehind 43 = .ok (.iload_n 3, 1) := by decide +kernel
theorem dX9_stoodBehind_44 : decode cX9_stoodBehind 44 = .ok (.if_icmp .gt 7, 3) := by decide +kernel
theorem dX9_stoodBehind_47 : decode cX9_stoodBehind 47 = .ok (.iconst 1, 1) := by decide +kernel
theorem dX9_stoodBehind_48 : decode cX9_stoodBehind 48 = .ok (.goto 4, 3) := by decide +kernel
theorem dX9_stoodBehind_51 : decode cX9_stoodBehind 51 = .ok (.iconst 0, 1) := by decide +kernel
theorem dX9_stoodBehind_52 : decode cX9_stoodBehind 52 = .ok (.ireturn, 1) := by decide +kernel
theorem dX9_nextLook_0 : decode cX9_nextLook 0 = .ok (.aload_n 0, 1) := by decide +kernel
theorem dX9_nextLook_1 : decode cX9_nextLook 1 = .ok (.iconst (-1), 1) := by decide +kernel
theorem dX9_nextLook_2 : decode cX9_nextLook 2 = .ok (.invokevirtual 117, 3) := by decide +kernel
theorem dX9_nextLook_5 : decode cX9_nextLook 5 = .ok (.ifCond .ne 5, 3) := by decide +kernel
theorem dX9_nextLook_8 : decode cX9_nextLook 8 = .ok (.iconst (-1), 1) := by decide +kernel
theorem dX9_nextLook_9 : decode cX9_nextLook 9 = .ok (.ireturn, 1) := by decide +kernel
theorem dX9_nextLook_10 : decode cX9_nextLook 10 = .ok (.iconst 0, 1) := by decide +kernel
theorem dX9_nextLook_11 : decode cX9_nextLook 11 = .ok (.istore_n 2, 1) := by decide +kernel
theorem dX9_nextLook_12 : decode cX9_nextLook 12 = .ok (.bipush 65, 2) := by decide +kernel
theorem dX9_nextLook_14 : decode cX9_nextLook 14 = .ok (.istore_n 3, 1) := by decide +kernel
theorem dX9_nextLook_15 : decode cX9_nextLook 15 = .ok (.iconst 0, 1) := by decide +kernel
theorem dX9_nextLook_16 : decode cX9_nextLook 16 = .ok (.istore 4, 2) := by decide +kernel
theorem dX9_nextLook_18 : decode cX9_nextLook 18 = .ok (.iload 4, 2) := by decide +kernel
theorem dX9_nextLook_20 : decode cX9_nextLook 20 = .ok (.bipush 40, 2) := by decide +kernel
theorem dX9_nextLook_22 : decode cX9_nextLook 22 = .ok (.if_icmp .gt 29, 3) := by decide +kernel
theorem dX9_nextLook_25 : decode cX9_nextLook 25 = .ok (.aload_n 0, 1) := by decide +kernel
theorem dX9_nextLook_26 : decode cX9_nextLook 26 = .ok (.iload 4, 2) := by decide +kernel
theorem dX9_nextLook_28 : decode cX9_nextLook 28 = .ok (.invokevirtual 120, 3) := by decide +kernel
theorem dX9_nextLook_31 : decode cX9_nextLook 31 = .ok (.istore 5, 2) := by decide +kernel
theorem dX9_nextLook_33 : decode cX9_nextLook 33 = .ok (.iload 5, 2) := by decide +kernel
theorem dX9_nextLook_35 : decode cX9_nextLook 35 = .ok (.iload_n 3, 1) := by decide +kernel
theorem dX9_nextLook_36 : decode cX9_nextLook 36 = .ok (.if_icmp .ge 9, 3) := by decide +kernel
theorem dX9_nextLook_39 : decode cX9_nextLook 39 = .ok (.iload 5, 2) := by decide +kernel
theorem dX9_nextLook_41 : decode cX9_nextLook 41 = .ok (.istore_n 3, 1) := by decide +kernel
theorem dX9_nextLook_42 : decode cX9_nextLook 42 = .ok (.iload 4, 2) := by decide +kernel
theorem dX9_nextLook_44 : decode cX9_nextLook 44 = .ok (.istore_n 2, 1) := by decide +kernel
theorem dX9_nextLook_45 : decode cX9_nextLook 45 = .ok (.iinc 4 1, 3) := by decide +kernel
theorem dX9_nextLook_48 : decode cX9_nextLook 48 = .ok (.goto (-30), 3) := by decide +kernel
theorem dX9_nextLook_51 : decode cX9_nextLook 51 = .ok (.iload_n 1, 1) := by decide +kernel
theorem dX9_nextLook_52 : decode cX9_nextLook 52 = .ok (.ifCond .ne 7, 3) := by decide +kernel
theorem dX9_nextLook_55 : decode cX9_nextLook 55 = .ok (.iload_n 2, 1) := by decide +kernel
theorem dX9_nextLook_56 : decode cX9_nextLook 56 = .ok (.goto 4, 3) := by decide +kernel
theorem dX9_nextLook_59 : decode cX9_nextLook 59 = .ok (.iload_n 3, 1) := by decide +kernel
theorem dX9_nextLook_60 : decode cX9_nextLook 60 = .ok (.ireturn, 1) := by decide +kernel
theorem dX9_mostAlike_0 : decode cX9_mostAlike 0 = .ok (.aload_n 0, 1) := by decide +kernel
theorem dX9_mostAlike_1 : decode cX9_mostAlike 1 = .ok (.getfield 38, 3) := by decide +kernel
theorem dX9_mostAlike_4 : decode cX9_mostAlike 4 = .ok (.iconst 0, 1) := by decide +kernel
theorem dX9_mostAlike_5 : decode cX9_mostAlike 5 = .ok (.invokestatic 57, 3) := by decide +kernel
theorem dX9_mostAlike_8 : decode cX9_mostAlike 8 = .ok (.iconst 0, 1) := by decide +kernel
theorem dX9_mostAlike_9 : decode cX9_mostAlike 9 = .ok (.istore_n 2, 1) := by decide +kernel
theorem dX9_mostAlike_10 : decode cX9_mostAlike 10 = .ok (.iconst 0, 1) := by decide +kernel
theorem dX9_mostAlike_11 : decode cX9_mostAlike 11 = .ok (.istore_n 3, 1) := by decide +kernel
theorem dX9_mostAlike_12 : decode cX9_mostAlike 12 = .ok (.iload_n 3, 1) := by decide +kernel
theorem dX9_mostAlike_13 : decode cX9_mostAlike 13 = .ok (.iconst 1, 1) := by decide +kernel
theorem dX9_mostAlike_14 : decode cX9_mostAlike 14 = .ok (.aload_n 0, 1) := by decide +kernel
theorem dX9_mostAlike_15 : decode cX9_mostAlike 15 = .ok (.getfield 41, 3) := by decide +kernel
theorem dX9_mostAlike_18 : decode cX9_mostAlike 18 = .ok (.getfield 63, 3) := by decide +kernel
theorem dX9_mostAlike_21 : decode cX9_mostAlike 21 = .ok (.ishl, 1) := by decide +kernel
theorem dX9_mostAlike_22 : decode cX9_mostAlike 22 = .ok (.if_icmp .ge 95, 3) := by decide +kernel
theorem dX9_mostAlike_25 : decode cX9_mostAlike 25 = .ok (.iload_n 3, 1) := by decide +kernel
theorem dX9_mostAlike_26 : decode cX9_mostAlike 26 = .ok (.bipush 64, 2) := by decide +kernel
theorem dX9_mostAlike_28 : decode cX9_mostAlike 28 = .ok (.if_icmp .ge 89, 3) := by decide +kernel
theorem dX9_mostAlike_31 : decode cX9_mostAlike 31 = .ok (.aload_n 0, 1) := by decide +kernel
theorem dX9_mostAlike_32 : decode cX9_mostAlike 32 = .ok (.getfield 34, 3) := by decide +kernel
theorem dX9_mostAlike_35 : decode cX9_mostAlike 35 = .ok (.iload_n 3, 1) := by decide +kernel
theorem dX9_mostAlike_36 : decode cX9_mostAlike 36 = .ok (.baload, 1) := by decide +kernel
theorem dX9_mostAlike_37 : decode cX9_mostAlike 37 = .ok (.ifCond .ne 6, 3) := by decide +kernel
theorem dX9_mostAlike_40 : decode cX9_mostAlike 40 = .ok (.goto 71, 3) := by decide +kernel
theorem dX9_mostAlike_43 : decode cX9_mostAlike 43 = .ok (.iconst 0, 1) := by decide +kernel
theorem dX9_mostAlike_44 : decode cX9_mostAlike 44 = .ok (.istore 4, 2) := by decide +kernel
theorem dX9_mostAlike_46 : decode cX9_mostAlike 46 = .ok (.iconst 0, 1) := by decide +kernel
theorem dX9_mostAlike_47 : decode cX9_mostAlike 47 = .ok (.istore 5, 2) := by decide +kernel
theorem dX9_mostAlike_49 : decode cX9_mostAlike 49 = .ok (.iload 5, 2) := by decide +kernel
theorem dX9_mostAlike_51 : decode cX9_mostAlike 51 = .ok (.aload_n 0, 1) := by decide +kernel
theorem dX9_mostAlike_52 : decode cX9_mostAlike 52 = .ok (.getfield 41, 3) := by decide +kernel
theorem dX9_mostAlike_55 : decode cX9_mostAlike 55 = .ok (.getfield 123, 3) := by decide +kernel
theorem dX9_mostAlike_58 : decode cX9_mostAlike 58 = .ok (.if_icmp .ge 30, 3) := by decide +kernel
theorem dX9_mostAlike_61 : decode cX9_mostAlike 61 = .ok (.iload 5, 2) := by decide +kernel
theorem dX9_mostAlike_63 : decode cX9_mostAlike 63 = .ok (.bipush 10, 2) := by decide +kernel
theorem dX9_mostAlike_65 : decode cX9_mostAlike 65 = .ok (.if_icmp .ge 23, 3) := by decide +kernel
theorem dX9_mostAlike_68 : decode cX9_mostAlike 68 = .ok (.aload_n 0, 1) := by decide +kernel
theorem dX9_mostAlike_69 : decode cX9_mostAlike 69 = .ok (.iload_n 3, 1) := by decide +kernel
theorem dX9_mostAlike_70 : decode cX9_mostAlike 70 = .ok (.iload 5, 2) := by decide +kernel
theorem dX9_mostAlike_72 : decode cX9_mostAlike 72 = .ok (.iload_n 1, 1) := by decide +kernel
theorem dX9_mostAlike_73 : decode cX9_mostAlike 73 = .ok (.invokevirtual 113, 3) := by decide +kernel
theorem dX9_mostAlike_76 : decode cX9_mostAlike 76 = .ok (.ifCond .eq 6, 3) := by decide +kernel
theorem dX9_mostAlike_79 : decode cX9_mostAlike 79 = .ok (.iinc 4 1, 3) := by decide +kernel
theorem dX9_mostAlike_82 : decode cX9_mostAlike 82 = .ok (.iinc 5 1, 3) := by decide +kernel
theorem dX9_mostAlike_85 : decode cX9_mostAlike 85 = .ok (.goto (-36), 3) := by decide +kernel
theorem dX9_mostAlike_88 : decode cX9_mostAlike 88 = .ok (.aload_n 0, 1) := by decide +kernel
theorem dX9_mostAlike_89 : decode cX9_mostAlike 89 = .ok (.getfield 38, 3) := by decide +kernel
theorem dX9_mostAlike_92 : decode cX9_mostAlike 92 = .ok (.iload 4, 2) := by decide +kernel
theorem dX9_mostAlike_94 : decode cX9_mostAlike 94 = .ok (.dup2, 1) := by decide +kernel
theorem dX9_mostAlike_95 : decode cX9_mostAlike 95 = .ok (.iaload, 1) := by decide +kernel
theorem dX9_mostAlike_96 : decode cX9_mostAlike 96 = .ok (.iconst 1, 1) := by decide +kernel
theorem dX9_mostAlike_97 : decode cX9_mostAlike 97 = .ok (.iadd, 1) := by decide +kernel
theorem dX9_mostAlike_98 : decode cX9_mostAlike 98 = .ok (.iastore, 1) := by decide +kernel
theorem dX9_mostAlike_99 : decode cX9_mostAlike 99 = .ok (.iload_n 2, 1) := by decide +kernel
theorem dX9_mostAlike_100 : decode cX9_mostAlike 100 = .ok (.aload_n 0, 1) := by decide +kernel
theorem dX9_mostAlike_101 : decode cX9_mostAlike 101 = .ok (.getfield 38, 3) := by decide +kernel
theorem dX9_mostAlike_104 : decode cX9_mostAlike 104 = .ok (.iload 4, 2) := by decide +kernel
theorem dX9_mostAlike_106 : decode cX9_mostAlike 106 = .ok (.iaload, 1) := by decide +kernel
theorem dX9_mostAlike_107 : decode cX9_mostAlike 107 = .ok (.invokestatic 82, 3) := by decide +kernel
theorem dX9_mostAlike_110 : decode cX9_mostAlike 110 = .ok (.istore_n 2, 1) := by decide +kernel
theorem dX9_mostAlike_111 : decode cX9_mostAlike 111 = .ok (.iinc 3 1, 3) := by decide +kernel
theorem dX9_mostAlike_114 : decode cX9_mostAlike 114 = .ok (.goto (-102), 3) := by decide +kernel
theorem dX9_mostAlike_117 : decode cX9_mostAlike 117 = .ok (.iload_n 2, 1) := by decide +kernel
theorem dX9_mostAlike_118 : decode cX9_mostAlike 118 = .ok (.ireturn, 1) := by decide +kernel
theorem wt5_59 : Cond.code yX3_teach cX3_teach 3 none ∈ kG := kt5 59 rfl rfl
theorem wt4_235 : Cond.code yX3_run cX3_run 6 (some .int) ∈ kG := kt4 235 rfl rfl
theorem wt4_232 : Cond.methodLink RX9 49 yX3_run ∈ kG := kt4 232 rfl rfl
theorem wt4_233 : Cond.instanceMethod yX3_run ∈ kG := kt4 233 rfl rfl
theorem wt4_234 : Cond.selects RX3 yX3_run yX3_run ∈ kG := kt4 234 rfl rfl
theorem wt4_231 : Cond.code yX9_planTicks cX9_planTicks 1 (some .int) ∈ kG := kt4 231 rfl rfl
theorem wt5_27 : Cond.methodLink RX9 53 yX9_planTicks ∈ kG := kt5 27 rfl rfl
theorem wt4_229 : Cond.instanceMethod yX9_planTicks ∈ kG := kt4 229 rfl rfl
theorem wt4_230 : Cond.selects RX9 yX9_planTicks yX9_planTicks ∈ kG := kt4 230 rfl rfl
theorem wt5_56 : Cond.methodLink RX9 75 yX3_teach ∈ kG := kt5 56 rfl rfl
theorem wt5_57 : Cond.instanceMethod yX3_teach ∈ kG := kt5 57 rfl rfl
theorem wt5_58 : Cond.selects RX3 yX3_teach yX3_teach ∈ kG := kt5 58 rfl rfl
theorem wt5_55 : Cond.code yX9_ticksWith cX9_ticksWith 5 (some .int) ∈ kG := kt5 55 rfl rfl
theorem wt5_51 : Cond.methodLink RX9 57 yJ7_fill_53178 ∈ kG := kt5 51 rfl rfl
theorem wt1_107 : Cond.fieldLink RX9 63 "SunriseRoof$Site" "builders" "I" ∈ kG := kt1 107 rfl rfl
theorem wt1_113 : Cond.fieldLink RX9 68 "SunriseRoof$Site" "crafts" "[I" ∈ kG := kt1 113 rfl rfl
theorem wt5_52 : Cond.methodLink RX9 71 yX9_ticksWith ∈ kG := kt5 52 rfl rfl
theorem wt5_54 : Cond.instanceMethod yX9_ticksWith ∈ kG := kt5 54 rfl rfl
theorem wp3_1 : Cond.selects RX9 yX9_ticksWith yX9_ticksWith ∈ kG := kp3 1 rfl rfl
theorem wt1_133 : Cond.fieldLink RX9 79 "SunriseRoof$Site" "term" "[I" ∈ kG := kt1 133 rfl rfl
theorem wt5_40 : Cond.methodLink RX9 82 Lib.Math.max.name ∈ kG := kt5 40 rfl rfl
theorem wt1_136 : Cond.fieldLink RX9 88 "SunriseRoof$Site" "sights" "I" ∈ kG := kt1 136 rfl rfl
theorem wt1_139 : Cond.fieldLink RX9 91 "SunriseRoof$Site" "sightTick" "[I" ∈ kG := kt1 139 rfl rfl
theorem wt5_39 : Cond.code yX9_openSets cX9_openSets 3 none ∈ kG := kt5 39 rfl rfl
theorem wt5_36 : Cond.methodLink RX9 94 yX9_openSets ∈ kG := kt5 36 rfl rfl
theorem wt5_38 : Cond.instanceMethod yX9_openSets ∈ kG := kt5 38 rfl rfl
theorem wp3_0 : Cond.selects RX9 yX9_openSets yX9_openSets ∈ kG := kp3 0 rfl rfl
theorem wt5_41 : Cond.methodLink RX9 97 yJ6_bitCount_0f7a4 ∈ kG := kt5 41 rfl rfl
theorem wt5_100 : Cond.code yX9_stoodBehind cX9_stoodBehind 5 (some .boolean) ∈ kG := kt5 100 rfl rfl
theorem wt1_145 : Cond.fieldLink RX9 107 "SunriseRoof$Site" "sightStood" "[I" ∈ kG := kt1 145 rfl rfl
theorem wt1_142 : Cond.fieldLink RX9 110 "SunriseRoof$Site" "sightPart" "[I" ∈ kG := kt1 142 rfl rfl
theorem wt5_97 : Cond.methodLink RX9 113 yX9_stoodBehind ∈ kG := kt5 97 rfl rfl
theorem wt5_99 : Cond.instanceMethod yX9_stoodBehind ∈ kG := kt5 99 rfl rfl
theorem wp3_3 : Cond.selects RX9 yX9_stoodBehind yX9_stoodBehind ∈ kG := kp3 3 rfl rfl
theorem wt5_96 : Cond.code yX9_fitsAll cX9_fitsAll 4 (some .boolean) ∈ kG := kt5 96 rfl rfl
theorem wt5_93 : Cond.methodLink RX9 103 yX9_fitsAll ∈ kG := kt5 93 rfl rfl
theorem wt5_95 : Cond.instanceMethod yX9_fitsAll ∈ kG := kt5 95 rfl rfl
theorem wp3_2 : Cond.selects RX9 yX9_fitsAll yX9_fitsAll ∈ kG := kp3 2 rfl rfl
theorem wt5_92 : Cond.code yX9_suspects cX9_suspects 4 (some .int) ∈ kG := kt5 92 rfl rfl
theorem wt1_84 : Cond.fieldLink RX9 123 "SunriseRoof$Site" "parts" "I" ∈ kG := kt1 84 rfl rfl
theorem wt5_113 : Cond.code yX9_mostAlike cX9_mostAlike 6 (some .int) ∈ kG := kt5 113 rfl rfl
theorem wt5_109 : Cond.methodLink RX9 117 yX9_suspects ∈ kG := kt5 109 rfl rfl
theorem wt5_90 : Cond.instanceMethod yX9_suspects ∈ kG := kt5 90 rfl rfl
theorem wt5_91 : Cond.selects RX9 yX9_suspects yX9_suspects ∈ kG := kt5 91 rfl rfl
theorem wt5_110 : Cond.methodLink RX9 120 yX9_mostAlike ∈ kG := kt5 110 rfl rfl
theorem wt5_112 : Cond.instanceMethod yX9_mostAlike ∈ kG := kt5 112 rfl rfl
theorem wp3_4 : Cond.selects RX9 yX9_mostAlike yX9_mostAlike ∈ kG := kp3 4 rfl rfl
theorem wt1_91 : Cond.fieldLink RX6 48 "SunriseRoof$Site" "needs" "[I" ∈ kG := kt1 91 rfl rfl
theorem wt4_218 : Cond.code yX6_waysWith cX6_waysWith 5 (some .int) ∈ kG := kt4 218 rfl rfl
theorem wt4_213 : Cond.methodLink RX6 26 yX7_upMask ∈ kG := kt4 213 rfl rfl
theorem wt1_81 : Cond.fieldLink RX6 35 "SunriseRoof$Site" "parts" "I" ∈ kG := kt1 81 rfl rfl
theorem wt4_214 : Cond.methodLink RX6 43 Lib.Math.min.name ∈ kG := kt4 214 rfl rfl
theorem wt4_215 : Cond.methodLink RX6 39 yX6_waysWith ∈ kG := kt4 215 rfl rfl
theorem wt4_217 : Cond.instanceMethod yX6_waysWith ∈ kG := kt4 217 rfl rfl
theorem wp2_13 : Cond.selects RX6 yX6_waysWith yX6_waysWith ∈ kG := kp2 13 rfl rfl
theorem wt4_212 : Cond.code yX6_reckonWays cX6_reckonWays 6 none ∈ kG := kt4 212 rfl rfl
theorem wt4_209 : Cond.methodLink RX6 23 yX6_reckonWays ∈ kG := kt4 209 rfl rfl
theorem wt4_211 : Cond.instanceMethod yX6_reckonWays ∈ kG := kt4 211 rfl rfl
theorem wp2_12 : Cond.selects RX6 yX6_reckonWays yX6_reckonWays ∈ kG := kp2 12 rfl rfl
theorem wt4_208 : Cond.code yX6_total cX6_total 2 (some .int) ∈ kG := kt4 208 rfl rfl
theorem wt4_223 : Cond.methodLink RX6 32 yX6_total ∈ kG := kt4 223 rfl rfl
theorem wt4_206 : Cond.instanceMethod yX6_total ∈ kG := kt4 206 rfl rfl
theorem wt4_207 : Cond.selects RX6 yX6_total yX6_total ∈ kG := kt4 207 rfl rfl
theorem wt2_96 : Cond.fieldLink RX1 29 "SunriseRoof$Planner" "paper" "LSunriseRoof$Site;" ∈ kG := kt2 96 rfl rfl
theorem wt1_80 : Cond.fieldLink RX1 56 "SunriseRoof$Site" "parts" "I" ∈ kG := kt1 80 rfl rfl
theorem wt1_105 : Cond.fieldLink RX1 57 "SunriseRoof$Site" "builders" "I" ∈ kG := kt1 105 rfl rfl
theorem wt1_99 : Cond.fieldLink RX1 58 "SunriseRoof$Site" "left" "[I" ∈ kG := kt1 99 rfl rfl
theorem wt5_128 : Cond.methodLink RX1 59 arraycopyName ∈ kG := kt5 128 rfl rfl
theorem wt1_117 : Cond.fieldLink RX1 65 "SunriseRoof$Site" "tired" "[I" ∈ kG := kt1 117 rfl rfl
theorem wt5_123 : Cond.methodLink RX1 35 yX3_begin ∈ kG := kt5 123 rfl rfl
theorem wt1_128 : Cond.fieldLink RX1 38 "SunriseRoof$Site" "term" "[I" ∈ kG := kt1 128 rfl rfl
theorem wt5_127 : Cond.methodLink RX1 52 yX3_allStand ∈ kG := kt5 127 rfl rfl
theorem wt5_124 : Cond.methodLink RX1 43 yX3_sendFree ∈ kG := kt5 124 rfl rfl
theorem wt5_125 : Cond.constant RX1 47 (1000003) ∈ kG := kt5 125 rfl rfl
theorem wt5_126 : Cond.methodLink RX1 48 yX7_workOneTick ∈ kG := kt5 126 rfl rfl
theorem kc_1023 : kb 1023 1023 1023 := ⟨by decide +kernel, by decide +kernel⟩
theorem kc_1024 : kb 1024 1024 1024 := ⟨by decide +kernel, by decide +kernel⟩
theorem kc_64 : kb 64 64 64 := ⟨by decide +kernel, by decide +kernel⟩
set_option maxHeartbeats 4000000 in
set_option maxRecDepth 100000 in
theorem x_9_clear  (l : Launch) {D : va_G} {K : Nat → ClassId} (r : Nat → Nat) (f : Nat → Int32) (a : Nat → Nat → Int32) (g : xG) (tx tt : va_W) (hT : ∀ c ∈ tt, c ∈ tx) (hI : xI f a) (hG : gOK K g.2 tt)     : kVG l yX9_clear (Cond.code yX9_clear cX9_clear 1 none :: kG) (rmD 1 0 0) D K [.ref (r 80)] (xX K r f a g tx) (fun (u : xS) => xI u.1 u.2.1 ∧ gOK K u.2.2.2 tt ∧ xEk ([2565, 2566], [81], []) f a g u.1 u.2.1 u.2.2) (fun u => xX K r u.1 u.2.1 u.2.2 tx) 0 0 := by
  refine kVG.of (cc := cX9_clear) (maxL := 1) (ret := none) (by decide) rfl (Nat.le_of_ble_eq_true rfl) ?_
  intro p e s m below meth c A hx hb hr hml hown hts hlocks hnm hK hP hD hS hA hV ls hl
  have hE : xEk ([2565, 2566], [81], []) f a g f a g := xEk_rf
  have hg : ∀ w ∈ kG, w.before _ s = true := fun w h => hts w (List.mem_cons_of_mem _ h)
  have hown : s.vm.findClass RX9 = some m.cls := hown
  have hl : lv_has ls 1 [(0, .ref (r 80))] := hl
  refine lv_aload_n hx hb dX9_clear_0 rfl (lv_at hl 0 rfl) ?_
  refine va_get (D := D) (ci := 9) (v := .ref (r 81)) (C := RX9) (T := TX9) (N := 10) hx hb hg inC9 hown hK hP 80 rfl rfl 2 (by decide) (hg _ wt2_117) (fun _ h9 => h9) rfl dX9_clear_1 ?_
  refine lv_iconst (v := 0) hx hb dX9_clear_4 (by decide) ?_
  refine lv_bipush (v := (-2)) hx hb dX9_clear_5 (by decide) ?_
  refine va_iast hx hb hK hP hD hS 81 0 rfl rfl (kb_in kc_0 (by decide) (by decide)) dX9_clear_7 (fun H locs hP hD hS => ?_)
  rw [cl_0] at hP hD
  have hP : va_P D vwCl (xX K r f (va_up a 81 (upd (a 81) 0 (-2))) g tx) H := hP
  have hD : va_D A (xX K r f (va_up a 81 (upd (a 81) 0 (-2))) g tx) := hD
  refine k_gen (P := fun z => va_P D vwCl (xX K r f z g tx) H ∧ va_D A (xX K r f z g tx) ∧ (xI f z) ∧ (gOK K g.2 tt) ∧ (xEk ([2565, 2566], [81], []) f a g f z g)) (va_up a 81 (upd (a 81) 0 (-2))) ⟨hP, hD, (xI_a hI (by decide)), hG, (xEk_a hE rfl)⟩ (fun a_1 ea_1 hq => ?_)
  obtain ⟨hP, hD, hI, hG, hE⟩ := hq
  refine lv_aload_n hx hb dX9_clear_8 rfl (lv_at hl 0 rfl) ?_
  refine lv_iconst (v := 0) hx hb dX9_clear_9 (by decide) ?_
  refine va_put (D := D) (ci := 9) (v := .int 0) (ty := .int) (C := RX9) (T := TX9) (N := 10) hx hb hg inC9 tyX9 tyX9_ok nmX9 hown hK hP hD hS 80 rfl rfl 5 (by decide) (hg _ wt2_120) (fun _ h9 => h9) rfl (by decide +kernel) rfl rfl (Nat.le_of_ble_eq_true rfl) dX9_clear_10 (fun H locs hP hD hS => ?_)
  have hP : va_P D vwCl (xX K r (upd f 2565 0) a_1 g tx) H := hP
  have hD : va_D A (xX K r (upd f 2565 0) a_1 g tx) := hD
  refine k_gen (P := fun z => va_P D vwCl (xX K r z a_1 g tx) H ∧ va_D A (xX K r z a_1 g tx) ∧ (xI z a_1) ∧ (gOK K g.2 tt) ∧ (xEk ([2565, 2566], [81], []) f a g z a_1 g)) (upd f 2565 0) ⟨hP, hD, (xI_f hI (fI_st hI.1 2565 (kb_any _) (by decide) (by decide))), hG, (xEk_f hE rfl)⟩ (fun f_2 ef_2 hq => ?_)
  obtain ⟨hP, hD, hI, hG, hE⟩ := hq
  refine lv_aload_n hx hb dX9_clear_13 rfl (lv_at hl 0 rfl) ?_
  refine lv_iconst (v := 0) hx hb dX9_clear_14 (by decide) ?_
  refine va_put (D := D) (ci := 9) (v := .int 0) (ty := .boolean) (C := RX9) (T := TX9) (N := 10) hx hb hg inC9 tyX9 tyX9_ok nmX9 hown hK hP hD hS 80 rfl rfl 6 (by decide) (hg _ wt2_121) (fun _ h9 => h9) rfl (by decide +kernel) rfl rfl (Nat.le_of_ble_eq_true rfl) dX9_clear_15 (fun H locs hP hD hS => ?_)
  have hP : va_P D vwCl (xX K r (upd f_2 2566 0) a_1 g tx) H := hP
  have hD : va_D A (xX K r (upd f_2 2566 0) a_1 g tx) := hD
  refine k_gen (P := fun z => va_P D vwCl (xX K r z a_1 g tx) H ∧ va_D A (xX K r z a_1 g tx) ∧ (xI z a_1) ∧ (gOK K g.2 tt) ∧ (xEk ([2565, 2566], [81], []) f a g z a_1 g)) (upd f_2 2566 0) ⟨hP, hD, (xI_f hI (fI_st hI.1 2566 (kb_any _) (by decide) (by decide))), hG, (xEk_f hE rfl)⟩ (fun f_3 ef_3 hq => ?_)
  obtain ⟨hP, hD, hI, hG, hE⟩ := hq
  exact kV_ret hx hb hr hlocks hK hS dX9_clear_18 (f_3, a_1, g) hP hD ⟨hI, hG, hE⟩
set_option maxHeartbeats 4000000 in
set_option maxRecDepth 100000 in
theorem x_9_planTicks  (l : Launch) {D : va_G} {K : Nat → ClassId} (r : Nat → Nat) (f : Nat → Int32) (a : Nat → Nat → Int32) (g : xG) (tx tt : va_W) (hT : ∀ c ∈ tt, c ∈ tx) (hI : xI f a) (hG : gOK K g.2 tt)     : kIG l yX9_planTicks (Cond.code yX9_planTicks cX9_planTicks 1 (some .int) :: kG) (rmD 6 0 0) D K [.ref (r 80)] (xX K r f a g tx) (fun v (u : xS) => kb (-2147483648) v 2147483647 ∧ xI u.1 u.2.1 ∧ gOK K u.2.2.2 tt ∧ xEk ([1888, 1894, 1900, 1905, 1906], [60, 61, 62, 63, 64, 65, 66, 67, 68, 69, 70, 71, 72, 77, 78, 79, 81], [73]) f a g u.1 u.2.1 u.2.2) (fun u => xX K r u.1 u.2.1 u.2.2 tx) 0 0 := by
  refine kIE.of (cc := cX9_planTicks) (maxL := 1) (ret := (some .int)) (by decide) rfl (Nat.le_of_ble_eq_true rfl) ?_
  intro p e s m below meth c A hx hb hr hml hown hts hlocks hnm hK hP hD hS hA hV ls hl
  have hE : xEk ([1888, 1894, 1900, 1905, 1906], [60, 61, 62, 63, 64, 65, 66, 67, 68, 69, 70, 71, 72, 77, 78, 79, 81], [73]) f a g f a g := xEk_rf
  have hg : ∀ w ∈ kG, w.before _ s = true := fun w h => hts w (List.mem_cons_of_mem _ h)
  have hown : s.vm.findClass RX9 = some m.cls := hown
  have hl : lv_has ls 1 [(0, .ref (r 80))] := hl
  refine lv_aload_n hx hb dX9_planTicks_0 rfl (lv_at hl 0 rfl) ?_
  refine va_get (D := D) (ci := 9) (v := .ref (r 58)) (C := RX9) (T := TX9) (N := 10) hx hb hg inC9 hown hK hP 80 rfl rfl 1 (by decide) (hg _ wt2_116) (fun _ h9 => h9) rfl dX9_planTicks_1 ?_
  refine lv_bipush (v := 63) hx hb dX9_planTicks_4 (by decide) ?_
  refine lv_sipush (v := 200) hx hb dX9_planTicks_6 (by decide) ?_
  refine lv_aload_n hx hb dX9_planTicks_9 rfl (lv_at hl 0 rfl) ?_
  refine va_get (D := D) (ci := 9) (v := .ref (r 81)) (C := RX9) (T := TX9) (N := 10) hx hb hg inC9 hown hK hP 80 rfl rfl 2 (by decide) (hg _ wt2_117) (fun _ h9 => h9) rfl dX9_planTicks_10 ?_
  refine lv_iconst (v := 0) hx hb dX9_planTicks_13 (by decide) ?_
  refine kIG.callW (As := [.int 63, .int 200, .ref (r 81), .int 0]) (rest := []) ⟨hx, hb, hml, hown, hg⟩ (x_3_run l r f a g tx tt hT hI hG 63 200 0 kc_0 ) (cwV 4 hg (kgV wt4_232 wt4_233 wt4_234 wt1_10 wt4_235) rfl rfl rfl (by decide +kernel) ⟨by decide, by decide⟩) hV hK hP hD hS hA (58) 3 rfl rfl rfl hl.1 rfl (Nat.le_of_ble_eq_true rfl) dX9_planTicks_14 ⟨Nat.le_refl _, Nat.le_refl _⟩ (fun v2 u3 H locs hw1 hP hD hS => ?_)
  obtain ⟨f4, a5, g6⟩ := u3
  have hP : va_P D vwCl (xX K r f4 a5 g6 tx) H := hP
  have hD : va_D A (xX K r f4 a5 g6 tx) := hD
  have hI : xI f4 a5 := hw1.2.1
  have hG : gOK K g6.2 tt := hw1.2.2.1
  have eE7 : xEk ([1888, 1894, 1900, 1905, 1906], [60, 61, 62, 63, 64, 65, 66, 67, 68, 69, 70, 71, 72, 77, 78, 79, 81], [73]) f a g f4 a5 g6 := hw1.2.2.2
  have hE : xEk ([1888, 1894, 1900, 1905, 1906], [60, 61, 62, 63, 64, 65, 66, 67, 68, 69, 70, 71, 72, 77, 78, 79, 81], [73]) f a g f4 a5 g6 := xEk_tr hE eE7
  exact kI_ret (v := v2) hx hb hr hlocks rfl hK hS dX9_planTicks_17 (f4, a5, g6) hP hD ⟨(kb_any v2), hI, hG, hE⟩
set_option maxHeartbeats 4000000 in
set_option maxRecDepth 100000 in
theorem x_9_planStood  (l : Launch) {D : va_G} {K : Nat → ClassId} (r : Nat → Nat) (f : Nat → Int32) (a : Nat → Nat → Int32) (g : xG) (tx tt : va_W) (hT : ∀ c ∈ tt, c ∈ tx) (hI : xI f a) (hG : gOK K g.2 tt) (x : Int32)    : kIG l yX9_planStood (Cond.code yX9_planStood cX9_planStood 2 (some .int) :: kG) (rmD 7 0 0) D K [.ref (r 80), .int x] (xX K r f a g tx) (fun v (u : xS) => kb (-2147483648) v 2147483647 ∧ xI u.1 u.2.1 ∧ gOK K u.2.2.2 tt ∧ xEk ([1888, 1894, 1900, 1905, 1906], [60, 61, 62, 63, 64, 65, 66, 67, 68, 69, 70, 71, 72, 77, 78, 79, 81], [73]) f a g u.1 u.2.1 u.2.2) (fun u => xX K r u.1 u.2.1 u.2.2 tx) 0 0 := by
  refine kIE.of (cc := cX9_planStood) (maxL := 2) (ret := (some .int)) (by decide) rfl (Nat.le_of_ble_eq_true rfl) ?_
  intro p e s m below meth c A hx hb hr hml hown hts hlocks hnm hK hP hD hS hA hV ls hl
  have hE : xEk ([1888, 1894, 1900, 1905, 1906], [60, 61, 62, 63, 64, 65, 66, 67, 68, 69, 70, 71, 72, 77, 78, 79, 81], [73]) f a g f a g := xEk_rf
  have hg : ∀ w ∈ kG, w.before _ s = true := fun w h => hts w (List.mem_cons_of_mem _ h)
  have hown : s.vm.findClass RX9 = some m.cls := hown
  have hl : lv_has ls 2 [(0, .ref (r 80)), (1, .int x)] := hl
  refine lv_aload_n hx hb dX9_planStood_0 rfl (lv_at hl 0 rfl) ?_
  refine kIG.callW (As := []) (rest := []) ⟨hx, hb, hml, hown, hg⟩ (x_9_planTicks l r f a g tx tt hT hI hG   ) (cwV 0 hg (kgV wt5_27 wt4_229 wt4_230 wt1_11 wt4_231) rfl rfl rfl (by decide +kernel) ⟨by decide, by decide⟩) hV hK hP hD hS hA (80) 9 rfl rfl rfl hl.1 rfl (Nat.le_of_ble_eq_true rfl) dX9_planStood_1 ⟨Nat.le_refl _, Nat.le_refl _⟩ (fun v2 u3 H locs hw1 hP hD hS => ?_)
  obtain ⟨f4, a5, g6⟩ := u3
  have hP : va_P D vwCl (xX K r f4 a5 g6 tx) H := hP
  have hD : va_D A (xX K r f4 a5 g6 tx) := hD
  have hI : xI f4 a5 := hw1.2.1
  have hG : gOK K g6.2 tt := hw1.2.2.1
  have eE7 : xEk ([1888, 1894, 1900, 1905, 1906], [60, 61, 62, 63, 64, 65, 66, 67, 68, 69, 70, 71, 72, 77, 78, 79, 81], [73]) f a g f4 a5 g6 := hw1.2.2.2
  have hE : xEk ([1888, 1894, 1900, 1905, 1906], [60, 61, 62, 63, 64, 65, 66, 67, 68, 69, 70, 71, 72, 77, 78, 79, 81], [73]) f a g f4 a5 g6 := xEk_tr hE eE7
  refine lv_pop hx hb dX9_planStood_4 rfl ?_
  refine lv_iload_n hx hb dX9_planStood_5 rfl (lv_at hl 1 rfl) ?_
  refine lv_if_lt (tgt := 26) hx hb dX9_planStood_6 (by decide) (fun c8 => ?_) (fun c8 => ?_)
  · have h9 := (kc_lt c8)
    have b10 : kb (-2147483648) x (-1) := kr_lt1 h9 (kb_any x) kc_0 (by decide)
    refine lv_iconst (v := (-1)) hx hb dX9_planStood_26 (by decide) ?_
    exact kI_ret (v := (-1)) hx hb hr hlocks rfl hK hS dX9_planStood_27 (f4, a5, g6) hP hD ⟨(kb_w kc_m1 (by decide) (by decide)), hI, hG, hE⟩
  · have h11 := (kc_nlt c8)
    have b12 : kb 0 x 2147483647 := kr_le2 h11 kc_0 (kb_any x)
    refine lv_iload_n hx hb dX9_planStood_9 rfl (lv_at hl 1 rfl) ?_
    refine lv_bipush (v := 10) hx hb dX9_planStood_10 (by decide) ?_
    refine lv_icmp_ge (tgt := 26) hx hb dX9_planStood_12 (by decide) (fun c13 => ?_) (fun c13 => ?_)
    · have h14 := (kc_le c13)
      have b15 : kb 10 x 2147483647 := kr_le2 h14 kc_10 b12
      refine lv_iconst (v := (-1)) hx hb dX9_planStood_26 (by decide) ?_
      exact kI_ret (v := (-1)) hx hb hr hlocks rfl hK hS dX9_planStood_27 (f4, a5, g6) hP hD ⟨(kb_w kc_m1 (by decide) (by decide)), hI, hG, hE⟩
    · have h16 := (kc_nle c13)
      have b17 : kb 0 x 9 := kr_lt1 h16 b12 kc_10 (by decide)
      refine lv_aload_n hx hb dX9_planStood_15 rfl (lv_at hl 0 rfl) ?_
      refine va_get (D := D) (ci := 9) (v := .ref (r 81)) (C := RX9) (T := TX9) (N := 10) hx hb hg inC9 hown hK hP 80 rfl rfl 2 (by decide) (hg _ wt2_117) (fun _ h9 => h9) rfl dX9_planStood_16 ?_
      refine lv_iconst (v := 1) hx hb dX9_planStood_19 (by decide) ?_
      refine lv_iload_n hx hb dX9_planStood_20 rfl (lv_at hl 1 rfl) ?_
      refine lv_iadd hx hb dX9_planStood_21 ?_
      refine lv_topi (fun t18 et18 => ?_)
      have b19 : kb 1 t18 10 := kb_eq et18 (kb_add kc_1 b17 (by decide) (by decide))
      have qt18 : t18.toInt = 1 + x.toInt := by rw [et18]; exact kt_cadd kc_1 b17 (by decide) (by decide)
      refine va_iald hx hb hK hP 81 0 rfl rfl (kb_in b19 (by decide) (by decide)) dX9_planStood_22 ?_
      refine lv_topi (fun t20 et20 => ?_)
      refine lv_goto (tgt := 27) hx hb dX9_planStood_23 (by decide) ?_
      exact kI_ret (v := t20) hx hb hr hlocks rfl hK hS dX9_planStood_27 (f4, a5, g6) hP hD ⟨(kb_any t20), hI, hG, hE⟩
set_option maxHeartbeats 4000000 in
set_option maxRecDepth 100000 in
theorem x_9_ticksWith  (l : Launch) {D : va_G} {K : Nat → ClassId} (r : Nat → Nat) (f : Nat → Int32) (a : Nat → Nat → Int32) (g : xG) (tx tt : va_W) (hT : ∀ c ∈ tt, c ∈ tx) (hI : xI f a) (hG : gOK K g.2 tt) (bd : Int32) (cr : Int32) (li : Int32)    : kIG l yX9_ticksWith (Cond.code yX9_ticksWith cX9_ticksWith 5 (some .int) :: kG) (rmD 6 0 0) D K [.ref (r 80), .int bd, .int cr, .int li] (xX K r f a g tx) (fun v (u : xS) => kb (-2147483648) v 2147483647 ∧ xI u.1 u.2.1 ∧ gOK K u.2.2.2 tt ∧ xEk ([1858, 1859, 1888, 1894, 1900, 1905, 1906], [60, 61, 62, 63, 64, 65, 66, 67, 68, 69, 70, 71, 72, 77, 78, 79, 82], [73]) f a g u.1 u.2.1 u.2.2) (fun u => xX K r u.1 u.2.1 u.2.2 tx) 0 0 := by
  refine kIE.of (cc := cX9_ticksWith) (maxL := 5) (ret := (some .int)) (by decide) rfl (Nat.le_of_ble_eq_true rfl) ?_
  intro p e s m below meth c A hx hb hr hml hown hts hlocks hnm hK hP hD hS hA hV ls hl
  have hE : xEk ([1858, 1859, 1888, 1894, 1900, 1905, 1906], [60, 61, 62, 63, 64, 65, 66, 67, 68, 69, 70, 71, 72, 77, 78, 79, 82], [73]) f a g f a g := xEk_rf
  have hg : ∀ w ∈ kG, w.before _ s = true := fun w h => hts w (List.mem_cons_of_mem _ h)
  have hown : s.vm.findClass RX9 = some m.cls := hown
  have hl : lv_has ls 5 [(0, .ref (r 80)), (1, .int bd), (2, .int cr), (3, .int li)] := hl
  refine lv_aload_n hx hb dX9_ticksWith_0 rfl (lv_at hl 0 rfl) ?_
  refine va_get (D := D) (ci := 9) (v := .ref (r 58)) (C := RX9) (T := TX9) (N := 10) hx hb hg inC9 hown hK hP 80 rfl rfl 1 (by decide) (hg _ wt2_116) (fun _ h9 => h9) rfl dX9_ticksWith_1 ?_
  refine lv_iload_n hx hb dX9_ticksWith_4 rfl (lv_at hl 1 rfl) ?_
  refine lv_iload_n hx hb dX9_ticksWith_5 rfl (lv_at hl 2 rfl) ?_
  refine kVG.callW (As := [.int bd, .int cr]) (rest := []) ⟨hx, hb, hml, hown, hg⟩ (x_3_teach l r f a g tx tt hT hI hG bd cr  ) (cwV 2 hg (kgV wt5_56 wt5_57 wt5_58 wt1_10 wt5_59) rfl rfl rfl (by decide +kernel) ⟨by decide, by decide⟩) hV hK hP hD hS hA (58) 3 rfl rfl rfl hl.1 rfl (Nat.le_of_ble_eq_true rfl) dX9_ticksWith_6 ⟨Nat.le_refl _, Nat.le_refl _⟩ (fun u3 H locs hw1 hP hD hS => ?_)
  obtain ⟨f4, a5, g6⟩ := u3
  have hP : va_P D vwCl (xX K r f4 a5 g6 tx) H := hP
  have hD : va_D A (xX K r f4 a5 g6 tx) := hD
  have hI : xI f4 a5 := hw1.1
  have hG : gOK K g6.2 tt := hw1.2.1
  have eE7 : xEk ([1858, 1859], [], []) f a g f4 a5 g6 := hw1.2.2
  have hE : xEk ([1858, 1859, 1888, 1894, 1900, 1905, 1906], [60, 61, 62, 63, 64, 65, 66, 67, 68, 69, 70, 71, 72, 77, 78, 79, 82], [73]) f a g f4 a5 g6 := xEk_tr hE (xEk_w (by decide +kernel) eE7)
  refine lv_aload_n hx hb dX9_ticksWith_9 rfl (lv_at hl 0 rfl) ?_
  refine va_get (D := D) (ci := 9) (v := .ref (r 82)) (C := RX9) (T := TX9) (N := 10) hx hb hg inC9 hown hK hP 80 rfl rfl 3 (by decide) (hg _ wt2_118) (fun _ h9 => h9) rfl dX9_ticksWith_10 ?_
  refine lv_iconst (v := 0) hx hb dX9_ticksWith_13 (by decide) ?_
  refine lv_bipush (v := (-2)) hx hb dX9_ticksWith_14 (by decide) ?_
  refine va_iast hx hb hK hP hD hS 82 0 rfl rfl (kb_in kc_0 (by decide) (by decide)) dX9_ticksWith_16 (fun H locs hP hD hS => ?_)
  rw [cl_0] at hP hD
  have hP : va_P D vwCl (xX K r f4 (va_up a5 82 (upd (a5 82) 0 (-2))) g6 tx) H := hP
  have hD : va_D A (xX K r f4 (va_up a5 82 (upd (a5 82) 0 (-2))) g6 tx) := hD
  refine k_gen (P := fun z => va_P D vwCl (xX K r f4 z g6 tx) H ∧ va_D A (xX K r f4 z g6 tx) ∧ (xI f4 z) ∧ (gOK K g6.2 tt) ∧ (xEk ([1858, 1859, 1888, 1894, 1900, 1905, 1906], [60, 61, 62, 63, 64, 65, 66, 67, 68, 69, 70, 71, 72, 77, 78, 79, 82], [73]) f a g f4 z g6)) (va_up a5 82 (upd (a5 82) 0 (-2))) ⟨hP, hD, (xI_a hI (by decide)), hG, (xEk_a hE rfl)⟩ (fun a_8 ea_8 hq => ?_)
  obtain ⟨hP, hD, hI, hG, hE⟩ := hq
  refine lv_aload_n hx hb dX9_ticksWith_17 rfl (lv_at hl 0 rfl) ?_
  refine va_get (D := D) (ci := 9) (v := .ref (r 58)) (C := RX9) (T := TX9) (N := 10) hx hb hg inC9 hown hK hP 80 rfl rfl 1 (by decide) (hg _ wt2_116) (fun _ h9 => h9) rfl dX9_ticksWith_18 ?_
  refine lv_bipush (v := 63) hx hb dX9_ticksWith_21 (by decide) ?_
  refine lv_iload_n hx hb dX9_ticksWith_23 rfl (lv_at hl 3 rfl) ?_
  refine lv_aload_n hx hb dX9_ticksWith_24 rfl (lv_at hl 0 rfl) ?_
  refine va_get (D := D) (ci := 9) (v := .ref (r 82)) (C := RX9) (T := TX9) (N := 10) hx hb hg inC9 hown hK hP 80 rfl rfl 3 (by decide) (hg _ wt2_118) (fun _ h9 => h9) rfl dX9_ticksWith_25 ?_
  refine lv_iconst (v := 0) hx hb dX9_ticksWith_28 (by decide) ?_
  refine kIG.callW (As := [.int 63, .int li, .ref (r 82), .int 0]) (rest := []) ⟨hx, hb, hml, hown, hg⟩ (x_3_runL l r f4 a_8 g6 tx tt hT hI hG 63 li 0 kc_0 ) (cwV 4 hg (kgV wt4_232 wt4_233 wt4_234 wt1_10 wt4_235) rfl rfl rfl (by decide +kernel) ⟨by decide, by decide⟩) hV hK hP hD hS hA (58) 3 rfl rfl rfl hl.1 rfl (Nat.le_of_ble_eq_true rfl) dX9_ticksWith_29 ⟨Nat.le_refl _, Nat.le_refl _⟩ (fun v10 u11 H locs hw9 hP hD hS => ?_)
  obtain ⟨f12, a13, g14⟩ := u11
  have hP : va_P D vwCl (xX K r f12 a13 g14 tx) H := hP
  have hD : va_D A (xX K r f12 a13 g14 tx) := hD
  have hI : xI f12 a13 := hw9.2.1
  have hG : gOK K g14.2 tt := hw9.2.2.1
  have eE15 : xEk ([1888, 1894, 1900, 1905, 1906], [60, 61, 62, 63, 64, 65, 66, 67, 68, 69, 70, 71, 72, 77, 78, 79, 82], [73]) f4 a_8 g6 f12 a13 g14 := hw9.2.2.2
  have hE : xEk ([1858, 1859, 1888, 1894, 1900, 1905, 1906], [60, 61, 62, 63, 64, 65, 66, 67, 68, 69, 70, 71, 72, 77, 78, 79, 82], [73]) f a g f12 a13 g14 := xEk_tr hE (xEk_w (by decide +kernel) eE15)
  refine lv_istore (lv' := [(4, .int v10), (0, .ref (r 80)), (1, .int bd), (2, .int cr), (3, .int li)]) hx hb dX9_ticksWith_32 hl (by decide) rfl (fun ls hl => ?_)
  refine lv_aload_n hx hb dX9_ticksWith_34 rfl (lv_at hl 1 rfl) ?_
  refine va_get (D := D) (ci := 9) (v := .ref (r 58)) (C := RX9) (T := TX9) (N := 10) hx hb hg inC9 hown hK hP 80 rfl rfl 1 (by decide) (hg _ wt2_116) (fun _ h9 => h9) rfl dX9_ticksWith_35 ?_
  refine lv_iconst (v := (-1)) hx hb dX9_ticksWith_38 (by decide) ?_
  refine lv_iconst (v := 0) hx hb dX9_ticksWith_39 (by decide) ?_
  refine kVG.callW (As := [.int (-1), .int 0]) (rest := []) ⟨hx, hb, hml, hown, hg⟩ (x_3_teach l r f12 a13 g14 tx tt hT hI hG (-1) 0  ) (cwV 2 hg (kgV wt5_56 wt5_57 wt5_58 wt1_10 wt5_59) rfl rfl rfl (by decide +kernel) ⟨by decide, by decide⟩) hV hK hP hD hS hA (58) 3 rfl rfl rfl hl.1 rfl (Nat.le_of_ble_eq_true rfl) dX9_ticksWith_40 ⟨Nat.le_refl _, Nat.le_refl _⟩ (fun u18 H locs hw16 hP hD hS => ?_)
  obtain ⟨f19, a20, g21⟩ := u18
  have hP : va_P D vwCl (xX K r f19 a20 g21 tx) H := hP
  have hD : va_D A (xX K r f19 a20 g21 tx) := hD
  have hI : xI f19 a20 := hw16.1
  have hG : gOK K g21.2 tt := hw16.2.1
  have eE22 : xEk ([1858, 1859], [], []) f12 a13 g14 f19 a20 g21 := hw16.2.2
  have hE : xEk ([1858, 1859, 1888, 1894, 1900, 1905, 1906], [60, 61, 62, 63, 64, 65, 66, 67, 68, 69, 70, 71, 72, 77, 78, 79, 82], [73]) f a g f19 a20 g21 := xEk_tr hE (xEk_w (by decide +kernel) eE22)
  refine lv_iload hx hb dX9_ticksWith_43 (lv_at hl 0 rfl) ?_
  exact kI_ret (v := v10) hx hb hr hlocks rfl hK hS dX9_ticksWith_45 (f19, a20, g21) hP hD ⟨(kb_any v10), hI, hG, hE⟩
set_option maxHeartbeats 4000000 in
set_option maxRecDepth 100000 in
theorem x_9_bestLesson  (l : Launch) {D : va_G} {K : Nat → ClassId} (r : Nat → Nat) (f : Nat → Int32) (a : Nat → Nat → Int32) (g : xG) (tx tt : va_W) (hT : ∀ c ∈ tt, c ∈ tx) (hI : xI f a) (hG : gOK K g.2 tt) (x : Int32)    : kIG l yX9_bestLesson (Cond.code yX9_bestLesson cX9_bestLesson 7 (some .int) :: kG) (rmD 7 0 0) D K [.ref (r 80), .int x] (xX K r f a g tx) (fun v (u : xS) => kb (-2147483648) v 2147483647 ∧ xI u.1 u.2.1 ∧ gOK K u.2.2.2 tt ∧ xEk ([1858, 1859, 1888, 1894, 1900, 1905, 1906, 2566], [60, 61, 62, 63, 64, 65, 66, 67, 68, 69, 70, 71, 72, 77, 78, 79, 81, 82, 84], [73]) f a g u.1 u.2.1 u.2.2) (fun u => xX K r u.1 u.2.1 u.2.2 tx) 0 0 := by
  refine kIE.of (cc := cX9_bestLesson) (maxL := 7) (ret := (some .int)) (by decide) rfl (Nat.le_of_ble_eq_true rfl) ?_
  intro p e s m below meth c A hx hb hr hml hown hts hlocks hnm hK hP hD hS hA hV ls hl
  have hE : xEk ([1858, 1859, 1888, 1894, 1900, 1905, 1906, 2566], [60, 61, 62, 63, 64, 65, 66, 67, 68, 69, 70, 71, 72, 77, 78, 79, 81, 82, 84], [73]) f a g f a g := xEk_rf
  have hg : ∀ w ∈ kG, w.before _ s = true := fun w h => hts w (List.mem_cons_of_mem _ h)
  have hown : s.vm.findClass RX9 = some m.cls := hown
  have hl : lv_has ls 7 [(0, .ref (r 80)), (1, .int x)] := hl
  refine lv_aload_n hx hb dX9_bestLesson_0 rfl (lv_at hl 0 rfl) ?_
  refine va_get (D := D) (ci := 9) (v := .int (f 2566)) (C := RX9) (T := TX9) (N := 10) hx hb hg inC9 hown hK hP 80 rfl rfl 6 (by decide) (hg _ wt2_121) (fun _ h9 => h9) rfl dX9_bestLesson_1 ?_
  refine lv_topi (fun t1 et1 => ?_)
  have jn171 : ∀ (F168 : Nat → Int32) (B169 : Nat → Nat → Int32) (G170 : xG) (H : Heap) (locs : List Loc) (ls : Array Slot), (xI F168 B169) → (gOK K G170.2 tt) → (xEk ([1858, 1859, 1888, 1894, 1900, 1905, 1906, 2566], [60, 61, 62, 63, 64, 65, 66, 67, 68, 69, 70, 71, 72, 77, 78, 79, 81, 82, 84], [73]) f a g F168 B169 G170) → va_P D vwCl (xX K r F168 B169 G170 tx) H → va_D A (xX K r F168 B169 G170 tx) → va_S A s.heap H locs → lv_has ls 7 [(0, .ref (r 80)), (1, .int x)] → W p l e (rmD 7 0 0) s m ([.ref (r 80), .int x] : List Value).toArray below meth c H locs 0 0 (kQi D (tysK K) (fun v (u : xS) => kb (-2147483648) v 2147483647 ∧ xI u.1 u.2.1 ∧ gOK K u.2.2.2 tt ∧ xEk ([1858, 1859, 1888, 1894, 1900, 1905, 1906, 2566], [60, 61, 62, 63, 64, 65, 66, 67, 68, 69, 70, 71, 72, 77, 78, 79, 81, 82, 84], [73]) f a g u.1 u.2.1 u.2.2) (fun u => xX K r u.1 u.2.1 u.2.2 tx) A below ([.ref (r 80), .int x] : List Value).toArray s 0 0) (F0 m 152 ls []) := by
    intro F168 B169 G170  H locs ls  hI hG hE hP hD hS hl
    refine lv_iload_n hx hb dX9_bestLesson_152 rfl (lv_at hl 1 rfl) ?_
    refine lv_if_lt (tgt := 174) hx hb dX9_bestLesson_153 (by decide) (fun c172 => ?_) (fun c172 => ?_)
    · have h173 := (kc_lt c172)
      have b174 : kb (-2147483648) x (-1) := kr_lt1 h173 (kb_any x) kc_0 (by decide)
      refine lv_iconst (v := (-1)) hx hb dX9_bestLesson_174 (by decide) ?_
      exact kI_ret (v := (-1)) hx hb hr hlocks rfl hK hS dX9_bestLesson_175 (F168, B169, G170) hP hD ⟨(kb_w kc_m1 (by decide) (by decide)), hI, hG, hE⟩
    · have h175 := (kc_nlt c172)
      have b176 : kb 0 x 2147483647 := kr_le2 h175 kc_0 (kb_any x)
      refine lv_iload_n hx hb dX9_bestLesson_156 rfl (lv_at hl 1 rfl) ?_
      refine lv_aload_n hx hb dX9_bestLesson_157 rfl (lv_at hl 0 rfl) ?_
      refine va_get (D := D) (ci := 9) (v := .ref (r 84)) (C := RX9) (T := TX9) (N := 10) hx hb hg inC9 hown hK hP 80 rfl rfl 7 (by decide) (hg _ wt2_122) (fun _ h9 => h9) rfl dX9_bestLesson_158 ?_
      refine va_alen (v := 3) hx hb hK hP 84 0 rfl rfl rfl dX9_bestLesson_161 ?_
      refine lv_icmp_ge (tgt := 174) hx hb dX9_bestLesson_162 (by decide) (fun c177 => ?_) (fun c177 => ?_)
      · have h178 := (kc_le c177)
        have b179 : kb 3 x 2147483647 := kr_le2 h178 kc_3 b176
        refine lv_iconst (v := (-1)) hx hb dX9_bestLesson_174 (by decide) ?_
        exact kI_ret (v := (-1)) hx hb hr hlocks rfl hK hS dX9_bestLesson_175 (F168, B169, G170) hP hD ⟨(kb_w kc_m1 (by decide) (by decide)), hI, hG, hE⟩
      · have h180 := (kc_nle c177)
        have b181 : kb 0 x 2 := kr_lt1 h180 b176 kc_3 (by decide)
        refine lv_aload_n hx hb dX9_bestLesson_165 rfl (lv_at hl 0 rfl) ?_
        refine va_get (D := D) (ci := 9) (v := .ref (r 84)) (C := RX9) (T := TX9) (N := 10) hx hb hg inC9 hown hK hP 80 rfl rfl 7 (by decide) (hg _ wt2_122) (fun _ h9 => h9) rfl dX9_bestLesson_166 ?_
        refine lv_iload_n hx hb dX9_bestLesson_169 rfl (lv_at hl 1 rfl) ?_
        refine va_iald hx hb hK hP 84 0 rfl rfl (kb_in b181 (by decide) (by decide)) dX9_bestLesson_170 ?_
        refine lv_topi (fun t182 et182 => ?_)
        refine lv_goto (tgt := 175) hx hb dX9_bestLesson_171 (by decide) ?_
        exact kI_ret (v := t182) hx hb hr hlocks rfl hK hS dX9_bestLesson_175 (F168, B169, G170) hP hD ⟨(kb_any t182), hI, hG, hE⟩
  refine lv_if_ne (tgt := 152) hx hb dX9_bestLesson_4 (by decide) (fun c183 => ?_) (fun c183 => ?_)
  · exact jn171 f a g _ _ _  hI hG hE hP hD hS (lv_sub hl [0, 1] rfl)
  · have b184 : kb 0 t1 0 := kb_eq c183 kc_0
    refine lv_aload_n hx hb dX9_bestLesson_7 rfl (lv_at hl 0 rfl) ?_
    refine va_get (D := D) (ci := 9) (v := .ref (r 84)) (C := RX9) (T := TX9) (N := 10) hx hb hg inC9 hown hK hP 80 rfl rfl 7 (by decide) (hg _ wt2_122) (fun _ h9 => h9) rfl dX9_bestLesson_8 ?_
    refine lv_iconst (v := (-1)) hx hb dX9_bestLesson_11 (by decide) ?_
    refine kV.callA (q0 := 84) (As := [.ref (r 84), .int (-1)]) (rest := []) ⟨hx, hb, hml, hown, hg⟩ (x_fill l (r 84) 3 (a 84) (-1) (by decide)) (va_cwS 2 hg (kgS wt5_51 wt3_232 wt1_19 wt3_233) rfl rfl rfl (by decide +kernel) ⟨by decide, by decide⟩) hK hP hD hS hA rfl rfl hl.1 rfl (Nat.le_of_ble_eq_true rfl) dX9_bestLesson_12 ⟨by decide, by decide⟩ (fun u185 H locs hw186 hP hD hS => ?_)
    have hP : va_P D vwCl (xX K r f (va_up a 84 u185) g tx) H := hP
    have hD : va_D A (xX K r f (va_up a 84 u185) g tx) := hD
    refine k_gen (P := fun z => va_P D vwCl (xX K r f z g tx) H ∧ va_D A (xX K r f z g tx) ∧ (xI f z) ∧ (gOK K g.2 tt) ∧ (xEk ([1858, 1859, 1888, 1894, 1900, 1905, 1906, 2566], [60, 61, 62, 63, 64, 65, 66, 67, 68, 69, 70, 71, 72, 77, 78, 79, 81, 82, 84], [73]) f a g f z g)) (va_up a 84 u185) ⟨hP, hD, (xI_a hI (by decide)), hG, (xEk_a hE rfl)⟩ (fun a_187 ea_187 hq => ?_)
    obtain ⟨hP, hD, hI, hG, hE⟩ := hq
    refine lv_aload_n hx hb dX9_bestLesson_15 rfl (lv_at hl 0 rfl) ?_
    refine kIG.callW (As := []) (rest := []) ⟨hx, hb, hml, hown, hg⟩ (x_9_planTicks l r f a_187 g tx tt hT hI hG   ) (cwV 0 hg (kgV wt5_27 wt4_229 wt4_230 wt1_11 wt4_231) rfl rfl rfl (by decide +kernel) ⟨by decide, by decide⟩) hV hK hP hD hS hA (80) 9 rfl rfl rfl hl.1 rfl (Nat.le_of_ble_eq_true rfl) dX9_bestLesson_16 ⟨Nat.le_refl _, Nat.le_refl _⟩ (fun v189 u190 H locs hw188 hP hD hS => ?_)
    obtain ⟨f191, a192, g193⟩ := u190
    have hP : va_P D vwCl (xX K r f191 a192 g193 tx) H := hP
    have hD : va_D A (xX K r f191 a192 g193 tx) := hD
    have hI : xI f191 a192 := hw188.2.1
    have hG : gOK K g193.2 tt := hw188.2.2.1
    have eE194 : xEk ([1888, 1894, 1900, 1905, 1906], [60, 61, 62, 63, 64, 65, 66, 67, 68, 69, 70, 71, 72, 77, 78, 79, 81], [73]) f a_187 g f191 a192 g193 := hw188.2.2.2
    have hE : xEk ([1858, 1859, 1888, 1894, 1900, 1905, 1906, 2566], [60, 61, 62, 63, 64, 65, 66, 67, 68, 69, 70, 71, 72, 77, 78, 79, 81, 82, 84], [73]) f a g f191 a192 g193 := xEk_tr hE (xEk_w (by decide +kernel) eE194)
    refine lv_istore_n (lv' := [(2, .int v189), (0, .ref (r 80)), (1, .int x)]) hx hb dX9_bestLesson_19 rfl hl (by decide) rfl (fun ls hl => ?_)
    refine lv_iload_n hx hb dX9_bestLesson_20 rfl (lv_at hl 0 rfl) ?_
    refine lv_iconst (v := (-1)) hx hb dX9_bestLesson_21 (by decide) ?_
    have jn198 : ∀ (H : Heap) (locs : List Loc) (ls : Array Slot) (z197 : Int32), va_P D vwCl (xX K r f191 a192 g193 tx) H → va_D A (xX K r f191 a192 g193 tx) → va_S A s.heap H locs → lv_has ls 7 [(2, .int v189), (0, .ref (r 80)), (1, .int x)] → W p l e (rmD 7 0 0) s m ([.ref (r 80), .int x] : List Value).toArray below meth c H locs 0 0 (kQi D (tysK K) (fun v (u : xS) => kb (-2147483648) v 2147483647 ∧ xI u.1 u.2.1 ∧ gOK K u.2.2.2 tt ∧ xEk ([1858, 1859, 1888, 1894, 1900, 1905, 1906, 2566], [60, 61, 62, 63, 64, 65, 66, 67, 68, 69, 70, 71, 72, 77, 78, 79, 81, 82, 84], [73]) f a g u.1 u.2.1 u.2.2) (fun u => xX K r u.1 u.2.1 u.2.2 tx) A below ([.ref (r 80), .int x] : List Value).toArray s 0 0) (F0 m 34 ls [.int z197]) := by
      intro  H locs ls z197  hP hD hS hl
      refine lv_istore_n (lv' := [(3, .int z197), (2, .int v189), (0, .ref (r 80)), (1, .int x)]) hx hb dX9_bestLesson_34 rfl hl (by decide) rfl (fun ls hl => ?_)
      refine lv_iconst (v := 0) hx hb dX9_bestLesson_35 (by decide) ?_
      refine lv_istore (lv' := [(4, .int 0), (3, .int z197), (2, .int v189), (0, .ref (r 80)), (1, .int x)]) hx hb dX9_bestLesson_36 hl (by decide) rfl (fun ls hl => ?_)
      have lp204 : ∀ (n205 : Nat) (F201 : Nat → Int32) (B202 : Nat → Nat → Int32) (G203 : xG) (H : Heap) (locs : List Loc) (ls : Array Slot) (y199 : Int32) (y200 : Int32), (6 < y199.toInt + (n205 : Int)) → (xI F201 B202) → (gOK K G203.2 tt) → (xEk ([1858, 1859, 1888, 1894, 1900, 1905, 1906, 2566], [60, 61, 62, 63, 64, 65, 66, 67, 68, 69, 70, 71, 72, 77, 78, 79, 81, 82, 84], [73]) f a g F201 B202 G203) → (kb 0 y199 6) → va_P D vwCl (xX K r F201 B202 G203 tx) H → va_D A (xX K r F201 B202 G203 tx) → va_S A s.heap H locs → lv_has ls 7 [(4, .int y199), (3, .int y200), (2, .int v189), (0, .ref (r 80)), (1, .int x)] → W p l e (rmD 7 0 0) s m ([.ref (r 80), .int x] : List Value).toArray below meth c H locs 0 0 (kQi D (tysK K) (fun v (u : xS) => kb (-2147483648) v 2147483647 ∧ xI u.1 u.2.1 ∧ gOK K u.2.2.2 tt ∧ xEk ([1858, 1859, 1888, 1894, 1900, 1905, 1906, 2566], [60, 61, 62, 63, 64, 65, 66, 67, 68, 69, 70, 71, 72, 77, 78, 79, 81, 82, 84], [73]) f a g u.1 u.2.1 u.2.2) (fun u => xX K r u.1 u.2.1 u.2.2 tx) A below ([.ref (r 80), .int x] : List Value).toArray s 0 0) (F0 m 38 ls []) := by
        intro n205
        induction n205 with
        | zero =>
          intro  F201 B202 G203  H locs ls y199 y200 hmlp204 hI hG hE b206 hP hD hS hl
          exact (by have h1 := b206.2; have h2 := hmlp204; omega : False).elim
        | succ n205 ihlp204 =>
          intro  F201 B202 G203  H locs ls y199 y200 hmlp204 hI hG hE b206 hP hD hS hl
          refine lv_iload hx hb dX9_bestLesson_38 (lv_at hl 0 rfl) ?_
          refine lv_aload_n hx hb dX9_bestLesson_40 rfl (lv_at hl 3 rfl) ?_
          refine va_get (D := D) (ci := 9) (v := .ref (r 1)) (C := RX9) (T := TX9) (N := 10) hx hb hg inC9 hown hK hP 80 rfl rfl 0 (by decide) (hg _ wt2_115) (fun _ h9 => h9) rfl dX9_bestLesson_41 ?_
          refine va_get (D := D) (ci := 7) (v := .int (F201 38)) (C := RX7) (T := TX7) (N := 20) hx hb hg inC7 hown hK hP 1 rfl rfl 6 (by decide) (hg _ wt1_107) (fun _ h9 => h9) rfl dX9_bestLesson_44 ?_
          refine lv_topi (fun t207 et207 => ?_)
          have jn276 : ∀ (H : Heap) (locs : List Loc) (ls : Array Slot), va_P D vwCl (xX K r F201 B202 G203 tx) H → va_D A (xX K r F201 B202 G203 tx) → va_S A s.heap H locs → lv_has ls 7 [(4, .int y199), (3, .int y200), (2, .int v189), (0, .ref (r 80)), (1, .int x)] → W p l e (rmD 7 0 0) s m ([.ref (r 80), .int x] : List Value).toArray below meth c H locs 0 0 (kQi D (tysK K) (fun v (u : xS) => kb (-2147483648) v 2147483647 ∧ xI u.1 u.2.1 ∧ gOK K u.2.2.2 tt ∧ xEk ([1858, 1859, 1888, 1894, 1900, 1905, 1906, 2566], [60, 61, 62, 63, 64, 65, 66, 67, 68, 69, 70, 71, 72, 77, 78, 79, 81, 82, 84], [73]) f a g u.1 u.2.1 u.2.2) (fun u => xX K r u.1 u.2.1 u.2.2 tx) A below ([.ref (r 80), .int x] : List Value).toArray s 0 0) (F0 m 147 ls []) := by
            intro  H locs ls   hP hD hS hl
            refine lv_aload_n hx hb dX9_bestLesson_147 rfl (lv_at hl 3 rfl) ?_
            refine lv_iconst (v := 1) hx hb dX9_bestLesson_148 (by decide) ?_
            refine va_put (D := D) (ci := 9) (v := .int 1) (ty := .boolean) (C := RX9) (T := TX9) (N := 10) hx hb hg inC9 tyX9 tyX9_ok nmX9 hown hK hP hD hS 80 rfl rfl 6 (by decide) (hg _ wt2_121) (fun _ h9 => h9) rfl (by decide +kernel) rfl rfl (Nat.le_of_ble_eq_true rfl) dX9_bestLesson_149 (fun H locs hP hD hS => ?_)
            have hP : va_P D vwCl (xX K r (upd F201 2566 1) B202 G203 tx) H := hP
            have hD : va_D A (xX K r (upd F201 2566 1) B202 G203 tx) := hD
            refine k_gen (P := fun z => va_P D vwCl (xX K r z B202 G203 tx) H ∧ va_D A (xX K r z B202 G203 tx) ∧ (xI z B202) ∧ (gOK K G203.2 tt) ∧ (xEk ([1858, 1859, 1888, 1894, 1900, 1905, 1906, 2566], [60, 61, 62, 63, 64, 65, 66, 67, 68, 69, 70, 71, 72, 77, 78, 79, 81, 82, 84], [73]) f a g z B202 G203)) (upd F201 2566 1) ⟨hP, hD, (xI_f hI (fI_st hI.1 2566 (kb_any _) (by decide) (by decide))), hG, (xEk_f hE rfl)⟩ (fun f_277 ef_277 hq => ?_)
            obtain ⟨hP, hD, hI, hG, hE⟩ := hq
            exact jn171 f_277 B202 G203 _ _ _  hI hG hE hP hD hS (lv_sub hl [3, 4] rfl)
          refine lv_icmp_ge (tgt := 147) hx hb dX9_bestLesson_47 (by decide) (fun c278 => ?_) (fun c278 => ?_)
          · have h279 := (kc_le c278)
            have b280 : kb (-2147483648) t207 6 := kr_le1 h279 (kb_any t207) b206
            exact jn276 _ _ _   hP hD hS (lv_sub hl [0, 1, 2, 3, 4] rfl)
          · have h281 := (kc_nle c278)
            have b282 : kb 1 t207 2147483647 := kr_lt2 h281 b206 (kb_any t207) (by decide)
            refine lv_iload hx hb dX9_bestLesson_50 (lv_at hl 0 rfl) ?_
            refine lv_bipush (v := 6) hx hb dX9_bestLesson_52 (by decide) ?_
            refine lv_icmp_ge (tgt := 147) hx hb dX9_bestLesson_54 (by decide) (fun c283 => ?_) (fun c283 => ?_)
            · have h284 := (kc_le c283)
              have b285 : kb 6 y199 6 := kr_le2 h284 kc_6 b206
              exact jn276 _ _ _   hP hD hS (lv_sub hl [0, 1, 2, 3, 4] rfl)
            · have h286 := (kc_nle c283)
              have b287 : kb 0 y199 5 := kr_lt1 h286 b206 kc_6 (by decide)
              refine lv_iconst (v := 0) hx hb dX9_bestLesson_57 (by decide) ?_
              refine lv_istore (lv' := [(5, .int 0), (4, .int y199), (3, .int y200), (2, .int v189), (0, .ref (r 80)), (1, .int x)]) hx hb dX9_bestLesson_58 hl (by decide) rfl (fun ls hl => ?_)
              have lp293 : ∀ (n294 : Nat) (F290 : Nat → Int32) (B291 : Nat → Nat → Int32) (G292 : xG) (H : Heap) (locs : List Loc) (ls : Array Slot) (y288 : Int32) (y289 : Int32), (4 < y288.toInt + (n294 : Int)) → (xI F290 B291) → (gOK K G292.2 tt) → (xEk ([1858, 1859, 1888, 1894, 1900, 1905, 1906, 2566], [60, 61, 62, 63, 64, 65, 66, 67, 68, 69, 70, 71, 72, 77, 78, 79, 81, 82, 84], [73]) f a g F290 B291 G292) → (kb 0 y288 4) → va_P D vwCl (xX K r F290 B291 G292 tx) H → va_D A (xX K r F290 B291 G292 tx) → va_S A s.heap H locs → lv_has ls 7 [(5, .int y288), (4, .int y199), (3, .int y289), (2, .int v189), (0, .ref (r 80)), (1, .int x)] → W p l e (rmD 7 0 0) s m ([.ref (r 80), .int x] : List Value).toArray below meth c H locs 0 0 (kQi D (tysK K) (fun v (u : xS) => kb (-2147483648) v 2147483647 ∧ xI u.1 u.2.1 ∧ gOK K u.2.2.2 tt ∧ xEk ([1858, 1859, 1888, 1894, 1900, 1905, 1906, 2566], [60, 61, 62, 63, 64, 65, 66, 67, 68, 69, 70, 71, 72, 77, 78, 79, 81, 82, 84], [73]) f a g u.1 u.2.1 u.2.2) (fun u => xX K r u.1 u.2.1 u.2.2 tx) A below ([.ref (r 80), .int x] : List Value).toArray s 0 0) (F0 m 60 ls []) := by
                intro n294
                induction n294 with
                | zero =>
                  intro  F290 B291 G292  H locs ls y288 y289 hmlp293 hI hG hE b295 hP hD hS hl
                  exact (by have h1 := b295.2; have h2 := hmlp293; omega : False).elim
                | succ n294 ihlp293 =>
                  intro  F290 B291 G292  H locs ls y288 y289 hmlp293 hI hG hE b295 hP hD hS hl
                  refine lv_iload hx hb dX9_bestLesson_60 (lv_at hl 0 rfl) ?_
                  refine lv_iconst (v := 4) hx hb dX9_bestLesson_62 (by decide) ?_
                  refine lv_icmp_ge (tgt := 141) hx hb dX9_bestLesson_63 (by decide) (fun c296 => ?_) (fun c296 => ?_)
                  · have h297 := (kc_le c296)
                    have b298 : kb 4 y288 4 := kr_le2 h297 kc_4 b295
                    obtain ⟨t299, et299⟩ : ∃ z : Int32, z = y199 + Int32.ofInt 1 := ⟨_, rfl⟩
                    have qt299 : t299.toInt = y199.toInt + 1 := by rw [et299]; exact km_inc b287 (by decide) (by decide)
                    have b300 : kb 1 t299 6 := kb_inc (k := 1) qt299 b287
                    refine lv_iinc (v := t299) (lv' := [(4, .int t299), (5, .int y288), (3, .int y289), (2, .int v189), (0, .ref (r 80)), (1, .int x)]) hx hb dX9_bestLesson_141 hl (k := 1) rfl et299.symm (by decide) rfl (fun ls hl => ?_)
                    refine lv_goto (tgt := 38) hx hb dX9_bestLesson_144 (by decide) ?_
                    exact ihlp204  F290 B291 G292 _ _ _ t299 y289 (km_up hmlp204 qt299) hI hG hE (kb_w b300 (by decide) (by decide)) hP hD hS (lv_sub hl [0, 2, 3, 4, 5] rfl)
                  · have h301 := (kc_nle c296)
                    have b302 : kb 0 y288 3 := kr_lt1 h301 b295 kc_4 (by decide)
                    refine lv_aload_n hx hb dX9_bestLesson_66 rfl (lv_at hl 4 rfl) ?_
                    refine va_get (D := D) (ci := 9) (v := .ref (r 1)) (C := RX9) (T := TX9) (N := 10) hx hb hg inC9 hown hK hP 80 rfl rfl 0 (by decide) (hg _ wt2_115) (fun _ h9 => h9) rfl dX9_bestLesson_67 ?_
                    refine va_get (D := D) (ci := 7) (v := .ref (r 7)) (C := RX7) (T := TX7) (N := 20) hx hb hg inC7 hown hK hP 1 rfl rfl 7 (by decide) (hg _ wt1_113) (fun _ h9 => h9) rfl dX9_bestLesson_70 ?_
                    refine lv_iload hx hb dX9_bestLesson_73 (lv_at hl 1 rfl) ?_
                    refine va_iald hx hb hK hP 7 0 rfl rfl (kb_in b287 (by decide) (by decide)) dX9_bestLesson_75 ?_
                    refine lv_topi (fun t303 et303 => ?_)
                    refine lv_iload hx hb dX9_bestLesson_76 (lv_at hl 0 rfl) ?_
                    refine lv_ishr hx hb dX9_bestLesson_78 ?_
                    refine lv_topi (fun t304 et304 => ?_)
                    refine lv_iconst (v := 1) hx hb dX9_bestLesson_79 (by decide) ?_
                    refine lv_iand hx hb dX9_bestLesson_80 ?_
                    refine lv_topi (fun t305 et305 => ?_)
                    have b306 : kb 0 t305 1 := kb_eq et305 (kb_and 1 (by decide) (by decide))
                    refine lv_iconst (v := 1) hx hb dX9_bestLesson_81 (by decide) ?_
                    have jn320 : ∀ (F317 : Nat → Int32) (B318 : Nat → Nat → Int32) (G319 : xG) (H : Heap) (locs : List Loc) (ls : Array Slot) (z316 : Int32), (xI F317 B318) → (gOK K G319.2 tt) → (xEk ([1858, 1859, 1888, 1894, 1900, 1905, 1906, 2566], [60, 61, 62, 63, 64, 65, 66, 67, 68, 69, 70, 71, 72, 77, 78, 79, 81, 82, 84], [73]) f a g F317 B318 G319) → va_P D vwCl (xX K r F317 B318 G319 tx) H → va_D A (xX K r F317 B318 G319 tx) → va_S A s.heap H locs → lv_has ls 7 [(5, .int y288), (4, .int y199), (3, .int y289), (2, .int v189), (0, .ref (r 80)), (1, .int x)] → W p l e (rmD 7 0 0) s m ([.ref (r 80), .int x] : List Value).toArray below meth c H locs 0 0 (kQi D (tysK K) (fun v (u : xS) => kb (-2147483648) v 2147483647 ∧ xI u.1 u.2.1 ∧ gOK K u.2.2.2 tt ∧ xEk ([1858, 1859, 1888, 1894, 1900, 1905, 1906, 2566], [60, 61, 62, 63, 64, 65, 66, 67, 68, 69, 70, 71, 72, 77, 78, 79, 81, 82, 84], [73]) f a g u.1 u.2.1 u.2.2) (fun u => xX K r u.1 u.2.1 u.2.2 tx) A below ([.ref (r 80), .int x] : List Value).toArray s 0 0) (F0 m 98 ls [.int z316]) := by
                      intro F317 B318 G319  H locs ls z316 hI hG hE hP hD hS hl
                      refine lv_istore (lv' := [(6, .int z316), (5, .int y288), (4, .int y199), (3, .int y289), (2, .int v189), (0, .ref (r 80)), (1, .int x)]) hx hb dX9_bestLesson_98 hl (by decide) rfl (fun ls hl => ?_)
                      refine lv_iload hx hb dX9_bestLesson_100 (lv_at hl 0 rfl) ?_
                      refine lv_iconst (v := (-1)) hx hb dX9_bestLesson_102 (by decide) ?_
                      have jn328 : ∀ (B327 : Nat → Nat → Int32) (H : Heap) (locs : List Loc) (ls : Array Slot) (y326 : Int32), (xI F317 B327) → (gOK K G319.2 tt) → (xEk ([1858, 1859, 1888, 1894, 1900, 1905, 1906, 2566], [60, 61, 62, 63, 64, 65, 66, 67, 68, 69, 70, 71, 72, 77, 78, 79, 81, 82, 84], [73]) f a g F317 B327 G319) → va_P D vwCl (xX K r F317 B327 G319 tx) H → va_D A (xX K r F317 B327 G319 tx) → va_S A s.heap H locs → lv_has ls 7 [(6, .int z316), (5, .int y288), (4, .int y199), (3, .int y326), (2, .int v189), (0, .ref (r 80)), (1, .int x)] → W p l e (rmD 7 0 0) s m ([.ref (r 80), .int x] : List Value).toArray below meth c H locs 0 0 (kQi D (tysK K) (fun v (u : xS) => kb (-2147483648) v 2147483647 ∧ xI u.1 u.2.1 ∧ gOK K u.2.2.2 tt ∧ xEk ([1858, 1859, 1888, 1894, 1900, 1905, 1906, 2566], [60, 61, 62, 63, 64, 65, 66, 67, 68, 69, 70, 71, 72, 77, 78, 79, 81, 82, 84], [73]) f a g u.1 u.2.1 u.2.2) (fun u => xX K r u.1 u.2.1 u.2.2 tx) A below ([.ref (r 80), .int x] : List Value).toArray s 0 0) (F0 m 135 ls []) := by
                        intro B327  H locs ls y326 hI hG hE hP hD hS hl
                        obtain ⟨t329, et329⟩ : ∃ z : Int32, z = y288 + Int32.ofInt 1 := ⟨_, rfl⟩
                        have qt329 : t329.toInt = y288.toInt + 1 := by rw [et329]; exact km_inc b302 (by decide) (by decide)
                        have b330 : kb 1 t329 4 := kb_inc (k := 1) qt329 b302
                        refine lv_iinc (v := t329) (lv' := [(5, .int t329), (6, .int z316), (4, .int y199), (3, .int y326), (2, .int v189), (0, .ref (r 80)), (1, .int x)]) hx hb dX9_bestLesson_135 hl (k := 1) rfl et329.symm (by decide) rfl (fun ls hl => ?_)
                        refine lv_goto (tgt := 60) hx hb dX9_bestLesson_138 (by decide) ?_
                        exact ihlp293  F317 B327 G319 _ _ _ t329 y326 (km_up hmlp293 qt329) hI hG hE (kb_w b330 (by decide) (by decide)) hP hD hS (lv_sub hl [0, 2, 3, 4, 5, 6] rfl)
                      refine lv_icmp_eq (tgt := 135) hx hb dX9_bestLesson_103 (by decide) (fun c331 => ?_) (fun c331 => ?_)
                      · have b332 : kb (-1) z316 (-1) := kb_eq c331 kc_m1
                        exact jn328 B318 _ _ _ y289 hI hG hE hP hD hS (lv_sub hl [0, 1, 2, 3, 4, 5, 6] rfl)
                      · refine lv_aload_n hx hb dX9_bestLesson_106 rfl (lv_at hl 5 rfl) ?_
                        refine va_get (D := D) (ci := 9) (v := .ref (r 84)) (C := RX9) (T := TX9) (N := 10) hx hb hg inC9 hown hK hP 80 rfl rfl 7 (by decide) (hg _ wt2_122) (fun _ h9 => h9) rfl dX9_bestLesson_107 ?_
                        refine lv_iconst (v := 0) hx hb dX9_bestLesson_110 (by decide) ?_
                        refine lv_iload hx hb dX9_bestLesson_111 (lv_at hl 2 rfl) ?_
                        refine va_iast hx hb hK hP hD hS 84 0 rfl rfl (kb_in kc_0 (by decide) (by decide)) dX9_bestLesson_113 (fun H locs hP hD hS => ?_)
                        rw [cl_0] at hP hD
                        have hP : va_P D vwCl (xX K r F317 (va_up B318 84 (upd (B318 84) 0 y199)) G319 tx) H := hP
                        have hD : va_D A (xX K r F317 (va_up B318 84 (upd (B318 84) 0 y199)) G319 tx) := hD
                        refine k_gen (P := fun z => va_P D vwCl (xX K r F317 z G319 tx) H ∧ va_D A (xX K r F317 z G319 tx) ∧ (xI F317 z) ∧ (gOK K G319.2 tt) ∧ (xEk ([1858, 1859, 1888, 1894, 1900, 1905, 1906, 2566], [60, 61, 62, 63, 64, 65, 66, 67, 68, 69, 70, 71, 72, 77, 78, 79, 81, 82, 84], [73]) f a g F317 z G319)) (va_up B318 84 (upd (B318 84) 0 y199)) ⟨hP, hD, (xI_a hI (by decide)), hG, (xEk_a hE rfl)⟩ (fun a_333 ea_333 hq => ?_)
                        obtain ⟨hP, hD, hI, hG, hE⟩ := hq
                        refine lv_aload_n hx hb dX9_bestLesson_114 rfl (lv_at hl 5 rfl) ?_
                        refine va_get (D := D) (ci := 9) (v := .ref (r 84)) (C := RX9) (T := TX9) (N := 10) hx hb hg inC9 hown hK hP 80 rfl rfl 7 (by decide) (hg _ wt2_122) (fun _ h9 => h9) rfl dX9_bestLesson_115 ?_
                        refine lv_iconst (v := 1) hx hb dX9_bestLesson_118 (by decide) ?_
                        refine lv_iload hx hb dX9_bestLesson_119 (lv_at hl 1 rfl) ?_
                        refine va_iast hx hb hK hP hD hS 84 0 rfl rfl (kb_in kc_1 (by decide) (by decide)) dX9_bestLesson_121 (fun H locs hP hD hS => ?_)
                        rw [cl_1] at hP hD
                        have hP : va_P D vwCl (xX K r F317 (va_up a_333 84 (upd (a_333 84) 1 y288)) G319 tx) H := hP
                        have hD : va_D A (xX K r F317 (va_up a_333 84 (upd (a_333 84) 1 y288)) G319 tx) := hD
                        refine k_gen (P := fun z => va_P D vwCl (xX K r F317 z G319 tx) H ∧ va_D A (xX K r F317 z G319 tx) ∧ (xI F317 z) ∧ (gOK K G319.2 tt) ∧ (xEk ([1858, 1859, 1888, 1894, 1900, 1905, 1906, 2566], [60, 61, 62, 63, 64, 65, 66, 67, 68, 69, 70, 71, 72, 77, 78, 79, 81, 82, 84], [73]) f a g F317 z G319)) (va_up a_333 84 (upd (a_333 84) 1 y288)) ⟨hP, hD, (xI_a hI (by decide)), hG, (xEk_a hE rfl)⟩ (fun a_334 ea_334 hq => ?_)
                        obtain ⟨hP, hD, hI, hG, hE⟩ := hq
                        refine lv_aload_n hx hb dX9_bestLesson_122 rfl (lv_at hl 5 rfl) ?_
                        refine va_get (D := D) (ci := 9) (v := .ref (r 84)) (C := RX9) (T := TX9) (N := 10) hx hb hg inC9 hown hK hP 80 rfl rfl 7 (by decide) (hg _ wt2_122) (fun _ h9 => h9) rfl dX9_bestLesson_123 ?_
                        refine lv_iconst (v := 2) hx hb dX9_bestLesson_126 (by decide) ?_
                        refine lv_iload hx hb dX9_bestLesson_127 (lv_at hl 0 rfl) ?_
                        refine va_iast hx hb hK hP hD hS 84 0 rfl rfl (kb_in kc_2 (by decide) (by decide)) dX9_bestLesson_129 (fun H locs hP hD hS => ?_)
                        rw [cl_2] at hP hD
                        have hP : va_P D vwCl (xX K r F317 (va_up a_334 84 (upd (a_334 84) 2 z316)) G319 tx) H := hP
                        have hD : va_D A (xX K r F317 (va_up a_334 84 (upd (a_334 84) 2 z316)) G319 tx) := hD
                        refine k_gen (P := fun z => va_P D vwCl (xX K r F317 z G319 tx) H ∧ va_D A (xX K r F317 z G319 tx) ∧ (xI F317 z) ∧ (gOK K G319.2 tt) ∧ (xEk ([1858, 1859, 1888, 1894, 1900, 1905, 1906, 2566], [60, 61, 62, 63, 64, 65, 66, 67, 68, 69, 70, 71, 72, 77, 78, 79, 81, 82, 84], [73]) f a g F317 z G319)) (va_up a_334 84 (upd (a_334 84) 2 z316)) ⟨hP, hD, (xI_a hI (by decide)), hG, (xEk_a hE rfl)⟩ (fun a_335 ea_335 hq => ?_)
                        obtain ⟨hP, hD, hI, hG, hE⟩ := hq
                        refine lv_iload hx hb dX9_bestLesson_130 (lv_at hl 0 rfl) ?_
                        refine lv_iconst (v := 1) hx hb dX9_bestLesson_132 (by decide) ?_
                        refine lv_isub hx hb dX9_bestLesson_133 ?_
                        refine lv_topi (fun t336 et336 => ?_)
                        refine lv_istore_n (lv' := [(3, .int t336), (6, .int z316), (5, .int y288), (4, .int y199), (2, .int v189), (0, .ref (r 80)), (1, .int x)]) hx hb dX9_bestLesson_134 rfl hl (by decide) rfl (fun ls hl => ?_)
                        exact jn328 a_335 _ _ _ t336 hI hG hE hP hD hS (lv_sub hl [1, 2, 3, 0, 4, 5, 6] rfl)
                    refine lv_icmp_ne (tgt := 89) hx hb dX9_bestLesson_82 (by decide) (fun c337 => ?_) (fun c337 => ?_)
                    · have b338 : kb 0 t305 0 := kr_neh c337 b306 kc_1 (by decide)
                      refine lv_aload_n hx hb dX9_bestLesson_89 rfl (lv_at hl 4 rfl) ?_
                      refine lv_iload hx hb dX9_bestLesson_90 (lv_at hl 1 rfl) ?_
                      refine lv_iload hx hb dX9_bestLesson_92 (lv_at hl 0 rfl) ?_
                      refine lv_iload_n hx hb dX9_bestLesson_94 rfl (lv_at hl 2 rfl) ?_
                      refine kIG.callW (As := [.int y199, .int y288, .int y289]) (rest := []) ⟨hx, hb, hml, hown, hg⟩ (x_9_ticksWith l r F290 B291 G292 tx tt hT hI hG y199 y288 y289  ) (cwV 3 hg (kgV wt5_52 wt5_54 wp3_1 wt1_11 wt5_55) rfl rfl rfl (by decide +kernel) ⟨by decide, by decide⟩) hV hK hP hD hS hA (80) 9 rfl rfl rfl hl.1 rfl (Nat.le_of_ble_eq_true rfl) dX9_bestLesson_95 ⟨Nat.le_refl _, Nat.le_refl _⟩ (fun v340 u341 H locs hw339 hP hD hS => ?_)
                      obtain ⟨f342, a343, g344⟩ := u341
                      have hP : va_P D vwCl (xX K r f342 a343 g344 tx) H := hP
                      have hD : va_D A (xX K r f342 a343 g344 tx) := hD
                      have hI : xI f342 a343 := hw339.2.1
                      have hG : gOK K g344.2 tt := hw339.2.2.1
                      have eE345 : xEk ([1858, 1859, 1888, 1894, 1900, 1905, 1906], [60, 61, 62, 63, 64, 65, 66, 67, 68, 69, 70, 71, 72, 77, 78, 79, 82], [73]) F290 B291 G292 f342 a343 g344 := hw339.2.2.2
                      have hE : xEk ([1858, 1859, 1888, 1894, 1900, 1905, 1906, 2566], [60, 61, 62, 63, 64, 65, 66, 67, 68, 69, 70, 71, 72, 77, 78, 79, 81, 82, 84], [73]) f a g f342 a343 g344 := xEk_tr hE (xEk_w (by decide +kernel) eE345)
                      exact jn320 f342 a343 g344 _ _ _ v340 hI hG hE hP hD hS (lv_sub hl [0, 1, 2, 3, 4, 5] rfl)
                    · have b346 : kb 1 t305 1 := kb_eq c337 kc_1
                      refine lv_iconst (v := (-1)) hx hb dX9_bestLesson_85 (by decide) ?_
                      refine lv_goto (tgt := 98) hx hb dX9_bestLesson_86 (by decide) ?_
                      exact jn320 F290 B291 G292 _ _ _ (-1) hI hG hE hP hD hS (lv_sub hl [0, 1, 2, 3, 4, 5] rfl)
              exact lp293 (5)  F201 B202 G203 _ _ _ 0 y200 (by have h1 := (kc_0); unfold kb at h1; omega) hI hG hE (kb_w kc_0 (by decide) (by decide)) hP hD hS (lv_sub hl [0, 1, 2, 3, 4, 5] rfl)
      exact lp204 (7)  f191 a192 g193 _ _ _ 0 z197 (by have h1 := (kc_0); unfold kb at h1; omega) hI hG hE (kb_w kc_0 (by decide) (by decide)) hP hD hS (lv_sub hl [0, 1, 2, 3, 4] rfl)
    refine lv_icmp_ne (tgt := 31) hx hb dX9_bestLesson_22 (by decide) (fun c347 => ?_) (fun c347 => ?_)
    · refine lv_iload_n hx hb dX9_bestLesson_31 rfl (lv_at hl 0 rfl) ?_
      refine lv_iconst (v := 1) hx hb dX9_bestLesson_32 (by decide) ?_
      refine lv_isub hx hb dX9_bestLesson_33 ?_
      refine lv_topi (fun t348 et348 => ?_)
      exact jn198 _ _ _ t348  hP hD hS (lv_sub hl [0, 1, 2] rfl)
    · have b349 : kb (-1) v189 (-1) := kb_eq c347 kc_m1
      refine lv_sipush (v := 200) hx hb dX9_bestLesson_25 (by decide) ?_
      refine lv_goto (tgt := 34) hx hb dX9_bestLesson_28 (by decide) ?_
      exact jn198 _ _ _ 200  hP hD hS (lv_sub hl [0, 1, 2] rfl)
set_option maxHeartbeats 4000000 in
set_option maxRecDepth 100000 in
theorem x_9_openSets  (l : Launch) {D : va_G} {K : Nat → ClassId} (r : Nat → Nat) (f : Nat → Int32) (a : Nat → Nat → Int32) (g : xG) (tx tt : va_W) (hT : ∀ c ∈ tt, c ∈ tx) (hI : xI f a) (hG : gOK K g.2 tt)     : kVG l yX9_openSets (Cond.code yX9_openSets cX9_openSets 3 none :: kG) (rmD 2 0 0) D K [.ref (r 80)] (xX K r f a g tx) (fun (u : xS) => xI u.1 u.2.1 ∧ gOK K u.2.2.2 tt ∧ xEk ([2565], [83], []) f a g u.1 u.2.1 u.2.2) (fun u => xX K r u.1 u.2.1 u.2.2 tx) 0 0 := by
  refine kVG.of (cc := cX9_openSets) (maxL := 3) (ret := none) (by decide) rfl (Nat.le_of_ble_eq_true rfl) ?_
  intro p e s m below meth c A hx hb hr hml hown hts hlocks hnm hK hP hD hS hA hV ls hl
  have hE : xEk ([2565], [83], []) f a g f a g := xEk_rf
  have hg : ∀ w ∈ kG, w.before _ s = true := fun w h => hts w (List.mem_cons_of_mem _ h)
  have hown : s.vm.findClass RX9 = some m.cls := hown
  have hl : lv_has ls 3 [(0, .ref (r 80))] := hl
  refine lv_bipush (v := 40) hx hb dX9_openSets_0 (by decide) ?_
  refine lv_aload_n hx hb dX9_openSets_2 rfl (lv_at hl 0 rfl) ?_
  refine va_get (D := D) (ci := 9) (v := .ref (r 1)) (C := RX9) (T := TX9) (N := 10) hx hb hg inC9 hown hK hP 80 rfl rfl 0 (by decide) (hg _ wt2_115) (fun _ h9 => h9) rfl dX9_openSets_3 ?_
  refine va_get (D := D) (ci := 7) (v := .ref (r 11)) (C := RX7) (T := TX7) (N := 20) hx hb hg inC7 hown hK hP 1 rfl rfl 11 (by decide) (hg _ wt1_133) (fun _ h9 => h9) rfl dX9_openSets_6 ?_
  refine lv_iconst (v := 1) hx hb dX9_openSets_9 (by decide) ?_
  refine va_iald hx hb hK hP 11 0 rfl rfl (kb_in kc_1 (by decide) (by decide)) dX9_openSets_10 ?_
  refine lv_topi (fun t1 et1 => ?_)
  rw [cl_1] at et1
  refine va_mmax hx hb (hml.trans hl.1.symm) hown (hg _ wt5_40) (hg _ wt2_38) (hg _ wt1_9) (hg _ wt2_39) (by decide) (Nat.le_of_ble_eq_true rfl) (by decide) (by decide) dX9_openSets_11 ?_
  refine lv_topi (fun t2 et2 => ?_)
  have b3 : kb 40 t2 2147483647 := kb_eq et2 (kb_mx kc_40 (kb_any t1) (by decide) (by decide) (by decide) (by decide))
  refine lv_istore_n (lv' := [(1, .int t2), (0, .ref (r 80))]) hx hb dX9_openSets_14 rfl hl (by decide) rfl (fun ls hl => ?_)
  refine lv_iconst (v := 0) hx hb dX9_openSets_15 (by decide) ?_
  refine lv_istore_n (lv' := [(2, .int 0), (1, .int t2), (0, .ref (r 80))]) hx hb dX9_openSets_16 rfl hl (by decide) rfl (fun ls hl => ?_)
  have lp6 : ∀ (n7 : Nat) (H : Heap) (locs : List Loc) (ls : Array Slot) (y4 : Int32) (y5 : Int32), (8 < y4.toInt + (n7 : Int)) → (kb 0 y4 8) → va_P D vwCl (xX K r f a g tx) H → va_D A (xX K r f a g tx) → va_S A s.heap H locs → lv_has ls 3 [(2, .int y4), (1, .int y5), (0, .ref (r 80))] → W p l e (rmD 2 0 0) s m ([.ref (r 80)] : List Value).toArray below meth c H locs 0 0 (kQv D (tysK K) (fun (u : xS) => xI u.1 u.2.1 ∧ gOK K u.2.2.2 tt ∧ xEk ([2565], [83], []) f a g u.1 u.2.1 u.2.2) (fun u => xX K r u.1 u.2.1 u.2.2 tx) A below ([.ref (r 80)] : List Value).toArray s 0 0) (F0 m 17 ls []) := by
    intro n7
    induction n7 with
    | zero =>
      intro   H locs ls y4 y5 hmlp6 b8 hP hD hS hl
      exact (by have h1 := b8.2; have h2 := hmlp6; omega : False).elim
    | succ n7 ihlp6 =>
      intro   H locs ls y4 y5 hmlp6 b8 hP hD hS hl
      refine lv_iload_n hx hb dX9_openSets_17 rfl (lv_at hl 0 rfl) ?_
      refine lv_aload_n hx hb dX9_openSets_18 rfl (lv_at hl 2 rfl) ?_
      refine va_get (D := D) (ci := 9) (v := .ref (r 1)) (C := RX9) (T := TX9) (N := 10) hx hb hg inC9 hown hK hP 80 rfl rfl 0 (by decide) (hg _ wt2_115) (fun _ h9 => h9) rfl dX9_openSets_19 ?_
      refine va_get (D := D) (ci := 7) (v := .int (f 44)) (C := RX7) (T := TX7) (N := 20) hx hb hg inC7 hown hK hP 1 rfl rfl 12 (by decide) (hg _ wt1_136) (fun _ h9 => h9) rfl dX9_openSets_22 ?_
      refine lv_topi (fun t9 et9 => ?_)
      have jn23 : ∀ (H : Heap) (locs : List Loc) (ls : Array Slot), va_P D vwCl (xX K r f a g tx) H → va_D A (xX K r f a g tx) → va_S A s.heap H locs → lv_has ls 3 [(2, .int y4), (1, .int y5), (0, .ref (r 80))] → W p l e (rmD 2 0 0) s m ([.ref (r 80)] : List Value).toArray below meth c H locs 0 0 (kQv D (tysK K) (fun (u : xS) => xI u.1 u.2.1 ∧ gOK K u.2.2.2 tt ∧ xEk ([2565], [83], []) f a g u.1 u.2.1 u.2.2) (fun u => xX K r u.1 u.2.1 u.2.2 tx) A below ([.ref (r 80)] : List Value).toArray s 0 0) (F0 m 54 ls []) := by
        intro  H locs ls   hP hD hS hl
        refine lv_iload_n hx hb dX9_openSets_54 rfl (lv_at hl 1 rfl) ?_
        refine lv_aload_n hx hb dX9_openSets_55 rfl (lv_at hl 2 rfl) ?_
        refine va_get (D := D) (ci := 9) (v := .int (f 2565)) (C := RX9) (T := TX9) (N := 10) hx hb hg inC9 hown hK hP 80 rfl rfl 5 (by decide) (hg _ wt2_120) (fun _ h9 => h9) rfl dX9_openSets_56 ?_
        refine lv_topi (fun t24 et24 => ?_)
        refine lv_icmp_le (tgt := 92) hx hb dX9_openSets_59 (by decide) (fun c25 => ?_) (fun c25 => ?_)
        · have h26 := (kc_le c25)
          exact kV_ret hx hb hr hlocks hK hS dX9_openSets_92 (f, a, g) hP hD ⟨hI, hG, hE⟩
        · have h27 := (kc_nle c25)
          have b28 : kb (-2147483648) t24 2147483646 := kr_lt1 h27 (kb_any t24) (kb_any y5) (by decide)
          have b29 : kb (-2147483647) y5 2147483647 := kr_lt2 h27 (kb_any t24) (kb_any y5) (by decide)
          refine lv_aload_n hx hb dX9_openSets_62 rfl (lv_at hl 2 rfl) ?_
          refine lv_iload_n hx hb dX9_openSets_63 rfl (lv_at hl 1 rfl) ?_
          refine va_put (D := D) (ci := 9) (v := .int y5) (ty := .int) (C := RX9) (T := TX9) (N := 10) hx hb hg inC9 tyX9 tyX9_ok nmX9 hown hK hP hD hS 80 rfl rfl 5 (by decide) (hg _ wt2_120) (fun _ h9 => h9) rfl (by decide +kernel) rfl rfl (Nat.le_of_ble_eq_true rfl) dX9_openSets_64 (fun H locs hP hD hS => ?_)
          have hP : va_P D vwCl (xX K r (upd f 2565 y5) a g tx) H := hP
          have hD : va_D A (xX K r (upd f 2565 y5) a g tx) := hD
          refine k_gen (P := fun z => va_P D vwCl (xX K r z a g tx) H ∧ va_D A (xX K r z a g tx) ∧ (xI z a) ∧ (gOK K g.2 tt) ∧ (xEk ([2565], [83], []) f a g z a g)) (upd f 2565 y5) ⟨hP, hD, (xI_f hI (fI_st hI.1 2565 (kb_any _) (by decide) (by decide))), hG, (xEk_f hE rfl)⟩ (fun f_30 ef_30 hq => ?_)
          obtain ⟨hP, hD, hI, hG, hE⟩ := hq
          refine lv_iconst (v := 0) hx hb dX9_openSets_67 (by decide) ?_
          refine lv_istore_n (lv' := [(2, .int 0), (1, .int y5), (0, .ref (r 80))]) hx hb dX9_openSets_68 rfl hl (by decide) rfl (fun ls hl => ?_)
          have lp33 : ∀ (n34 : Nat) (B32 : Nat → Nat → Int32) (H : Heap) (locs : List Loc) (ls : Array Slot) (y31 : Int32), (64 < y31.toInt + (n34 : Int)) → (xI f_30 B32) → (gOK K g.2 tt) → (xEk ([2565], [83], []) f a g f_30 B32 g) → (kb 0 y31 64) → va_P D vwCl (xX K r f_30 B32 g tx) H → va_D A (xX K r f_30 B32 g tx) → va_S A s.heap H locs → lv_has ls 3 [(2, .int y31), (1, .int y5), (0, .ref (r 80))] → W p l e (rmD 2 0 0) s m ([.ref (r 80)] : List Value).toArray below meth c H locs 0 0 (kQv D (tysK K) (fun (u : xS) => xI u.1 u.2.1 ∧ gOK K u.2.2.2 tt ∧ xEk ([2565], [83], []) f a g u.1 u.2.1 u.2.2) (fun u => xX K r u.1 u.2.1 u.2.2 tx) A below ([.ref (r 80)] : List Value).toArray s 0 0) (F0 m 69 ls []) := by
            intro n34
            induction n34 with
            | zero =>
              intro  B32  H locs ls y31 hmlp33 hI hG hE b35 hP hD hS hl
              exact (by have h1 := b35.2; have h2 := hmlp33; omega : False).elim
            | succ n34 ihlp33 =>
              intro  B32  H locs ls y31 hmlp33 hI hG hE b35 hP hD hS hl
              refine lv_iload_n hx hb dX9_openSets_69 rfl (lv_at hl 0 rfl) ?_
              refine lv_bipush (v := 64) hx hb dX9_openSets_70 (by decide) ?_
              refine lv_icmp_ge (tgt := 92) hx hb dX9_openSets_72 (by decide) (fun c36 => ?_) (fun c36 => ?_)
              · have h37 := (kc_le c36)
                have b38 : kb 64 y31 64 := kr_le2 h37 kc_64 b35
                exact kV_ret hx hb hr hlocks hK hS dX9_openSets_92 (f_30, B32, g) hP hD ⟨hI, hG, hE⟩
              · have h39 := (kc_nle c36)
                have b40 : kb 0 y31 63 := kr_lt1 h39 b35 kc_64 (by decide)
                refine lv_aload_n hx hb dX9_openSets_75 rfl (lv_at hl 2 rfl) ?_
                refine va_get (D := D) (ci := 9) (v := .ref (r 83)) (C := RX9) (T := TX9) (N := 10) hx hb hg inC9 hown hK hP 80 rfl rfl 4 (by decide) (hg _ wt2_119) (fun _ h9 => h9) rfl dX9_openSets_76 ?_
                refine lv_iload_n hx hb dX9_openSets_79 rfl (lv_at hl 0 rfl) ?_
                refine lv_bipush (v := 11) hx hb dX9_openSets_80 (by decide) ?_
                refine lv_imul hx hb dX9_openSets_82 ?_
                refine lv_topi (fun t41 et41 => ?_)
                have b42 : kb 0 t41 693 := kb_eq et41 (kb_mul b40 kc_11 (by decide) (by decide) (by decide))
                have qt41 : t41.toInt = y31.toInt * 11 := by rw [et41]; exact kt_mulc b40 kc_11 (by decide) (by decide) (by decide)
                refine lv_bipush (v := (-2)) hx hb dX9_openSets_83 (by decide) ?_
                refine va_iast hx hb hK hP hD hS 83 0 rfl rfl (kb_in b42 (by decide) (by decide)) dX9_openSets_85 (fun H locs hP hD hS => ?_)
                have hP : va_P D vwCl (xX K r f_30 (va_up B32 83 (upd (B32 83) t41.toNatClampNeg (-2))) g tx) H := hP
                have hD : va_D A (xX K r f_30 (va_up B32 83 (upd (B32 83) t41.toNatClampNeg (-2))) g tx) := hD
                refine k_gen (P := fun z => va_P D vwCl (xX K r f_30 z g tx) H ∧ va_D A (xX K r f_30 z g tx) ∧ (xI f_30 z) ∧ (gOK K g.2 tt) ∧ (xEk ([2565], [83], []) f a g f_30 z g)) (va_up B32 83 (upd (B32 83) t41.toNatClampNeg (-2))) ⟨hP, hD, (xI_a hI (by decide)), hG, (xEk_a hE rfl)⟩ (fun a_43 ea_43 hq => ?_)
                obtain ⟨hP, hD, hI, hG, hE⟩ := hq
                obtain ⟨t44, et44⟩ : ∃ z : Int32, z = y31 + Int32.ofInt 1 := ⟨_, rfl⟩
                have qt44 : t44.toInt = y31.toInt + 1 := by rw [et44]; exact km_inc b40 (by decide) (by decide)
                have b45 : kb 1 t44 64 := kb_inc (k := 1) qt44 b40
                refine lv_iinc (v := t44) (lv' := [(2, .int t44), (1, .int y5), (0, .ref (r 80))]) hx hb dX9_openSets_86 hl (k := 0) rfl et44.symm (by decide) rfl (fun ls hl => ?_)
                refine lv_goto (tgt := 69) hx hb dX9_openSets_89 (by decide) ?_
                exact ihlp33  a_43 _ _ _ t44 (km_up hmlp33 qt44) hI hG hE (kb_w b45 (by decide) (by decide)) hP hD hS (lv_sub hl [0, 1, 2] rfl)
          exact lp33 (65)  a _ _ _ 0 (by have h1 := (kc_0); unfold kb at h1; omega) hI hG hE (kb_w kc_0 (by decide) (by decide)) hP hD hS (lv_sub hl [0, 1, 2] rfl)
      refine lv_icmp_ge (tgt := 54) hx hb dX9_openSets_25 (by decide) (fun c46 => ?_) (fun c46 => ?_)
      · have h47 := (kc_le c46)
        have b48 : kb (-2147483648) t9 8 := kr_le1 h47 (kb_any t9) b8
        exact jn23 _ _ _   hP hD hS (lv_sub hl [0, 1, 2] rfl)
      · have h49 := (kc_nle c46)
        have b50 : kb 1 t9 2147483647 := kr_lt2 h49 b8 (kb_any t9) (by decide)
        refine lv_iload_n hx hb dX9_openSets_28 rfl (lv_at hl 0 rfl) ?_
        refine lv_bipush (v := 8) hx hb dX9_openSets_29 (by decide) ?_
        refine lv_icmp_ge (tgt := 54) hx hb dX9_openSets_31 (by decide) (fun c51 => ?_) (fun c51 => ?_)
        · have h52 := (kc_le c51)
          have b53 : kb 8 y4 8 := kr_le2 h52 kc_8 b8
          exact jn23 _ _ _   hP hD hS (lv_sub hl [0, 1, 2] rfl)
        · have h54 := (kc_nle c51)
          have b55 : kb 0 y4 7 := kr_lt1 h54 b8 kc_8 (by decide)
          refine lv_iload_n hx hb dX9_openSets_34 rfl (lv_at hl 1 rfl) ?_
          refine lv_aload_n hx hb dX9_openSets_35 rfl (lv_at hl 2 rfl) ?_
          refine va_get (D := D) (ci := 9) (v := .ref (r 1)) (C := RX9) (T := TX9) (N := 10) hx hb hg inC9 hown hK hP 80 rfl rfl 0 (by decide) (hg _ wt2_115) (fun _ h9 => h9) rfl dX9_openSets_36 ?_
          refine va_get (D := D) (ci := 7) (v := .ref (r 12)) (C := RX7) (T := TX7) (N := 20) hx hb hg inC7 hown hK hP 1 rfl rfl 13 (by decide) (hg _ wt1_139) (fun _ h9 => h9) rfl dX9_openSets_39 ?_
          refine lv_iload_n hx hb dX9_openSets_42 rfl (lv_at hl 0 rfl) ?_
          refine va_iald hx hb hK hP 12 0 rfl rfl (kb_in b55 (by decide) (by decide)) dX9_openSets_43 ?_
          refine lv_topi (fun t56 et56 => ?_)
          refine va_mmax hx hb (hml.trans hl.1.symm) hown (hg _ wt5_40) (hg _ wt2_38) (hg _ wt1_9) (hg _ wt2_39) (by decide) (Nat.le_of_ble_eq_true rfl) (by decide) (by decide) dX9_openSets_44 ?_
          refine lv_topi (fun t57 et57 => ?_)
          refine lv_istore_n (lv' := [(1, .int t57), (2, .int y4), (0, .ref (r 80))]) hx hb dX9_openSets_47 rfl hl (by decide) rfl (fun ls hl => ?_)
          obtain ⟨t58, et58⟩ : ∃ z : Int32, z = y4 + Int32.ofInt 1 := ⟨_, rfl⟩
          have qt58 : t58.toInt = y4.toInt + 1 := by rw [et58]; exact km_inc b55 (by decide) (by decide)
          have b59 : kb 1 t58 8 := kb_inc (k := 1) qt58 b55
          refine lv_iinc (v := t58) (lv' := [(2, .int t58), (1, .int t57), (0, .ref (r 80))]) hx hb dX9_openSets_48 hl (k := 1) rfl et58.symm (by decide) rfl (fun ls hl => ?_)
          refine lv_goto (tgt := 17) hx hb dX9_openSets_51 (by decide) ?_
          exact ihlp6  _ _ _ t58 t57 (km_up hmlp6 qt58) (kb_w b59 (by decide) (by decide)) hP hD hS (lv_sub hl [0, 1, 2] rfl)
  exact lp6 (9)  _ _ _ 0 t2 (by have h1 := (kc_0); unfold kb at h1; omega) (kb_w kc_0 (by decide) (by decide)) hP hD hS (lv_sub hl [0, 1, 2] rfl)
set_option maxHeartbeats 4000000 in
set_option maxRecDepth 100000 in
theorem x_9_fewestHands  (l : Launch) {D : va_G} {K : Nat → ClassId} (r : Nat → Nat) (f : Nat → Int32) (a : Nat → Nat → Int32) (g : xG) (tx tt : va_W) (hT : ∀ c ∈ tt, c ∈ tx) (hI : xI f a) (hG : gOK K g.2 tt)     : kIG l yX9_fewestHands (Cond.code yX9_fewestHands cX9_fewestHands 4 (some .int) :: kG) (rmD 6 0 0) D K [.ref (r 80)] (xX K r f a g tx) (fun v (u : xS) => kb (-2147483648) v 2147483647 ∧ xI u.1 u.2.1 ∧ gOK K u.2.2.2 tt ∧ xEk ([1888, 1894, 1900, 1905, 1906, 2565], [60, 61, 62, 63, 64, 65, 66, 67, 68, 69, 70, 71, 72, 77, 78, 79, 83], [73]) f a g u.1 u.2.1 u.2.2) (fun u => xX K r u.1 u.2.1 u.2.2 tx) 0 0 := by
  refine kIE.of (cc := cX9_fewestHands) (maxL := 4) (ret := (some .int)) (by decide) rfl (Nat.le_of_ble_eq_true rfl) ?_
  intro p e s m below meth c A hx hb hr hml hown hts hlocks hnm hK hP hD hS hA hV ls hl
  have hE : xEk ([1888, 1894, 1900, 1905, 1906, 2565], [60, 61, 62, 63, 64, 65, 66, 67, 68, 69, 70, 71, 72, 77, 78, 79, 83], [73]) f a g f a g := xEk_rf
  have hg : ∀ w ∈ kG, w.before _ s = true := fun w h => hts w (List.mem_cons_of_mem _ h)
  have hown : s.vm.findClass RX9 = some m.cls := hown
  have hl : lv_has ls 4 [(0, .ref (r 80))] := hl
  refine lv_aload_n hx hb dX9_fewestHands_0 rfl (lv_at hl 0 rfl) ?_
  refine kVG.callW (As := []) (rest := []) ⟨hx, hb, hml, hown, hg⟩ (x_9_openSets l r f a g tx tt hT hI hG   ) (cwV 0 hg (kgV wt5_36 wt5_38 wp3_0 wt1_11 wt5_39) rfl rfl rfl (by decide +kernel) ⟨by decide, by decide⟩) hV hK hP hD hS hA (80) 9 rfl rfl rfl hl.1 rfl (Nat.le_of_ble_eq_true rfl) dX9_fewestHands_1 ⟨Nat.le_refl _, Nat.le_refl _⟩ (fun u3 H locs hw1 hP hD hS => ?_)
  obtain ⟨f4, a5, g6⟩ := u3
  have hP : va_P D vwCl (xX K r f4 a5 g6 tx) H := hP
  have hD : va_D A (xX K r f4 a5 g6 tx) := hD
  have hI : xI f4 a5 := hw1.1
  have hG : gOK K g6.2 tt := hw1.2.1
  have eE7 : xEk ([2565], [83], []) f a g f4 a5 g6 := hw1.2.2
  have hE : xEk ([1888, 1894, 1900, 1905, 1906, 2565], [60, 61, 62, 63, 64, 65, 66, 67, 68, 69, 70, 71, 72, 77, 78, 79, 83], [73]) f a g f4 a5 g6 := xEk_tr hE (xEk_w (by decide +kernel) eE7)
  refine lv_iconst (v := 0) hx hb dX9_fewestHands_4 (by decide) ?_
  refine lv_istore_n (lv' := [(1, .int 0), (0, .ref (r 80))]) hx hb dX9_fewestHands_5 rfl hl (by decide) rfl (fun ls hl => ?_)
  have lp12 : ∀ (n13 : Nat) (F9 : Nat → Int32) (B10 : Nat → Nat → Int32) (G11 : xG) (H : Heap) (locs : List Loc) (ls : Array Slot) (y8 : Int32), (7 < y8.toInt + (n13 : Int)) → (xI F9 B10) → (gOK K G11.2 tt) → (xEk ([1888, 1894, 1900, 1905, 1906, 2565], [60, 61, 62, 63, 64, 65, 66, 67, 68, 69, 70, 71, 72, 77, 78, 79, 83], [73]) f a g F9 B10 G11) → (kb 0 y8 7) → va_P D vwCl (xX K r F9 B10 G11 tx) H → va_D A (xX K r F9 B10 G11 tx) → va_S A s.heap H locs → lv_has ls 4 [(1, .int y8), (0, .ref (r 80))] → W p l e (rmD 6 0 0) s m ([.ref (r 80)] : List Value).toArray below meth c H locs 0 0 (kQi D (tysK K) (fun v (u : xS) => kb (-2147483648) v 2147483647 ∧ xI u.1 u.2.1 ∧ gOK K u.2.2.2 tt ∧ xEk ([1888, 1894, 1900, 1905, 1906, 2565], [60, 61, 62, 63, 64, 65, 66, 67, 68, 69, 70, 71, 72, 77, 78, 79, 83], [73]) f a g u.1 u.2.1 u.2.2) (fun u => xX K r u.1 u.2.1 u.2.2 tx) A below ([.ref (r 80)] : List Value).toArray s 0 0) (F0 m 6 ls []) := by
    intro n13
    induction n13 with
    | zero =>
      intro  F9 B10 G11  H locs ls y8 hmlp12 hI hG hE b14 hP hD hS hl
      exact (by have h1 := b14.2; have h2 := hmlp12; omega : False).elim
    | succ n13 ihlp12 =>
      intro  F9 B10 G11  H locs ls y8 hmlp12 hI hG hE b14 hP hD hS hl
      refine lv_iload_n hx hb dX9_fewestHands_6 rfl (lv_at hl 0 rfl) ?_
      refine lv_aload_n hx hb dX9_fewestHands_7 rfl (lv_at hl 1 rfl) ?_
      refine va_get (D := D) (ci := 9) (v := .ref (r 1)) (C := RX9) (T := TX9) (N := 10) hx hb hg inC9 hown hK hP 80 rfl rfl 0 (by decide) (hg _ wt2_115) (fun _ h9 => h9) rfl dX9_fewestHands_8 ?_
      refine va_get (D := D) (ci := 7) (v := .int (F9 38)) (C := RX7) (T := TX7) (N := 20) hx hb hg inC7 hown hK hP 1 rfl rfl 6 (by decide) (hg _ wt1_107) (fun _ h9 => h9) rfl dX9_fewestHands_11 ?_
      refine lv_topi (fun t15 et15 => ?_)
      refine lv_icmp_gt (tgt := 108) hx hb dX9_fewestHands_14 (by decide) (fun c16 => ?_) (fun c16 => ?_)
      · have h17 := (kc_lt c16)
        have b18 : kb (-2147483648) t15 6 := kr_lt1 h17 (kb_any t15) b14 (by decide)
        refine lv_iconst (v := (-1)) hx hb dX9_fewestHands_108 (by decide) ?_
        exact kI_ret (v := (-1)) hx hb hr hlocks rfl hK hS dX9_fewestHands_109 (F9, B10, G11) hP hD ⟨(kb_w kc_m1 (by decide) (by decide)), hI, hG, hE⟩
      · have h19 := (kc_nlt c16)
        have b20 : kb 0 t15 2147483647 := kr_le2 h19 b14 (kb_any t15)
        refine lv_iload_n hx hb dX9_fewestHands_17 rfl (lv_at hl 0 rfl) ?_
        refine lv_bipush (v := 6) hx hb dX9_fewestHands_18 (by decide) ?_
        refine lv_icmp_gt (tgt := 108) hx hb dX9_fewestHands_20 (by decide) (fun c21 => ?_) (fun c21 => ?_)
        · have h22 := (kc_lt c21)
          have b23 : kb 7 y8 7 := kr_lt2 h22 kc_6 b14 (by decide)
          refine lv_iconst (v := (-1)) hx hb dX9_fewestHands_108 (by decide) ?_
          exact kI_ret (v := (-1)) hx hb hr hlocks rfl hK hS dX9_fewestHands_109 (F9, B10, G11) hP hD ⟨(kb_w kc_m1 (by decide) (by decide)), hI, hG, hE⟩
        · have h24 := (kc_nlt c21)
          have b25 : kb 0 y8 6 := kr_le1 h24 b14 kc_6
          refine lv_iconst (v := 0) hx hb dX9_fewestHands_23 (by decide) ?_
          refine lv_istore_n (lv' := [(2, .int 0), (1, .int y8), (0, .ref (r 80))]) hx hb dX9_fewestHands_24 rfl hl (by decide) rfl (fun ls hl => ?_)
          have lp30 : ∀ (n31 : Nat) (F27 : Nat → Int32) (B28 : Nat → Nat → Int32) (G29 : xG) (H : Heap) (locs : List Loc) (ls : Array Slot) (y26 : Int32), (64 < y26.toInt + (n31 : Int)) → (xI F27 B28) → (gOK K G29.2 tt) → (xEk ([1888, 1894, 1900, 1905, 1906, 2565], [60, 61, 62, 63, 64, 65, 66, 67, 68, 69, 70, 71, 72, 77, 78, 79, 83], [73]) f a g F27 B28 G29) → (kb 0 y26 64) → va_P D vwCl (xX K r F27 B28 G29 tx) H → va_D A (xX K r F27 B28 G29 tx) → va_S A s.heap H locs → lv_has ls 4 [(2, .int y26), (1, .int y8), (0, .ref (r 80))] → W p l e (rmD 6 0 0) s m ([.ref (r 80)] : List Value).toArray below meth c H locs 0 0 (kQi D (tysK K) (fun v (u : xS) => kb (-2147483648) v 2147483647 ∧ xI u.1 u.2.1 ∧ gOK K u.2.2.2 tt ∧ xEk ([1888, 1894, 1900, 1905, 1906, 2565], [60, 61, 62, 63, 64, 65, 66, 67, 68, 69, 70, 71, 72, 77, 78, 79, 83], [73]) f a g u.1 u.2.1 u.2.2) (fun u => xX K r u.1 u.2.1 u.2.2 tx) A below ([.ref (r 80)] : List Value).toArray s 0 0) (F0 m 25 ls []) := by
            intro n31
            induction n31 with
            | zero =>
              intro  F27 B28 G29  H locs ls y26 hmlp30 hI hG hE b32 hP hD hS hl
              exact (by have h1 := b32.2; have h2 := hmlp30; omega : False).elim
            | succ n31 ihlp30 =>
              intro  F27 B28 G29  H locs ls y26 hmlp30 hI hG hE b32 hP hD hS hl
              refine lv_iload_n hx hb dX9_fewestHands_25 rfl (lv_at hl 0 rfl) ?_
              refine lv_iconst (v := 1) hx hb dX9_fewestHands_26 (by decide) ?_
              refine lv_aload_n hx hb dX9_fewestHands_27 rfl (lv_at hl 2 rfl) ?_
              refine va_get (D := D) (ci := 9) (v := .ref (r 1)) (C := RX9) (T := TX9) (N := 10) hx hb hg inC9 hown hK hP 80 rfl rfl 0 (by decide) (hg _ wt2_115) (fun _ h9 => h9) rfl dX9_fewestHands_28 ?_
              refine va_get (D := D) (ci := 7) (v := .int (F27 38)) (C := RX7) (T := TX7) (N := 20) hx hb hg inC7 hown hK hP 1 rfl rfl 6 (by decide) (hg _ wt1_107) (fun _ h9 => h9) rfl dX9_fewestHands_31 ?_
              refine lv_topi (fun t33 et33 => ?_)
              refine lv_ishl hx hb dX9_fewestHands_34 ?_
              refine lv_topi (fun t34 et34 => ?_)
              have jn91 : ∀ (H : Heap) (locs : List Loc) (ls : Array Slot), va_P D vwCl (xX K r F27 B28 G29 tx) H → va_D A (xX K r F27 B28 G29 tx) → va_S A s.heap H locs → lv_has ls 4 [(2, .int y26), (1, .int y8), (0, .ref (r 80))] → W p l e (rmD 6 0 0) s m ([.ref (r 80)] : List Value).toArray below meth c H locs 0 0 (kQi D (tysK K) (fun v (u : xS) => kb (-2147483648) v 2147483647 ∧ xI u.1 u.2.1 ∧ gOK K u.2.2.2 tt ∧ xEk ([1888, 1894, 1900, 1905, 1906, 2565], [60, 61, 62, 63, 64, 65, 66, 67, 68, 69, 70, 71, 72, 77, 78, 79, 83], [73]) f a g u.1 u.2.1 u.2.2) (fun u => xX K r u.1 u.2.1 u.2.2 tx) A below ([.ref (r 80)] : List Value).toArray s 0 0) (F0 m 102 ls []) := by
                intro  H locs ls   hP hD hS hl
                obtain ⟨t92, et92⟩ : ∃ z : Int32, z = y8 + Int32.ofInt 1 := ⟨_, rfl⟩
                have qt92 : t92.toInt = y8.toInt + 1 := by rw [et92]; exact km_inc b25 (by decide) (by decide)
                have b93 : kb 1 t92 7 := kb_inc (k := 1) qt92 b25
                refine lv_iinc (v := t92) (lv' := [(1, .int t92), (2, .int y26), (0, .ref (r 80))]) hx hb dX9_fewestHands_102 hl (k := 1) rfl et92.symm (by decide) rfl (fun ls hl => ?_)
                refine lv_goto (tgt := 6) hx hb dX9_fewestHands_105 (by decide) ?_
                exact ihlp12  F27 B28 G29 _ _ _ t92 (km_up hmlp12 qt92) hI hG hE (kb_w b93 (by decide) (by decide)) hP hD hS (lv_sub hl [0, 2] rfl)
              refine lv_icmp_ge (tgt := 102) hx hb dX9_fewestHands_35 (by decide) (fun c94 => ?_) (fun c94 => ?_)
              · have h95 := (kc_le c94)
                have b96 : kb (-2147483648) t34 64 := kr_le1 h95 (kb_any t34) b32
                exact jn91 _ _ _   hP hD hS (lv_sub hl [0, 1, 2] rfl)
              · have h97 := (kc_nle c94)
                have b98 : kb 1 t34 2147483647 := kr_lt2 h97 b32 (kb_any t34) (by decide)
                refine lv_iload_n hx hb dX9_fewestHands_38 rfl (lv_at hl 0 rfl) ?_
                refine lv_bipush (v := 64) hx hb dX9_fewestHands_39 (by decide) ?_
                refine lv_icmp_ge (tgt := 102) hx hb dX9_fewestHands_41 (by decide) (fun c99 => ?_) (fun c99 => ?_)
                · have h100 := (kc_le c99)
                  have b101 : kb 64 y26 64 := kr_le2 h100 kc_64 b32
                  exact jn91 _ _ _   hP hD hS (lv_sub hl [0, 1, 2] rfl)
                · have h102 := (kc_nle c99)
                  have b103 : kb 0 y26 63 := kr_lt1 h102 b32 kc_64 (by decide)
                  refine lv_iload_n hx hb dX9_fewestHands_44 rfl (lv_at hl 0 rfl) ?_
                  refine kN.callS (As := [.int y26]) (rest := []) ⟨hx, hb, hml, hown, hg⟩ (x_bitCount l y26 ) (va_cwS 1 hg (kgS wt5_41 wt4_99 wt1_21 wt4_100) rfl rfl rfl (by decide +kernel) ⟨by decide, by decide⟩) hP hS rfl hl.1 rfl (Nat.le_of_ble_eq_true rfl) dX9_fewestHands_45 ⟨Nat.le_refl _, Nat.le_refl _⟩ (fun v105 H locs hw104 hP hS => ?_)
                  have hP : va_P D vwCl (xX K r F27 B28 G29 tx) H := hP
                  refine lv_iload_n hx hb dX9_fewestHands_48 rfl (lv_at hl 1 rfl) ?_
                  have jn128 : ∀ (F125 : Nat → Int32) (B126 : Nat → Nat → Int32) (G127 : xG) (H : Heap) (locs : List Loc) (ls : Array Slot), (xI F125 B126) → (gOK K G127.2 tt) → (xEk ([1888, 1894, 1900, 1905, 1906, 2565], [60, 61, 62, 63, 64, 65, 66, 67, 68, 69, 70, 71, 72, 77, 78, 79, 83], [73]) f a g F125 B126 G127) → va_P D vwCl (xX K r F125 B126 G127 tx) H → va_D A (xX K r F125 B126 G127 tx) → va_S A s.heap H locs → lv_has ls 4 [(2, .int y26), (1, .int y8), (0, .ref (r 80))] → W p l e (rmD 6 0 0) s m ([.ref (r 80)] : List Value).toArray below meth c H locs 0 0 (kQi D (tysK K) (fun v (u : xS) => kb (-2147483648) v 2147483647 ∧ xI u.1 u.2.1 ∧ gOK K u.2.2.2 tt ∧ xEk ([1888, 1894, 1900, 1905, 1906, 2565], [60, 61, 62, 63, 64, 65, 66, 67, 68, 69, 70, 71, 72, 77, 78, 79, 83], [73]) f a g u.1 u.2.1 u.2.2) (fun u => xX K r u.1 u.2.1 u.2.2 tx) A below ([.ref (r 80)] : List Value).toArray s 0 0) (F0 m 96 ls []) := by
                    intro F125 B126 G127  H locs ls  hI hG hE hP hD hS hl
                    obtain ⟨t129, et129⟩ : ∃ z : Int32, z = y26 + Int32.ofInt 1 := ⟨_, rfl⟩
                    have qt129 : t129.toInt = y26.toInt + 1 := by rw [et129]; exact km_inc b103 (by decide) (by decide)
                    have b130 : kb 1 t129 64 := kb_inc (k := 1) qt129 b103
                    refine lv_iinc (v := t129) (lv' := [(2, .int t129), (1, .int y8), (0, .ref (r 80))]) hx hb dX9_fewestHands_96 hl (k := 0) rfl et129.symm (by decide) rfl (fun ls hl => ?_)
                    refine lv_goto (tgt := 25) hx hb dX9_fewestHands_99 (by decide) ?_
                    exact ihlp30  F125 B126 G127 _ _ _ t129 (km_up hmlp30 qt129) hI hG hE (kb_w b130 (by decide) (by decide)) hP hD hS (lv_sub hl [0, 1, 2] rfl)
                  refine lv_icmp_eq (tgt := 55) hx hb dX9_fewestHands_49 (by decide) (fun c131 => ?_) (fun c131 => ?_)
                  · have b132 : kb 0 v105 6 := kb_eq c131 b25
                    refine lv_aload_n hx hb dX9_fewestHands_55 rfl (lv_at hl 2 rfl) ?_
                    refine va_get (D := D) (ci := 9) (v := .ref (r 58)) (C := RX9) (T := TX9) (N := 10) hx hb hg inC9 hown hK hP 80 rfl rfl 1 (by decide) (hg _ wt2_116) (fun _ h9 => h9) rfl dX9_fewestHands_56 ?_
                    refine lv_iload_n hx hb dX9_fewestHands_59 rfl (lv_at hl 0 rfl) ?_
                    refine lv_aload_n hx hb dX9_fewestHands_60 rfl (lv_at hl 2 rfl) ?_
                    refine va_get (D := D) (ci := 9) (v := .int (F27 2565)) (C := RX9) (T := TX9) (N := 10) hx hb hg inC9 hown hK hP 80 rfl rfl 5 (by decide) (hg _ wt2_120) (fun _ h9 => h9) rfl dX9_fewestHands_61 ?_
                    refine lv_topi (fun t133 et133 => ?_)
                    refine lv_aload_n hx hb dX9_fewestHands_64 rfl (lv_at hl 2 rfl) ?_
                    refine va_get (D := D) (ci := 9) (v := .ref (r 83)) (C := RX9) (T := TX9) (N := 10) hx hb hg inC9 hown hK hP 80 rfl rfl 4 (by decide) (hg _ wt2_119) (fun _ h9 => h9) rfl dX9_fewestHands_65 ?_
                    refine lv_iload_n hx hb dX9_fewestHands_68 rfl (lv_at hl 0 rfl) ?_
                    refine lv_bipush (v := 11) hx hb dX9_fewestHands_69 (by decide) ?_
                    refine lv_imul hx hb dX9_fewestHands_71 ?_
                    refine lv_topi (fun t134 et134 => ?_)
                    have b135 : kb 0 t134 693 := kb_eq et134 (kb_mul b103 kc_11 (by decide) (by decide) (by decide))
                    have qt134 : t134.toInt = y26.toInt * 11 := by rw [et134]; exact kt_mulc b103 kc_11 (by decide) (by decide) (by decide)
                    refine kIG.callW (As := [.int y26, .int t133, .ref (r 83), .int t134]) (rest := []) ⟨hx, hb, hml, hown, hg⟩ (x_3_runS l r F27 B28 G29 tx tt hT hI hG y26 t133 t134 b135 ) (cwV 4 hg (kgV wt4_232 wt4_233 wt4_234 wt1_10 wt4_235) rfl rfl rfl (by decide +kernel) ⟨by decide, by decide⟩) hV hK hP hD hS hA (58) 3 rfl rfl rfl hl.1 rfl (Nat.le_of_ble_eq_true rfl) dX9_fewestHands_72 ⟨Nat.le_refl _, Nat.le_refl _⟩ (fun v137 u138 H locs hw136 hP hD hS => ?_)
                    obtain ⟨f139, a140, g141⟩ := u138
                    have hP : va_P D vwCl (xX K r f139 a140 g141 tx) H := hP
                    have hD : va_D A (xX K r f139 a140 g141 tx) := hD
                    have hI : xI f139 a140 := hw136.2.1
                    have hG : gOK K g141.2 tt := hw136.2.2.1
                    have eE142 : xEk ([1888, 1894, 1900, 1905, 1906], [60, 61, 62, 63, 64, 65, 66, 67, 68, 69, 70, 71, 72, 77, 78, 79, 83], [73]) F27 B28 G29 f139 a140 g141 := hw136.2.2.2
                    have hE : xEk ([1888, 1894, 1900, 1905, 1906, 2565], [60, 61, 62, 63, 64, 65, 66, 67, 68, 69, 70, 71, 72, 77, 78, 79, 83], [73]) f a g f139 a140 g141 := xEk_tr hE (xEk_w (by decide +kernel) eE142)
                    refine lv_istore_n (lv' := [(3, .int v137), (2, .int y26), (1, .int y8), (0, .ref (r 80))]) hx hb dX9_fewestHands_75 rfl hl (by decide) rfl (fun ls hl => ?_)
                    refine lv_iload_n hx hb dX9_fewestHands_76 rfl (lv_at hl 0 rfl) ?_
                    refine lv_iconst (v := (-1)) hx hb dX9_fewestHands_77 (by decide) ?_
                    refine lv_icmp_eq (tgt := 96) hx hb dX9_fewestHands_78 (by decide) (fun c143 => ?_) (fun c143 => ?_)
                    · have b144 : kb (-1) v137 (-1) := kb_eq c143 kc_m1
                      exact jn128 f139 a140 g141 _ _ _  hI hG hE hP hD hS (lv_sub hl [1, 2, 3] rfl)
                    · refine lv_iload_n hx hb dX9_fewestHands_81 rfl (lv_at hl 0 rfl) ?_
                      refine lv_aload_n hx hb dX9_fewestHands_82 rfl (lv_at hl 3 rfl) ?_
                      refine va_get (D := D) (ci := 9) (v := .ref (r 1)) (C := RX9) (T := TX9) (N := 10) hx hb hg inC9 hown hK hP 80 rfl rfl 0 (by decide) (hg _ wt2_115) (fun _ h9 => h9) rfl dX9_fewestHands_83 ?_
                      refine va_get (D := D) (ci := 7) (v := .ref (r 11)) (C := RX7) (T := TX7) (N := 20) hx hb hg inC7 hown hK hP 1 rfl rfl 11 (by decide) (hg _ wt1_133) (fun _ h9 => h9) rfl dX9_fewestHands_86 ?_
                      refine lv_iconst (v := 1) hx hb dX9_fewestHands_89 (by decide) ?_
                      refine va_iald hx hb hK hP 11 0 rfl rfl (kb_in kc_1 (by decide) (by decide)) dX9_fewestHands_90 ?_
                      refine lv_topi (fun t145 et145 => ?_)
                      rw [cl_1] at et145
                      refine lv_icmp_gt (tgt := 96) hx hb dX9_fewestHands_91 (by decide) (fun c146 => ?_) (fun c146 => ?_)
                      · have h147 := (kc_lt c146)
                        have b148 : kb (-2147483648) t145 2147483646 := kr_lt1 h147 (kb_any t145) (kb_any v137) (by decide)
                        have b149 : kb (-2147483647) v137 2147483647 := kr_lt2 h147 (kb_any t145) (kb_any v137) (by decide)
                        exact jn128 f139 a140 g141 _ _ _  hI hG hE hP hD hS (lv_sub hl [1, 2, 3] rfl)
                      · have h150 := (kc_nlt c146)
                        refine lv_iload_n hx hb dX9_fewestHands_94 rfl (lv_at hl 1 rfl) ?_
                        exact kI_ret (v := y26) hx hb hr hlocks rfl hK hS dX9_fewestHands_95 (f139, a140, g141) hP hD ⟨(kb_w b103 (by decide) (by decide)), hI, hG, hE⟩
                  · refine lv_goto (tgt := 96) hx hb dX9_fewestHands_52 (by decide) ?_
                    exact jn128 F27 B28 G29 _ _ _  hI hG hE hP hD hS (lv_sub hl [0, 1, 2] rfl)
          exact lp30 (65)  F9 B10 G11 _ _ _ 0 (by have h1 := (kc_0); unfold kb at h1; omega) hI hG hE (kb_w kc_0 (by decide) (by decide)) hP hD hS (lv_sub hl [0, 1, 2] rfl)
  exact lp12 (8)  f4 a5 g6 _ _ _ 0 (by have h1 := (kc_0); unfold kb at h1; omega) hI hG hE (kb_w kc_0 (by decide) (by decide)) hP hD hS (lv_sub hl [0, 1] rfl)
set_option maxHeartbeats 4000000 in
set_option maxRecDepth 100000 in
theorem x_9_stoodBehind  (l : Launch) {D : va_G} {K : Nat → ClassId} (r : Nat → Nat) (f : Nat → Int32) (a : Nat → Nat → Int32) (g : xG) (tx tt : va_W) (hT : ∀ c ∈ tt, c ∈ tx) (hI : xI f a) (hG : gOK K g.2 tt) (st_ : Int32) (y : Int32) (z : Int32) (bst_ : kb 0 st_ 63)   : kIG l yX9_stoodBehind (Cond.code yX9_stoodBehind cX9_stoodBehind 5 (some .boolean) :: kG) (rmD 1 0 0) D K [.ref (r 80), .int st_, .int y, .int z] (xX K r f a g tx) (fun v (_ : Unit) => kb 0 v 1) (fun _ => xX K r f a g tx) 0 0 := by
  refine kIE.of (cc := cX9_stoodBehind) (maxL := 5) (ret := (some .boolean)) (by decide) rfl (Nat.le_of_ble_eq_true rfl) ?_
  intro p e s m below meth c A hx hb hr hml hown hts hlocks hnm hK hP hD hS hA hV ls hl
  have hg : ∀ w ∈ kG, w.before _ s = true := fun w h => hts w (List.mem_cons_of_mem _ h)
  have hown : s.vm.findClass RX9 = some m.cls := hown
  have hl : lv_has ls 5 [(0, .ref (r 80)), (1, .int st_), (2, .int y), (3, .int z)] := hl
  refine lv_iload_n hx hb dX9_stoodBehind_0 rfl (lv_at hl 1 rfl) ?_
  refine lv_bipush (v := 11) hx hb dX9_stoodBehind_1 (by decide) ?_
  refine lv_imul hx hb dX9_stoodBehind_3 ?_
  refine lv_topi (fun t1 et1 => ?_)
  have b2 : kb 0 t1 693 := kb_eq et1 (kb_mul bst_ kc_11 (by decide) (by decide) (by decide))
  have qt1 : t1.toInt = st_.toInt * 11 := by rw [et1]; exact kt_mulc bst_ kc_11 (by decide) (by decide) (by decide)
  refine lv_iconst (v := 1) hx hb dX9_stoodBehind_4 (by decide) ?_
  refine lv_iadd hx hb dX9_stoodBehind_5 ?_
  refine lv_topi (fun t3 et3 => ?_)
  have b4 : kb 1 t3 694 := kb_eq et3 (kb_add b2 kc_1 (by decide) (by decide))
  have qt3 : t3.toInt = t1.toInt + 1 := by rw [et3]; exact kt_addc b2 kc_1 (by decide) (by decide)
  refine lv_iload_n hx hb dX9_stoodBehind_6 rfl (lv_at hl 2 rfl) ?_
  refine lv_iadd hx hb dX9_stoodBehind_7 ?_
  refine lv_topi (fun t5 et5 => ?_)
  refine lv_istore (lv' := [(4, .int t5), (0, .ref (r 80)), (1, .int st_), (2, .int y), (3, .int z)]) hx hb dX9_stoodBehind_8 hl (by decide) rfl (fun ls hl => ?_)
  refine lv_iload hx hb dX9_stoodBehind_10 (lv_at hl 0 rfl) ?_
  refine lv_if_lt (tgt := 51) hx hb dX9_stoodBehind_12 (by decide) (fun c6 => ?_) (fun c6 => ?_)
  · have h7 := (kc_lt c6)
    have b8 : kb (-2147483648) t5 (-1) := kr_lt1 h7 (kb_any t5) kc_0 (by decide)
    refine lv_iconst (v := 0) hx hb dX9_stoodBehind_51 (by decide) ?_
    exact kI_ret (v := 0) hx hb hr hlocks (by decide +kernel) hK hS dX9_stoodBehind_52 () hP hD (kb_w kc_0 (by decide) (by decide))
  · have h9 := (kc_nlt c6)
    have b10 : kb 0 t5 2147483647 := kr_le2 h9 kc_0 (kb_any t5)
    refine lv_iload hx hb dX9_stoodBehind_15 (lv_at hl 0 rfl) ?_
    refine lv_aload_n hx hb dX9_stoodBehind_17 rfl (lv_at hl 1 rfl) ?_
    refine va_get (D := D) (ci := 9) (v := .ref (r 83)) (C := RX9) (T := TX9) (N := 10) hx hb hg inC9 hown hK hP 80 rfl rfl 4 (by decide) (hg _ wt2_119) (fun _ h9 => h9) rfl dX9_stoodBehind_18 ?_
    refine va_alen (v := 704) hx hb hK hP 83 0 rfl rfl rfl dX9_stoodBehind_21 ?_
    refine lv_icmp_ge (tgt := 51) hx hb dX9_stoodBehind_22 (by decide) (fun c11 => ?_) (fun c11 => ?_)
    · have h12 := (kc_le c11)
      have b13 : kb 704 t5 2147483647 := kr_le2 h12 kc_704 b10
      refine lv_iconst (v := 0) hx hb dX9_stoodBehind_51 (by decide) ?_
      exact kI_ret (v := 0) hx hb hr hlocks (by decide +kernel) hK hS dX9_stoodBehind_52 () hP hD (kb_w kc_0 (by decide) (by decide))
    · have h14 := (kc_nle c11)
      have b15 : kb 0 t5 703 := kr_lt1 h14 b10 kc_704 (by decide)
      refine lv_aload_n hx hb dX9_stoodBehind_25 rfl (lv_at hl 1 rfl) ?_
      refine va_get (D := D) (ci := 9) (v := .ref (r 83)) (C := RX9) (T := TX9) (N := 10) hx hb hg inC9 hown hK hP 80 rfl rfl 4 (by decide) (hg _ wt2_119) (fun _ h9 => h9) rfl dX9_stoodBehind_26 ?_
      refine lv_iload hx hb dX9_stoodBehind_29 (lv_at hl 0 rfl) ?_
      refine va_iald hx hb hK hP 83 0 rfl rfl (kb_in b15 (by decide) (by decide)) dX9_stoodBehind_31 ?_
      refine lv_topi (fun t16 et16 => ?_)
      refine lv_iconst (v := (-1)) hx hb dX9_stoodBehind_32 (by decide) ?_
      refine lv_icmp_eq (tgt := 51) hx hb dX9_stoodBehind_33 (by decide) (fun c17 => ?_) (fun c17 => ?_)
      · have b18 : kb (-1) t16 (-1) := kb_eq c17 kc_m1
        refine lv_iconst (v := 0) hx hb dX9_stoodBehind_51 (by decide) ?_
        exact kI_ret (v := 0) hx hb hr hlocks (by decide +kernel) hK hS dX9_stoodBehind_52 () hP hD (kb_w kc_0 (by decide) (by decide))
      · refine lv_aload_n hx hb dX9_stoodBehind_36 rfl (lv_at hl 1 rfl) ?_
        refine va_get (D := D) (ci := 9) (v := .ref (r 83)) (C := RX9) (T := TX9) (N := 10) hx hb hg inC9 hown hK hP 80 rfl rfl 4 (by decide) (hg _ wt2_119) (fun _ h9 => h9) rfl dX9_stoodBehind_37 ?_
        refine lv_iload hx hb dX9_stoodBehind_40 (lv_at hl 0 rfl) ?_
        refine va_iald hx hb hK hP 83 0 rfl rfl (kb_in b15 (by decide) (by decide)) dX9_stoodBehind_42 ?_
        refine k_top (z := t16) et16.symm ?_
        refine lv_iload_n hx hb dX9_stoodBehind_43 rfl (lv_at hl 4 rfl) ?_
        refine lv_icmp_gt (tgt := 51) hx hb dX9_stoodBehind_44 (by decide) (fun c19 => ?_) (fun c19 => ?_)
        · have h20 := (kc_lt c19)
          have b21 : kb (-2147483648) z 2147483646 := kr_lt1 h20 (kb_any z) (kb_any t16) (by decide)
          have b22 : kb (-2147483647) t16 2147483647 := kr_lt2 h20 (kb_any z) (kb_any t16) (by decide)
          refine lv_iconst (v := 0) hx hb dX9_stoodBehind_51 (by decide) ?_
          exact kI_ret (v := 0) hx hb hr hlocks (by decide +kernel) hK hS dX9_stoodBehind_52 () hP hD (kb_w kc_0 (by decide) (by decide))
        · have h23 := (kc_nlt c19)
          refine lv_iconst (v := 1) hx hb dX9_stoodBehind_47 (by decide) ?_
          refine lv_goto (tgt := 52) hx hb dX9_stoodBehind_48 (by decide) ?_
          exact kI_ret (v := 1) hx hb hr hlocks (by decide +kernel) hK hS dX9_stoodBehind_52 () hP hD (kb_w kc_1 (by decide) (by decide))
set_option maxHeartbeats 4000000 in
set_option maxRecDepth 100000 in
theorem x_9_fitsAll  (l : Launch) {D : va_G} {K : Nat → ClassId} (r : Nat → Nat) (f : Nat → Int32) (a : Nat → Nat → Int32) (g : xG) (tx tt : va_W) (hT : ∀ c ∈ tt, c ∈ tx) (hI : xI f a) (hG : gOK K g.2 tt) (st_ : Int32) (bst_ : kb 0 st_ 63)   : kIG l yX9_fitsAll (Cond.code yX9_fitsAll cX9_fitsAll 4 (some .boolean) :: kG) (rmD 2 0 0) D K [.ref (r 80), .int st_] (xX K r f a g tx) (fun v (_ : Unit) => kb 0 v 1) (fun _ => xX K r f a g tx) 0 0 := by
  refine kIE.of (cc := cX9_fitsAll) (maxL := 4) (ret := (some .boolean)) (by decide) rfl (Nat.le_of_ble_eq_true rfl) ?_
  intro p e s m below meth c A hx hb hr hml hown hts hlocks hnm hK hP hD hS hA hV ls hl
  have hg : ∀ w ∈ kG, w.before _ s = true := fun w h => hts w (List.mem_cons_of_mem _ h)
  have hown : s.vm.findClass RX9 = some m.cls := hown
  have hl : lv_has ls 4 [(0, .ref (r 80)), (1, .int st_)] := hl
  refine lv_iconst (v := 0) hx hb dX9_fitsAll_0 (by decide) ?_
  refine lv_istore_n (lv' := [(2, .int 0), (0, .ref (r 80)), (1, .int st_)]) hx hb dX9_fitsAll_1 rfl hl (by decide) rfl (fun ls hl => ?_)
  have lp2 : ∀ (n3 : Nat) (H : Heap) (locs : List Loc) (ls : Array Slot) (y1 : Int32), (8 < y1.toInt + (n3 : Int)) → (kb 0 y1 8) → va_P D vwCl (xX K r f a g tx) H → va_D A (xX K r f a g tx) → va_S A s.heap H locs → lv_has ls 4 [(2, .int y1), (0, .ref (r 80)), (1, .int st_)] → W p l e (rmD 2 0 0) s m ([.ref (r 80), .int st_] : List Value).toArray below meth c H locs 0 0 (kQi D (tysK K) (fun v (_ : Unit) => kb 0 v 1) (fun _ => xX K r f a g tx) A below ([.ref (r 80), .int st_] : List Value).toArray s 0 0) (F0 m 2 ls []) := by
    intro n3
    induction n3 with
    | zero =>
      intro   H locs ls y1 hmlp2 b4 hP hD hS hl
      exact (by have h1 := b4.2; have h2 := hmlp2; omega : False).elim
    | succ n3 ihlp2 =>
      intro   H locs ls y1 hmlp2 b4 hP hD hS hl
      refine lv_iload_n hx hb dX9_fitsAll_2 rfl (lv_at hl 0 rfl) ?_
      refine lv_aload_n hx hb dX9_fitsAll_3 rfl (lv_at hl 1 rfl) ?_
      refine va_get (D := D) (ci := 9) (v := .ref (r 1)) (C := RX9) (T := TX9) (N := 10) hx hb hg inC9 hown hK hP 80 rfl rfl 0 (by decide) (hg _ wt2_115) (fun _ h9 => h9) rfl dX9_fitsAll_4 ?_
      refine va_get (D := D) (ci := 7) (v := .int (f 44)) (C := RX7) (T := TX7) (N := 20) hx hb hg inC7 hown hK hP 1 rfl rfl 12 (by decide) (hg _ wt1_136) (fun _ h9 => h9) rfl dX9_fitsAll_7 ?_
      refine lv_topi (fun t5 et5 => ?_)
      refine lv_icmp_ge (tgt := 73) hx hb dX9_fitsAll_10 (by decide) (fun c6 => ?_) (fun c6 => ?_)
      · have h7 := (kc_le c6)
        have b8 : kb (-2147483648) t5 8 := kr_le1 h7 (kb_any t5) b4
        refine lv_iconst (v := 1) hx hb dX9_fitsAll_73 (by decide) ?_
        exact kI_ret (v := 1) hx hb hr hlocks (by decide +kernel) hK hS dX9_fitsAll_74 () hP hD (kb_w kc_1 (by decide) (by decide))
      · have h9 := (kc_nle c6)
        have b10 : kb 1 t5 2147483647 := kr_lt2 h9 b4 (kb_any t5) (by decide)
        refine lv_iload_n hx hb dX9_fitsAll_13 rfl (lv_at hl 0 rfl) ?_
        refine lv_bipush (v := 8) hx hb dX9_fitsAll_14 (by decide) ?_
        refine lv_icmp_ge (tgt := 73) hx hb dX9_fitsAll_16 (by decide) (fun c11 => ?_) (fun c11 => ?_)
        · have h12 := (kc_le c11)
          have b13 : kb 8 y1 8 := kr_le2 h12 kc_8 b4
          refine lv_iconst (v := 1) hx hb dX9_fitsAll_73 (by decide) ?_
          exact kI_ret (v := 1) hx hb hr hlocks (by decide +kernel) hK hS dX9_fitsAll_74 () hP hD (kb_w kc_1 (by decide) (by decide))
        · have h14 := (kc_nle c11)
          have b15 : kb 0 y1 7 := kr_lt1 h14 b4 kc_8 (by decide)
          refine lv_aload_n hx hb dX9_fitsAll_19 rfl (lv_at hl 1 rfl) ?_
          refine va_get (D := D) (ci := 9) (v := .ref (r 1)) (C := RX9) (T := TX9) (N := 10) hx hb hg inC9 hown hK hP 80 rfl rfl 0 (by decide) (hg _ wt2_115) (fun _ h9 => h9) rfl dX9_fitsAll_20 ?_
          refine va_get (D := D) (ci := 7) (v := .ref (r 14)) (C := RX7) (T := TX7) (N := 20) hx hb hg inC7 hown hK hP 1 rfl rfl 15 (by decide) (hg _ wt1_145) (fun _ h9 => h9) rfl dX9_fitsAll_23 ?_
          refine lv_iload_n hx hb dX9_fitsAll_26 rfl (lv_at hl 0 rfl) ?_
          refine va_iald hx hb hK hP 14 0 rfl rfl (kb_in b15 (by decide) (by decide)) dX9_fitsAll_27 ?_
          refine lv_topi (fun t16 et16 => ?_)
          refine lv_iconst (v := 1) hx hb dX9_fitsAll_28 (by decide) ?_
          have jn19 : ∀ (H : Heap) (locs : List Loc) (ls : Array Slot) (z18 : Int32), (kb 0 z18 1) → va_P D vwCl (xX K r f a g tx) H → va_D A (xX K r f a g tx) → va_S A s.heap H locs → lv_has ls 4 [(2, .int y1), (0, .ref (r 80)), (1, .int st_)] → W p l e (rmD 2 0 0) s m ([.ref (r 80), .int st_] : List Value).toArray below meth c H locs 0 0 (kQi D (tysK K) (fun v (_ : Unit) => kb 0 v 1) (fun _ => xX K r f a g tx) A below ([.ref (r 80), .int st_] : List Value).toArray s 0 0) (F0 m 37 ls [.int z18]) := by
            intro  H locs ls z18 b20 hP hD hS hl
            refine lv_istore_n (lv' := [(3, .int z18), (2, .int y1), (0, .ref (r 80)), (1, .int st_)]) hx hb dX9_fitsAll_37 rfl hl (by decide) rfl (fun ls hl => ?_)
            refine lv_aload_n hx hb dX9_fitsAll_38 rfl (lv_at hl 2 rfl) ?_
            refine lv_iload_n hx hb dX9_fitsAll_39 rfl (lv_at hl 3 rfl) ?_
            refine lv_aload_n hx hb dX9_fitsAll_40 rfl (lv_at hl 2 rfl) ?_
            refine va_get (D := D) (ci := 9) (v := .ref (r 1)) (C := RX9) (T := TX9) (N := 10) hx hb hg inC9 hown hK hP 80 rfl rfl 0 (by decide) (hg _ wt2_115) (fun _ h9 => h9) rfl dX9_fitsAll_41 ?_
            refine va_get (D := D) (ci := 7) (v := .ref (r 13)) (C := RX7) (T := TX7) (N := 20) hx hb hg inC7 hown hK hP 1 rfl rfl 14 (by decide) (hg _ wt1_142) (fun _ h9 => h9) rfl dX9_fitsAll_44 ?_
            refine lv_iload_n hx hb dX9_fitsAll_47 rfl (lv_at hl 1 rfl) ?_
            refine va_iald hx hb hK hP 13 0 rfl rfl (kb_in b15 (by decide) (by decide)) dX9_fitsAll_48 ?_
            refine lv_topi (fun t21 et21 => ?_)
            refine lv_aload_n hx hb dX9_fitsAll_49 rfl (lv_at hl 2 rfl) ?_
            refine va_get (D := D) (ci := 9) (v := .ref (r 1)) (C := RX9) (T := TX9) (N := 10) hx hb hg inC9 hown hK hP 80 rfl rfl 0 (by decide) (hg _ wt2_115) (fun _ h9 => h9) rfl dX9_fitsAll_50 ?_
            refine va_get (D := D) (ci := 7) (v := .ref (r 12)) (C := RX7) (T := TX7) (N := 20) hx hb hg inC7 hown hK hP 1 rfl rfl 13 (by decide) (hg _ wt1_139) (fun _ h9 => h9) rfl dX9_fitsAll_53 ?_
            refine lv_iload_n hx hb dX9_fitsAll_56 rfl (lv_at hl 1 rfl) ?_
            refine va_iald hx hb hK hP 12 0 rfl rfl (kb_in b15 (by decide) (by decide)) dX9_fitsAll_57 ?_
            refine lv_topi (fun t22 et22 => ?_)
            refine kIG.callW (As := [.int st_, .int t21, .int t22]) (rest := []) ⟨hx, hb, hml, hown, hg⟩ (x_9_stoodBehind l r f a g tx tt hT hI hG st_ t21 t22 bst_ ) (cwV 3 hg (kgV wt5_97 wt5_99 wp3_3 wt1_11 wt5_100) rfl rfl rfl (by decide +kernel) ⟨by decide, by decide⟩) hV hK hP hD hS hA (80) 9 rfl rfl rfl hl.1 rfl (Nat.le_of_ble_eq_true rfl) dX9_fitsAll_58 ⟨Nat.le_refl _, Nat.le_refl _⟩ (fun v24 u25 H locs hw23 hP hD hS => ?_)
            have hP : va_P D vwCl (xX K r f a g tx) H := hP
            have hD : va_D A (xX K r f a g tx) := hD
            refine lv_iload_n hx hb dX9_fitsAll_61 rfl (lv_at hl 0 rfl) ?_
            refine lv_icmp_eq (tgt := 67) hx hb dX9_fitsAll_62 (by decide) (fun c26 => ?_) (fun c26 => ?_)
            · obtain ⟨t27, et27⟩ : ∃ z : Int32, z = y1 + Int32.ofInt 1 := ⟨_, rfl⟩
              have qt27 : t27.toInt = y1.toInt + 1 := by rw [et27]; exact km_inc b15 (by decide) (by decide)
              have b28 : kb 1 t27 8 := kb_inc (k := 1) qt27 b15
              refine lv_iinc (v := t27) (lv' := [(2, .int t27), (3, .int z18), (0, .ref (r 80)), (1, .int st_)]) hx hb dX9_fitsAll_67 hl (k := 1) rfl et27.symm (by decide) rfl (fun ls hl => ?_)
              refine lv_goto (tgt := 2) hx hb dX9_fitsAll_70 (by decide) ?_
              exact ihlp2  _ _ _ t27 (km_up hmlp2 qt27) (kb_w b28 (by decide) (by decide)) hP hD hS (lv_sub hl [0, 2, 3] rfl)
            · refine lv_iconst (v := 0) hx hb dX9_fitsAll_65 (by decide) ?_
              exact kI_ret (v := 0) hx hb hr hlocks (by decide +kernel) hK hS dX9_fitsAll_66 () hP hD (kb_w kc_0 (by decide) (by decide))
          refine lv_icmp_ne (tgt := 36) hx hb dX9_fitsAll_29 (by decide) (fun c29 => ?_) (fun c29 => ?_)
          · refine lv_iconst (v := 0) hx hb dX9_fitsAll_36 (by decide) ?_
            exact jn19 _ _ _ 0 (kb_w kc_0 (by decide) (by decide)) hP hD hS (lv_sub hl [0, 1, 2] rfl)
          · have b30 : kb 1 t16 1 := kb_eq c29 kc_1
            refine lv_iconst (v := 1) hx hb dX9_fitsAll_32 (by decide) ?_
            refine lv_goto (tgt := 37) hx hb dX9_fitsAll_33 (by decide) ?_
            exact jn19 _ _ _ 1 (kb_w kc_1 (by decide) (by decide)) hP hD hS (lv_sub hl [0, 1, 2] rfl)
  exact lp2 (9)  _ _ _ 0 (by have h1 := (kc_0); unfold kb at h1; omega) (kb_w kc_0 (by decide) (by decide)) hP hD hS (lv_sub hl [0, 1, 2] rfl)
set_option maxHeartbeats 4000000 in
set_option maxRecDepth 100000 in
theorem x_9_suspects  (l : Launch) {D : va_G} {K : Nat → ClassId} (r : Nat → Nat) (f : Nat → Int32) (a : Nat → Nat → Int32) (g : xG) (tx tt : va_W) (hT : ∀ c ∈ tt, c ∈ tx) (hI : xI f a) (hG : gOK K g.2 tt) (x : Int32)    : kIG l yX9_suspects (Cond.code yX9_suspects cX9_suspects 4 (some .int) :: kG) (rmD 6 0 0) D K [.ref (r 80), .int x] (xX K r f a g tx) (fun v (u : xS) => kb (-2147483648) v 2147483647 ∧ xI u.1 u.2.1 ∧ gOK K u.2.2.2 tt ∧ xEk ([1888, 1894, 1900, 1905, 1906, 2565], [60, 61, 62, 63, 64, 65, 66, 67, 68, 69, 70, 71, 72, 77, 78, 79, 83, 85], [73]) f a g u.1 u.2.1 u.2.2) (fun u => xX K r u.1 u.2.1 u.2.2 tx) 0 0 := by
  refine kIE.of (cc := cX9_suspects) (maxL := 4) (ret := (some .int)) (by decide) rfl (Nat.le_of_ble_eq_true rfl) ?_
  intro p e s m below meth c A hx hb hr hml hown hts hlocks hnm hK hP hD hS hA hV ls hl
  have hE : xEk ([1888, 1894, 1900, 1905, 1906, 2565], [60, 61, 62, 63, 64, 65, 66, 67, 68, 69, 70, 71, 72, 77, 78, 79, 83, 85], [73]) f a g f a g := xEk_rf
  have hg : ∀ w ∈ kG, w.before _ s = true := fun w h => hts w (List.mem_cons_of_mem _ h)
  have hown : s.vm.findClass RX9 = some m.cls := hown
  have hl : lv_has ls 4 [(0, .ref (r 80)), (1, .int x)] := hl
  refine lv_aload_n hx hb dX9_suspects_0 rfl (lv_at hl 0 rfl) ?_
  refine kVG.callW (As := []) (rest := []) ⟨hx, hb, hml, hown, hg⟩ (x_9_openSets l r f a g tx tt hT hI hG   ) (cwV 0 hg (kgV wt5_36 wt5_38 wp3_0 wt1_11 wt5_39) rfl rfl rfl (by decide +kernel) ⟨by decide, by decide⟩) hV hK hP hD hS hA (80) 9 rfl rfl rfl hl.1 rfl (Nat.le_of_ble_eq_true rfl) dX9_suspects_1 ⟨Nat.le_refl _, Nat.le_refl _⟩ (fun u3 H locs hw1 hP hD hS => ?_)
  obtain ⟨f4, a5, g6⟩ := u3
  have hP : va_P D vwCl (xX K r f4 a5 g6 tx) H := hP
  have hD : va_D A (xX K r f4 a5 g6 tx) := hD
  have hI : xI f4 a5 := hw1.1
  have hG : gOK K g6.2 tt := hw1.2.1
  have eE7 : xEk ([2565], [83], []) f a g f4 a5 g6 := hw1.2.2
  have hE : xEk ([1888, 1894, 1900, 1905, 1906, 2565], [60, 61, 62, 63, 64, 65, 66, 67, 68, 69, 70, 71, 72, 77, 78, 79, 83, 85], [73]) f a g f4 a5 g6 := xEk_tr hE (xEk_w (by decide +kernel) eE7)
  refine lv_iconst (v := 0) hx hb dX9_suspects_4 (by decide) ?_
  refine lv_istore_n (lv' := [(2, .int 0), (0, .ref (r 80)), (1, .int x)]) hx hb dX9_suspects_5 rfl hl (by decide) rfl (fun ls hl => ?_)
  refine lv_iconst (v := 0) hx hb dX9_suspects_6 (by decide) ?_
  refine lv_istore_n (lv' := [(3, .int 0), (2, .int 0), (0, .ref (r 80)), (1, .int x)]) hx hb dX9_suspects_7 rfl hl (by decide) rfl (fun ls hl => ?_)
  have lp13 : ∀ (n14 : Nat) (F10 : Nat → Int32) (B11 : Nat → Nat → Int32) (G12 : xG) (H : Heap) (locs : List Loc) (ls : Array Slot) (y8 : Int32) (y9 : Int32), (64 < y8.toInt + (n14 : Int)) → (xI F10 B11) → (gOK K G12.2 tt) → (xEk ([1888, 1894, 1900, 1905, 1906, 2565], [60, 61, 62, 63, 64, 65, 66, 67, 68, 69, 70, 71, 72, 77, 78, 79, 83, 85], [73]) f a g F10 B11 G12) → (kb 0 y8 64) → va_P D vwCl (xX K r F10 B11 G12 tx) H → va_D A (xX K r F10 B11 G12 tx) → va_S A s.heap H locs → lv_has ls 4 [(3, .int y8), (2, .int y9), (0, .ref (r 80)), (1, .int x)] → W p l e (rmD 6 0 0) s m ([.ref (r 80), .int x] : List Value).toArray below meth c H locs 0 0 (kQi D (tysK K) (fun v (u : xS) => kb (-2147483648) v 2147483647 ∧ xI u.1 u.2.1 ∧ gOK K u.2.2.2 tt ∧ xEk ([1888, 1894, 1900, 1905, 1906, 2565], [60, 61, 62, 63, 64, 65, 66, 67, 68, 69, 70, 71, 72, 77, 78, 79, 83, 85], [73]) f a g u.1 u.2.1 u.2.2) (fun u => xX K r u.1 u.2.1 u.2.2 tx) A below ([.ref (r 80), .int x] : List Value).toArray s 0 0) (F0 m 8 ls []) := by
    intro n14
    induction n14 with
    | zero =>
      intro  F10 B11 G12  H locs ls y8 y9 hmlp13 hI hG hE b15 hP hD hS hl
      exact (by have h1 := b15.2; have h2 := hmlp13; omega : False).elim
    | succ n14 ihlp13 =>
      intro  F10 B11 G12  H locs ls y8 y9 hmlp13 hI hG hE b15 hP hD hS hl
      refine lv_iload_n hx hb dX9_suspects_8 rfl (lv_at hl 0 rfl) ?_
      refine lv_iconst (v := 1) hx hb dX9_suspects_9 (by decide) ?_
      refine lv_aload_n hx hb dX9_suspects_10 rfl (lv_at hl 2 rfl) ?_
      refine va_get (D := D) (ci := 9) (v := .ref (r 1)) (C := RX9) (T := TX9) (N := 10) hx hb hg inC9 hown hK hP 80 rfl rfl 0 (by decide) (hg _ wt2_115) (fun _ h9 => h9) rfl dX9_suspects_11 ?_
      refine va_get (D := D) (ci := 7) (v := .int (F10 38)) (C := RX7) (T := TX7) (N := 20) hx hb hg inC7 hown hK hP 1 rfl rfl 6 (by decide) (hg _ wt1_107) (fun _ h9 => h9) rfl dX9_suspects_14 ?_
      refine lv_topi (fun t16 et16 => ?_)
      refine lv_ishl hx hb dX9_suspects_17 ?_
      refine lv_topi (fun t17 et17 => ?_)
      have jn52 : ∀ (H : Heap) (locs : List Loc) (ls : Array Slot), va_P D vwCl (xX K r F10 B11 G12 tx) H → va_D A (xX K r F10 B11 G12 tx) → va_S A s.heap H locs → lv_has ls 4 [(3, .int y8), (2, .int y9), (0, .ref (r 80)), (1, .int x)] → W p l e (rmD 6 0 0) s m ([.ref (r 80), .int x] : List Value).toArray below meth c H locs 0 0 (kQi D (tysK K) (fun v (u : xS) => kb (-2147483648) v 2147483647 ∧ xI u.1 u.2.1 ∧ gOK K u.2.2.2 tt ∧ xEk ([1888, 1894, 1900, 1905, 1906, 2565], [60, 61, 62, 63, 64, 65, 66, 67, 68, 69, 70, 71, 72, 77, 78, 79, 83, 85], [73]) f a g u.1 u.2.1 u.2.2) (fun u => xX K r u.1 u.2.1 u.2.2 tx) A below ([.ref (r 80), .int x] : List Value).toArray s 0 0) (F0 m 84 ls []) := by
        intro  H locs ls   hP hD hS hl
        refine lv_iload_n hx hb dX9_suspects_84 rfl (lv_at hl 3 rfl) ?_
        refine lv_iconst (v := (-1)) hx hb dX9_suspects_85 (by decide) ?_
        refine lv_icmp_ne (tgt := 93) hx hb dX9_suspects_86 (by decide) (fun c53 => ?_) (fun c53 => ?_)
        · refine lv_iconst (v := (-1)) hx hb dX9_suspects_93 (by decide) ?_
          exact kI_ret (v := (-1)) hx hb hr hlocks rfl hK hS dX9_suspects_94 (F10, B11, G12) hP hD ⟨(kb_w kc_m1 (by decide) (by decide)), hI, hG, hE⟩
        · have b54 : kb (-1) x (-1) := kb_eq c53 kc_m1
          refine lv_iload_n hx hb dX9_suspects_89 rfl (lv_at hl 1 rfl) ?_
          refine lv_goto (tgt := 94) hx hb dX9_suspects_90 (by decide) ?_
          exact kI_ret (v := y9) hx hb hr hlocks rfl hK hS dX9_suspects_94 (F10, B11, G12) hP hD ⟨(kb_any y9), hI, hG, hE⟩
      refine lv_icmp_ge (tgt := 84) hx hb dX9_suspects_18 (by decide) (fun c55 => ?_) (fun c55 => ?_)
      · have h56 := (kc_le c55)
        have b57 : kb (-2147483648) t17 64 := kr_le1 h56 (kb_any t17) b15
        exact jn52 _ _ _   hP hD hS (lv_sub hl [0, 1, 2, 3] rfl)
      · have h58 := (kc_nle c55)
        have b59 : kb 1 t17 2147483647 := kr_lt2 h58 b15 (kb_any t17) (by decide)
        refine lv_iload_n hx hb dX9_suspects_21 rfl (lv_at hl 0 rfl) ?_
        refine lv_bipush (v := 64) hx hb dX9_suspects_22 (by decide) ?_
        refine lv_icmp_ge (tgt := 84) hx hb dX9_suspects_24 (by decide) (fun c60 => ?_) (fun c60 => ?_)
        · have h61 := (kc_le c60)
          have b62 : kb 64 y8 64 := kr_le2 h61 kc_64 b15
          exact jn52 _ _ _   hP hD hS (lv_sub hl [0, 1, 2, 3] rfl)
        · have h63 := (kc_nle c60)
          have b64 : kb 0 y8 63 := kr_lt1 h63 b15 kc_64 (by decide)
          refine lv_aload_n hx hb dX9_suspects_27 rfl (lv_at hl 2 rfl) ?_
          refine va_get (D := D) (ci := 9) (v := .ref (r 58)) (C := RX9) (T := TX9) (N := 10) hx hb hg inC9 hown hK hP 80 rfl rfl 1 (by decide) (hg _ wt2_116) (fun _ h9 => h9) rfl dX9_suspects_28 ?_
          refine lv_iload_n hx hb dX9_suspects_31 rfl (lv_at hl 0 rfl) ?_
          refine lv_aload_n hx hb dX9_suspects_32 rfl (lv_at hl 2 rfl) ?_
          refine va_get (D := D) (ci := 9) (v := .int (F10 2565)) (C := RX9) (T := TX9) (N := 10) hx hb hg inC9 hown hK hP 80 rfl rfl 5 (by decide) (hg _ wt2_120) (fun _ h9 => h9) rfl dX9_suspects_33 ?_
          refine lv_topi (fun t65 et65 => ?_)
          refine lv_aload_n hx hb dX9_suspects_36 rfl (lv_at hl 2 rfl) ?_
          refine va_get (D := D) (ci := 9) (v := .ref (r 83)) (C := RX9) (T := TX9) (N := 10) hx hb hg inC9 hown hK hP 80 rfl rfl 4 (by decide) (hg _ wt2_119) (fun _ h9 => h9) rfl dX9_suspects_37 ?_
          refine lv_iload_n hx hb dX9_suspects_40 rfl (lv_at hl 0 rfl) ?_
          refine lv_bipush (v := 11) hx hb dX9_suspects_41 (by decide) ?_
          refine lv_imul hx hb dX9_suspects_43 ?_
          refine lv_topi (fun t66 et66 => ?_)
          have b67 : kb 0 t66 693 := kb_eq et66 (kb_mul b64 kc_11 (by decide) (by decide) (by decide))
          have qt66 : t66.toInt = y8.toInt * 11 := by rw [et66]; exact kt_mulc b64 kc_11 (by decide) (by decide) (by decide)
          refine kIG.callW (As := [.int y8, .int t65, .ref (r 83), .int t66]) (rest := []) ⟨hx, hb, hml, hown, hg⟩ (x_3_runS l r F10 B11 G12 tx tt hT hI hG y8 t65 t66 b67 ) (cwV 4 hg (kgV wt4_232 wt4_233 wt4_234 wt1_10 wt4_235) rfl rfl rfl (by decide +kernel) ⟨by decide, by decide⟩) hV hK hP hD hS hA (58) 3 rfl rfl rfl hl.1 rfl (Nat.le_of_ble_eq_true rfl) dX9_suspects_44 ⟨Nat.le_refl _, Nat.le_refl _⟩ (fun v69 u70 H locs hw68 hP hD hS => ?_)
          obtain ⟨f71, a72, g73⟩ := u70
          have hP : va_P D vwCl (xX K r f71 a72 g73 tx) H := hP
          have hD : va_D A (xX K r f71 a72 g73 tx) := hD
          have hI : xI f71 a72 := hw68.2.1
          have hG : gOK K g73.2 tt := hw68.2.2.1
          have eE74 : xEk ([1888, 1894, 1900, 1905, 1906], [60, 61, 62, 63, 64, 65, 66, 67, 68, 69, 70, 71, 72, 77, 78, 79, 83], [73]) F10 B11 G12 f71 a72 g73 := hw68.2.2.2
          have hE : xEk ([1888, 1894, 1900, 1905, 1906, 2565], [60, 61, 62, 63, 64, 65, 66, 67, 68, 69, 70, 71, 72, 77, 78, 79, 83, 85], [73]) f a g f71 a72 g73 := xEk_tr hE (xEk_w (by decide +kernel) eE74)
          refine lv_pop hx hb dX9_suspects_47 rfl ?_
          refine lv_aload_n hx hb dX9_suspects_48 rfl (lv_at hl 2 rfl) ?_
          refine va_get (D := D) (ci := 9) (v := .ref (r 85)) (C := RX9) (T := TX9) (N := 10) hx hb hg inC9 hown hK hP 80 rfl rfl 8 (by decide) (hg _ wt2_123) (fun _ h9 => h9) rfl dX9_suspects_49 ?_
          refine lv_iload_n hx hb dX9_suspects_52 rfl (lv_at hl 0 rfl) ?_
          refine lv_aload_n hx hb dX9_suspects_53 rfl (lv_at hl 2 rfl) ?_
          refine lv_iload_n hx hb dX9_suspects_54 rfl (lv_at hl 0 rfl) ?_
          refine kIG.callW (As := [.int y8]) (rest := [.int y8, .ref (r 85)]) ⟨hx, hb, hml, hown, hg⟩ (x_9_fitsAll l r f71 a72 g73 tx tt hT hI hG y8 b64 ) (cwV 1 hg (kgV wt5_93 wt5_95 wp3_2 wt1_11 wt5_96) rfl rfl rfl (by decide +kernel) ⟨by decide, by decide⟩) hV hK hP hD hS hA (80) 9 rfl rfl rfl hl.1 rfl (Nat.le_of_ble_eq_true rfl) dX9_suspects_55 ⟨Nat.le_refl _, Nat.le_refl _⟩ (fun v76 u77 H locs hw75 hP hD hS => ?_)
          have hP : va_P D vwCl (xX K r f71 a72 g73 tx) H := hP
          have hD : va_D A (xX K r f71 a72 g73 tx) := hD
          refine va_zast hx hb hK hP hD hS 85 2 rfl rfl (kb_in b64 (by decide) (by decide)) dX9_suspects_58 (fun H locs hP hD hS => ?_)
          have hP : va_P D vwCl (xX K r f71 (va_up a72 85 (upd (a72 85) y8.toNatClampNeg (vp_nar .boolean v76))) g73 tx) H := hP
          have hD : va_D A (xX K r f71 (va_up a72 85 (upd (a72 85) y8.toNatClampNeg (vp_nar .boolean v76))) g73 tx) := hD
          refine k_gen (P := fun z => va_P D vwCl (xX K r f71 z g73 tx) H ∧ va_D A (xX K r f71 z g73 tx) ∧ (xI f71 z) ∧ (gOK K g73.2 tt) ∧ (xEk ([1888, 1894, 1900, 1905, 1906, 2565], [60, 61, 62, 63, 64, 65, 66, 67, 68, 69, 70, 71, 72, 77, 78, 79, 83, 85], [73]) f a g f71 z g73)) (va_up a72 85 (upd (a72 85) y8.toNatClampNeg (vp_nar .boolean v76))) ⟨hP, hD, (xI_a hI (by decide)), hG, (xEk_a hE rfl)⟩ (fun a_78 ea_78 hq => ?_)
          obtain ⟨hP, hD, hI, hG, hE⟩ := hq
          refine lv_aload_n hx hb dX9_suspects_59 rfl (lv_at hl 2 rfl) ?_
          refine va_get (D := D) (ci := 9) (v := .ref (r 85)) (C := RX9) (T := TX9) (N := 10) hx hb hg inC9 hown hK hP 80 rfl rfl 8 (by decide) (hg _ wt2_123) (fun _ h9 => h9) rfl dX9_suspects_60 ?_
          refine lv_iload_n hx hb dX9_suspects_63 rfl (lv_at hl 0 rfl) ?_
          refine va_zald hx hb hK hP 85 2 rfl rfl (kb_in b64 (by decide) (by decide)) dX9_suspects_64 ?_
          refine k_top (z := (vp_nar .boolean v76)) (show a_78 85 y8.toNatClampNeg = (vp_nar .boolean v76) from by rw [← ea_78]; exact (pk_us (f := a72 85) (k := y8.toNatClampNeg) (x := (vp_nar .boolean v76)))) ?_
          have jn83 : ∀ (H : Heap) (locs : List Loc) (ls : Array Slot) (y82 : Int32), va_P D vwCl (xX K r f71 a_78 g73 tx) H → va_D A (xX K r f71 a_78 g73 tx) → va_S A s.heap H locs → lv_has ls 4 [(3, .int y8), (2, .int y82), (0, .ref (r 80)), (1, .int x)] → W p l e (rmD 6 0 0) s m ([.ref (r 80), .int x] : List Value).toArray below meth c H locs 0 0 (kQi D (tysK K) (fun v (u : xS) => kb (-2147483648) v 2147483647 ∧ xI u.1 u.2.1 ∧ gOK K u.2.2.2 tt ∧ xEk ([1888, 1894, 1900, 1905, 1906, 2565], [60, 61, 62, 63, 64, 65, 66, 67, 68, 69, 70, 71, 72, 77, 78, 79, 83, 85], [73]) f a g u.1 u.2.1 u.2.2) (fun u => xX K r u.1 u.2.1 u.2.2 tx) A below ([.ref (r 80), .int x] : List Value).toArray s 0 0) (F0 m 78 ls []) := by
            intro  H locs ls y82  hP hD hS hl
            obtain ⟨t84, et84⟩ : ∃ z : Int32, z = y8 + Int32.ofInt 1 := ⟨_, rfl⟩
            have qt84 : t84.toInt = y8.toInt + 1 := by rw [et84]; exact km_inc b64 (by decide) (by decide)
            have b85 : kb 1 t84 64 := kb_inc (k := 1) qt84 b64
            refine lv_iinc (v := t84) (lv' := [(3, .int t84), (2, .int y82), (0, .ref (r 80)), (1, .int x)]) hx hb dX9_suspects_78 hl (k := 0) rfl et84.symm (by decide) rfl (fun ls hl => ?_)
            refine lv_goto (tgt := 8) hx hb dX9_suspects_81 (by decide) ?_
            exact ihlp13  f71 a_78 g73 _ _ _ t84 y82 (km_up hmlp13 qt84) hI hG hE (kb_w b85 (by decide) (by decide)) hP hD hS (lv_sub hl [0, 1, 2, 3] rfl)
          refine lv_if_eq (tgt := 78) hx hb dX9_suspects_65 (by decide) (fun c86 => ?_) (fun c86 => ?_)
          · have b87 : kb 0 (vp_nar .boolean v76) 0 := kb_eq c86 kc_0
            exact jn83 _ _ _ y9  hP hD hS (lv_sub hl [0, 1, 2, 3] rfl)
          · refine lv_iload_n hx hb dX9_suspects_68 rfl (lv_at hl 1 rfl) ?_
            refine lv_iload_n hx hb dX9_suspects_69 rfl (lv_at hl 3 rfl) ?_
            refine lv_icmp_ne (tgt := 75) hx hb dX9_suspects_70 (by decide) (fun c88 => ?_) (fun c88 => ?_)
            · obtain ⟨t89, et89⟩ : ∃ z : Int32, z = y9 + Int32.ofInt 1 := ⟨_, rfl⟩
              refine lv_iinc (v := t89) (lv' := [(2, .int t89), (3, .int y8), (0, .ref (r 80)), (1, .int x)]) hx hb dX9_suspects_75 hl (k := 1) rfl et89.symm (by decide) rfl (fun ls hl => ?_)
              exact jn83 _ _ _ t89  hP hD hS (lv_sub hl [1, 0, 2, 3] rfl)
            · refine lv_iload_n hx hb dX9_suspects_73 rfl (lv_at hl 0 rfl) ?_
              exact kI_ret (v := y8) hx hb hr hlocks rfl hK hS dX9_suspects_74 (f71, a_78, g73) hP hD ⟨(kb_w b64 (by decide) (by decide)), hI, hG, hE⟩
  exact lp13 (65)  f4 a5 g6 _ _ _ 0 0 (by have h1 := (kc_0); unfold kb at h1; omega) hI hG hE (kb_w kc_0 (by decide) (by decide)) hP hD hS (lv_sub hl [0, 1, 2, 3] rfl)
set_option maxHeartbeats 4000000 in
set_option maxRecDepth 100000 in
theorem x_9_mostAlike  (l : Launch) {D : va_G} {K : Nat → ClassId} (r : Nat → Nat) (f : Nat → Int32) (a : Nat → Nat → Int32) (g : xG) (tx tt : va_W) (hT : ∀ c ∈ tt, c ∈ tx) (hI : xI f a) (hG : gOK K g.2 tt) (x : Int32)    : kIG l yX9_mostAlike (Cond.code yX9_mostAlike cX9_mostAlike 6 (some .int) :: kG) (rmD 2 0 0) D K [.ref (r 80), .int x] (xX K r f a g tx) (fun v (u : xS) => kb (-2147483648) v 2147483647 ∧ xI u.1 u.2.1 ∧ gOK K u.2.2.2 tt ∧ xEk ([], [86], []) f a g u.1 u.2.1 u.2.2) (fun u => xX K r u.1 u.2.1 u.2.2 tx) 0 0 := by
  refine kIE.of (cc := cX9_mostAlike) (maxL := 6) (ret := (some .int)) (by decide) rfl (Nat.le_of_ble_eq_true rfl) ?_
  intro p e s m below meth c A hx hb hr hml hown hts hlocks hnm hK hP hD hS hA hV ls hl
  have hE : xEk ([], [86], []) f a g f a g := xEk_rf
  have hg : ∀ w ∈ kG, w.before _ s = true := fun w h => hts w (List.mem_cons_of_mem _ h)
  have hown : s.vm.findClass RX9 = some m.cls := hown
  have hl : lv_has ls 6 [(0, .ref (r 80)), (1, .int x)] := hl
  refine lv_aload_n hx hb dX9_mostAlike_0 rfl (lv_at hl 0 rfl) ?_
  refine va_get (D := D) (ci := 9) (v := .ref (r 86)) (C := RX9) (T := TX9) (N := 10) hx hb hg inC9 hown hK hP 80 rfl rfl 9 (by decide) (hg _ wt2_124) (fun _ h9 => h9) rfl dX9_mostAlike_1 ?_
  refine lv_iconst (v := 0) hx hb dX9_mostAlike_4 (by decide) ?_
  refine kV.callA (q0 := 86) (As := [.ref (r 86), .int 0]) (rest := []) ⟨hx, hb, hml, hown, hg⟩ (x_fill l (r 86) 11 (a 86) 0 (by decide)) (va_cwS 2 hg (kgS wt5_51 wt3_232 wt1_19 wt3_233) rfl rfl rfl (by decide +kernel) ⟨by decide, by decide⟩) hK hP hD hS hA rfl rfl hl.1 rfl (Nat.le_of_ble_eq_true rfl) dX9_mostAlike_5 ⟨by decide, by decide⟩ (fun u1 H locs hw2 hP hD hS => ?_)
  have hP : va_P D vwCl (xX K r f (va_up a 86 u1) g tx) H := hP
  have hD : va_D A (xX K r f (va_up a 86 u1) g tx) := hD
  refine k_gen (P := fun z => va_P D vwCl (xX K r f z g tx) H ∧ va_D A (xX K r f z g tx) ∧ (xI f z) ∧ (gOK K g.2 tt) ∧ (xEk ([], [86], []) f a g f z g)) (va_up a 86 u1) ⟨hP, hD, (xI_a hI (by decide)), hG, (xEk_a hE rfl)⟩ (fun a_3 ea_3 hq => ?_)
  obtain ⟨hP, hD, hI, hG, hE⟩ := hq
  refine lv_iconst (v := 0) hx hb dX9_mostAlike_8 (by decide) ?_
  refine lv_istore_n (lv' := [(2, .int 0), (0, .ref (r 80)), (1, .int x)]) hx hb dX9_mostAlike_9 rfl hl (by decide) rfl (fun ls hl => ?_)
  refine lv_iconst (v := 0) hx hb dX9_mostAlike_10 (by decide) ?_
  refine lv_istore_n (lv' := [(3, .int 0), (2, .int 0), (0, .ref (r 80)), (1, .int x)]) hx hb dX9_mostAlike_11 rfl hl (by decide) rfl (fun ls hl => ?_)
  have lp7 : ∀ (n8 : Nat) (B6 : Nat → Nat → Int32) (H : Heap) (locs : List Loc) (ls : Array Slot) (y4 : Int32) (y5 : Int32), (64 < y4.toInt + (n8 : Int)) → (xI f B6) → (gOK K g.2 tt) → (xEk ([], [86], []) f a g f B6 g) → (kb 0 y4 64) → va_P D vwCl (xX K r f B6 g tx) H → va_D A (xX K r f B6 g tx) → va_S A s.heap H locs → lv_has ls 6 [(3, .int y4), (2, .int y5), (0, .ref (r 80)), (1, .int x)] → W p l e (rmD 2 0 0) s m ([.ref (r 80), .int x] : List Value).toArray below meth c H locs 0 0 (kQi D (tysK K) (fun v (u : xS) => kb (-2147483648) v 2147483647 ∧ xI u.1 u.2.1 ∧ gOK K u.2.2.2 tt ∧ xEk ([], [86], []) f a g u.1 u.2.1 u.2.2) (fun u => xX K r u.1 u.2.1 u.2.2 tx) A below ([.ref (r 80), .int x] : List Value).toArray s 0 0) (F0 m 12 ls []) := by
    intro n8
    induction n8 with
    | zero =>
      intro  B6  H locs ls y4 y5 hmlp7 hI hG hE b9 hP hD hS hl
      exact (by have h1 := b9.2; have h2 := hmlp7; omega : False).elim
    | succ n8 ihlp7 =>
      intro  B6  H locs ls y4 y5 hmlp7 hI hG hE b9 hP hD hS hl
      refine lv_iload_n hx hb dX9_mostAlike_12 rfl (lv_at hl 0 rfl) ?_
      refine lv_iconst (v := 1) hx hb dX9_mostAlike_13 (by decide) ?_
      refine lv_aload_n hx hb dX9_mostAlike_14 rfl (lv_at hl 2 rfl) ?_
      refine va_get (D := D) (ci := 9) (v := .ref (r 1)) (C := RX9) (T := TX9) (N := 10) hx hb hg inC9 hown hK hP 80 rfl rfl 0 (by decide) (hg _ wt2_115) (fun _ h9 => h9) rfl dX9_mostAlike_15 ?_
      refine va_get (D := D) (ci := 7) (v := .int (f 38)) (C := RX7) (T := TX7) (N := 20) hx hb hg inC7 hown hK hP 1 rfl rfl 6 (by decide) (hg _ wt1_107) (fun _ h9 => h9) rfl dX9_mostAlike_18 ?_
      refine lv_topi (fun t10 et10 => ?_)
      refine lv_ishl hx hb dX9_mostAlike_21 ?_
      refine lv_topi (fun t11 et11 => ?_)
      refine lv_icmp_ge (tgt := 117) hx hb dX9_mostAlike_22 (by decide) (fun c12 => ?_) (fun c12 => ?_)
      · have h13 := (kc_le c12)
        have b14 : kb (-2147483648) t11 64 := kr_le1 h13 (kb_any t11) b9
        refine lv_iload_n hx hb dX9_mostAlike_117 rfl (lv_at hl 1 rfl) ?_
        exact kI_ret (v := y5) hx hb hr hlocks rfl hK hS dX9_mostAlike_118 (f, B6, g) hP hD ⟨(kb_any y5), hI, hG, hE⟩
      · have h15 := (kc_nle c12)
        have b16 : kb 1 t11 2147483647 := kr_lt2 h15 b9 (kb_any t11) (by decide)
        refine lv_iload_n hx hb dX9_mostAlike_25 rfl (lv_at hl 0 rfl) ?_
        refine lv_bipush (v := 64) hx hb dX9_mostAlike_26 (by decide) ?_
        refine lv_icmp_ge (tgt := 117) hx hb dX9_mostAlike_28 (by decide) (fun c17 => ?_) (fun c17 => ?_)
        · have h18 := (kc_le c17)
          have b19 : kb 64 y4 64 := kr_le2 h18 kc_64 b9
          refine lv_iload_n hx hb dX9_mostAlike_117 rfl (lv_at hl 1 rfl) ?_
          exact kI_ret (v := y5) hx hb hr hlocks rfl hK hS dX9_mostAlike_118 (f, B6, g) hP hD ⟨(kb_any y5), hI, hG, hE⟩
        · have h20 := (kc_nle c17)
          have b21 : kb 0 y4 63 := kr_lt1 h20 b9 kc_64 (by decide)
          refine lv_aload_n hx hb dX9_mostAlike_31 rfl (lv_at hl 2 rfl) ?_
          refine va_get (D := D) (ci := 9) (v := .ref (r 85)) (C := RX9) (T := TX9) (N := 10) hx hb hg inC9 hown hK hP 80 rfl rfl 8 (by decide) (hg _ wt2_123) (fun _ h9 => h9) rfl dX9_mostAlike_32 ?_
          refine lv_iload_n hx hb dX9_mostAlike_35 rfl (lv_at hl 0 rfl) ?_
          refine va_zald hx hb hK hP 85 2 rfl rfl (kb_in b21 (by decide) (by decide)) dX9_mostAlike_36 ?_
          refine lv_topi (fun t22 et22 => ?_)
          refine lv_if_ne (tgt := 43) hx hb dX9_mostAlike_37 (by decide) (fun c23 => ?_) (fun c23 => ?_)
          · refine lv_iconst (v := 0) hx hb dX9_mostAlike_43 (by decide) ?_
            refine lv_istore (lv' := [(4, .int 0), (3, .int y4), (2, .int y5), (0, .ref (r 80)), (1, .int x)]) hx hb dX9_mostAlike_44 hl (by decide) rfl (fun ls hl => ?_)
            refine lv_iconst (v := 0) hx hb dX9_mostAlike_46 (by decide) ?_
            refine lv_istore (lv' := [(5, .int 0), (4, .int 0), (3, .int y4), (2, .int y5), (0, .ref (r 80)), (1, .int x)]) hx hb dX9_mostAlike_47 hl (by decide) rfl (fun ls hl => ?_)
            have lp26 : ∀ (n27 : Nat) (H : Heap) (locs : List Loc) (ls : Array Slot) (y24 : Int32) (y25 : Int32), (10 < y24.toInt + (n27 : Int)) → (kb 0 y24 10) → (kb 0 y25 10) → (y25.toInt ≤ y24.toInt) → va_P D vwCl (xX K r f B6 g tx) H → va_D A (xX K r f B6 g tx) → va_S A s.heap H locs → lv_has ls 6 [(5, .int y24), (4, .int y25), (3, .int y4), (2, .int y5), (0, .ref (r 80)), (1, .int x)] → W p l e (rmD 2 0 0) s m ([.ref (r 80), .int x] : List Value).toArray below meth c H locs 0 0 (kQi D (tysK K) (fun v (u : xS) => kb (-2147483648) v 2147483647 ∧ xI u.1 u.2.1 ∧ gOK K u.2.2.2 tt ∧ xEk ([], [86], []) f a g u.1 u.2.1 u.2.2) (fun u => xX K r u.1 u.2.1 u.2.2 tx) A below ([.ref (r 80), .int x] : List Value).toArray s 0 0) (F0 m 49 ls []) := by
              intro n27
              induction n27 with
              | zero =>
                intro   H locs ls y24 y25 hmlp26 b28 b29 hvlp26_0 hP hD hS hl
                exact (by have h1 := b28.2; have h2 := hmlp26; omega : False).elim
              | succ n27 ihlp26 =>
                intro   H locs ls y24 y25 hmlp26 b28 b29 hvlp26_0 hP hD hS hl
                refine lv_iload hx hb dX9_mostAlike_49 (lv_at hl 0 rfl) ?_
                refine lv_aload_n hx hb dX9_mostAlike_51 rfl (lv_at hl 4 rfl) ?_
                refine va_get (D := D) (ci := 9) (v := .ref (r 1)) (C := RX9) (T := TX9) (N := 10) hx hb hg inC9 hown hK hP 80 rfl rfl 0 (by decide) (hg _ wt2_115) (fun _ h9 => h9) rfl dX9_mostAlike_52 ?_
                refine va_get (D := D) (ci := 7) (v := .int (f 32)) (C := RX7) (T := TX7) (N := 20) hx hb hg inC7 hown hK hP 1 rfl rfl 0 (by decide) (hg _ wt1_84) (fun _ h9 => h9) rfl dX9_mostAlike_55 ?_
                refine lv_topi (fun t30 et30 => ?_)
                have b31 : kb 0 t30 10 := kb_eq et30 (fI_at hI.1 32 (by decide) (by decide))
                refine lv_icmp_ge (tgt := 88) hx hb dX9_mostAlike_58 (by decide) (fun c32 => ?_) (fun c32 => ?_)
                · have h33 := (kc_le c32)
                  refine lv_aload_n hx hb dX9_mostAlike_88 rfl (lv_at hl 4 rfl) ?_
                  refine va_get (D := D) (ci := 9) (v := .ref (r 86)) (C := RX9) (T := TX9) (N := 10) hx hb hg inC9 hown hK hP 80 rfl rfl 9 (by decide) (hg _ wt2_124) (fun _ h9 => h9) rfl dX9_mostAlike_89 ?_
                  refine lv_iload hx hb dX9_mostAlike_92 (lv_at hl 1 rfl) ?_
                  refine lv_dup2_11 hx hb dX9_mostAlike_94 rfl rfl ?_
                  refine va_iald hx hb hK hP 86 0 rfl rfl (kb_in b29 (by decide) (by decide)) dX9_mostAlike_95 ?_
                  refine lv_topi (fun t34 et34 => ?_)
                  refine lv_iconst (v := 1) hx hb dX9_mostAlike_96 (by decide) ?_
                  refine lv_iadd hx hb dX9_mostAlike_97 ?_
                  refine lv_topi (fun t35 et35 => ?_)
                  refine va_iast hx hb hK hP hD hS 86 0 rfl rfl (kb_in b29 (by decide) (by decide)) dX9_mostAlike_98 (fun H locs hP hD hS => ?_)
                  have hP : va_P D vwCl (xX K r f (va_up B6 86 (upd (B6 86) y25.toNatClampNeg t35)) g tx) H := hP
                  have hD : va_D A (xX K r f (va_up B6 86 (upd (B6 86) y25.toNatClampNeg t35)) g tx) := hD
                  refine k_gen (P := fun z => va_P D vwCl (xX K r f z g tx) H ∧ va_D A (xX K r f z g tx) ∧ (xI f z) ∧ (gOK K g.2 tt) ∧ (xEk ([], [86], []) f a g f z g)) (va_up B6 86 (upd (B6 86) y25.toNatClampNeg t35)) ⟨hP, hD, (xI_a hI (by decide)), hG, (xEk_a hE rfl)⟩ (fun a_36 ea_36 hq => ?_)
                  obtain ⟨hP, hD, hI, hG, hE⟩ := hq
                  refine lv_iload_n hx hb dX9_mostAlike_99 rfl (lv_at hl 3 rfl) ?_
                  refine lv_aload_n hx hb dX9_mostAlike_100 rfl (lv_at hl 4 rfl) ?_
                  refine va_get (D := D) (ci := 9) (v := .ref (r 86)) (C := RX9) (T := TX9) (N := 10) hx hb hg inC9 hown hK hP 80 rfl rfl 9 (by decide) (hg _ wt2_124) (fun _ h9 => h9) rfl dX9_mostAlike_101 ?_
                  refine lv_iload hx hb dX9_mostAlike_104 (lv_at hl 1 rfl) ?_
                  refine va_iald hx hb hK hP 86 0 rfl rfl (kb_in b29 (by decide) (by decide)) dX9_mostAlike_106 ?_
                  refine k_top (z := t35) (show a_36 86 y25.toNatClampNeg = t35 from by rw [← ea_36]; exact (pk_us (f := B6 86) (k := y25.toNatClampNeg) (x := t35))) ?_
                  refine va_mmax hx hb (hml.trans hl.1.symm) hown (hg _ wt5_40) (hg _ wt2_38) (hg _ wt1_9) (hg _ wt2_39) (by decide) (Nat.le_of_ble_eq_true rfl) (by decide) (by decide) dX9_mostAlike_107 ?_
                  refine lv_topi (fun t37 et37 => ?_)
                  refine lv_istore_n (lv' := [(2, .int t37), (5, .int y24), (4, .int y25), (3, .int y4), (0, .ref (r 80)), (1, .int x)]) hx hb dX9_mostAlike_110 rfl hl (by decide) rfl (fun ls hl => ?_)
                  obtain ⟨t38, et38⟩ : ∃ z : Int32, z = y4 + Int32.ofInt 1 := ⟨_, rfl⟩
                  have qt38 : t38.toInt = y4.toInt + 1 := by rw [et38]; exact km_inc b21 (by decide) (by decide)
                  have b39 : kb 1 t38 64 := kb_inc (k := 1) qt38 b21
                  refine lv_iinc (v := t38) (lv' := [(3, .int t38), (2, .int t37), (5, .int y24), (4, .int y25), (0, .ref (r 80)), (1, .int x)]) hx hb dX9_mostAlike_111 hl (k := 3) rfl et38.symm (by decide) rfl (fun ls hl => ?_)
                  refine lv_goto (tgt := 12) hx hb dX9_mostAlike_114 (by decide) ?_
                  exact ihlp7  a_36 _ _ _ t38 t37 (km_up hmlp7 qt38) hI hG hE (kb_w b39 (by decide) (by decide)) hP hD hS (lv_sub hl [0, 1, 4, 5] rfl)
                · have h40 := (kc_nle c32)
                  have b41 : kb 0 y24 9 := kr_lt1 h40 b28 b31 (by decide)
                  have b42 : kb 1 t30 10 := kr_lt2 h40 b28 b31 (by decide)
                  refine lv_iload hx hb dX9_mostAlike_61 (lv_at hl 0 rfl) ?_
                  refine lv_bipush (v := 10) hx hb dX9_mostAlike_63 (by decide) ?_
                  refine lv_icmp_ge (tgt := 88) hx hb dX9_mostAlike_65 (by decide) (fun c43 => ?_) (fun c43 => ?_)
                  · have h44 := (kc_le c43)
                    exact kb_no (kr_le1 h44 kc_10 b41) (by decide)
                  · have h45 := (kc_nle c43)
                    refine lv_aload_n hx hb dX9_mostAlike_68 rfl (lv_at hl 4 rfl) ?_
                    refine lv_iload_n hx hb dX9_mostAlike_69 rfl (lv_at hl 2 rfl) ?_
                    refine lv_iload hx hb dX9_mostAlike_70 (lv_at hl 0 rfl) ?_
                    refine lv_iload_n hx hb dX9_mostAlike_72 rfl (lv_at hl 5 rfl) ?_
                    refine kIG.callW (As := [.int y4, .int y24, .int x]) (rest := []) ⟨hx, hb, hml, hown, hg⟩ (x_9_stoodBehind l r f B6 g tx tt hT hI hG y4 y24 x b21 ) (cwV 3 hg (kgV wt5_97 wt5_99 wp3_3 wt1_11 wt5_100) rfl rfl rfl (by decide +kernel) ⟨by decide, by decide⟩) hV hK hP hD hS hA (80) 9 rfl rfl rfl hl.1 rfl (Nat.le_of_ble_eq_true rfl) dX9_mostAlike_73 ⟨Nat.le_refl _, Nat.le_refl _⟩ (fun v47 u48 H locs hw46 hP hD hS => ?_)
                    have hP : va_P D vwCl (xX K r f B6 g tx) H := hP
                    have hD : va_D A (xX K r f B6 g tx) := hD
                    refine lv_if_eq (tgt := 82) hx hb dX9_mostAlike_76 (by decide) (fun c49 => ?_) (fun c49 => ?_)
                    · have b50 : kb 0 v47 0 := kb_eq c49 kc_0
                      obtain ⟨t51, et51⟩ : ∃ z : Int32, z = y24 + Int32.ofInt 1 := ⟨_, rfl⟩
                      have qt51 : t51.toInt = y24.toInt + 1 := by rw [et51]; exact km_inc b41 (by decide) (by decide)
                      have b52 : kb 1 t51 10 := kb_inc (k := 1) qt51 b41
                      refine lv_iinc (v := t51) (lv' := [(5, .int t51), (4, .int y25), (3, .int y4), (2, .int y5), (0, .ref (r 80)), (1, .int x)]) hx hb dX9_mostAlike_82 hl (k := 0) rfl et51.symm (by decide) rfl (fun ls hl => ?_)
                      refine lv_goto (tgt := 49) hx hb dX9_mostAlike_85 (by decide) ?_
                      exact ihlp26  _ _ _ t51 y25 (km_up hmlp26 qt51) (kb_w b52 (by decide) (by decide)) b29 (by have w1 := hvlp26_0; omega) hP hD hS (lv_sub hl [0, 1, 2, 3, 4, 5] rfl)
                    · have b53 : kb 1 v47 1 := kr_nel c49 hw46 kc_0 (by decide)
                      have b54 : kb 0 y25 9 := ⟨(b29).1, by have w1 := hvlp26_0; have w2 := (b41).2; omega⟩
                      obtain ⟨t55, et55⟩ : ∃ z : Int32, z = y25 + Int32.ofInt 1 := ⟨_, rfl⟩
                      have qt55 : t55.toInt = y25.toInt + 1 := by rw [et55]; exact km_inc b54 (by decide) (by decide)
                      have b56 : kb 1 t55 10 := kb_inc (k := 1) qt55 b54
                      refine lv_iinc (v := t55) (lv' := [(4, .int t55), (5, .int y24), (3, .int y4), (2, .int y5), (0, .ref (r 80)), (1, .int x)]) hx hb dX9_mostAlike_79 hl (k := 1) rfl et55.symm (by decide) rfl (fun ls hl => ?_)
                      obtain ⟨t57, et57⟩ : ∃ z : Int32, z = y24 + Int32.ofInt 1 := ⟨_, rfl⟩
                      have qt57 : t57.toInt = y24.toInt + 1 := by rw [et57]; exact km_inc b41 (by decide) (by decide)
                      have b58 : kb 1 t57 10 := kb_inc (k := 1) qt57 b41
                      refine lv_iinc (v := t57) (lv' := [(5, .int t57), (4, .int t55), (3, .int y4), (2, .int y5), (0, .ref (r 80)), (1, .int x)]) hx hb dX9_mostAlike_82 hl (k := 1) rfl et57.symm (by decide) rfl (fun ls hl => ?_)
                      refine lv_goto (tgt := 49) hx hb dX9_mostAlike_85 (by decide) ?_
                      exact ihlp26  _ _ _ t57 t55 (km_up hmlp26 qt57) (kb_w b58 (by decide) (by decide)) (kb_w b56 (by decide) (by decide)) (by have w1 := hvlp26_0; omega) hP hD hS (lv_sub hl [0, 1, 2, 3, 4, 5] rfl)
            exact lp26 (11)  _ _ _ 0 0 (by have h1 := (kc_0); unfold kb at h1; omega) (kb_w kc_0 (by decide) (by decide)) (kb_w kc_0 (by decide) (by decide)) (by decide +kernel) hP hD hS (lv_sub hl [0, 1, 2, 3, 4, 5] rfl)
          · have b59 : kb 0 t22 0 := kb_eq c23 kc_0
            refine lv_goto (tgt := 111) hx hb dX9_mostAlike_40 (by decide) ?_
            obtain ⟨t60, et60⟩ : ∃ z : Int32, z = y4 + Int32.ofInt 1 := ⟨_, rfl⟩
            have qt60 : t60.toInt = y4.toInt + 1 := by rw [et60]; exact km_inc b21 (by decide) (by decide)
            have b61 : kb 1 t60 64 := kb_inc (k := 1) qt60 b21
            refine lv_iinc (v := t60) (lv' := [(3, .int t60), (2, .int y5), (0, .ref (r 80)), (1, .int x)]) hx hb dX9_mostAlike_111 hl (k := 0) rfl et60.symm (by decide) rfl (fun ls hl => ?_)
            refine lv_goto (tgt := 12) hx hb dX9_mostAlike_114 (by decide) ?_
            exact ihlp7  B6 _ _ _ t60 y5 (km_up hmlp7 qt60) hI hG hE (kb_w b61 (by decide) (by decide)) hP hD hS (lv_sub hl [0, 1, 2, 3] rfl)
  exact lp7 (65)  a_3 _ _ _ 0 0 (by have h1 := (kc_0); unfold kb at h1; omega) hI hG hE (kb_w kc_0 (by decide) (by decide)) hP hD hS (lv_sub hl [0, 1, 2, 3] rfl)
set_option maxHeartbeats 4000000 in
set_option maxRecDepth 100000 in
theorem x_9_nextLook  (l : Launch) {D : va_G} {K : Nat → ClassId} (r : Nat → Nat) (f : Nat → Int32) (a : Nat → Nat → Int32) (g : xG) (tx tt : va_W) (hT : ∀ c ∈ tt, c ∈ tx) (hI : xI f a) (hG : gOK K g.2 tt) (x : Int32)    : kIG l yX9_nextLook (Cond.code yX9_nextLook cX9_nextLook 6 (some .int) :: kG) (rmD 7 0 0) D K [.ref (r 80), .int x] (xX K r f a g tx) (fun v (u : xS) => kb (-2147483648) v 2147483647 ∧ xI u.1 u.2.1 ∧ gOK K u.2.2.2 tt ∧ xEk ([1888, 1894, 1900, 1905, 1906, 2565], [60, 61, 62, 63, 64, 65, 66, 67, 68, 69, 70, 71, 72, 77, 78, 79, 83, 85, 86], [73]) f a g u.1 u.2.1 u.2.2) (fun u => xX K r u.1 u.2.1 u.2.2 tx) 0 0 := by
  refine kIE.of (cc := cX9_nextLook) (maxL := 6) (ret := (some .int)) (by decide) rfl (Nat.le_of_ble_eq_true rfl) ?_
  intro p e s m below meth c A hx hb hr hml hown hts hlocks hnm hK hP hD hS hA hV ls hl
  have hE : xEk ([1888, 1894, 1900, 1905, 1906, 2565], [60, 61, 62, 63, 64, 65, 66, 67, 68, 69, 70, 71, 72, 77, 78, 79, 83, 85, 86], [73]) f a g f a g := xEk_rf
  have hg : ∀ w ∈ kG, w.before _ s = true := fun w h => hts w (List.mem_cons_of_mem _ h)
  have hown : s.vm.findClass RX9 = some m.cls := hown
  have hl : lv_has ls 6 [(0, .ref (r 80)), (1, .int x)] := hl
  refine lv_aload_n hx hb dX9_nextLook_0 rfl (lv_at hl 0 rfl) ?_
  refine lv_iconst (v := (-1)) hx hb dX9_nextLook_1 (by decide) ?_
  refine kIG.callW (As := [.int (-1)]) (rest := []) ⟨hx, hb, hml, hown, hg⟩ (x_9_suspects l r f a g tx tt hT hI hG (-1)  ) (cwV 1 hg (kgV wt5_109 wt5_90 wt5_91 wt1_11 wt5_92) rfl rfl rfl (by decide +kernel) ⟨by decide, by decide⟩) hV hK hP hD hS hA (80) 9 rfl rfl rfl hl.1 rfl (Nat.le_of_ble_eq_true rfl) dX9_nextLook_2 ⟨Nat.le_refl _, Nat.le_refl _⟩ (fun v2 u3 H locs hw1 hP hD hS => ?_)
  obtain ⟨f4, a5, g6⟩ := u3
  have hP : va_P D vwCl (xX K r f4 a5 g6 tx) H := hP
  have hD : va_D A (xX K r f4 a5 g6 tx) := hD
  have hI : xI f4 a5 := hw1.2.1
  have hG : gOK K g6.2 tt := hw1.2.2.1
  have eE7 : xEk ([1888, 1894, 1900, 1905, 1906, 2565], [60, 61, 62, 63, 64, 65, 66, 67, 68, 69, 70, 71, 72, 77, 78, 79, 83, 85], [73]) f a g f4 a5 g6 := hw1.2.2.2
  have hE : xEk ([1888, 1894, 1900, 1905, 1906, 2565], [60, 61, 62, 63, 64, 65, 66, 67, 68, 69, 70, 71, 72, 77, 78, 79, 83, 85, 86], [73]) f a g f4 a5 g6 := xEk_tr hE (xEk_w (by decide +kernel) eE7)
  refine lv_if_ne (tgt := 10) hx hb dX9_nextLook_5 (by decide) (fun c8 => ?_) (fun c8 => ?_)
  · refine lv_iconst (v := 0) hx hb dX9_nextLook_10 (by decide) ?_
    refine lv_istore_n (lv' := [(2, .int 0), (0, .ref (r 80)), (1, .int x)]) hx hb dX9_nextLook_11 rfl hl (by decide) rfl (fun ls hl => ?_)
    refine lv_bipush (v := 65) hx hb dX9_nextLook_12 (by decide) ?_
    refine lv_istore_n (lv' := [(3, .int 65), (2, .int 0), (0, .ref (r 80)), (1, .int x)]) hx hb dX9_nextLook_14 rfl hl (by decide) rfl (fun ls hl => ?_)
    refine lv_iconst (v := 0) hx hb dX9_nextLook_15 (by decide) ?_
    refine lv_istore (lv' := [(4, .int 0), (3, .int 65), (2, .int 0), (0, .ref (r 80)), (1, .int x)]) hx hb dX9_nextLook_16 hl (by decide) rfl (fun ls hl => ?_)
    have lp15 : ∀ (n16 : Nat) (F12 : Nat → Int32) (B13 : Nat → Nat → Int32) (G14 : xG) (H : Heap) (locs : List Loc) (ls : Array Slot) (y9 : Int32) (y10 : Int32) (y11 : Int32), (41 < y9.toInt + (n16 : Int)) → (xI F12 B13) → (gOK K G14.2 tt) → (xEk ([1888, 1894, 1900, 1905, 1906, 2565], [60, 61, 62, 63, 64, 65, 66, 67, 68, 69, 70, 71, 72, 77, 78, 79, 83, 85, 86], [73]) f a g F12 B13 G14) → (kb 0 y9 41) → va_P D vwCl (xX K r F12 B13 G14 tx) H → va_D A (xX K r F12 B13 G14 tx) → va_S A s.heap H locs → lv_has ls 6 [(4, .int y9), (3, .int y10), (2, .int y11), (0, .ref (r 80)), (1, .int x)] → W p l e (rmD 7 0 0) s m ([.ref (r 80), .int x] : List Value).toArray below meth c H locs 0 0 (kQi D (tysK K) (fun v (u : xS) => kb (-2147483648) v 2147483647 ∧ xI u.1 u.2.1 ∧ gOK K u.2.2.2 tt ∧ xEk ([1888, 1894, 1900, 1905, 1906, 2565], [60, 61, 62, 63, 64, 65, 66, 67, 68, 69, 70, 71, 72, 77, 78, 79, 83, 85, 86], [73]) f a g u.1 u.2.1 u.2.2) (fun u => xX K r u.1 u.2.1 u.2.2 tx) A below ([.ref (r 80), .int x] : List Value).toArray s 0 0) (F0 m 18 ls []) := by
      intro n16
      induction n16 with
      | zero =>
        intro  F12 B13 G14  H locs ls y9 y10 y11 hmlp15 hI hG hE b17 hP hD hS hl
        exact (by have h1 := b17.2; have h2 := hmlp15; omega : False).elim
      | succ n16 ihlp15 =>
        intro  F12 B13 G14  H locs ls y9 y10 y11 hmlp15 hI hG hE b17 hP hD hS hl
        refine lv_iload hx hb dX9_nextLook_18 (lv_at hl 0 rfl) ?_
        refine lv_bipush (v := 40) hx hb dX9_nextLook_20 (by decide) ?_
        refine lv_icmp_gt (tgt := 51) hx hb dX9_nextLook_22 (by decide) (fun c18 => ?_) (fun c18 => ?_)
        · have h19 := (kc_lt c18)
          have b20 : kb 41 y9 41 := kr_lt2 h19 kc_40 b17 (by decide)
          refine lv_iload_n hx hb dX9_nextLook_51 rfl (lv_at hl 4 rfl) ?_
          refine lv_if_ne (tgt := 59) hx hb dX9_nextLook_52 (by decide) (fun c21 => ?_) (fun c21 => ?_)
          · refine lv_iload_n hx hb dX9_nextLook_59 rfl (lv_at hl 1 rfl) ?_
            exact kI_ret (v := y10) hx hb hr hlocks rfl hK hS dX9_nextLook_60 (F12, B13, G14) hP hD ⟨(kb_any y10), hI, hG, hE⟩
          · have b22 : kb 0 x 0 := kb_eq c21 kc_0
            refine lv_iload_n hx hb dX9_nextLook_55 rfl (lv_at hl 2 rfl) ?_
            refine lv_goto (tgt := 60) hx hb dX9_nextLook_56 (by decide) ?_
            exact kI_ret (v := y11) hx hb hr hlocks rfl hK hS dX9_nextLook_60 (F12, B13, G14) hP hD ⟨(kb_any y11), hI, hG, hE⟩
        · have h23 := (kc_nlt c18)
          have b24 : kb 0 y9 40 := kr_le1 h23 b17 kc_40
          refine lv_aload_n hx hb dX9_nextLook_25 rfl (lv_at hl 3 rfl) ?_
          refine lv_iload hx hb dX9_nextLook_26 (lv_at hl 0 rfl) ?_
          refine kIG.callW (As := [.int y9]) (rest := []) ⟨hx, hb, hml, hown, hg⟩ (x_9_mostAlike l r F12 B13 G14 tx tt hT hI hG y9  ) (cwV 1 hg (kgV wt5_110 wt5_112 wp3_4 wt1_11 wt5_113) rfl rfl rfl (by decide +kernel) ⟨by decide, by decide⟩) hV hK hP hD hS hA (80) 9 rfl rfl rfl hl.1 rfl (Nat.le_of_ble_eq_true rfl) dX9_nextLook_28 ⟨Nat.le_refl _, Nat.le_refl _⟩ (fun v26 u27 H locs hw25 hP hD hS => ?_)
          obtain ⟨f28, a29, g30⟩ := u27
          have hP : va_P D vwCl (xX K r f28 a29 g30 tx) H := hP
          have hD : va_D A (xX K r f28 a29 g30 tx) := hD
          have hI : xI f28 a29 := hw25.2.1
          have hG : gOK K g30.2 tt := hw25.2.2.1
          have eE31 : xEk ([], [86], []) F12 B13 G14 f28 a29 g30 := hw25.2.2.2
          have hE : xEk ([1888, 1894, 1900, 1905, 1906, 2565], [60, 61, 62, 63, 64, 65, 66, 67, 68, 69, 70, 71, 72, 77, 78, 79, 83, 85, 86], [73]) f a g f28 a29 g30 := xEk_tr hE (xEk_w (by decide +kernel) eE31)
          refine lv_istore (lv' := [(5, .int v26), (4, .int y9), (3, .int y10), (2, .int y11), (0, .ref (r 80)), (1, .int x)]) hx hb dX9_nextLook_31 hl (by decide) rfl (fun ls hl => ?_)
          refine lv_iload hx hb dX9_nextLook_33 (lv_at hl 0 rfl) ?_
          refine lv_iload_n hx hb dX9_nextLook_35 rfl (lv_at hl 2 rfl) ?_
          have jn38 : ∀ (H : Heap) (locs : List Loc) (ls : Array Slot) (y36 : Int32) (y37 : Int32), va_P D vwCl (xX K r f28 a29 g30 tx) H → va_D A (xX K r f28 a29 g30 tx) → va_S A s.heap H locs → lv_has ls 6 [(5, .int v26), (4, .int y9), (3, .int y36), (2, .int y37), (0, .ref (r 80)), (1, .int x)] → W p l e (rmD 7 0 0) s m ([.ref (r 80), .int x] : List Value).toArray below meth c H locs 0 0 (kQi D (tysK K) (fun v (u : xS) => kb (-2147483648) v 2147483647 ∧ xI u.1 u.2.1 ∧ gOK K u.2.2.2 tt ∧ xEk ([1888, 1894, 1900, 1905, 1906, 2565], [60, 61, 62, 63, 64, 65, 66, 67, 68, 69, 70, 71, 72, 77, 78, 79, 83, 85, 86], [73]) f a g u.1 u.2.1 u.2.2) (fun u => xX K r u.1 u.2.1 u.2.2 tx) A below ([.ref (r 80), .int x] : List Value).toArray s 0 0) (F0 m 45 ls []) := by
            intro  H locs ls y36 y37  hP hD hS hl
            obtain ⟨t39, et39⟩ : ∃ z : Int32, z = y9 + Int32.ofInt 1 := ⟨_, rfl⟩
            have qt39 : t39.toInt = y9.toInt + 1 := by rw [et39]; exact km_inc b24 (by decide) (by decide)
            have b40 : kb 1 t39 41 := kb_inc (k := 1) qt39 b24
            refine lv_iinc (v := t39) (lv' := [(4, .int t39), (5, .int v26), (3, .int y36), (2, .int y37), (0, .ref (r 80)), (1, .int x)]) hx hb dX9_nextLook_45 hl (k := 1) rfl et39.symm (by decide) rfl (fun ls hl => ?_)
            refine lv_goto (tgt := 18) hx hb dX9_nextLook_48 (by decide) ?_
            exact ihlp15  f28 a29 g30 _ _ _ t39 y36 y37 (km_up hmlp15 qt39) hI hG hE (kb_w b40 (by decide) (by decide)) hP hD hS (lv_sub hl [0, 2, 3, 4, 5] rfl)
          refine lv_icmp_ge (tgt := 45) hx hb dX9_nextLook_36 (by decide) (fun c41 => ?_) (fun c41 => ?_)
          · have h42 := (kc_le c41)
            exact jn38 _ _ _ y10 y11  hP hD hS (lv_sub hl [0, 1, 2, 3, 4, 5] rfl)
          · have h43 := (kc_nle c41)
            have b44 : kb (-2147483648) v26 2147483646 := kr_lt1 h43 (kb_any v26) (kb_any y10) (by decide)
            have b45 : kb (-2147483647) y10 2147483647 := kr_lt2 h43 (kb_any v26) (kb_any y10) (by decide)
            refine lv_iload hx hb dX9_nextLook_39 (lv_at hl 0 rfl) ?_
            refine lv_istore_n (lv' := [(3, .int v26), (5, .int v26), (4, .int y9), (2, .int y11), (0, .ref (r 80)), (1, .int x)]) hx hb dX9_nextLook_41 rfl hl (by decide) rfl (fun ls hl => ?_)
            refine lv_iload hx hb dX9_nextLook_42 (lv_at hl 2 rfl) ?_
            refine lv_istore_n (lv' := [(2, .int y9), (3, .int v26), (5, .int v26), (4, .int y9), (0, .ref (r 80)), (1, .int x)]) hx hb dX9_nextLook_44 rfl hl (by decide) rfl (fun ls hl => ?_)
            exact jn38 _ _ _ v26 y9  hP hD hS (lv_sub hl [2, 3, 1, 0, 4, 5] rfl)
    exact lp15 (42)  f4 a5 g6 _ _ _ 0 65 0 (by have h1 := (kc_0); unfold kb at h1; omega) hI hG hE (kb_w kc_0 (by decide) (by decide)) hP hD hS (lv_sub hl [0, 1, 2, 3, 4] rfl)
  · have b46 : kb 0 v2 0 := kb_eq c8 kc_0
    refine lv_iconst (v := (-1)) hx hb dX9_nextLook_8 (by decide) ?_
    exact kI_ret (v := (-1)) hx hb hr hlocks rfl hK hS dX9_nextLook_9 (f4, a5, g6) hP hD ⟨(kb_w kc_m1 (by decide) (by decide)), hI, hG, hE⟩
set_option maxHeartbeats 4000000 in
set_option maxRecDepth 100000 in
theorem x_6_clear  (l : Launch) {D : va_G} {K : Nat → ClassId} (r : Nat → Nat) (f : Nat → Int32) (a : Nat → Nat → Int32) (g : xG) (tx tt : va_W) (hT : ∀ c ∈ tt, c ∈ tx) (hI : xI f a) (hG : gOK K g.2 tt)     : kVG l yX6_clear (Cond.code yX6_clear cX6_clear 1 none :: kG) (rmD 1 0 0) D K [.ref (r 87)] (xX K r f a g tx) (fun (u : xS) => xI u.1 u.2.1 ∧ gOK K u.2.2.2 tt ∧ xEk ([2786], [], []) f a g u.1 u.2.1 u.2.2) (fun u => xX K r u.1 u.2.1 u.2.2 tx) 0 0 := by
  refine kVG.of (cc := cX6_clear) (maxL := 1) (ret := none) (by decide) rfl (Nat.le_of_ble_eq_true rfl) ?_
  intro p e s m below meth c A hx hb hr hml hown hts hlocks hnm hK hP hD hS hA hV ls hl
  have hE : xEk ([2786], [], []) f a g f a g := xEk_rf
  have hg : ∀ w ∈ kG, w.before _ s = true := fun w h => hts w (List.mem_cons_of_mem _ h)
  have hown : s.vm.findClass RX6 = some m.cls := hown
  have hl : lv_has ls 1 [(0, .ref (r 87))] := hl
  refine lv_aload_n hx hb dX6_clear_0 rfl (lv_at hl 0 rfl) ?_
  refine lv_iconst (v := 0) hx hb dX6_clear_1 (by decide) ?_
  refine va_put (D := D) (ci := 6) (v := .int 0) (ty := .boolean) (C := RX6) (T := TX6) (N := 3) hx hb hg inC6 tyX6 tyX6_ok nmX6 hown hK hP hD hS 87 rfl rfl 2 (by decide) (hg _ wt2_155) (fun _ h9 => h9) rfl (by decide +kernel) rfl rfl (Nat.le_of_ble_eq_true rfl) dX6_clear_2 (fun H locs hP hD hS => ?_)
  have hP : va_P D vwCl (xX K r (upd f 2786 0) a g tx) H := hP
  have hD : va_D A (xX K r (upd f 2786 0) a g tx) := hD
  refine k_gen (P := fun z => va_P D vwCl (xX K r z a g tx) H ∧ va_D A (xX K r z a g tx) ∧ (xI z a) ∧ (gOK K g.2 tt) ∧ (xEk ([2786], [], []) f a g z a g)) (upd f 2786 0) ⟨hP, hD, (xI_f hI (fI_st hI.1 2786 (kb_any _) (by decide) (by decide))), hG, (xEk_f hE rfl)⟩ (fun f_1 ef_1 hq => ?_)
  obtain ⟨hP, hD, hI, hG, hE⟩ := hq
  exact kV_ret hx hb hr hlocks hK hS dX6_clear_5 (f_1, a, g) hP hD ⟨hI, hG, hE⟩
set_option maxHeartbeats 4000000 in
set_option maxRecDepth 100000 in
theorem x_6_waysWith  (l : Launch) {D : va_G} {K : Nat → ClassId} (r : Nat → Nat) (f : Nat → Int32) (a : Nat → Nat → Int32) (g : xG) (tx tt : va_W) (hT : ∀ c ∈ tt, c ∈ tx) (hI : xI f a) (hG : gOK K g.2 tt) (x : Int32) (pt : Int32) (bpt : kb 0 pt 9)   : kIG l yX6_waysWith (Cond.code yX6_waysWith cX6_waysWith 5 (some .int) :: kG) (rmD 1 0 0) D K [.ref (r 87), .int x, .int pt] (xX K r f a g tx) (fun v (_ : Unit) => kb (-2147483648) v 2147483647) (fun _ => xX K r f a g tx) 0 0 := by
  refine kIE.of (cc := cX6_waysWith) (maxL := 5) (ret := (some .int)) (by decide) rfl (Nat.le_of_ble_eq_true rfl) ?_
  intro p e s m below meth c A hx hb hr hml hown hts hlocks hnm hK hP hD hS hA hV ls hl
  have hg : ∀ w ∈ kG, w.before _ s = true := fun w h => hts w (List.mem_cons_of_mem _ h)
  have hown : s.vm.findClass RX6 = some m.cls := hown
  have hl : lv_has ls 5 [(0, .ref (r 87)), (1, .int x), (2, .int pt)] := hl
  refine lv_iload_n hx hb dX6_waysWith_0 rfl (lv_at hl 1 rfl) ?_
  refine lv_iload_n hx hb dX6_waysWith_1 rfl (lv_at hl 2 rfl) ?_
  refine lv_ishr hx hb dX6_waysWith_2 ?_
  refine lv_topi (fun t1 et1 => ?_)
  refine lv_iconst (v := 1) hx hb dX6_waysWith_3 (by decide) ?_
  refine lv_iand hx hb dX6_waysWith_4 ?_
  refine lv_topi (fun t2 et2 => ?_)
  have b3 : kb 0 t2 1 := kb_eq et2 (kb_and 1 (by decide) (by decide))
  refine lv_if_ne (tgt := 28) hx hb dX6_waysWith_5 (by decide) (fun c4 => ?_) (fun c4 => ?_)
  · have b5 : kb 1 t2 1 := kr_nel c4 b3 kc_0 (by decide)
    refine lv_iconst (v := 0) hx hb dX6_waysWith_28 (by decide) ?_
    refine lv_istore_n (lv' := [(3, .int 0), (0, .ref (r 87)), (1, .int x), (2, .int pt)]) hx hb dX6_waysWith_29 rfl hl (by decide) rfl (fun ls hl => ?_)
    refine lv_iload_n hx hb dX6_waysWith_30 rfl (lv_at hl 2 rfl) ?_
    refine lv_iconst (v := 1) hx hb dX6_waysWith_31 (by decide) ?_
    refine lv_iload_n hx hb dX6_waysWith_32 rfl (lv_at hl 3 rfl) ?_
    refine lv_ishl hx hb dX6_waysWith_33 ?_
    refine lv_topi (fun t6 et6 => ?_)
    have b7 : kb 1 t6 512 := kb_eq et6 (kb_shl (l := 0) (h := 9) bpt (by decide))
    refine lv_ior hx hb dX6_waysWith_34 ?_
    refine lv_topi (fun t8 et8 => ?_)
    refine lv_istore (lv' := [(4, .int t8), (3, .int 0), (0, .ref (r 87)), (1, .int x), (2, .int pt)]) hx hb dX6_waysWith_35 hl (by decide) rfl (fun ls hl => ?_)
    refine lv_iload_n hx hb dX6_waysWith_37 rfl (lv_at hl 1 rfl) ?_
    refine lv_if_eq (tgt := 64) hx hb dX6_waysWith_38 (by decide) (fun c9 => ?_) (fun c9 => ?_)
    · refine lv_iconst (v := 0) hx hb dX6_waysWith_64 (by decide) ?_
      exact kI_ret (v := 0) hx hb hr hlocks rfl hK hS dX6_waysWith_65 () hP hD (kb_w kc_0 (by decide) (by decide))
    · exact kb_nsame c9 kc_0 kc_0
  · have b10 : kb 0 t2 0 := kb_eq c4 kc_0
    refine lv_aload_n hx hb dX6_waysWith_8 rfl (lv_at hl 0 rfl) ?_
    refine va_get (D := D) (ci := 6) (v := .ref (r 1)) (C := RX6) (T := TX6) (N := 3) hx hb hg inC6 hown hK hP 87 rfl rfl 0 (by decide) (hg _ wt2_153) (fun _ h9 => h9) rfl dX6_waysWith_9 ?_
    refine va_get (D := D) (ci := 7) (v := .ref (r 3)) (C := RX7) (T := TX7) (N := 20) hx hb hg inC7 hown hK hP 1 rfl rfl 2 (by decide) (hg _ wt1_91) (fun _ h9 => h9) rfl dX6_waysWith_12 ?_
    refine lv_iload_n hx hb dX6_waysWith_15 rfl (lv_at hl 2 rfl) ?_
    refine va_iald hx hb hK hP 3 0 rfl rfl (kb_in bpt (by decide) (by decide)) dX6_waysWith_16 ?_
    refine lv_topi (fun t11 et11 => ?_)
    refine lv_iload_n hx hb dX6_waysWith_17 rfl (lv_at hl 1 rfl) ?_
    refine lv_iconst (v := (-1)) hx hb dX6_waysWith_18 (by decide) ?_
    refine lv_ixor hx hb dX6_waysWith_19 ?_
    refine lv_topi (fun t12 et12 => ?_)
    refine lv_iand hx hb dX6_waysWith_20 ?_
    refine lv_topi (fun t13 et13 => ?_)
    refine lv_if_ne (tgt := 28) hx hb dX6_waysWith_21 (by decide) (fun c14 => ?_) (fun c14 => ?_)
    · refine lv_iconst (v := 0) hx hb dX6_waysWith_28 (by decide) ?_
      refine lv_istore_n (lv' := [(3, .int 0), (0, .ref (r 87)), (1, .int x), (2, .int pt)]) hx hb dX6_waysWith_29 rfl hl (by decide) rfl (fun ls hl => ?_)
      refine lv_iload_n hx hb dX6_waysWith_30 rfl (lv_at hl 2 rfl) ?_
      refine lv_iconst (v := 1) hx hb dX6_waysWith_31 (by decide) ?_
      refine lv_iload_n hx hb dX6_waysWith_32 rfl (lv_at hl 3 rfl) ?_
      refine lv_ishl hx hb dX6_waysWith_33 ?_
      refine lv_topi (fun t15 et15 => ?_)
      have b16 : kb 1 t15 512 := kb_eq et15 (kb_shl (l := 0) (h := 9) bpt (by decide))
      refine lv_ior hx hb dX6_waysWith_34 ?_
      refine lv_topi (fun t17 et17 => ?_)
      refine lv_istore (lv' := [(4, .int t17), (3, .int 0), (0, .ref (r 87)), (1, .int x), (2, .int pt)]) hx hb dX6_waysWith_35 hl (by decide) rfl (fun ls hl => ?_)
      refine lv_iload_n hx hb dX6_waysWith_37 rfl (lv_at hl 1 rfl) ?_
      refine lv_if_eq (tgt := 64) hx hb dX6_waysWith_38 (by decide) (fun c18 => ?_) (fun c18 => ?_)
      · refine lv_iconst (v := 0) hx hb dX6_waysWith_64 (by decide) ?_
        exact kI_ret (v := 0) hx hb hr hlocks rfl hK hS dX6_waysWith_65 () hP hD (kb_w kc_0 (by decide) (by decide))
      · exact kb_nsame c18 kc_0 kc_0
    · have b19 : kb 0 t13 0 := kb_eq c14 kc_0
      refine lv_iconst (v := 1) hx hb dX6_waysWith_24 (by decide) ?_
      refine lv_goto (tgt := 29) hx hb dX6_waysWith_25 (by decide) ?_
      refine lv_istore_n (lv' := [(3, .int 1), (0, .ref (r 87)), (1, .int x), (2, .int pt)]) hx hb dX6_waysWith_29 rfl hl (by decide) rfl (fun ls hl => ?_)
      refine lv_iload_n hx hb dX6_waysWith_30 rfl (lv_at hl 2 rfl) ?_
      refine lv_iconst (v := 1) hx hb dX6_waysWith_31 (by decide) ?_
      refine lv_iload_n hx hb dX6_waysWith_32 rfl (lv_at hl 3 rfl) ?_
      refine lv_ishl hx hb dX6_waysWith_33 ?_
      refine lv_topi (fun t20 et20 => ?_)
      have b21 : kb 1 t20 512 := kb_eq et20 (kb_shl (l := 0) (h := 9) bpt (by decide))
      refine lv_ior hx hb dX6_waysWith_34 ?_
      refine lv_topi (fun t22 et22 => ?_)
      refine lv_istore (lv' := [(4, .int t22), (3, .int 1), (0, .ref (r 87)), (1, .int x), (2, .int pt)]) hx hb dX6_waysWith_35 hl (by decide) rfl (fun ls hl => ?_)
      refine lv_iload_n hx hb dX6_waysWith_37 rfl (lv_at hl 1 rfl) ?_
      refine lv_if_eq (tgt := 64) hx hb dX6_waysWith_38 (by decide) (fun c23 => ?_) (fun c23 => ?_)
      · exact kb_dj c23 kc_1 kc_0 (by decide)
      · refine lv_iload hx hb dX6_waysWith_41 (lv_at hl 0 rfl) ?_
        refine lv_if_lt (tgt := 64) hx hb dX6_waysWith_43 (by decide) (fun c24 => ?_) (fun c24 => ?_)
        · have h25 := (kc_lt c24)
          have b26 : kb (-2147483648) t22 (-1) := kr_lt1 h25 (kb_any t22) kc_0 (by decide)
          refine lv_iconst (v := 0) hx hb dX6_waysWith_64 (by decide) ?_
          exact kI_ret (v := 0) hx hb hr hlocks rfl hK hS dX6_waysWith_65 () hP hD (kb_w kc_0 (by decide) (by decide))
        · have h27 := (kc_nlt c24)
          have b28 : kb 0 t22 2147483647 := kr_le2 h27 kc_0 (kb_any t22)
          refine lv_iload hx hb dX6_waysWith_46 (lv_at hl 0 rfl) ?_
          refine lv_sipush (v := 1024) hx hb dX6_waysWith_48 (by decide) ?_
          refine lv_icmp_ge (tgt := 64) hx hb dX6_waysWith_51 (by decide) (fun c29 => ?_) (fun c29 => ?_)
          · have h30 := (kc_le c29)
            have b31 : kb 1024 t22 2147483647 := kr_le2 h30 kc_1024 b28
            refine lv_iconst (v := 0) hx hb dX6_waysWith_64 (by decide) ?_
            exact kI_ret (v := 0) hx hb hr hlocks rfl hK hS dX6_waysWith_65 () hP hD (kb_w kc_0 (by decide) (by decide))
          · have h32 := (kc_nle c29)
            have b33 : kb 0 t22 1023 := kr_lt1 h32 b28 kc_1024 (by decide)
            refine lv_aload_n hx hb dX6_waysWith_54 rfl (lv_at hl 2 rfl) ?_
            refine va_get (D := D) (ci := 6) (v := .ref (r 88)) (C := RX6) (T := TX6) (N := 3) hx hb hg inC6 hown hK hP 87 rfl rfl 1 (by decide) (hg _ wt2_154) (fun _ h9 => h9) rfl dX6_waysWith_55 ?_
            refine lv_iload hx hb dX6_waysWith_58 (lv_at hl 0 rfl) ?_
            refine va_iald hx hb hK hP 88 0 rfl rfl (kb_in b33 (by decide) (by decide)) dX6_waysWith_60 ?_
            refine lv_topi (fun t34 et34 => ?_)
            refine lv_goto (tgt := 65) hx hb dX6_waysWith_61 (by decide) ?_
            exact kI_ret (v := t34) hx hb hr hlocks rfl hK hS dX6_waysWith_65 () hP hD (kb_any t34)
set_option maxHeartbeats 4000000 in
set_option maxRecDepth 100000 in
theorem x_6_reckonWays  (l : Launch) {D : va_G} {K : Nat → ClassId} (r : Nat → Nat) (f : Nat → Int32) (a : Nat → Nat → Int32) (g : xG) (tx tt : va_W) (hT : ∀ c ∈ tt, c ∈ tx) (hI : xI f a) (hG : gOK K g.2 tt)     : kVG l yX6_reckonWays (Cond.code yX6_reckonWays cX6_reckonWays 6 none :: kG) (rmD 2 0 0) D K [.ref (r 87)] (xX K r f a g tx) (fun (u : xS) => xI u.1 u.2.1 ∧ gOK K u.2.2.2 tt ∧ xEk ([2786], [88], []) f a g u.1 u.2.1 u.2.2) (fun u => xX K r u.1 u.2.1 u.2.2 tx) 0 0 := by
  refine kVG.of (cc := cX6_reckonWays) (maxL := 6) (ret := none) (by decide) rfl (Nat.le_of_ble_eq_true rfl) ?_
  intro p e s m below meth c A hx hb hr hml hown hts hlocks hnm hK hP hD hS hA hV ls hl
  have hE : xEk ([2786], [88], []) f a g f a g := xEk_rf
  have hg : ∀ w ∈ kG, w.before _ s = true := fun w h => hts w (List.mem_cons_of_mem _ h)
  have hown : s.vm.findClass RX6 = some m.cls := hown
  have hl : lv_has ls 6 [(0, .ref (r 87))] := hl
  refine lv_aload_n hx hb dX6_reckonWays_0 rfl (lv_at hl 0 rfl) ?_
  refine va_get (D := D) (ci := 6) (v := .int (f 2786)) (C := RX6) (T := TX6) (N := 3) hx hb hg inC6 hown hK hP 87 rfl rfl 2 (by decide) (hg _ wt2_155) (fun _ h9 => h9) rfl dX6_reckonWays_1 ?_
  refine lv_topi (fun t1 et1 => ?_)
  refine lv_if_eq (tgt := 8) hx hb dX6_reckonWays_4 (by decide) (fun c2 => ?_) (fun c2 => ?_)
  · have b3 : kb 0 t1 0 := kb_eq c2 kc_0
    refine lv_aload_n hx hb dX6_reckonWays_8 rfl (lv_at hl 0 rfl) ?_
    refine va_get (D := D) (ci := 6) (v := .ref (r 1)) (C := RX6) (T := TX6) (N := 3) hx hb hg inC6 hown hK hP 87 rfl rfl 0 (by decide) (hg _ wt2_153) (fun _ h9 => h9) rfl dX6_reckonWays_9 ?_
    refine kIG.callW (As := []) (rest := []) ⟨hx, hb, hml, hown, hg⟩ (x_7_upMask l r f a g tx tt hT hI hG   ) (cwV 0 hg (kgV wt4_213 wt3_44 wt3_45 wt1_2 wt3_46) rfl rfl rfl (by decide +kernel) ⟨by decide, by decide⟩) hV hK hP hD hS hA (1) 7 rfl rfl rfl hl.1 rfl (Nat.le_of_ble_eq_true rfl) dX6_reckonWays_12 ⟨Nat.le_refl _, Nat.le_refl _⟩ (fun v5 u6 H locs hw4 hP hD hS => ?_)
    have hP : va_P D vwCl (xX K r f a g tx) H := hP
    have hD : va_D A (xX K r f a g tx) := hD
    refine lv_istore_n (lv' := [(1, .int v5), (0, .ref (r 87))]) hx hb dX6_reckonWays_15 rfl hl (by decide) rfl (fun ls hl => ?_)
    refine lv_iconst (v := 1) hx hb dX6_reckonWays_16 (by decide) ?_
    refine lv_aload_n hx hb dX6_reckonWays_17 rfl (lv_at hl 1 rfl) ?_
    refine va_get (D := D) (ci := 6) (v := .ref (r 1)) (C := RX6) (T := TX6) (N := 3) hx hb hg inC6 hown hK hP 87 rfl rfl 0 (by decide) (hg _ wt2_153) (fun _ h9 => h9) rfl dX6_reckonWays_18 ?_
    refine va_get (D := D) (ci := 7) (v := .int (f 32)) (C := RX7) (T := TX7) (N := 20) hx hb hg inC7 hown hK hP 1 rfl rfl 0 (by decide) (hg _ wt1_81) (fun _ h9 => h9) rfl dX6_reckonWays_21 ?_
    refine lv_topi (fun t7 et7 => ?_)
    have b8 : kb 0 t7 10 := kb_eq et7 (fI_at hI.1 32 (by decide) (by decide))
    refine lv_ishl hx hb dX6_reckonWays_24 ?_
    refine lv_topi (fun t9 et9 => ?_)
    have b10 : kb 1 t9 1024 := kb_eq et9 (kb_shl (l := 0) (h := 10) b8 (by decide))
    refine lv_iconst (v := 1) hx hb dX6_reckonWays_25 (by decide) ?_
    refine lv_isub hx hb dX6_reckonWays_26 ?_
    refine lv_topi (fun t11 et11 => ?_)
    have b12 : kb 0 t11 1023 := kb_eq et11 (kb_sub b10 kc_1 (by decide) (by decide))
    have qt11 : t11.toInt = t9.toInt - 1 := by rw [et11]; exact kt_subc b10 kc_1 (by decide) (by decide)
    refine lv_istore_n (lv' := [(2, .int t11), (1, .int v5), (0, .ref (r 87))]) hx hb dX6_reckonWays_27 rfl hl (by decide) rfl (fun ls hl => ?_)
    refine lv_iload_n hx hb dX6_reckonWays_28 rfl (lv_at hl 0 rfl) ?_
    refine lv_sipush (v := 1023) hx hb dX6_reckonWays_29 (by decide) ?_
    refine va_mmin hx hb (hml.trans hl.1.symm) hown (hg _ wt4_214) (hg _ wt3_52) (hg _ wt1_9) (hg _ wt3_53) (by decide) (Nat.le_of_ble_eq_true rfl) (by decide) (by decide) dX6_reckonWays_32 ?_
    refine lv_topi (fun t13 et13 => ?_)
    have b14 : kb 0 t13 1023 := kb_eq et13 (kb_mn b12 kc_1023 (by decide) (by decide) (by decide) (by decide))
    refine lv_istore_n (lv' := [(3, .int t13), (2, .int t11), (1, .int v5), (0, .ref (r 87))]) hx hb dX6_reckonWays_35 rfl hl (by decide) rfl (fun ls hl => ?_)
    have lp17 : ∀ (n18 : Nat) (B16 : Nat → Nat → Int32) (H : Heap) (locs : List Loc) (ls : Array Slot) (y15 : Int32), (y15.toInt + 1 < (n18 : Int)) → (xI f B16) → (gOK K g.2 tt) → (xEk ([2786], [88], []) f a g f B16 g) → (kb (-1) y15 1023) → va_P D vwCl (xX K r f B16 g tx) H → va_D A (xX K r f B16 g tx) → va_S A s.heap H locs → lv_has ls 6 [(3, .int y15), (2, .int t11), (1, .int v5), (0, .ref (r 87))] → W p l e (rmD 2 0 0) s m ([.ref (r 87)] : List Value).toArray below meth c H locs 0 0 (kQv D (tysK K) (fun (u : xS) => xI u.1 u.2.1 ∧ gOK K u.2.2.2 tt ∧ xEk ([2786], [88], []) f a g u.1 u.2.1 u.2.2) (fun u => xX K r u.1 u.2.1 u.2.2 tx) A below ([.ref (r 87)] : List Value).toArray s 0 0) (F0 m 36 ls []) := by
      intro n18
      induction n18 with
      | zero =>
        intro  B16  H locs ls y15 hmlp17 hI hG hE b19 hP hD hS hl
        exact (by have h1 := b19.1; have h2 := hmlp17; omega : False).elim
      | succ n18 ihlp17 =>
        intro  B16  H locs ls y15 hmlp17 hI hG hE b19 hP hD hS hl
        refine lv_iload_n hx hb dX6_reckonWays_36 rfl (lv_at hl 0 rfl) ?_
        refine lv_if_lt (tgt := 116) hx hb dX6_reckonWays_37 (by decide) (fun c20 => ?_) (fun c20 => ?_)
        · have h21 := (kc_lt c20)
          have b22 : kb (-1) y15 (-1) := kr_lt1 h21 b19 kc_0 (by decide)
          refine lv_aload_n hx hb dX6_reckonWays_116 rfl (lv_at hl 3 rfl) ?_
          refine lv_iconst (v := 1) hx hb dX6_reckonWays_117 (by decide) ?_
          refine va_put (D := D) (ci := 6) (v := .int 1) (ty := .boolean) (C := RX6) (T := TX6) (N := 3) hx hb hg inC6 tyX6 tyX6_ok nmX6 hown hK hP hD hS 87 rfl rfl 2 (by decide) (hg _ wt2_155) (fun _ h9 => h9) rfl (by decide +kernel) rfl rfl (Nat.le_of_ble_eq_true rfl) dX6_reckonWays_118 (fun H locs hP hD hS => ?_)
          have hP : va_P D vwCl (xX K r (upd f 2786 1) B16 g tx) H := hP
          have hD : va_D A (xX K r (upd f 2786 1) B16 g tx) := hD
          refine k_gen (P := fun z => va_P D vwCl (xX K r z B16 g tx) H ∧ va_D A (xX K r z B16 g tx) ∧ (xI z B16) ∧ (gOK K g.2 tt) ∧ (xEk ([2786], [88], []) f a g z B16 g)) (upd f 2786 1) ⟨hP, hD, (xI_f hI (fI_st hI.1 2786 (kb_any _) (by decide) (by decide))), hG, (xEk_f hE rfl)⟩ (fun f_23 ef_23 hq => ?_)
          obtain ⟨hP, hD, hI, hG, hE⟩ := hq
          exact kV_ret hx hb hr hlocks hK hS dX6_reckonWays_121 (f_23, B16, g) hP hD ⟨hI, hG, hE⟩
        · have h24 := (kc_nlt c20)
          have b25 : kb 0 y15 1023 := kr_le2 h24 kc_0 b19
          refine lv_iload_n hx hb dX6_reckonWays_40 rfl (lv_at hl 0 rfl) ?_
          refine lv_iload_n hx hb dX6_reckonWays_41 rfl (lv_at hl 2 rfl) ?_
          refine lv_iand hx hb dX6_reckonWays_42 ?_
          refine lv_topi (fun t26 et26 => ?_)
          refine lv_iload_n hx hb dX6_reckonWays_43 rfl (lv_at hl 2 rfl) ?_
          have jn65 : ∀ (B64 : Nat → Nat → Int32) (H : Heap) (locs : List Loc) (ls : Array Slot), (xI f B64) → (gOK K g.2 tt) → (xEk ([2786], [88], []) f a g f B64 g) → va_P D vwCl (xX K r f B64 g tx) H → va_D A (xX K r f B64 g tx) → va_S A s.heap H locs → lv_has ls 6 [(3, .int y15), (2, .int t11), (1, .int v5), (0, .ref (r 87))] → W p l e (rmD 2 0 0) s m ([.ref (r 87)] : List Value).toArray below meth c H locs 0 0 (kQv D (tysK K) (fun (u : xS) => xI u.1 u.2.1 ∧ gOK K u.2.2.2 tt ∧ xEk ([2786], [88], []) f a g u.1 u.2.1 u.2.2) (fun u => xX K r u.1 u.2.1 u.2.2 tx) A below ([.ref (r 87)] : List Value).toArray s 0 0) (F0 m 110 ls []) := by
            intro B64  H locs ls  hI hG hE hP hD hS hl
            obtain ⟨t66, et66⟩ : ∃ z : Int32, z = y15 + Int32.ofInt (-1) := ⟨_, rfl⟩
            have qt66 : t66.toInt = y15.toInt - 1 := by rw [et66]; exact km_dec b25 (by decide)
            have b67 : kb (-1) t66 1022 := kb_inc (k := (-1)) qt66 b25
            refine lv_iinc (v := t66) (lv' := [(3, .int t66), (2, .int t11), (1, .int v5), (0, .ref (r 87))]) hx hb dX6_reckonWays_110 hl (k := 0) rfl et66.symm (by decide) rfl (fun ls hl => ?_)
            refine lv_goto (tgt := 36) hx hb dX6_reckonWays_113 (by decide) ?_
            exact ihlp17  B64 _ _ _ t66 (km_dn hmlp17 qt66) hI hG hE (kb_w b67 (by decide) (by decide)) hP hD hS (lv_sub hl [0, 1, 2, 3] rfl)
          refine lv_icmp_eq (tgt := 50) hx hb dX6_reckonWays_44 (by decide) (fun c68 => ?_) (fun c68 => ?_)
          · refine lv_iload_n hx hb dX6_reckonWays_50 rfl (lv_at hl 0 rfl) ?_
            refine lv_iload_n hx hb dX6_reckonWays_51 rfl (lv_at hl 1 rfl) ?_
            have jn70 : ∀ (H : Heap) (locs : List Loc) (ls : Array Slot) (z69 : Int32), (kb 0 z69 1) → va_P D vwCl (xX K r f B16 g tx) H → va_D A (xX K r f B16 g tx) → va_S A s.heap H locs → lv_has ls 6 [(3, .int y15), (2, .int t11), (1, .int v5), (0, .ref (r 87))] → W p l e (rmD 2 0 0) s m ([.ref (r 87)] : List Value).toArray below meth c H locs 0 0 (kQv D (tysK K) (fun (u : xS) => xI u.1 u.2.1 ∧ gOK K u.2.2.2 tt ∧ xEk ([2786], [88], []) f a g u.1 u.2.1 u.2.2) (fun u => xX K r u.1 u.2.1 u.2.2 tx) A below ([.ref (r 87)] : List Value).toArray s 0 0) (F0 m 60 ls [.int z69]) := by
              intro  H locs ls z69 b71 hP hD hS hl
              refine lv_istore (lv' := [(4, .int z69), (3, .int y15), (2, .int t11), (1, .int v5), (0, .ref (r 87))]) hx hb dX6_reckonWays_60 hl (by decide) rfl (fun ls hl => ?_)
              refine lv_iconst (v := 0) hx hb dX6_reckonWays_62 (by decide) ?_
              refine lv_istore (lv' := [(5, .int 0), (4, .int z69), (3, .int y15), (2, .int t11), (1, .int v5), (0, .ref (r 87))]) hx hb dX6_reckonWays_63 hl (by decide) rfl (fun ls hl => ?_)
              have lp74 : ∀ (n75 : Nat) (H : Heap) (locs : List Loc) (ls : Array Slot) (y72 : Int32) (y73 : Int32), (10 < y72.toInt + (n75 : Int)) → (kb 0 y72 10) → va_P D vwCl (xX K r f B16 g tx) H → va_D A (xX K r f B16 g tx) → va_S A s.heap H locs → lv_has ls 6 [(5, .int y72), (4, .int y73), (3, .int y15), (2, .int t11), (1, .int v5), (0, .ref (r 87))] → W p l e (rmD 2 0 0) s m ([.ref (r 87)] : List Value).toArray below meth c H locs 0 0 (kQv D (tysK K) (fun (u : xS) => xI u.1 u.2.1 ∧ gOK K u.2.2.2 tt ∧ xEk ([2786], [88], []) f a g u.1 u.2.1 u.2.2) (fun u => xX K r u.1 u.2.1 u.2.2 tx) A below ([.ref (r 87)] : List Value).toArray s 0 0) (F0 m 65 ls []) := by
                intro n75
                induction n75 with
                | zero =>
                  intro   H locs ls y72 y73 hmlp74 b76 hP hD hS hl
                  exact (by have h1 := b76.2; have h2 := hmlp74; omega : False).elim
                | succ n75 ihlp74 =>
                  intro   H locs ls y72 y73 hmlp74 b76 hP hD hS hl
                  refine lv_iload hx hb dX6_reckonWays_65 (lv_at hl 0 rfl) ?_
                  refine lv_aload_n hx hb dX6_reckonWays_67 rfl (lv_at hl 5 rfl) ?_
                  refine va_get (D := D) (ci := 6) (v := .ref (r 1)) (C := RX6) (T := TX6) (N := 3) hx hb hg inC6 hown hK hP 87 rfl rfl 0 (by decide) (hg _ wt2_153) (fun _ h9 => h9) rfl dX6_reckonWays_68 ?_
                  refine va_get (D := D) (ci := 7) (v := .int (f 32)) (C := RX7) (T := TX7) (N := 20) hx hb hg inC7 hown hK hP 1 rfl rfl 0 (by decide) (hg _ wt1_81) (fun _ h9 => h9) rfl dX6_reckonWays_71 ?_
                  refine k_top (z := t7) et7.symm ?_
                  refine lv_icmp_ge (tgt := 102) hx hb dX6_reckonWays_74 (by decide) (fun c90 => ?_) (fun c90 => ?_)
                  · have h91 := (kc_le c90)
                    refine lv_aload_n hx hb dX6_reckonWays_102 rfl (lv_at hl 5 rfl) ?_
                    refine va_get (D := D) (ci := 6) (v := .ref (r 88)) (C := RX6) (T := TX6) (N := 3) hx hb hg inC6 hown hK hP 87 rfl rfl 1 (by decide) (hg _ wt2_154) (fun _ h9 => h9) rfl dX6_reckonWays_103 ?_
                    refine lv_iload_n hx hb dX6_reckonWays_106 rfl (lv_at hl 2 rfl) ?_
                    refine lv_iload hx hb dX6_reckonWays_107 (lv_at hl 1 rfl) ?_
                    refine va_iast hx hb hK hP hD hS 88 0 rfl rfl (kb_in b25 (by decide) (by decide)) dX6_reckonWays_109 (fun H locs hP hD hS => ?_)
                    have hP : va_P D vwCl (xX K r f (va_up B16 88 (upd (B16 88) y15.toNatClampNeg y73)) g tx) H := hP
                    have hD : va_D A (xX K r f (va_up B16 88 (upd (B16 88) y15.toNatClampNeg y73)) g tx) := hD
                    refine k_gen (P := fun z => va_P D vwCl (xX K r f z g tx) H ∧ va_D A (xX K r f z g tx) ∧ (xI f z) ∧ (gOK K g.2 tt) ∧ (xEk ([2786], [88], []) f a g f z g)) (va_up B16 88 (upd (B16 88) y15.toNatClampNeg y73)) ⟨hP, hD, (xI_a hI (by decide)), hG, (xEk_a hE rfl)⟩ (fun a_92 ea_92 hq => ?_)
                    obtain ⟨hP, hD, hI, hG, hE⟩ := hq
                    exact jn65 a_92 _ _ _  hI hG hE hP hD hS (lv_sub hl [2, 3, 4, 5] rfl)
                  · have h93 := (kc_nle c90)
                    have b94 : kb 0 y72 9 := kr_lt1 h93 b76 b8 (by decide)
                    have b95 : kb 1 t7 10 := kr_lt2 h93 b76 b8 (by decide)
                    refine lv_iload hx hb dX6_reckonWays_77 (lv_at hl 0 rfl) ?_
                    refine lv_bipush (v := 10) hx hb dX6_reckonWays_79 (by decide) ?_
                    refine lv_icmp_ge (tgt := 102) hx hb dX6_reckonWays_81 (by decide) (fun c96 => ?_) (fun c96 => ?_)
                    · have h97 := (kc_le c96)
                      exact kb_no (kr_le1 h97 kc_10 b94) (by decide)
                    · have h98 := (kc_nle c96)
                      refine lv_iload hx hb dX6_reckonWays_84 (lv_at hl 1 rfl) ?_
                      refine lv_aload_n hx hb dX6_reckonWays_86 rfl (lv_at hl 5 rfl) ?_
                      refine lv_iload_n hx hb dX6_reckonWays_87 rfl (lv_at hl 2 rfl) ?_
                      refine lv_iload hx hb dX6_reckonWays_88 (lv_at hl 0 rfl) ?_
                      refine kIG.callW (As := [.int y15, .int y72]) (rest := [.int y73]) ⟨hx, hb, hml, hown, hg⟩ (x_6_waysWith l r f B16 g tx tt hT hI hG y15 y72 b94 ) (cwV 2 hg (kgV wt4_215 wt4_217 wp2_13 wt1_12 wt4_218) rfl rfl rfl (by decide +kernel) ⟨by decide, by decide⟩) hV hK hP hD hS hA (87) 6 rfl rfl rfl hl.1 rfl (Nat.le_of_ble_eq_true rfl) dX6_reckonWays_90 ⟨Nat.le_refl _, Nat.le_refl _⟩ (fun v100 u101 H locs hw99 hP hD hS => ?_)
                      have hP : va_P D vwCl (xX K r f B16 g tx) H := hP
                      have hD : va_D A (xX K r f B16 g tx) := hD
                      refine lv_iadd hx hb dX6_reckonWays_93 ?_
                      refine lv_topi (fun t102 et102 => ?_)
                      refine lv_istore (lv' := [(4, .int t102), (5, .int y72), (3, .int y15), (2, .int t11), (1, .int v5), (0, .ref (r 87))]) hx hb dX6_reckonWays_94 hl (by decide) rfl (fun ls hl => ?_)
                      obtain ⟨t103, et103⟩ : ∃ z : Int32, z = y72 + Int32.ofInt 1 := ⟨_, rfl⟩
                      have qt103 : t103.toInt = y72.toInt + 1 := by rw [et103]; exact km_inc b94 (by decide) (by decide)
                      have b104 : kb 1 t103 10 := kb_inc (k := 1) qt103 b94
                      refine lv_iinc (v := t103) (lv' := [(5, .int t103), (4, .int t102), (3, .int y15), (2, .int t11), (1, .int v5), (0, .ref (r 87))]) hx hb dX6_reckonWays_96 hl (k := 1) rfl et103.symm (by decide) rfl (fun ls hl => ?_)
                      refine lv_goto (tgt := 65) hx hb dX6_reckonWays_99 (by decide) ?_
                      exact ihlp74  _ _ _ t103 t102 (km_up hmlp74 qt103) (kb_w b104 (by decide) (by decide)) hP hD hS (lv_sub hl [0, 1, 2, 3, 4, 5] rfl)
              exact lp74 (11)  _ _ _ 0 z69 (by have h1 := (kc_0); unfold kb at h1; omega) (kb_w kc_0 (by decide) (by decide)) hP hD hS (lv_sub hl [0, 1, 2, 3, 4, 5] rfl)
            refine lv_icmp_ne (tgt := 59) hx hb dX6_reckonWays_52 (by decide) (fun c105 => ?_) (fun c105 => ?_)
            · refine lv_iconst (v := 0) hx hb dX6_reckonWays_59 (by decide) ?_
              exact jn70 _ _ _ 0 (kb_w kc_0 (by decide) (by decide)) hP hD hS (lv_sub hl [0, 1, 2, 3] rfl)
            · refine lv_iconst (v := 1) hx hb dX6_reckonWays_55 (by decide) ?_
              refine lv_goto (tgt := 60) hx hb dX6_reckonWays_56 (by decide) ?_
              exact jn70 _ _ _ 1 (kb_w kc_1 (by decide) (by decide)) hP hD hS (lv_sub hl [0, 1, 2, 3] rfl)
          · refine lv_goto (tgt := 110) hx hb dX6_reckonWays_47 (by decide) ?_
            exact jn65 B16 _ _ _  hI hG hE hP hD hS (lv_sub hl [0, 1, 2, 3] rfl)
    exact lp17 (1025)  a _ _ _ t13 (by have h1 := (b14); unfold kb at h1; omega) hI hG hE (kb_w b14 (by decide) (by decide)) hP hD hS (lv_sub hl [0, 1, 2, 3] rfl)
  · exact kV_ret hx hb hr hlocks hK hS dX6_reckonWays_7 (f, a, g) hP hD ⟨hI, hG, hE⟩
set_option maxHeartbeats 4000000 in
set_option maxRecDepth 100000 in
theorem x_6_total  (l : Launch) {D : va_G} {K : Nat → ClassId} (r : Nat → Nat) (f : Nat → Int32) (a : Nat → Nat → Int32) (g : xG) (tx tt : va_W) (hT : ∀ c ∈ tt, c ∈ tx) (hI : xI f a) (hG : gOK K g.2 tt)     : kIG l yX6_total (Cond.code yX6_total cX6_total 2 (some .int) :: kG) (rmD 3 0 0) D K [.ref (r 87)] (xX K r f a g tx) (fun v (u : xS) => kb (-2147483648) v 2147483647 ∧ xI u.1 u.2.1 ∧ gOK K u.2.2.2 tt ∧ xEk ([2786], [88], []) f a g u.1 u.2.1 u.2.2) (fun u => xX K r u.1 u.2.1 u.2.2 tx) 0 0 := by
  refine kIE.of (cc := cX6_total) (maxL := 2) (ret := (some .int)) (by decide) rfl (Nat.le_of_ble_eq_true rfl) ?_
  intro p e s m below meth c A hx hb hr hml hown hts hlocks hnm hK hP hD hS hA hV ls hl
  have hE : xEk ([2786], [88], []) f a g f a g := xEk_rf
  have hg : ∀ w ∈ kG, w.before _ s = true := fun w h => hts w (List.mem_cons_of_mem _ h)
  have hown : s.vm.findClass RX6 = some m.cls := hown
  have hl : lv_has ls 2 [(0, .ref (r 87))] := hl
  refine lv_aload_n hx hb dX6_total_0 rfl (lv_at hl 0 rfl) ?_
  refine kVG.callW (As := []) (rest := []) ⟨hx, hb, hml, hown, hg⟩ (x_6_reckonWays l r f a g tx tt hT hI hG   ) (cwV 0 hg (kgV wt4_209 wt4_211 wp2_12 wt1_12 wt4_212) rfl rfl rfl (by decide +kernel) ⟨by decide, by decide⟩) hV hK hP hD hS hA (87) 6 rfl rfl rfl hl.1 rfl (Nat.le_of_ble_eq_true rfl) dX6_total_1 ⟨Nat.le_refl _, Nat.le_refl _⟩ (fun u3 H locs hw1 hP hD hS => ?_)
  obtain ⟨f4, a5, g6⟩ := u3
  have hP : va_P D vwCl (xX K r f4 a5 g6 tx) H := hP
  have hD : va_D A (xX K r f4 a5 g6 tx) := hD
  have hI : xI f4 a5 := hw1.1
  have hG : gOK K g6.2 tt := hw1.2.1
  have eE7 : xEk ([2786], [88], []) f a g f4 a5 g6 := hw1.2.2
  have hE : xEk ([2786], [88], []) f a g f4 a5 g6 := xEk_tr hE eE7
  refine lv_aload_n hx hb dX6_total_4 rfl (lv_at hl 0 rfl) ?_
  refine va_get (D := D) (ci := 6) (v := .ref (r 1)) (C := RX6) (T := TX6) (N := 3) hx hb hg inC6 hown hK hP 87 rfl rfl 0 (by decide) (hg _ wt2_153) (fun _ h9 => h9) rfl dX6_total_5 ?_
  refine kIG.callW (As := []) (rest := []) ⟨hx, hb, hml, hown, hg⟩ (x_7_upMask l r f4 a5 g6 tx tt hT hI hG   ) (cwV 0 hg (kgV wt4_213 wt3_44 wt3_45 wt1_2 wt3_46) rfl rfl rfl (by decide +kernel) ⟨by decide, by decide⟩) hV hK hP hD hS hA (1) 7 rfl rfl rfl hl.1 rfl (Nat.le_of_ble_eq_true rfl) dX6_total_8 ⟨Nat.le_refl _, Nat.le_refl _⟩ (fun v9 u10 H locs hw8 hP hD hS => ?_)
  have hP : va_P D vwCl (xX K r f4 a5 g6 tx) H := hP
  have hD : va_D A (xX K r f4 a5 g6 tx) := hD
  refine lv_istore_n (lv' := [(1, .int v9), (0, .ref (r 87))]) hx hb dX6_total_11 rfl hl (by decide) rfl (fun ls hl => ?_)
  refine lv_iload_n hx hb dX6_total_12 rfl (lv_at hl 0 rfl) ?_
  refine lv_if_lt (tgt := 32) hx hb dX6_total_13 (by decide) (fun c11 => ?_) (fun c11 => ?_)
  · have h12 := (kc_lt c11)
    have b13 : kb (-2147483648) v9 (-1) := kr_lt1 h12 (kb_any v9) kc_0 (by decide)
    refine lv_iconst (v := (-1)) hx hb dX6_total_32 (by decide) ?_
    exact kI_ret (v := (-1)) hx hb hr hlocks rfl hK hS dX6_total_33 (f4, a5, g6) hP hD ⟨(kb_w kc_m1 (by decide) (by decide)), hI, hG, hE⟩
  · have h14 := (kc_nlt c11)
    have b15 : kb 0 v9 2147483647 := kr_le2 h14 kc_0 (kb_any v9)
    refine lv_iload_n hx hb dX6_total_16 rfl (lv_at hl 0 rfl) ?_
    refine lv_sipush (v := 1024) hx hb dX6_total_17 (by decide) ?_
    refine lv_icmp_ge (tgt := 32) hx hb dX6_total_20 (by decide) (fun c16 => ?_) (fun c16 => ?_)
    · have h17 := (kc_le c16)
      have b18 : kb 1024 v9 2147483647 := kr_le2 h17 kc_1024 b15
      refine lv_iconst (v := (-1)) hx hb dX6_total_32 (by decide) ?_
      exact kI_ret (v := (-1)) hx hb hr hlocks rfl hK hS dX6_total_33 (f4, a5, g6) hP hD ⟨(kb_w kc_m1 (by decide) (by decide)), hI, hG, hE⟩
    · have h19 := (kc_nle c16)
      have b20 : kb 0 v9 1023 := kr_lt1 h19 b15 kc_1024 (by decide)
      refine lv_aload_n hx hb dX6_total_23 rfl (lv_at hl 1 rfl) ?_
      refine va_get (D := D) (ci := 6) (v := .ref (r 88)) (C := RX6) (T := TX6) (N := 3) hx hb hg inC6 hown hK hP 87 rfl rfl 1 (by decide) (hg _ wt2_154) (fun _ h9 => h9) rfl dX6_total_24 ?_
      refine lv_iload_n hx hb dX6_total_27 rfl (lv_at hl 0 rfl) ?_
      refine va_iald hx hb hK hP 88 0 rfl rfl (kb_in b20 (by decide) (by decide)) dX6_total_28 ?_
      refine lv_topi (fun t21 et21 => ?_)
      refine lv_goto (tgt := 33) hx hb dX6_total_29 (by decide) ?_
      exact kI_ret (v := t21) hx hb hr hlocks rfl hK hS dX6_total_33 (f4, a5, g6) hP hD ⟨(kb_any t21), hI, hG, hE⟩
set_option maxHeartbeats 4000000 in
set_option maxRecDepth 100000 in
theorem x_6_partAt  (l : Launch) {D : va_G} {K : Nat → ClassId} (r : Nat → Nat) (f : Nat → Int32) (a : Nat → Nat → Int32) (g : xG) (tx tt : va_W) (hT : ∀ c ∈ tt, c ∈ tx) (hI : xI f a) (hG : gOK K g.2 tt) (x : Int32) (y : Int32)    : kIG l yX6_partAt (Cond.code yX6_partAt cX6_partAt 9 (some .int) :: kG) (rmD 4 0 0) D K [.ref (r 87), .int x, .int y] (xX K r f a g tx) (fun v (u : xS) => kb (-2147483648) v 2147483647 ∧ xI u.1 u.2.1 ∧ gOK K u.2.2.2 tt ∧ xEk ([2786], [88], []) f a g u.1 u.2.1 u.2.2) (fun u => xX K r u.1 u.2.1 u.2.2 tx) 0 0 := by
  refine kIE.of (cc := cX6_partAt) (maxL := 9) (ret := (some .int)) (by decide) rfl (Nat.le_of_ble_eq_true rfl) ?_
  intro p e s m below meth c A hx hb hr hml hown hts hlocks hnm hK hP hD hS hA hV ls hl
  have hE : xEk ([2786], [88], []) f a g f a g := xEk_rf
  have hg : ∀ w ∈ kG, w.before _ s = true := fun w h => hts w (List.mem_cons_of_mem _ h)
  have hown : s.vm.findClass RX6 = some m.cls := hown
  have hl : lv_has ls 9 [(0, .ref (r 87)), (1, .int x), (2, .int y)] := hl
  refine lv_iload_n hx hb dX6_partAt_0 rfl (lv_at hl 1 rfl) ?_
  refine lv_if_lt (tgt := 22) hx hb dX6_partAt_1 (by decide) (fun c1 => ?_) (fun c1 => ?_)
  · have h2 := (kc_lt c1)
    have b3 : kb (-2147483648) x (-1) := kr_lt1 h2 (kb_any x) kc_0 (by decide)
    refine lv_iconst (v := (-1)) hx hb dX6_partAt_22 (by decide) ?_
    exact kI_ret (v := (-1)) hx hb hr hlocks rfl hK hS dX6_partAt_23 (f, a, g) hP hD ⟨(kb_w kc_m1 (by decide) (by decide)), hI, hG, hE⟩
  · have h4 := (kc_nlt c1)
    have b5 : kb 0 x 2147483647 := kr_le2 h4 kc_0 (kb_any x)
    refine lv_iload_n hx hb dX6_partAt_4 rfl (lv_at hl 1 rfl) ?_
    refine lv_aload_n hx hb dX6_partAt_5 rfl (lv_at hl 0 rfl) ?_
    refine kIG.callW (As := []) (rest := [.int x]) ⟨hx, hb, hml, hown, hg⟩ (x_6_total l r f a g tx tt hT hI hG   ) (cwV 0 hg (kgV wt4_223 wt4_206 wt4_207 wt1_12 wt4_208) rfl rfl rfl (by decide +kernel) ⟨by decide, by decide⟩) hV hK hP hD hS hA (87) 6 rfl rfl rfl hl.1 rfl (Nat.le_of_ble_eq_true rfl) dX6_partAt_6 ⟨Nat.le_refl _, Nat.le_refl _⟩ (fun v7 u8 H locs hw6 hP hD hS => ?_)
    obtain ⟨f9, a10, g11⟩ := u8
    have hP : va_P D vwCl (xX K r f9 a10 g11 tx) H := hP
    have hD : va_D A (xX K r f9 a10 g11 tx) := hD
    have hI : xI f9 a10 := hw6.2.1
    have hG : gOK K g11.2 tt := hw6.2.2.1
    have eE12 : xEk ([2786], [88], []) f a g f9 a10 g11 := hw6.2.2.2
    have hE : xEk ([2786], [88], []) f a g f9 a10 g11 := xEk_tr hE eE12
    refine lv_icmp_ge (tgt := 22) hx hb dX6_partAt_9 (by decide) (fun c13 => ?_) (fun c13 => ?_)
    · have h14 := (kc_le c13)
      refine lv_iconst (v := (-1)) hx hb dX6_partAt_22 (by decide) ?_
      exact kI_ret (v := (-1)) hx hb hr hlocks rfl hK hS dX6_partAt_23 (f9, a10, g11) hP hD ⟨(kb_w kc_m1 (by decide) (by decide)), hI, hG, hE⟩
    · have h15 := (kc_nle c13)
      have b16 : kb 0 x 2147483646 := kr_lt1 h15 b5 (kb_any v7) (by decide)
      have b17 : kb 1 v7 2147483647 := kr_lt2 h15 b5 (kb_any v7) (by decide)
      refine lv_iload_n hx hb dX6_partAt_12 rfl (lv_at hl 2 rfl) ?_
      refine lv_if_lt (tgt := 22) hx hb dX6_partAt_13 (by decide) (fun c18 => ?_) (fun c18 => ?_)
      · have h19 := (kc_lt c18)
        have b20 : kb (-2147483648) y (-1) := kr_lt1 h19 (kb_any y) kc_0 (by decide)
        refine lv_iconst (v := (-1)) hx hb dX6_partAt_22 (by decide) ?_
        exact kI_ret (v := (-1)) hx hb hr hlocks rfl hK hS dX6_partAt_23 (f9, a10, g11) hP hD ⟨(kb_w kc_m1 (by decide) (by decide)), hI, hG, hE⟩
      · have h21 := (kc_nlt c18)
        have b22 : kb 0 y 2147483647 := kr_le2 h21 kc_0 (kb_any y)
        refine lv_iload_n hx hb dX6_partAt_16 rfl (lv_at hl 2 rfl) ?_
        refine lv_bipush (v := 10) hx hb dX6_partAt_17 (by decide) ?_
        refine lv_icmp_lt (tgt := 24) hx hb dX6_partAt_19 (by decide) (fun c23 => ?_) (fun c23 => ?_)
        · have h24 := (kc_lt c23)
          have b25 : kb 0 y 9 := kr_lt1 h24 b22 kc_10 (by decide)
          refine lv_aload_n hx hb dX6_partAt_24 rfl (lv_at hl 0 rfl) ?_
          refine va_get (D := D) (ci := 6) (v := .ref (r 1)) (C := RX6) (T := TX6) (N := 3) hx hb hg inC6 hown hK hP 87 rfl rfl 0 (by decide) (hg _ wt2_153) (fun _ h9 => h9) rfl dX6_partAt_25 ?_
          refine kIG.callW (As := []) (rest := []) ⟨hx, hb, hml, hown, hg⟩ (x_7_upMask l r f9 a10 g11 tx tt hT hI hG   ) (cwV 0 hg (kgV wt4_213 wt3_44 wt3_45 wt1_2 wt3_46) rfl rfl rfl (by decide +kernel) ⟨by decide, by decide⟩) hV hK hP hD hS hA (1) 7 rfl rfl rfl hl.1 rfl (Nat.le_of_ble_eq_true rfl) dX6_partAt_28 ⟨Nat.le_refl _, Nat.le_refl _⟩ (fun v27 u28 H locs hw26 hP hD hS => ?_)
          have hP : va_P D vwCl (xX K r f9 a10 g11 tx) H := hP
          have hD : va_D A (xX K r f9 a10 g11 tx) := hD
          refine lv_istore_n (lv' := [(3, .int v27), (0, .ref (r 87)), (1, .int x), (2, .int y)]) hx hb dX6_partAt_31 rfl hl (by decide) rfl (fun ls hl => ?_)
          refine lv_iload_n hx hb dX6_partAt_32 rfl (lv_at hl 2 rfl) ?_
          refine lv_istore (lv' := [(4, .int x), (3, .int v27), (0, .ref (r 87)), (1, .int x), (2, .int y)]) hx hb dX6_partAt_33 hl (by decide) rfl (fun ls hl => ?_)
          refine lv_iconst (v := (-1)) hx hb dX6_partAt_35 (by decide) ?_
          refine lv_istore (lv' := [(5, .int (-1)), (4, .int x), (3, .int v27), (0, .ref (r 87)), (1, .int x), (2, .int y)]) hx hb dX6_partAt_36 hl (by decide) rfl (fun ls hl => ?_)
          refine lv_iconst (v := 0) hx hb dX6_partAt_38 (by decide) ?_
          refine lv_istore (lv' := [(6, .int 0), (5, .int (-1)), (4, .int x), (3, .int v27), (0, .ref (r 87)), (1, .int x), (2, .int y)]) hx hb dX6_partAt_39 hl (by decide) rfl (fun ls hl => ?_)
          have lp33 : ∀ (n34 : Nat) (H : Heap) (locs : List Loc) (ls : Array Slot) (y29 : Int32) (y30 : Int32) (y31 : Int32) (y32 : Int32), (10 < y29.toInt + (n34 : Int)) → (kb 0 y29 10) → va_P D vwCl (xX K r f9 a10 g11 tx) H → va_D A (xX K r f9 a10 g11 tx) → va_S A s.heap H locs → lv_has ls 9 [(6, .int y29), (5, .int y30), (4, .int y31), (3, .int y32), (0, .ref (r 87)), (1, .int x), (2, .int y)] → W p l e (rmD 4 0 0) s m ([.ref (r 87), .int x, .int y] : List Value).toArray below meth c H locs 0 0 (kQi D (tysK K) (fun v (u : xS) => kb (-2147483648) v 2147483647 ∧ xI u.1 u.2.1 ∧ gOK K u.2.2.2 tt ∧ xEk ([2786], [88], []) f a g u.1 u.2.1 u.2.2) (fun u => xX K r u.1 u.2.1 u.2.2 tx) A below ([.ref (r 87), .int x, .int y] : List Value).toArray s 0 0) (F0 m 41 ls []) := by
            intro n34
            induction n34 with
            | zero =>
              intro   H locs ls y29 y30 y31 y32 hmlp33 b35 hP hD hS hl
              exact (by have h1 := b35.2; have h2 := hmlp33; omega : False).elim
            | succ n34 ihlp33 =>
              intro   H locs ls y29 y30 y31 y32 hmlp33 b35 hP hD hS hl
              refine lv_iload hx hb dX6_partAt_41 (lv_at hl 0 rfl) ?_
              refine lv_iload_n hx hb dX6_partAt_43 rfl (lv_at hl 6 rfl) ?_
              refine lv_icmp_gt (tgt := 135) hx hb dX6_partAt_44 (by decide) (fun c36 => ?_) (fun c36 => ?_)
              · have h37 := (kc_lt c36)
                have b38 : kb 1 y29 10 := kr_lt2 h37 b25 b35 (by decide)
                refine lv_iload hx hb dX6_partAt_135 (lv_at hl 1 rfl) ?_
                exact kI_ret (v := y30) hx hb hr hlocks rfl hK hS dX6_partAt_137 (f9, a10, g11) hP hD ⟨(kb_any y30), hI, hG, hE⟩
              · have h39 := (kc_nlt c36)
                have b40 : kb 0 y29 9 := kr_le1 h39 b35 b25
                refine lv_iconst (v := (-1)) hx hb dX6_partAt_47 (by decide) ?_
                refine lv_istore (lv' := [(5, .int (-1)), (6, .int y29), (4, .int y31), (3, .int y32), (0, .ref (r 87)), (1, .int x), (2, .int y)]) hx hb dX6_partAt_48 hl (by decide) rfl (fun ls hl => ?_)
                refine lv_iconst (v := 0) hx hb dX6_partAt_50 (by decide) ?_
                refine lv_istore (lv' := [(7, .int 0), (5, .int (-1)), (6, .int y29), (4, .int y31), (3, .int y32), (0, .ref (r 87)), (1, .int x), (2, .int y)]) hx hb dX6_partAt_51 hl (by decide) rfl (fun ls hl => ?_)
                have lp44 : ∀ (n45 : Nat) (H : Heap) (locs : List Loc) (ls : Array Slot) (y41 : Int32) (y42 : Int32) (y43 : Int32), (10 < y41.toInt + (n45 : Int)) → (kb 0 y41 10) → (kb (-1) y42 9) → va_P D vwCl (xX K r f9 a10 g11 tx) H → va_D A (xX K r f9 a10 g11 tx) → va_S A s.heap H locs → lv_has ls 9 [(7, .int y41), (5, .int y42), (6, .int y29), (4, .int y43), (3, .int y32), (0, .ref (r 87)), (1, .int x), (2, .int y)] → W p l e (rmD 4 0 0) s m ([.ref (r 87), .int x, .int y] : List Value).toArray below meth c H locs 0 0 (kQi D (tysK K) (fun v (u : xS) => kb (-2147483648) v 2147483647 ∧ xI u.1 u.2.1 ∧ gOK K u.2.2.2 tt ∧ xEk ([2786], [88], []) f a g u.1 u.2.1 u.2.2) (fun u => xX K r u.1 u.2.1 u.2.2 tx) A below ([.ref (r 87), .int x, .int y] : List Value).toArray s 0 0) (F0 m 53 ls []) := by
                  intro n45
                  induction n45 with
                  | zero =>
                    intro   H locs ls y41 y42 y43 hmlp44 b46 b47 hP hD hS hl
                    exact (by have h1 := b46.2; have h2 := hmlp44; omega : False).elim
                  | succ n45 ihlp44 =>
                    intro   H locs ls y41 y42 y43 hmlp44 b46 b47 hP hD hS hl
                    refine lv_iload hx hb dX6_partAt_53 (lv_at hl 0 rfl) ?_
                    refine lv_aload_n hx hb dX6_partAt_55 rfl (lv_at hl 5 rfl) ?_
                    refine va_get (D := D) (ci := 6) (v := .ref (r 1)) (C := RX6) (T := TX6) (N := 3) hx hb hg inC6 hown hK hP 87 rfl rfl 0 (by decide) (hg _ wt2_153) (fun _ h9 => h9) rfl dX6_partAt_56 ?_
                    refine va_get (D := D) (ci := 7) (v := .int (f9 32)) (C := RX7) (T := TX7) (N := 20) hx hb hg inC7 hown hK hP 1 rfl rfl 0 (by decide) (hg _ wt1_81) (fun _ h9 => h9) rfl dX6_partAt_59 ?_
                    refine lv_topi (fun t48 et48 => ?_)
                    have b49 : kb 0 t48 10 := kb_eq et48 (fI_at hI.1 32 (by decide) (by decide))
                    have jn80 : ∀ (H : Heap) (locs : List Loc) (ls : Array Slot), va_P D vwCl (xX K r f9 a10 g11 tx) H → va_D A (xX K r f9 a10 g11 tx) → va_S A s.heap H locs → lv_has ls 9 [(7, .int y41), (5, .int y42), (6, .int y29), (4, .int y43), (3, .int y32), (0, .ref (r 87)), (1, .int x), (2, .int y)] → W p l e (rmD 4 0 0) s m ([.ref (r 87), .int x, .int y] : List Value).toArray below meth c H locs 0 0 (kQi D (tysK K) (fun v (u : xS) => kb (-2147483648) v 2147483647 ∧ xI u.1 u.2.1 ∧ gOK K u.2.2.2 tt ∧ xEk ([2786], [88], []) f a g u.1 u.2.1 u.2.2) (fun u => xX K r u.1 u.2.1 u.2.2 tx) A below ([.ref (r 87), .int x, .int y] : List Value).toArray s 0 0) (F0 m 114 ls []) := by
                      intro  H locs ls   hP hD hS hl
                      refine lv_iload hx hb dX6_partAt_114 (lv_at hl 1 rfl) ?_
                      refine lv_iconst (v := (-1)) hx hb dX6_partAt_116 (by decide) ?_
                      refine lv_icmp_ne (tgt := 122) hx hb dX6_partAt_117 (by decide) (fun c81 => ?_) (fun c81 => ?_)
                      · have b82 : kb 0 y42 9 := kr_nel c81 b47 kc_m1 (by decide)
                        refine lv_iload_n hx hb dX6_partAt_122 rfl (lv_at hl 4 rfl) ?_
                        refine lv_iconst (v := 1) hx hb dX6_partAt_123 (by decide) ?_
                        refine lv_iload hx hb dX6_partAt_124 (lv_at hl 1 rfl) ?_
                        refine lv_ishl hx hb dX6_partAt_126 ?_
                        refine lv_topi (fun t83 et83 => ?_)
                        have b84 : kb 1 t83 512 := kb_eq et83 (kb_shl (l := 0) (h := 9) b82 (by decide))
                        refine lv_ior hx hb dX6_partAt_127 ?_
                        refine lv_topi (fun t85 et85 => ?_)
                        refine lv_istore_n (lv' := [(3, .int t85), (7, .int y41), (5, .int y42), (6, .int y29), (4, .int y43), (0, .ref (r 87)), (1, .int x), (2, .int y)]) hx hb dX6_partAt_128 rfl hl (by decide) rfl (fun ls hl => ?_)
                        obtain ⟨t86, et86⟩ : ∃ z : Int32, z = y29 + Int32.ofInt 1 := ⟨_, rfl⟩
                        have qt86 : t86.toInt = y29.toInt + 1 := by rw [et86]; exact km_inc b40 (by decide) (by decide)
                        have b87 : kb 1 t86 10 := kb_inc (k := 1) qt86 b40
                        refine lv_iinc (v := t86) (lv' := [(6, .int t86), (3, .int t85), (7, .int y41), (5, .int y42), (4, .int y43), (0, .ref (r 87)), (1, .int x), (2, .int y)]) hx hb dX6_partAt_129 hl (k := 3) rfl et86.symm (by decide) rfl (fun ls hl => ?_)
                        refine lv_goto (tgt := 41) hx hb dX6_partAt_132 (by decide) ?_
                        exact ihlp33  _ _ _ t86 y42 y43 t85 (km_up hmlp33 qt86) (kb_w b87 (by decide) (by decide)) hP hD hS (lv_sub hl [0, 3, 4, 1, 5, 6, 7] rfl)
                      · have b88 : kb (-1) y42 (-1) := kb_eq c81 kc_m1
                        refine lv_iconst (v := (-1)) hx hb dX6_partAt_120 (by decide) ?_
                        exact kI_ret (v := (-1)) hx hb hr hlocks rfl hK hS dX6_partAt_121 (f9, a10, g11) hP hD ⟨(kb_w kc_m1 (by decide) (by decide)), hI, hG, hE⟩
                    refine lv_icmp_ge (tgt := 114) hx hb dX6_partAt_62 (by decide) (fun c89 => ?_) (fun c89 => ?_)
                    · have h90 := (kc_le c89)
                      exact jn80 _ _ _   hP hD hS (lv_sub hl [0, 1, 2, 3, 4, 5, 6, 7] rfl)
                    · have h91 := (kc_nle c89)
                      have b92 : kb 0 y41 9 := kr_lt1 h91 b46 b49 (by decide)
                      have b93 : kb 1 t48 10 := kr_lt2 h91 b46 b49 (by decide)
                      refine lv_iload hx hb dX6_partAt_65 (lv_at hl 0 rfl) ?_
                      refine lv_bipush (v := 10) hx hb dX6_partAt_67 (by decide) ?_
                      refine lv_icmp_ge (tgt := 114) hx hb dX6_partAt_69 (by decide) (fun c94 => ?_) (fun c94 => ?_)
                      · have h95 := (kc_le c94)
                        exact kb_no (kr_le1 h95 kc_10 b92) (by decide)
                      · have h96 := (kc_nle c94)
                        refine lv_iload hx hb dX6_partAt_72 (lv_at hl 1 rfl) ?_
                        refine lv_iconst (v := (-1)) hx hb dX6_partAt_74 (by decide) ?_
                        refine lv_icmp_ne (tgt := 114) hx hb dX6_partAt_75 (by decide) (fun c97 => ?_) (fun c97 => ?_)
                        · have b98 : kb 0 y42 9 := kr_nel c97 b47 kc_m1 (by decide)
                          exact jn80 _ _ _   hP hD hS (lv_sub hl [0, 1, 2, 3, 4, 5, 6, 7] rfl)
                        · have b99 : kb (-1) y42 (-1) := kb_eq c97 kc_m1
                          refine lv_aload_n hx hb dX6_partAt_78 rfl (lv_at hl 5 rfl) ?_
                          refine lv_iload_n hx hb dX6_partAt_79 rfl (lv_at hl 4 rfl) ?_
                          refine lv_iload hx hb dX6_partAt_80 (lv_at hl 0 rfl) ?_
                          refine kIG.callW (As := [.int y32, .int y41]) (rest := []) ⟨hx, hb, hml, hown, hg⟩ (x_6_waysWith l r f9 a10 g11 tx tt hT hI hG y32 y41 b92 ) (cwV 2 hg (kgV wt4_215 wt4_217 wp2_13 wt1_12 wt4_218) rfl rfl rfl (by decide +kernel) ⟨by decide, by decide⟩) hV hK hP hD hS hA (87) 6 rfl rfl rfl hl.1 rfl (Nat.le_of_ble_eq_true rfl) dX6_partAt_82 ⟨Nat.le_refl _, Nat.le_refl _⟩ (fun v101 u102 H locs hw100 hP hD hS => ?_)
                          have hP : va_P D vwCl (xX K r f9 a10 g11 tx) H := hP
                          have hD : va_D A (xX K r f9 a10 g11 tx) := hD
                          refine lv_istore (lv' := [(8, .int v101), (7, .int y41), (5, .int y42), (6, .int y29), (4, .int y43), (3, .int y32), (0, .ref (r 87)), (1, .int x), (2, .int y)]) hx hb dX6_partAt_85 hl (by decide) rfl (fun ls hl => ?_)
                          refine lv_iload hx hb dX6_partAt_87 (lv_at hl 4 rfl) ?_
                          refine lv_iload hx hb dX6_partAt_89 (lv_at hl 0 rfl) ?_
                          have jn110 : ∀ (H : Heap) (locs : List Loc) (ls : Array Slot) (y108 : Int32) (y109 : Int32), (kb (-1) y108 9) → va_P D vwCl (xX K r f9 a10 g11 tx) H → va_D A (xX K r f9 a10 g11 tx) → va_S A s.heap H locs → lv_has ls 9 [(8, .int v101), (7, .int y41), (5, .int y108), (6, .int y29), (4, .int y109), (3, .int y32), (0, .ref (r 87)), (1, .int x), (2, .int y)] → W p l e (rmD 4 0 0) s m ([.ref (r 87), .int x, .int y] : List Value).toArray below meth c H locs 0 0 (kQi D (tysK K) (fun v (u : xS) => kb (-2147483648) v 2147483647 ∧ xI u.1 u.2.1 ∧ gOK K u.2.2.2 tt ∧ xEk ([2786], [88], []) f a g u.1 u.2.1 u.2.2) (fun u => xX K r u.1 u.2.1 u.2.2 tx) A below ([.ref (r 87), .int x, .int y] : List Value).toArray s 0 0) (F0 m 108 ls []) := by
                            intro  H locs ls y108 y109 b111 hP hD hS hl
                            obtain ⟨t112, et112⟩ : ∃ z : Int32, z = y41 + Int32.ofInt 1 := ⟨_, rfl⟩
                            have qt112 : t112.toInt = y41.toInt + 1 := by rw [et112]; exact km_inc b92 (by decide) (by decide)
                            have b113 : kb 1 t112 10 := kb_inc (k := 1) qt112 b92
                            refine lv_iinc (v := t112) (lv' := [(7, .int t112), (8, .int v101), (5, .int y108), (6, .int y29), (4, .int y109), (3, .int y32), (0, .ref (r 87)), (1, .int x), (2, .int y)]) hx hb dX6_partAt_108 hl (k := 1) rfl et112.symm (by decide) rfl (fun ls hl => ?_)
                            refine lv_goto (tgt := 53) hx hb dX6_partAt_111 (by decide) ?_
                            exact ihlp44  _ _ _ t112 y108 y109 (km_up hmlp44 qt112) (kb_w b113 (by decide) (by decide)) b111 hP hD hS (lv_sub hl [0, 2, 3, 4, 5, 6, 7, 8] rfl)
                          refine lv_icmp_ge (tgt := 101) hx hb dX6_partAt_91 (by decide) (fun c114 => ?_) (fun c114 => ?_)
                          · have h115 := (kc_le c114)
                            refine lv_iload hx hb dX6_partAt_101 (lv_at hl 4 rfl) ?_
                            refine lv_iload hx hb dX6_partAt_103 (lv_at hl 0 rfl) ?_
                            refine lv_isub hx hb dX6_partAt_105 ?_
                            refine lv_topi (fun t116 et116 => ?_)
                            refine lv_istore (lv' := [(4, .int t116), (8, .int v101), (7, .int y41), (5, .int y42), (6, .int y29), (3, .int y32), (0, .ref (r 87)), (1, .int x), (2, .int y)]) hx hb dX6_partAt_106 hl (by decide) rfl (fun ls hl => ?_)
                            exact jn110 _ _ _ y42 t116 (kb_w b99 (by decide) (by decide)) hP hD hS (lv_sub hl [1, 2, 3, 4, 0, 5, 6, 7, 8] rfl)
                          · have h117 := (kc_nle c114)
                            have b118 : kb (-2147483648) y43 2147483646 := kr_lt1 h117 (kb_any y43) (kb_any v101) (by decide)
                            have b119 : kb (-2147483647) v101 2147483647 := kr_lt2 h117 (kb_any y43) (kb_any v101) (by decide)
                            refine lv_iload hx hb dX6_partAt_94 (lv_at hl 1 rfl) ?_
                            refine lv_istore (lv' := [(5, .int y41), (8, .int v101), (7, .int y41), (6, .int y29), (4, .int y43), (3, .int y32), (0, .ref (r 87)), (1, .int x), (2, .int y)]) hx hb dX6_partAt_96 hl (by decide) rfl (fun ls hl => ?_)
                            refine lv_goto (tgt := 108) hx hb dX6_partAt_98 (by decide) ?_
                            exact jn110 _ _ _ y41 y43 (kb_w b92 (by decide) (by decide)) hP hD hS (lv_sub hl [1, 2, 0, 3, 4, 5, 6, 7, 8] rfl)
                exact lp44 (11)  _ _ _ 0 (-1) y31 (by have h1 := (kc_0); unfold kb at h1; omega) (kb_w kc_0 (by decide) (by decide)) (kb_w kc_m1 (by decide) (by decide)) hP hD hS (lv_sub hl [0, 1, 2, 3, 4, 5, 6, 7] rfl)
          exact lp33 (11)  _ _ _ 0 (-1) x v27 (by have h1 := (kc_0); unfold kb at h1; omega) (kb_w kc_0 (by decide) (by decide)) hP hD hS (lv_sub hl [0, 1, 2, 3, 4, 5, 6] rfl)
        · have h120 := (kc_nlt c23)
          have b121 : kb 10 y 2147483647 := kr_le2 h120 kc_10 b22
          refine lv_iconst (v := (-1)) hx hb dX6_partAt_22 (by decide) ?_
          exact kI_ret (v := (-1)) hx hb hr hlocks rfl hK hS dX6_partAt_23 (f9, a10, g11) hP hD ⟨(kb_w kc_m1 (by decide) (by decide)), hI, hG, hE⟩
set_option maxHeartbeats 4000000 in
set_option maxRecDepth 100000 in
theorem x_1_endOf  (l : Launch) {D : va_G} {K : Nat → ClassId} (r : Nat → Nat) (f : Nat → Int32) (a : Nat → Nat → Int32) (g : xG) (tx tt : va_W) (hT : ∀ c ∈ tt, c ∈ tx) (hI : xI f a) (hG : gOK K g.2 tt) (x : Int32) (y : Int32)    : kIG l yX1_endOf (Cond.code yX1_endOf cX1_endOf 3 (some .int) :: kG) (rmD 1 0 0) D K [.ref (r 89), .int x, .int y] (xX K r f a g tx) (fun v (_ : Unit) => kb (-2147483648) v 2147483647) (fun _ => xX K r f a g tx) 0 0 := by
  refine kIE.of (cc := cX1_endOf) (maxL := 3) (ret := (some .int)) (by decide) rfl (Nat.le_of_ble_eq_true rfl) ?_
  intro p e s m below meth c A hx hb hr hml hown hts hlocks hnm hK hP hD hS hA hV ls hl
  have hg : ∀ w ∈ kG, w.before _ s = true := fun w h => hts w (List.mem_cons_of_mem _ h)
  have hown : s.vm.findClass RX1 = some m.cls := hown
  have hl : lv_has ls 3 [(0, .ref (r 89)), (1, .int x), (2, .int y)] := hl
  refine lv_iload_n hx hb dX1_endOf_0 rfl (lv_at hl 2 rfl) ?_
  refine lv_if_ne (tgt := 29) hx hb dX1_endOf_1 (by decide) (fun c1 => ?_) (fun c1 => ?_)
  · refine lv_iload_n hx hb dX1_endOf_29 rfl (lv_at hl 2 rfl) ?_
    refine lv_iconst (v := 1) hx hb dX1_endOf_30 (by decide) ?_
    refine lv_icmp_ne (tgt := 61) hx hb dX1_endOf_31 (by decide) (fun c2 => ?_) (fun c2 => ?_)
    · refine lv_iconst (v := (-1)) hx hb dX1_endOf_61 (by decide) ?_
      exact kI_ret (v := (-1)) hx hb hr hlocks rfl hK hS dX1_endOf_62 () hP hD (kb_w kc_m1 (by decide) (by decide))
    · have b3 : kb 1 y 1 := kb_eq c2 kc_1
      refine lv_iload_n hx hb dX1_endOf_34 rfl (lv_at hl 1 rfl) ?_
      refine lv_if_lt (tgt := 61) hx hb dX1_endOf_35 (by decide) (fun c4 => ?_) (fun c4 => ?_)
      · have h5 := (kc_lt c4)
        have b6 : kb (-2147483648) x (-1) := kr_lt1 h5 (kb_any x) kc_0 (by decide)
        refine lv_iconst (v := (-1)) hx hb dX1_endOf_61 (by decide) ?_
        exact kI_ret (v := (-1)) hx hb hr hlocks rfl hK hS dX1_endOf_62 () hP hD (kb_w kc_m1 (by decide) (by decide))
      · have h7 := (kc_nlt c4)
        have b8 : kb 0 x 2147483647 := kr_le2 h7 kc_0 (kb_any x)
        refine lv_iload_n hx hb dX1_endOf_38 rfl (lv_at hl 1 rfl) ?_
        refine lv_aload_n hx hb dX1_endOf_39 rfl (lv_at hl 0 rfl) ?_
        refine va_get (D := D) (ci := 1) (v := .int (f 2850)) (C := RX1) (T := TX1) (N := 5) hx hb hg inC1 hown hK hP 89 rfl rfl 2 (by decide) (hg _ wt2_171) (fun _ h9 => h9) rfl dX1_endOf_40 ?_
        refine lv_topi (fun t9 et9 => ?_)
        refine lv_icmp_ge (tgt := 61) hx hb dX1_endOf_43 (by decide) (fun c10 => ?_) (fun c10 => ?_)
        · have h11 := (kc_le c10)
          refine lv_iconst (v := (-1)) hx hb dX1_endOf_61 (by decide) ?_
          exact kI_ret (v := (-1)) hx hb hr hlocks rfl hK hS dX1_endOf_62 () hP hD (kb_w kc_m1 (by decide) (by decide))
        · have h12 := (kc_nle c10)
          have b13 : kb 0 x 2147483646 := kr_lt1 h12 b8 (kb_any t9) (by decide)
          have b14 : kb 1 t9 2147483647 := kr_lt2 h12 b8 (kb_any t9) (by decide)
          refine lv_iload_n hx hb dX1_endOf_46 rfl (lv_at hl 1 rfl) ?_
          refine lv_bipush (v := 6) hx hb dX1_endOf_47 (by decide) ?_
          refine lv_icmp_ge (tgt := 61) hx hb dX1_endOf_49 (by decide) (fun c15 => ?_) (fun c15 => ?_)
          · have h16 := (kc_le c15)
            have b17 : kb 6 x 2147483646 := kr_le2 h16 kc_6 b13
            refine lv_iconst (v := (-1)) hx hb dX1_endOf_61 (by decide) ?_
            exact kI_ret (v := (-1)) hx hb hr hlocks rfl hK hS dX1_endOf_62 () hP hD (kb_w kc_m1 (by decide) (by decide))
          · have h18 := (kc_nle c15)
            have b19 : kb 0 x 5 := kr_lt1 h18 b13 kc_6 (by decide)
            refine lv_aload_n hx hb dX1_endOf_52 rfl (lv_at hl 0 rfl) ?_
            refine va_get (D := D) (ci := 1) (v := .ref (r 91)) (C := RX1) (T := TX1) (N := 5) hx hb hg inC1 hown hK hP 89 rfl rfl 4 (by decide) (hg _ wt2_173) (fun _ h9 => h9) rfl dX1_endOf_53 ?_
            refine lv_iload_n hx hb dX1_endOf_56 rfl (lv_at hl 1 rfl) ?_
            refine va_iald hx hb hK hP 91 0 rfl rfl (kb_in b19 (by decide) (by decide)) dX1_endOf_57 ?_
            refine lv_topi (fun t20 et20 => ?_)
            refine lv_goto (tgt := 62) hx hb dX1_endOf_58 (by decide) ?_
            exact kI_ret (v := t20) hx hb hr hlocks rfl hK hS dX1_endOf_62 () hP hD (kb_any t20)
  · have b21 : kb 0 y 0 := kb_eq c1 kc_0
    refine lv_iload_n hx hb dX1_endOf_4 rfl (lv_at hl 1 rfl) ?_
    refine lv_if_lt (tgt := 29) hx hb dX1_endOf_5 (by decide) (fun c22 => ?_) (fun c22 => ?_)
    · have h23 := (kc_lt c22)
      have b24 : kb (-2147483648) x (-1) := kr_lt1 h23 (kb_any x) kc_0 (by decide)
      refine lv_iload_n hx hb dX1_endOf_29 rfl (lv_at hl 2 rfl) ?_
      refine lv_iconst (v := 1) hx hb dX1_endOf_30 (by decide) ?_
      refine lv_icmp_ne (tgt := 61) hx hb dX1_endOf_31 (by decide) (fun c25 => ?_) (fun c25 => ?_)
      · refine lv_iconst (v := (-1)) hx hb dX1_endOf_61 (by decide) ?_
        exact kI_ret (v := (-1)) hx hb hr hlocks rfl hK hS dX1_endOf_62 () hP hD (kb_w kc_m1 (by decide) (by decide))
      · exact kb_dj c25 b21 kc_1 (by decide)
    · have h26 := (kc_nlt c22)
      have b27 : kb 0 x 2147483647 := kr_le2 h26 kc_0 (kb_any x)
      refine lv_iload_n hx hb dX1_endOf_8 rfl (lv_at hl 1 rfl) ?_
      refine lv_aload_n hx hb dX1_endOf_9 rfl (lv_at hl 0 rfl) ?_
      refine va_get (D := D) (ci := 1) (v := .int (f 2849)) (C := RX1) (T := TX1) (N := 5) hx hb hg inC1 hown hK hP 89 rfl rfl 1 (by decide) (hg _ wt2_170) (fun _ h9 => h9) rfl dX1_endOf_10 ?_
      refine lv_topi (fun t28 et28 => ?_)
      refine lv_icmp_ge (tgt := 29) hx hb dX1_endOf_13 (by decide) (fun c29 => ?_) (fun c29 => ?_)
      · have h30 := (kc_le c29)
        refine lv_iload_n hx hb dX1_endOf_29 rfl (lv_at hl 2 rfl) ?_
        refine lv_iconst (v := 1) hx hb dX1_endOf_30 (by decide) ?_
        refine lv_icmp_ne (tgt := 61) hx hb dX1_endOf_31 (by decide) (fun c31 => ?_) (fun c31 => ?_)
        · refine lv_iconst (v := (-1)) hx hb dX1_endOf_61 (by decide) ?_
          exact kI_ret (v := (-1)) hx hb hr hlocks rfl hK hS dX1_endOf_62 () hP hD (kb_w kc_m1 (by decide) (by decide))
        · exact kb_dj c31 b21 kc_1 (by decide)
      · have h32 := (kc_nle c29)
        have b33 : kb 0 x 2147483646 := kr_lt1 h32 b27 (kb_any t28) (by decide)
        have b34 : kb 1 t28 2147483647 := kr_lt2 h32 b27 (kb_any t28) (by decide)
        refine lv_iload_n hx hb dX1_endOf_16 rfl (lv_at hl 1 rfl) ?_
        refine lv_bipush (v := 10) hx hb dX1_endOf_17 (by decide) ?_
        refine lv_icmp_ge (tgt := 29) hx hb dX1_endOf_19 (by decide) (fun c35 => ?_) (fun c35 => ?_)
        · have h36 := (kc_le c35)
          have b37 : kb 10 x 2147483646 := kr_le2 h36 kc_10 b33
          refine lv_iload_n hx hb dX1_endOf_29 rfl (lv_at hl 2 rfl) ?_
          refine lv_iconst (v := 1) hx hb dX1_endOf_30 (by decide) ?_
          refine lv_icmp_ne (tgt := 61) hx hb dX1_endOf_31 (by decide) (fun c38 => ?_) (fun c38 => ?_)
          · refine lv_iconst (v := (-1)) hx hb dX1_endOf_61 (by decide) ?_
            exact kI_ret (v := (-1)) hx hb hr hlocks rfl hK hS dX1_endOf_62 () hP hD (kb_w kc_m1 (by decide) (by decide))
          · exact kb_dj c38 b21 kc_1 (by decide)
        · have h39 := (kc_nle c35)
          have b40 : kb 0 x 9 := kr_lt1 h39 b33 kc_10 (by decide)
          refine lv_aload_n hx hb dX1_endOf_22 rfl (lv_at hl 0 rfl) ?_
          refine va_get (D := D) (ci := 1) (v := .ref (r 90)) (C := RX1) (T := TX1) (N := 5) hx hb hg inC1 hown hK hP 89 rfl rfl 3 (by decide) (hg _ wt2_172) (fun _ h9 => h9) rfl dX1_endOf_23 ?_
          refine lv_iload_n hx hb dX1_endOf_26 rfl (lv_at hl 1 rfl) ?_
          refine va_iald hx hb hK hP 90 0 rfl rfl (kb_in b40 (by decide) (by decide)) dX1_endOf_27 ?_
          refine lv_topi (fun t41 et41 => ?_)
          exact kI_ret (v := t41) hx hb hr hlocks rfl hK hS dX1_endOf_28 () hP hD (kb_any t41)
set_option maxHeartbeats 4000000 in
set_option maxRecDepth 100000 in
theorem x_1_drawNights  (l : Launch) {D : va_G} {K : Nat → ClassId} (r : Nat → Nat) (f : Nat → Int32) (a : Nat → Nat → Int32) (g : xG) (tx tt : va_W) (hT : ∀ c ∈ tt, c ∈ tx) (hI : xI f a) (hG : gOK K g.2 tt) (x : Int32) (n_ : Int32) (bn_ : kb 1 n_ 20)   : kIG l yX1_drawNights (Cond.code yX1_drawNights cX1_drawNights 8 (some .int) :: kG) (rmD 5 0 0) D K [.ref (r 89), .int x, .int n_] (xX K r f a g tx) (fun v (u : xS) => kb (-2147483648) v 2147483647 ∧ xI u.1 u.2.1 ∧ gOK K u.2.2.2 tt ∧ xEk ([1888, 1894, 1900, 1905, 1906, 2849, 2850], [60, 61, 62, 63, 64, 65, 66, 67, 68, 69, 70, 71, 72, 77, 78, 79, 90, 91], [73]) f a g u.1 u.2.1 u.2.2) (fun u => xX K r u.1 u.2.1 u.2.2 tx) 0 0 := by
  refine kIE.of (cc := cX1_drawNights) (maxL := 8) (ret := (some .int)) (by decide) rfl (Nat.le_of_ble_eq_true rfl) ?_
  intro p e s m below meth c A hx hb hr hml hown hts hlocks hnm hK hP hD hS hA hV ls hl
  have hE : xEk ([1888, 1894, 1900, 1905, 1906, 2849, 2850], [60, 61, 62, 63, 64, 65, 66, 67, 68, 69, 70, 71, 72, 77, 78, 79, 90, 91], [73]) f a g f a g := xEk_rf
  have hg : ∀ w ∈ kG, w.before _ s = true := fun w h => hts w (List.mem_cons_of_mem _ h)
  have hown : s.vm.findClass RX1 = some m.cls := hown
  have hl : lv_has ls 8 [(0, .ref (r 89)), (1, .int x), (2, .int n_)] := hl
  refine lv_aload_n hx hb dX1_drawNights_0 rfl (lv_at hl 0 rfl) ?_
  refine va_get (D := D) (ci := 1) (v := .ref (r 58)) (C := RX1) (T := TX1) (N := 5) hx hb hg inC1 hown hK hP 89 rfl rfl 0 (by decide) (hg _ wt2_169) (fun _ h9 => h9) rfl dX1_drawNights_1 ?_
  refine va_get (D := D) (ci := 3) (v := .ref (r 59)) (C := RX3) (T := TX3) (N := 4) hx hb hg inC3 hown hK hP 58 rfl rfl 0 (by decide) (hg _ wt2_96) (fun _ h9 => h9) rfl dX1_drawNights_4 ?_
  refine lv_astore_n (lv' := [(3, .ref (r 59)), (0, .ref (r 89)), (1, .int x), (2, .int n_)]) hx hb dX1_drawNights_7 rfl hl (by decide) rfl (fun ls hl => ?_)
  refine lv_iload_n hx hb dX1_drawNights_8 rfl (lv_at hl 2 rfl) ?_
  refine lv_istore (lv' := [(4, .int x), (3, .ref (r 59)), (0, .ref (r 89)), (1, .int x), (2, .int n_)]) hx hb dX1_drawNights_9 hl (by decide) rfl (fun ls hl => ?_)
  refine lv_iconst (v := 0) hx hb dX1_drawNights_11 (by decide) ?_
  refine lv_istore (lv' := [(5, .int 0), (4, .int x), (3, .ref (r 59)), (0, .ref (r 89)), (1, .int x), (2, .int n_)]) hx hb dX1_drawNights_12 hl (by decide) rfl (fun ls hl => ?_)
  refine lv_iconst (v := 0) hx hb dX1_drawNights_14 (by decide) ?_
  refine lv_istore (lv' := [(6, .int 0), (5, .int 0), (4, .int x), (3, .ref (r 59)), (0, .ref (r 89)), (1, .int x), (2, .int n_)]) hx hb dX1_drawNights_15 hl (by decide) rfl (fun ls hl => ?_)
  have lp7 : ∀ (n8 : Nat) (F4 : Nat → Int32) (B5 : Nat → Nat → Int32) (G6 : xG) (H : Heap) (locs : List Loc) (ls : Array Slot) (y1 : Int32) (y2 : Int32) (y3 : Int32), (20 < y1.toInt + (n8 : Int)) → (xI F4 B5) → (gOK K G6.2 tt) → (xEk ([1888, 1894, 1900, 1905, 1906, 2849, 2850], [60, 61, 62, 63, 64, 65, 66, 67, 68, 69, 70, 71, 72, 77, 78, 79, 90, 91], [73]) f a g F4 B5 G6) → (kb 0 y1 20) → va_P D vwCl (xX K r F4 B5 G6 tx) H → va_D A (xX K r F4 B5 G6 tx) → va_S A s.heap H locs → lv_has ls 8 [(6, .int y1), (5, .int y2), (4, .int y3), (3, .ref (r 59)), (0, .ref (r 89)), (1, .int x), (2, .int n_)] → W p l e (rmD 5 0 0) s m ([.ref (r 89), .int x, .int n_] : List Value).toArray below meth c H locs 0 0 (kQi D (tysK K) (fun v (u : xS) => kb (-2147483648) v 2147483647 ∧ xI u.1 u.2.1 ∧ gOK K u.2.2.2 tt ∧ xEk ([1888, 1894, 1900, 1905, 1906, 2849, 2850], [60, 61, 62, 63, 64, 65, 66, 67, 68, 69, 70, 71, 72, 77, 78, 79, 90, 91], [73]) f a g u.1 u.2.1 u.2.2) (fun u => xX K r u.1 u.2.1 u.2.2 tx) A below ([.ref (r 89), .int x, .int n_] : List Value).toArray s 0 0) (F0 m 17 ls []) := by
    intro n8
    induction n8 with
    | zero =>
      intro  F4 B5 G6  H locs ls y1 y2 y3 hmlp7 hI hG hE b9 hP hD hS hl
      exact (by have h1 := b9.2; have h2 := hmlp7; omega : False).elim
    | succ n8 ihlp7 =>
      intro  F4 B5 G6  H locs ls y1 y2 y3 hmlp7 hI hG hE b9 hP hD hS hl
      refine lv_iload hx hb dX1_drawNights_17 (lv_at hl 0 rfl) ?_
      refine lv_iload_n hx hb dX1_drawNights_19 rfl (lv_at hl 6 rfl) ?_
      refine lv_icmp_ge (tgt := 125) hx hb dX1_drawNights_20 (by decide) (fun c10 => ?_) (fun c10 => ?_)
      · have h11 := (kc_le c10)
        have b12 : kb 1 y1 20 := kr_le2 h11 bn_ b9
        refine lv_aload_n hx hb dX1_drawNights_125 rfl (lv_at hl 4 rfl) ?_
        refine lv_aload_n hx hb dX1_drawNights_126 rfl (lv_at hl 3 rfl) ?_
        refine va_get (D := D) (ci := 7) (v := .int (F4 1888)) (C := RX7) (T := TX7) (N := 20) hx hb hg inC7 hown hK hP 59 rfl rfl 0 (by decide) (hg _ wt1_80) (fun _ h9 => h9) rfl dX1_drawNights_127 ?_
        refine lv_topi (fun t13 et13 => ?_)
        have b14 : kb 0 t13 10 := kb_eq et13 (fI_at hI.1 1888 (by decide) (by decide))
        refine va_put (D := D) (ci := 1) (v := .int t13) (ty := .int) (C := RX1) (T := TX1) (N := 5) hx hb hg inC1 tyX1 tyX1_ok nmX1 hown hK hP hD hS 89 rfl rfl 1 (by decide) (hg _ wt2_170) (fun _ h9 => h9) rfl (by decide +kernel) rfl rfl (Nat.le_of_ble_eq_true rfl) dX1_drawNights_130 (fun H locs hP hD hS => ?_)
        have hP : va_P D vwCl (xX K r (upd F4 2849 t13) B5 G6 tx) H := hP
        have hD : va_D A (xX K r (upd F4 2849 t13) B5 G6 tx) := hD
        refine k_gen (P := fun z => va_P D vwCl (xX K r z B5 G6 tx) H ∧ va_D A (xX K r z B5 G6 tx) ∧ (xI z B5) ∧ (gOK K G6.2 tt) ∧ (xEk ([1888, 1894, 1900, 1905, 1906, 2849, 2850], [60, 61, 62, 63, 64, 65, 66, 67, 68, 69, 70, 71, 72, 77, 78, 79, 90, 91], [73]) f a g z B5 G6)) (upd F4 2849 t13) ⟨hP, hD, (xI_f hI (fI_st hI.1 2849 (kb_any _) (by decide) (by decide))), hG, (xEk_f hE rfl)⟩ (fun f_15 ef_15 hq => ?_)
        obtain ⟨hP, hD, hI, hG, hE⟩ := hq
        refine lv_aload_n hx hb dX1_drawNights_133 rfl (lv_at hl 4 rfl) ?_
        refine lv_aload_n hx hb dX1_drawNights_134 rfl (lv_at hl 3 rfl) ?_
        refine va_get (D := D) (ci := 7) (v := .int (f_15 1894)) (C := RX7) (T := TX7) (N := 20) hx hb hg inC7 hown hK hP 59 rfl rfl 6 (by decide) (hg _ wt1_105) (fun _ h9 => h9) rfl dX1_drawNights_135 ?_
        refine lv_topi (fun t16 et16 => ?_)
        refine va_put (D := D) (ci := 1) (v := .int t16) (ty := .int) (C := RX1) (T := TX1) (N := 5) hx hb hg inC1 tyX1 tyX1_ok nmX1 hown hK hP hD hS 89 rfl rfl 2 (by decide) (hg _ wt2_171) (fun _ h9 => h9) rfl (by decide +kernel) rfl rfl (Nat.le_of_ble_eq_true rfl) dX1_drawNights_138 (fun H locs hP hD hS => ?_)
        have hP : va_P D vwCl (xX K r (upd f_15 2850 t16) B5 G6 tx) H := hP
        have hD : va_D A (xX K r (upd f_15 2850 t16) B5 G6 tx) := hD
        refine k_gen (P := fun z => va_P D vwCl (xX K r z B5 G6 tx) H ∧ va_D A (xX K r z B5 G6 tx) ∧ (xI z B5) ∧ (gOK K G6.2 tt) ∧ (xEk ([1888, 1894, 1900, 1905, 1906, 2849, 2850], [60, 61, 62, 63, 64, 65, 66, 67, 68, 69, 70, 71, 72, 77, 78, 79, 90, 91], [73]) f a g z B5 G6)) (upd f_15 2850 t16) ⟨hP, hD, (xI_f hI (fI_st hI.1 2850 (kb_any _) (by decide) (by decide))), hG, (xEk_f hE rfl)⟩ (fun f_17 ef_17 hq => ?_)
        obtain ⟨hP, hD, hI, hG, hE⟩ := hq
        refine lv_aload_n hx hb dX1_drawNights_141 rfl (lv_at hl 3 rfl) ?_
        refine va_get (D := D) (ci := 7) (v := .ref (r 64)) (C := RX7) (T := TX7) (N := 20) hx hb hg inC7 hown hK hP 59 rfl rfl 5 (by decide) (hg _ wt1_99) (fun _ h9 => h9) rfl dX1_drawNights_142 ?_
        refine lv_iconst (v := 0) hx hb dX1_drawNights_145 (by decide) ?_
        refine lv_aload_n hx hb dX1_drawNights_146 rfl (lv_at hl 4 rfl) ?_
        refine va_get (D := D) (ci := 1) (v := .ref (r 90)) (C := RX1) (T := TX1) (N := 5) hx hb hg inC1 hown hK hP 89 rfl rfl 3 (by decide) (hg _ wt2_172) (fun _ h9 => h9) rfl dX1_drawNights_147 ?_
        refine lv_iconst (v := 0) hx hb dX1_drawNights_150 (by decide) ?_
        refine lv_bipush (v := 10) hx hb dX1_drawNights_151 (by decide) ?_
        refine va_copyi (ty := .int) hx hb (hml.trans hl.1.symm) hown (hg _ wt5_128) (hg _ wt4_70) (hg _ wt4_69) (hg _ wt1_20) hK hP hD hS 64 90 0 0 rfl rfl rfl rfl rfl (by decide) (by decide) (by decide) (by decide +kernel) (by decide +kernel) (fun i _ => rfl) (by decide) (Nat.le_of_ble_eq_true rfl) dX1_drawNights_153 (fun H locs hP hD hS => ?_)
        have hP : va_P D vwCl (xX K r f_17 (va_up B5 90 (va_cpy (B5 64) (B5 90) (0 : Int32).toNatClampNeg (0 : Int32).toNatClampNeg (10 : Int32).toNatClampNeg)) G6 tx) H := hP
        have hD : va_D A (xX K r f_17 (va_up B5 90 (va_cpy (B5 64) (B5 90) (0 : Int32).toNatClampNeg (0 : Int32).toNatClampNeg (10 : Int32).toNatClampNeg)) G6 tx) := hD
        refine k_gen (P := fun z => va_P D vwCl (xX K r f_17 z G6 tx) H ∧ va_D A (xX K r f_17 z G6 tx) ∧ (xI f_17 z) ∧ (gOK K G6.2 tt) ∧ (xEk ([1888, 1894, 1900, 1905, 1906, 2849, 2850], [60, 61, 62, 63, 64, 65, 66, 67, 68, 69, 70, 71, 72, 77, 78, 79, 90, 91], [73]) f a g f_17 z G6)) (va_up B5 90 (va_cpy (B5 64) (B5 90) (0 : Int32).toNatClampNeg (0 : Int32).toNatClampNeg (10 : Int32).toNatClampNeg)) ⟨hP, hD, (xI_a hI (by decide)), hG, (xEk_a hE rfl)⟩ (fun a_18 ea_18 hq => ?_)
        obtain ⟨hP, hD, hI, hG, hE⟩ := hq
        refine lv_aload_n hx hb dX1_drawNights_156 rfl (lv_at hl 3 rfl) ?_
        refine va_get (D := D) (ci := 7) (v := .ref (r 67)) (C := RX7) (T := TX7) (N := 20) hx hb hg inC7 hown hK hP 59 rfl rfl 9 (by decide) (hg _ wt1_117) (fun _ h9 => h9) rfl dX1_drawNights_157 ?_
        refine lv_iconst (v := 0) hx hb dX1_drawNights_160 (by decide) ?_
        refine lv_aload_n hx hb dX1_drawNights_161 rfl (lv_at hl 4 rfl) ?_
        refine va_get (D := D) (ci := 1) (v := .ref (r 91)) (C := RX1) (T := TX1) (N := 5) hx hb hg inC1 hown hK hP 89 rfl rfl 4 (by decide) (hg _ wt2_173) (fun _ h9 => h9) rfl dX1_drawNights_162 ?_
        refine lv_iconst (v := 0) hx hb dX1_drawNights_165 (by decide) ?_
        refine lv_bipush (v := 6) hx hb dX1_drawNights_166 (by decide) ?_
        refine va_copyi (ty := .int) hx hb (hml.trans hl.1.symm) hown (hg _ wt5_128) (hg _ wt4_70) (hg _ wt4_69) (hg _ wt1_20) hK hP hD hS 67 91 0 0 rfl rfl rfl rfl rfl (by decide) (by decide) (by decide) (by decide +kernel) (by decide +kernel) (fun i _ => rfl) (by decide) (Nat.le_of_ble_eq_true rfl) dX1_drawNights_168 (fun H locs hP hD hS => ?_)
        have hP : va_P D vwCl (xX K r f_17 (va_up a_18 91 (va_cpy (a_18 67) (a_18 91) (0 : Int32).toNatClampNeg (0 : Int32).toNatClampNeg (6 : Int32).toNatClampNeg)) G6 tx) H := hP
        have hD : va_D A (xX K r f_17 (va_up a_18 91 (va_cpy (a_18 67) (a_18 91) (0 : Int32).toNatClampNeg (0 : Int32).toNatClampNeg (6 : Int32).toNatClampNeg)) G6 tx) := hD
        refine k_gen (P := fun z => va_P D vwCl (xX K r f_17 z G6 tx) H ∧ va_D A (xX K r f_17 z G6 tx) ∧ (xI f_17 z) ∧ (gOK K G6.2 tt) ∧ (xEk ([1888, 1894, 1900, 1905, 1906, 2849, 2850], [60, 61, 62, 63, 64, 65, 66, 67, 68, 69, 70, 71, 72, 77, 78, 79, 90, 91], [73]) f a g f_17 z G6)) (va_up a_18 91 (va_cpy (a_18 67) (a_18 91) (0 : Int32).toNatClampNeg (0 : Int32).toNatClampNeg (6 : Int32).toNatClampNeg)) ⟨hP, hD, (xI_a hI (by decide)), hG, (xEk_a hE rfl)⟩ (fun a_19 ea_19 hq => ?_)
        obtain ⟨hP, hD, hI, hG, hE⟩ := hq
        refine lv_iload hx hb dX1_drawNights_171 (lv_at hl 1 rfl) ?_
        exact kI_ret (v := y2) hx hb hr hlocks rfl hK hS dX1_drawNights_173 (f_17, a_19, G6) hP hD ⟨(kb_any y2), hI, hG, hE⟩
      · have h20 := (kc_nle c10)
        have b21 : kb 0 y1 19 := kr_lt1 h20 b9 bn_ (by decide)
        refine lv_aload_n hx hb dX1_drawNights_23 rfl (lv_at hl 4 rfl) ?_
        refine va_get (D := D) (ci := 1) (v := .ref (r 58)) (C := RX1) (T := TX1) (N := 5) hx hb hg inC1 hown hK hP 89 rfl rfl 0 (by decide) (hg _ wt2_169) (fun _ h9 => h9) rfl dX1_drawNights_24 ?_
        refine kVG.callW (As := []) (rest := []) ⟨hx, hb, hml, hown, hg⟩ (x_3_begin l r F4 B5 G6 tx tt hT hI hG   ) (cwV 0 hg (kgV wt5_123 wt4_237 wt4_238 wt1_10 wt4_239) rfl rfl rfl (by decide +kernel) ⟨by decide, by decide⟩) hV hK hP hD hS hA (58) 3 rfl rfl rfl hl.1 rfl (Nat.le_of_ble_eq_true rfl) dX1_drawNights_27 ⟨Nat.le_refl _, Nat.le_refl _⟩ (fun u24 H locs hw22 hP hD hS => ?_)
        obtain ⟨f25, a26, g27⟩ := u24
        have hP : va_P D vwCl (xX K r f25 a26 g27 tx) H := hP
        have hD : va_D A (xX K r f25 a26 g27 tx) := hD
        have hI : xI f25 a26 := hw22.1
        have hG : gOK K g27.2 tt := hw22.2.1
        have eE28 : xEk ([1888, 1894, 1900, 1905, 1906], [60, 61, 62, 63, 64, 65, 66, 67, 68, 69, 70, 71, 72], [73]) F4 B5 G6 f25 a26 g27 := hw22.2.2
        have hE : xEk ([1888, 1894, 1900, 1905, 1906, 2849, 2850], [60, 61, 62, 63, 64, 65, 66, 67, 68, 69, 70, 71, 72, 77, 78, 79, 90, 91], [73]) f a g f25 a26 g27 := xEk_tr hE (xEk_w (by decide +kernel) eE28)
        refine lv_iconst (v := 0) hx hb dX1_drawNights_30 (by decide) ?_
        refine lv_istore (lv' := [(7, .int 0), (6, .int y1), (5, .int y2), (4, .int y3), (3, .ref (r 59)), (0, .ref (r 89)), (1, .int x), (2, .int n_)]) hx hb dX1_drawNights_31 hl (by decide) rfl (fun ls hl => ?_)
        have lp34 : ∀ (n35 : Nat) (F31 : Nat → Int32) (B32 : Nat → Nat → Int32) (G33 : xG) (H : Heap) (locs : List Loc) (ls : Array Slot) (y29 : Int32) (y30 : Int32), (2147483647 < y29.toInt + (n35 : Int)) → (xI F31 B32) → (gOK K G33.2 tt) → (xEk ([1888, 1894, 1900, 1905, 1906, 2849, 2850], [60, 61, 62, 63, 64, 65, 66, 67, 68, 69, 70, 71, 72, 77, 78, 79, 90, 91], [73]) f a g F31 B32 G33) → (kb 0 y29 2147483647) → va_P D vwCl (xX K r F31 B32 G33 tx) H → va_D A (xX K r F31 B32 G33 tx) → va_S A s.heap H locs → lv_has ls 8 [(7, .int y29), (6, .int y1), (5, .int y2), (4, .int y30), (3, .ref (r 59)), (0, .ref (r 89)), (1, .int x), (2, .int n_)] → W p l e (rmD 5 0 0) s m ([.ref (r 89), .int x, .int n_] : List Value).toArray below meth c H locs 0 0 (kQi D (tysK K) (fun v (u : xS) => kb (-2147483648) v 2147483647 ∧ xI u.1 u.2.1 ∧ gOK K u.2.2.2 tt ∧ xEk ([1888, 1894, 1900, 1905, 1906, 2849, 2850], [60, 61, 62, 63, 64, 65, 66, 67, 68, 69, 70, 71, 72, 77, 78, 79, 90, 91], [73]) f a g u.1 u.2.1 u.2.2) (fun u => xX K r u.1 u.2.1 u.2.2 tx) A below ([.ref (r 89), .int x, .int n_] : List Value).toArray s 0 0) (F0 m 33 ls []) := by
          intro n35
          induction n35 with
          | zero =>
            intro  F31 B32 G33  H locs ls y29 y30 hmlp34 hI hG hE b36 hP hD hS hl
            exact (by have h1 := b36.2; have h2 := hmlp34; omega : False).elim
          | succ n35 ihlp34 =>
            intro  F31 B32 G33  H locs ls y29 y30 hmlp34 hI hG hE b36 hP hD hS hl
            refine lv_iload hx hb dX1_drawNights_33 (lv_at hl 0 rfl) ?_
            refine lv_aload_n hx hb dX1_drawNights_35 rfl (lv_at hl 4 rfl) ?_
            refine va_get (D := D) (ci := 7) (v := .ref (r 69)) (C := RX7) (T := TX7) (N := 20) hx hb hg inC7 hown hK hP 59 rfl rfl 11 (by decide) (hg _ wt1_128) (fun _ h9 => h9) rfl dX1_drawNights_36 ?_
            refine lv_iconst (v := 1) hx hb dX1_drawNights_39 (by decide) ?_
            refine va_iald hx hb hK hP 69 0 rfl rfl (kb_in kc_1 (by decide) (by decide)) dX1_drawNights_40 ?_
            refine lv_topi (fun t37 et37 => ?_)
            rw [cl_1] at et37
            refine lv_icmp_ge (tgt := 106) hx hb dX1_drawNights_41 (by decide) (fun c38 => ?_) (fun c38 => ?_)
            · have h39 := (kc_le c38)
              refine lv_aload_n hx hb dX1_drawNights_106 rfl (lv_at hl 5 rfl) ?_
              refine va_get (D := D) (ci := 1) (v := .ref (r 58)) (C := RX1) (T := TX1) (N := 5) hx hb hg inC1 hown hK hP 89 rfl rfl 0 (by decide) (hg _ wt2_169) (fun _ h9 => h9) rfl dX1_drawNights_107 ?_
              refine kIG.callW (As := []) (rest := []) ⟨hx, hb, hml, hown, hg⟩ (x_3_allStand l r F31 B32 G33 tx tt hT hI hG   ) (cwV 0 hg (kgV wt5_127 wt5_71 wt5_72 wt1_10 wt5_73) rfl rfl rfl (by decide +kernel) ⟨by decide, by decide⟩) hV hK hP hD hS hA (58) 3 rfl rfl rfl hl.1 rfl (Nat.le_of_ble_eq_true rfl) dX1_drawNights_110 ⟨Nat.le_refl _, Nat.le_refl _⟩ (fun v41 u42 H locs hw40 hP hD hS => ?_)
              have hP : va_P D vwCl (xX K r F31 B32 G33 tx) H := hP
              have hD : va_D A (xX K r F31 B32 G33 tx) := hD
              have jn47 : ∀ (H : Heap) (locs : List Loc) (ls : Array Slot) (y46 : Int32), va_P D vwCl (xX K r F31 B32 G33 tx) H → va_D A (xX K r F31 B32 G33 tx) → va_S A s.heap H locs → lv_has ls 8 [(7, .int y29), (6, .int y1), (5, .int y46), (4, .int y30), (3, .ref (r 59)), (0, .ref (r 89)), (1, .int x), (2, .int n_)] → W p l e (rmD 5 0 0) s m ([.ref (r 89), .int x, .int n_] : List Value).toArray below meth c H locs 0 0 (kQi D (tysK K) (fun v (u : xS) => kb (-2147483648) v 2147483647 ∧ xI u.1 u.2.1 ∧ gOK K u.2.2.2 tt ∧ xEk ([1888, 1894, 1900, 1905, 1906, 2849, 2850], [60, 61, 62, 63, 64, 65, 66, 67, 68, 69, 70, 71, 72, 77, 78, 79, 90, 91], [73]) f a g u.1 u.2.1 u.2.2) (fun u => xX K r u.1 u.2.1 u.2.2 tx) A below ([.ref (r 89), .int x, .int n_] : List Value).toArray s 0 0) (F0 m 119 ls []) := by
                intro  H locs ls y46  hP hD hS hl
                obtain ⟨t48, et48⟩ : ∃ z : Int32, z = y1 + Int32.ofInt 1 := ⟨_, rfl⟩
                have qt48 : t48.toInt = y1.toInt + 1 := by rw [et48]; exact km_inc b21 (by decide) (by decide)
                have b49 : kb 1 t48 20 := kb_inc (k := 1) qt48 b21
                refine lv_iinc (v := t48) (lv' := [(6, .int t48), (7, .int y29), (5, .int y46), (4, .int y30), (3, .ref (r 59)), (0, .ref (r 89)), (1, .int x), (2, .int n_)]) hx hb dX1_drawNights_119 hl (k := 1) rfl et48.symm (by decide) rfl (fun ls hl => ?_)
                refine lv_goto (tgt := 17) hx hb dX1_drawNights_122 (by decide) ?_
                exact ihlp7  F31 B32 G33 _ _ _ t48 y46 y30 (km_up hmlp7 qt48) hI hG hE (kb_w b49 (by decide) (by decide)) hP hD hS (lv_sub hl [0, 2, 3, 4, 5, 6, 7] rfl)
              refine lv_if_eq (tgt := 119) hx hb dX1_drawNights_113 (by decide) (fun c50 => ?_) (fun c50 => ?_)
              · have b51 : kb 0 v41 0 := kb_eq c50 kc_0
                exact jn47 _ _ _ y2  hP hD hS (lv_sub hl [0, 1, 2, 3, 4, 5, 6, 7] rfl)
              · have b52 : kb 1 v41 1 := kr_nel c50 hw40 kc_0 (by decide)
                obtain ⟨t53, et53⟩ : ∃ z : Int32, z = y2 + Int32.ofInt 1 := ⟨_, rfl⟩
                refine lv_iinc (v := t53) (lv' := [(5, .int t53), (7, .int y29), (6, .int y1), (4, .int y30), (3, .ref (r 59)), (0, .ref (r 89)), (1, .int x), (2, .int n_)]) hx hb dX1_drawNights_116 hl (k := 2) rfl et53.symm (by decide) rfl (fun ls hl => ?_)
                exact jn47 _ _ _ t53  hP hD hS (lv_sub hl [1, 2, 0, 3, 4, 5, 6, 7] rfl)
            · have h54 := (kc_nle c38)
              have b55 : kb 0 y29 2147483646 := kr_lt1 h54 b36 (kb_any t37) (by decide)
              have b56 : kb 1 t37 2147483647 := kr_lt2 h54 b36 (kb_any t37) (by decide)
              refine lv_aload_n hx hb dX1_drawNights_44 rfl (lv_at hl 5 rfl) ?_
              refine va_get (D := D) (ci := 1) (v := .ref (r 58)) (C := RX1) (T := TX1) (N := 5) hx hb hg inC1 hown hK hP 89 rfl rfl 0 (by decide) (hg _ wt2_169) (fun _ h9 => h9) rfl dX1_drawNights_45 ?_
              refine lv_bipush (v := 63) hx hb dX1_drawNights_48 (by decide) ?_
              refine kVG.callW (As := [.int 63]) (rest := []) ⟨hx, hb, hml, hown, hg⟩ (x_3_sendFree l r F31 B32 G33 tx tt hT hI hG 63  ) (cwV 1 hg (kgV wt5_124 wt5_12 wt5_13 wt1_10 wt5_14) rfl rfl rfl (by decide +kernel) ⟨by decide, by decide⟩) hV hK hP hD hS hA (58) 3 rfl rfl rfl hl.1 rfl (Nat.le_of_ble_eq_true rfl) dX1_drawNights_50 ⟨Nat.le_refl _, Nat.le_refl _⟩ (fun u59 H locs hw57 hP hD hS => ?_)
              obtain ⟨f60, a61, g62⟩ := u59
              have hP : va_P D vwCl (xX K r f60 a61 g62 tx) H := hP
              have hD : va_D A (xX K r f60 a61 g62 tx) := hD
              have hI : xI f60 a61 := hw57.1
              have hG : gOK K g62.2 tt := hw57.2.1
              have eE63 : xEk ([], [68, 79], []) F31 B32 G33 f60 a61 g62 := hw57.2.2
              have hE : xEk ([1888, 1894, 1900, 1905, 1906, 2849, 2850], [60, 61, 62, 63, 64, 65, 66, 67, 68, 69, 70, 71, 72, 77, 78, 79, 90, 91], [73]) f a g f60 a61 g62 := xEk_tr hE (xEk_w (by decide +kernel) eE63)
              refine lv_iload hx hb dX1_drawNights_53 (lv_at hl 3 rfl) ?_
              refine lv_sipush (v := 1103) hx hb dX1_drawNights_55 (by decide) ?_
              refine lv_imul hx hb dX1_drawNights_58 ?_
              refine lv_topi (fun t64 et64 => ?_)
              refine lv_sipush (v := 12345) hx hb dX1_drawNights_59 (by decide) ?_
              refine lv_iadd hx hb dX1_drawNights_62 ?_
              refine lv_topi (fun t65 et65 => ?_)
              refine lv_ldc (v := (1000003)) hx hb hown (hg _ wt5_125) dX1_drawNights_63 ?_
              refine lv_irem hx hb dX1_drawNights_65 (by decide +kernel) ?_
              refine lv_topi (fun t66 et66 => ?_)
              refine lv_istore (lv' := [(4, .int t66), (7, .int y29), (6, .int y1), (5, .int y2), (3, .ref (r 59)), (0, .ref (r 89)), (1, .int x), (2, .int n_)]) hx hb dX1_drawNights_66 hl (by decide) rfl (fun ls hl => ?_)
              refine lv_iload hx hb dX1_drawNights_68 (lv_at hl 0 rfl) ?_
              refine lv_bipush (v := 10) hx hb dX1_drawNights_70 (by decide) ?_
              refine lv_irem hx hb dX1_drawNights_72 (by decide +kernel) ?_
              refine lv_topi (fun t67 et67 => ?_)
              refine lv_aload_n hx hb dX1_drawNights_73 rfl (lv_at hl 4 rfl) ?_
              refine va_get (D := D) (ci := 7) (v := .ref (r 69)) (C := RX7) (T := TX7) (N := 20) hx hb hg inC7 hown hK hP 59 rfl rfl 11 (by decide) (hg _ wt1_128) (fun _ h9 => h9) rfl dX1_drawNights_74 ?_
              refine lv_iconst (v := 2) hx hb dX1_drawNights_77 (by decide) ?_
              refine va_iald hx hb hK hP 69 0 rfl rfl (kb_in kc_2 (by decide) (by decide)) dX1_drawNights_78 ?_
              refine lv_topi (fun t68 et68 => ?_)
              rw [cl_2] at et68
              have jn86 : ∀ (F83 : Nat → Int32) (B84 : Nat → Nat → Int32) (G85 : xG) (H : Heap) (locs : List Loc) (ls : Array Slot), (xI F83 B84) → (gOK K G85.2 tt) → (xEk ([1888, 1894, 1900, 1905, 1906, 2849, 2850], [60, 61, 62, 63, 64, 65, 66, 67, 68, 69, 70, 71, 72, 77, 78, 79, 90, 91], [73]) f a g F83 B84 G85) → va_P D vwCl (xX K r F83 B84 G85 tx) H → va_D A (xX K r F83 B84 G85 tx) → va_S A s.heap H locs → lv_has ls 8 [(4, .int t66), (7, .int y29), (6, .int y1), (5, .int y2), (3, .ref (r 59)), (0, .ref (r 89)), (1, .int x), (2, .int n_)] → W p l e (rmD 5 0 0) s m ([.ref (r 89), .int x, .int n_] : List Value).toArray below meth c H locs 0 0 (kQi D (tysK K) (fun v (u : xS) => kb (-2147483648) v 2147483647 ∧ xI u.1 u.2.1 ∧ gOK K u.2.2.2 tt ∧ xEk ([1888, 1894, 1900, 1905, 1906, 2849, 2850], [60, 61, 62, 63, 64, 65, 66, 67, 68, 69, 70, 71, 72, 77, 78, 79, 90, 91], [73]) f a g u.1 u.2.1 u.2.2) (fun u => xX K r u.1 u.2.1 u.2.2 tx) A below ([.ref (r 89), .int x, .int n_] : List Value).toArray s 0 0) (F0 m 100 ls []) := by
                intro F83 B84 G85  H locs ls  hI hG hE hP hD hS hl
                obtain ⟨t87, et87⟩ : ∃ z : Int32, z = y29 + Int32.ofInt 1 := ⟨_, rfl⟩
                have qt87 : t87.toInt = y29.toInt + 1 := by rw [et87]; exact km_inc b55 (by decide) (by decide)
                have b88 : kb 1 t87 2147483647 := kb_inc (k := 1) qt87 b55
                refine lv_iinc (v := t87) (lv' := [(7, .int t87), (4, .int t66), (6, .int y1), (5, .int y2), (3, .ref (r 59)), (0, .ref (r 89)), (1, .int x), (2, .int n_)]) hx hb dX1_drawNights_100 hl (k := 1) rfl et87.symm (by decide) rfl (fun ls hl => ?_)
                refine lv_goto (tgt := 33) hx hb dX1_drawNights_103 (by decide) ?_
                exact ihlp34  F83 B84 G85 _ _ _ t87 t66 (km_up hmlp34 qt87) hI hG hE (kb_w b88 (by decide) (by decide)) hP hD hS (lv_sub hl [0, 2, 3, 1, 4, 5, 6, 7] rfl)
              refine lv_icmp_ge (tgt := 95) hx hb dX1_drawNights_79 (by decide) (fun c89 => ?_) (fun c89 => ?_)
              · have h90 := (kc_le c89)
                refine lv_aload_n hx hb dX1_drawNights_95 rfl (lv_at hl 4 rfl) ?_
                refine kIG.callW (As := []) (rest := []) ⟨hx, hb, hml, hown, hg⟩ (x_7_workOneTickP l r f60 a61 g62 tx tt hT hI hG   ) (cwV 0 hg (kgV wt5_126 wt4_143 wt4_144 wt1_2 wt4_145) rfl rfl rfl (by decide +kernel) ⟨by decide, by decide⟩) hV hK hP hD hS hA (59) 7 rfl rfl rfl hl.1 rfl (Nat.le_of_ble_eq_true rfl) dX1_drawNights_96 ⟨Nat.le_refl _, Nat.le_refl _⟩ (fun v92 u93 H locs hw91 hP hD hS => ?_)
                obtain ⟨f94, a95, g96⟩ := u93
                have hP : va_P D vwCl (xX K r f94 a95 g96 tx) H := hP
                have hD : va_D A (xX K r f94 a95 g96 tx) := hD
                have hI : xI f94 a95 := hw91.2.1
                have hG : gOK K g96.2 tt := hw91.2.2.1
                have eE97 : xEk ([], [64, 67, 68, 69, 77, 78], []) f60 a61 g62 f94 a95 g96 := hw91.2.2.2
                have hE : xEk ([1888, 1894, 1900, 1905, 1906, 2849, 2850], [60, 61, 62, 63, 64, 65, 66, 67, 68, 69, 70, 71, 72, 77, 78, 79, 90, 91], [73]) f a g f94 a95 g96 := xEk_tr hE (xEk_w (by decide +kernel) eE97)
                refine lv_pop hx hb dX1_drawNights_99 rfl ?_
                exact jn86 f94 a95 g96 _ _ _  hI hG hE hP hD hS (lv_sub hl [0, 1, 2, 3, 4, 5, 6, 7] rfl)
              · have h98 := (kc_nle c89)
                have b99 : kb (-2147483648) t67 2147483646 := kr_lt1 h98 (kb_any t67) (kb_any t68) (by decide)
                have b100 : kb (-2147483647) t68 2147483647 := kr_lt2 h98 (kb_any t67) (kb_any t68) (by decide)
                refine lv_aload_n hx hb dX1_drawNights_82 rfl (lv_at hl 4 rfl) ?_
                refine va_get (D := D) (ci := 7) (v := .ref (r 69)) (C := RX7) (T := TX7) (N := 20) hx hb hg inC7 hown hK hP 59 rfl rfl 11 (by decide) (hg _ wt1_128) (fun _ h9 => h9) rfl dX1_drawNights_83 ?_
                refine lv_iconst (v := 0) hx hb dX1_drawNights_86 (by decide) ?_
                refine lv_dup2_11 hx hb dX1_drawNights_87 rfl rfl ?_
                refine va_iald hx hb hK hP 69 0 rfl rfl (kb_in kc_0 (by decide) (by decide)) dX1_drawNights_88 ?_
                refine lv_topi (fun t101 et101 => ?_)
                rw [cl_0] at et101
                refine lv_iconst (v := 1) hx hb dX1_drawNights_89 (by decide) ?_
                refine lv_iadd hx hb dX1_drawNights_90 ?_
                refine lv_topi (fun t102 et102 => ?_)
                refine va_iast hx hb hK hP hD hS 69 0 rfl rfl (kb_in kc_0 (by decide) (by decide)) dX1_drawNights_91 (fun H locs hP hD hS => ?_)
                rw [cl_0] at hP hD
                have hP : va_P D vwCl (xX K r f60 (va_up a61 69 (upd (a61 69) 0 t102)) g62 tx) H := hP
                have hD : va_D A (xX K r f60 (va_up a61 69 (upd (a61 69) 0 t102)) g62 tx) := hD
                refine k_gen (P := fun z => va_P D vwCl (xX K r f60 z g62 tx) H ∧ va_D A (xX K r f60 z g62 tx) ∧ (xI f60 z) ∧ (gOK K g62.2 tt) ∧ (xEk ([1888, 1894, 1900, 1905, 1906, 2849, 2850], [60, 61, 62, 63, 64, 65, 66, 67, 68, 69, 70, 71, 72, 77, 78, 79, 90, 91], [73]) f a g f60 z g62)) (va_up a61 69 (upd (a61 69) 0 t102)) ⟨hP, hD, (xI_a hI (by decide)), hG, (xEk_a hE rfl)⟩ (fun a_103 ea_103 hq => ?_)
                obtain ⟨hP, hD, hI, hG, hE⟩ := hq
                refine lv_goto (tgt := 100) hx hb dX1_drawNights_92 (by decide) ?_
                exact jn86 f60 a_103 g62 _ _ _  hI hG hE hP hD hS (lv_sub hl [0, 1, 2, 3, 4, 5, 6, 7] rfl)
        exact lp34 (2147483648)  f25 a26 g27 _ _ _ 0 y3 (by have h1 := (kc_0); unfold kb at h1; omega) hI hG hE (kb_w kc_0 (by decide) (by decide)) hP hD hS (lv_sub hl [0, 1, 2, 3, 4, 5, 6, 7] rfl)
  exact lp7 (21)  f a g _ _ _ 0 0 x (by have h1 := (kc_0); unfold kb at h1; omega) hI hG hE (kb_w kc_0 (by decide) (by decide)) hP hD hS (lv_sub hl [0, 1, 2, 3, 4, 5, 6] rfl)
