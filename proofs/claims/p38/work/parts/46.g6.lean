theorem dX12_sumOf_0 : decode cX12_sumOf 0 = .ok (.aload_n 0, 1) := by decide +kernel
theorem dX12_sumOf_1 : decode cX12_sumOf 1 = .ok (.iload_n 1, 1) := by decide +kernel
theorem dX12_sumOf_2 : decode cX12_sumOf 2 = .ok (.invokevirtual 258, 3) := by decide +kernel
theorem dX12_sumOf_5 : decode cX12_sumOf 5 = .ok (.lstore_n 2, 1) := by decide +kernel
theorem dX12_sumOf_6 : decode cX12_sumOf 6 = .ok (.aload_n 0, 1) := by decide +kernel
theorem dX12_sumOf_7 : decode cX12_sumOf 7 = .ok (.aload_n 0, 1) := by decide +kernel
theorem dX12_sumOf_8 : decode cX12_sumOf 8 = .ok (.getfield 245, 3) := by decide +kernel
theorem dX12_sumOf_11 : decode cX12_sumOf 11 = .ok (.invokevirtual 248, 3) := by decide +kernel
theorem dX12_sumOf_14 : decode cX12_sumOf 14 = .ok (.bipush 43, 2) := by decide +kernel
theorem dX12_sumOf_16 : decode cX12_sumOf 16 = .ok (.invokestatic 207, 3) := by decide +kernel
theorem dX12_sumOf_19 : decode cX12_sumOf 19 = .ok (.if_icmp .eq 19, 3) := by decide +kernel
theorem dX12_sumOf_22 : decode cX12_sumOf 22 = .ok (.aload_n 0, 1) := by decide +kernel
theorem dX12_sumOf_23 : decode cX12_sumOf 23 = .ok (.aload_n 0, 1) := by decide +kernel
theorem dX12_sumOf_24 : decode cX12_sumOf 24 = .ok (.getfield 245, 3) := by decide +kernel
theorem dX12_sumOf_27 : decode cX12_sumOf 27 = .ok (.invokevirtual 248, 3) := by decide +kernel
theorem dX12_sumOf_30 : decode cX12_sumOf 30 = .ok (.bipush 45, 2) := by decide +kernel
theorem dX12_sumOf_32 : decode cX12_sumOf 32 = .ok (.invokestatic 207, 3) := by decide +kernel
theorem dX12_sumOf_35 : decode cX12_sumOf 35 = .ok (.if_icmp .ne 68, 3) := by decide +kernel
theorem dX12_sumOf_38 : decode cX12_sumOf 38 = .ok (.aload_n 0, 1) := by decide +kernel
theorem dX12_sumOf_39 : decode cX12_sumOf 39 = .ok (.aload_n 0, 1) := by decide +kernel
theorem dX12_sumOf_40 : decode cX12_sumOf 40 = .ok (.getfield 245, 3) := by decide +kernel
theorem dX12_sumOf_43 : decode cX12_sumOf 43 = .ok (.invokevirtual 248, 3) := by decide +kernel
theorem dX12_sumOf_46 : decode cX12_sumOf 46 = .ok (.bipush 43, 2) := by decide +kernel
theorem dX12_sumOf_48 : decode cX12_sumOf 48 = .ok (.invokestatic 207, 3) := by decide +kernel
theorem dX12_sumOf_51 : decode cX12_sumOf 51 = .ok (.if_icmp .ne 7, 3) := by decide +kernel
theorem dX12_sumOf_54 : decode cX12_sumOf 54 = .ok (.iconst 1, 1) := by decide +kernel
theorem dX12_sumOf_55 : decode cX12_sumOf 55 = .ok (.goto 4, 3) := by decide +kernel
theorem dX12_sumOf_58 : decode cX12_sumOf 58 = .ok (.iconst 0, 1) := by decide +kernel
theorem dX12_sumOf_59 : decode cX12_sumOf 59 = .ok (.istore 4, 2) := by decide +kernel
theorem dX12_sumOf_61 : decode cX12_sumOf 61 = .ok (.aload_n 0, 1) := by decide +kernel
theorem dX12_sumOf_62 : decode cX12_sumOf 62 = .ok (.dup, 1) := by decide +kernel
theorem dX12_sumOf_63 : decode cX12_sumOf 63 = .ok (.getfield 245, 3) := by decide +kernel
theorem dX12_sumOf_66 : decode cX12_sumOf 66 = .ok (.iconst 1, 1) := by decide +kernel
theorem dX12_sumOf_67 : decode cX12_sumOf 67 = .ok (.iadd, 1) := by decide +kernel
theorem dX12_sumOf_68 : decode cX12_sumOf 68 = .ok (.putfield 245, 3) := by decide +kernel
theorem dX12_sumOf_71 : decode cX12_sumOf 71 = .ok (.aload_n 0, 1) := by decide +kernel
theorem dX12_sumOf_72 : decode cX12_sumOf 72 = .ok (.iload_n 1, 1) := by decide +kernel
theorem dX12_sumOf_73 : decode cX12_sumOf 73 = .ok (.invokevirtual 258, 3) := by decide +kernel
theorem dX12_sumOf_76 : decode cX12_sumOf 76 = .ok (.lstore 5, 2) := by decide +kernel
theorem dX12_sumOf_78 : decode cX12_sumOf 78 = .ok (.aload_n 0, 1) := by decide +kernel
theorem dX12_sumOf_79 : decode cX12_sumOf 79 = .ok (.iload 4, 2) := by decide +kernel
theorem dX12_sumOf_81 : decode cX12_sumOf 81 = .ok (.ifCond .eq 10, 3) := by decide +kernel
theorem dX12_sumOf_84 : decode cX12_sumOf 84 = .ok (.lload_n 2, 1) := by decide +kernel
theorem dX12_sumOf_85 : decode cX12_sumOf 85 = .ok (.lload 5, 2) := by decide +kernel
theorem dX12_sumOf_87 : decode cX12_sumOf 87 = .ok (.ladd, 1) := by decide +kernel
theorem dX12_sumOf_88 : decode cX12_sumOf 88 = .ok (.goto 7, 3) := by decide +kernel
theorem dX12_sumOf_91 : decode cX12_sumOf 91 = .ok (.lload_n 2, 1) := by decide +kernel
theorem dX12_sumOf_92 : decode cX12_sumOf 92 = .ok (.lload 5, 2) := by decide +kernel
theorem dX12_sumOf_94 : decode cX12_sumOf 94 = .ok (.lsub, 1) := by decide +kernel
theorem dX12_sumOf_95 : decode cX12_sumOf 95 = .ok (.iload_n 1, 1) := by decide +kernel
theorem dX12_sumOf_96 : decode cX12_sumOf 96 = .ok (.invokevirtual 262, 3) := by decide +kernel
theorem dX12_sumOf_99 : decode cX12_sumOf 99 = .ok (.lstore_n 2, 1) := by decide +kernel
theorem dX12_sumOf_100 : decode cX12_sumOf 100 = .ok (.goto (-94), 3) := by decide +kernel
theorem dX12_sumOf_103 : decode cX12_sumOf 103 = .ok (.lload_n 2, 1) := by decide +kernel
theorem dX12_sumOf_104 : decode cX12_sumOf 104 = .ok (.lreturn, 1) := by decide +kernel
theorem dX12_termOf_0 : decode cX12_termOf 0 = .ok (.aload_n 0, 1) := by decide +kernel
theorem dX12_termOf_1 : decode cX12_termOf 1 = .ok (.iload_n 1, 1) := by decide +kernel
theorem dX12_termOf_2 : decode cX12_termOf 2 = .ok (.invokevirtual 266, 3) := by decide +kernel
theorem dX12_termOf_5 : decode cX12_termOf 5 = .ok (.lstore_n 2, 1) := by decide +kernel
theorem dX12_termOf_6 : decode cX12_termOf 6 = .ok (.aload_n 0, 1) := by decide +kernel
theorem dX12_termOf_7 : decode cX12_termOf 7 = .ok (.aload_n 0, 1) := by decide +kernel
theorem dX12_termOf_8 : decode cX12_termOf 8 = .ok (.getfield 245, 3) := by decide +kernel
theorem dX12_termOf_11 : decode cX12_termOf 11 = .ok (.invokevirtual 248, 3) := by decide +kernel
theorem dX12_termOf_14 : decode cX12_termOf 14 = .ok (.bipush 42, 2) := by decide +kernel
theorem dX12_termOf_16 : decode cX12_termOf 16 = .ok (.invokestatic 207, 3) := by decide +kernel
theorem dX12_termOf_19 : decode cX12_termOf 19 = .ok (.if_icmp .eq 35, 3) := by decide +kernel
theorem dX12_termOf_22 : decode cX12_termOf 22 = .ok (.aload_n 0, 1) := by decide +kernel
theorem dX12_termOf_23 : decode cX12_termOf 23 = .ok (.aload_n 0, 1) := by decide +kernel
theorem dX12_termOf_24 : decode cX12_termOf 24 = .ok (.getfield 245, 3) := by decide +kernel
theorem dX12_termOf_27 : decode cX12_termOf 27 = .ok (.invokevirtual 248, 3) := by decide +kernel
theorem dX12_termOf_30 : decode cX12_termOf 30 = .ok (.bipush 47, 2) := by decide +kernel
theorem dX12_termOf_32 : decode cX12_termOf 32 = .ok (.invokestatic 207, 3) := by decide +kernel
theorem dX12_termOf_35 : decode cX12_termOf 35 = .ok (.if_icmp .eq 19, 3) := by decide +kernel
theorem dX12_termOf_38 : decode cX12_termOf 38 = .ok (.aload_n 0, 1) := by decide +kernel
theorem dX12_termOf_39 : decode cX12_termOf 39 = .ok (.aload_n 0, 1) := by decide +kernel
theorem dX12_termOf_40 : decode cX12_termOf 40 = .ok (.getfield 245, 3) := by decide +kernel
theorem dX12_termOf_43 : decode cX12_termOf 43 = .ok (.invokevirtual 248, 3) := by decide +kernel
theorem dX12_termOf_46 : decode cX12_termOf 46 = .ok (.bipush 37, 2) := by decide +kernel
theorem dX12_termOf_48 : decode cX12_termOf 48 = .ok (.invokestatic 207, 3) := by decide +kernel
theorem dX12_termOf_51 : decode cX12_termOf 51 = .ok (.if_icmp .ne 117, 3) := by decide +kernel
theorem dX12_termOf_54 : decode cX12_termOf 54 = .ok (.aload_n 0, 1) := by decide +kernel
theorem dX12_termOf_55 : decode cX12_termOf 55 = .ok (.aload_n 0, 1) := by decide +kernel
theorem dX12_termOf_56 : decode cX12_termOf 56 = .ok (.getfield 245, 3) := by decide +kernel
theorem dX12_termOf_59 : decode cX12_termOf 59 = .ok (.invokevirtual 248, 3) := by decide +kernel
theorem dX12_termOf_62 : decode cX12_termOf 62 = .ok (.istore 4, 2) := by decide +kernel
theorem dX12_termOf_64 : decode cX12_termOf 64 = .ok (.aload_n 0, 1) := by decide +kernel
theorem dX12_termOf_65 : decode cX12_termOf 65 = .ok (.dup, 1) := by decide +kernel
theorem dX12_termOf_66 : decode cX12_termOf 66 = .ok (.getfield 245, 3) := by decide +kernel
theorem dX12_termOf_69 : decode cX12_termOf 69 = .ok (.iconst 1, 1) := by decide +kernel
theorem dX12_termOf_70 : decode cX12_termOf 70 = .ok (.iadd, 1) := by decide +kernel
theorem dX12_termOf_71 : decode cX12_termOf 71 = .ok (.putfield 245, 3) := by decide +kernel
theorem dX12_termOf_74 : decode cX12_termOf 74 = .ok (.aload_n 0, 1) := by decide +kernel
theorem dX12_termOf_75 : decode cX12_termOf 75 = .ok (.iload_n 1, 1) := by decide +kernel
theorem dX12_termOf_76 : decode cX12_termOf 76 = .ok (.invokevirtual 266, 3) := by decide +kernel
theorem dX12_termOf_79 : decode cX12_termOf 79 = .ok (.lstore 5, 2) := by decide +kernel
theorem dX12_termOf_81 : decode cX12_termOf 81 = .ok (.iload 4, 2) := by decide +kernel
theorem dX12_termOf_83 : decode cX12_termOf 83 = .ok (.bipush 42, 2) := by decide +kernel
theorem dX12_termOf_85 : decode cX12_termOf 85 = .ok (.invokestatic 207, 3) := by decide +kernel
theorem dX12_termOf_88 : decode cX12_termOf 88 = .ok (.if_icmp .eq 33, 3) := by decide +kernel
theorem dX12_termOf_91 : decode cX12_termOf 91 = .ok (.lload 5, 2) := by decide +kernel
theorem dX12_termOf_93 : decode cX12_termOf 93 = .ok (.lconst 0, 1) := by decide +kernel
theorem dX12_termOf_94 : decode cX12_termOf 94 = .ok (.lcmp, 1) := by decide +kernel
theorem dX12_termOf_95 : decode cX12_termOf 95 = .ok (.ifCond .ne 26, 3) := by decide +kernel
theorem dX12_termOf_98 : decode cX12_termOf 98 = .ok (.aload_n 0, 1) := by decide +kernel
theorem dX12_termOf_99 : decode cX12_termOf 99 = .ok (.aload_n 0, 1) := by decide +kernel
theorem dX12_termOf_100 : decode cX12_termOf 100 = .ok (.getfield 255, 3) := by decide +kernel
theorem dX12_termOf_103 : decode cX12_termOf 103 = .ok (.ifCond .ne 7, 3) := by decide +kernel
theorem dX12_termOf_106 : decode cX12_termOf 106 = .ok (.iload_n 1, 1) := by decide +kernel
theorem dX12_termOf_107 : decode cX12_termOf 107 = .ok (.ifCond .eq 7, 3) := by decide +kernel
theorem dX12_termOf_110 : decode cX12_termOf 110 = .ok (.iconst 1, 1) := by decide +kernel
theorem dX12_termOf_111 : decode cX12_termOf 111 = .ok (.goto 4, 3) := by decide +kernel
theorem dX12_termOf_114 : decode cX12_termOf 114 = .ok (.iconst 0, 1) := by decide +kernel
theorem dX12_termOf_115 : decode cX12_termOf 115 = .ok (.putfield 255, 3) := by decide +kernel
theorem dX12_termOf_118 : decode cX12_termOf 118 = .ok (.lconst 1, 1) := by decide +kernel
theorem dX12_termOf_119 : decode cX12_termOf 119 = .ok (.lstore 5, 2) := by decide +kernel
theorem dX12_termOf_121 : decode cX12_termOf 121 = .ok (.aload_n 0, 1) := by decide +kernel
theorem dX12_termOf_122 : decode cX12_termOf 122 = .ok (.iload 4, 2) := by decide +kernel
theorem dX12_termOf_124 : decode cX12_termOf 124 = .ok (.bipush 42, 2) := by decide +kernel
theorem dX12_termOf_126 : decode cX12_termOf 126 = .ok (.invokestatic 207, 3) := by decide +kernel
theorem dX12_termOf_129 : decode cX12_termOf 129 = .ok (.if_icmp .ne 10, 3) := by decide +kernel
theorem dX12_termOf_132 : decode cX12_termOf 132 = .ok (.lload_n 2, 1) := by decide +kernel
theorem dX12_termOf_133 : decode cX12_termOf 133 = .ok (.lload 5, 2) := by decide +kernel
theorem dX12_termOf_135 : decode cX12_termOf 135 = .ok (.lmul, 1) := by decide +kernel
theorem dX12_termOf_136 : decode cX12_termOf 136 = .ok (.goto 24, 3) := by decide +kernel
theorem dX12_termOf_139 : decode cX12_termOf 139 = .ok (.iload 4, 2) := by decide +kernel
theorem dX12_termOf_141 : decode cX12_termOf 141 = .ok (.bipush 47, 2) := by decide +kernel
theorem dX12_termOf_143 : decode cX12_termOf 143 = .ok (.invokestatic 207, 3) := by decide +kernel
theorem dX12_termOf_146 : decode cX12_termOf 146 = .ok (.if_icmp .ne 10, 3) := by decide +kernel
theorem dX12_termOf_149 : decode cX12_termOf 149 = .ok (.lload_n 2, 1) := by decide +kernel
theorem dX12_termOf_150 : decode cX12_termOf 150 = .ok (.lload 5, 2) := by decide +kernel
theorem dX12_termOf_152 : decode cX12_termOf 152 = .ok (.ldiv, 1) := by decide +kernel
theorem dX12_termOf_153 : decode cX12_termOf 153 = .ok (.goto 7, 3) := by decide +kernel
theorem dX12_termOf_156 : decode cX12_termOf 156 = .ok (.lload_n 2, 1) := by decide +kernel
theorem dX12_termOf_157 : decode cX12_termOf 157 = .ok (.lload 5, 2) := by decide +kernel
theorem dX12_termOf_159 : decode cX12_termOf 159 = .ok (.lrem, 1) := by decide +kernel
theorem dX12_termOf_160 : decode cX12_termOf 160 = .ok (.iload_n 1, 1) := by decide +kernel
theorem dX12_termOf_161 : decode cX12_termOf 161 = .ok (.invokevirtual 262, 3) := by decide +kernel
theorem dX12_termOf_164 : decode cX12_termOf 164 = .ok (.lstore_n 2, 1) := by decide +kernel
theorem dX12_termOf_165 : decode cX12_termOf 165 = .ok (.goto (-159), 3) := by decide +kernel
theorem dX12_termOf_168 : decode cX12_termOf 168 = .ok (.lload_n 2, 1) := by decide +kernel
theorem dX12_termOf_169 : decode cX12_termOf 169 = .ok (.lreturn, 1) := by decide +kernel
theorem dX12_partOf_0 : decode cX12_partOf 0 = .ok (.aload_n 0, 1) := by decide +kernel
theorem dX12_partOf_1 : decode cX12_partOf 1 = .ok (.bipush 91, 2) := by decide +kernel
theorem dX12_partOf_3 : decode cX12_partOf 3 = .ok (.invokestatic 207, 3) := by decide +kernel
theorem dX12_partOf_6 : decode cX12_partOf 6 = .ok (.invokevirtual 269, 3) := by decide +kernel
theorem dX12_partOf_9 : decode cX12_partOf 9 = .ok (.ifCond .eq 21, 3) := by decide +kernel
theorem dX12_partOf_12 : decode cX12_partOf 12 = .ok (.aload_n 0, 1) := by decide +kernel
theorem dX12_partOf_13 : decode cX12_partOf 13 = .ok (.iload_n 1, 1) := by decide +kernel
theorem dX12_partOf_14 : decode cX12_partOf 14 = .ok (.invokevirtual 272, 3) := by decide +kernel
theorem dX12_partOf_17 : decode cX12_partOf 17 = .ok (.lstore_n 2, 1) := by decide +kernel
theorem dX12_partOf_18 : decode cX12_partOf 18 = .ok (.aload_n 0, 1) := by decide +kernel
theorem dX12_partOf_19 : decode cX12_partOf 19 = .ok (.dup, 1) := by decide +kernel
theorem dX12_partOf_20 : decode cX12_partOf 20 = .ok (.getfield 245, 3) := by decide +kernel
theorem dX12_partOf_23 : decode cX12_partOf 23 = .ok (.iconst 1, 1) := by decide +kernel
theorem dX12_partOf_24 : decode cX12_partOf 24 = .ok (.iadd, 1) := by decide +kernel
theorem dX12_partOf_25 : decode cX12_partOf 25 = .ok (.putfield 245, 3) := by decide +kernel
theorem dX12_partOf_28 : decode cX12_partOf 28 = .ok (.lload_n 2, 1) := by decide +kernel
theorem dX12_partOf_29 : decode cX12_partOf 29 = .ok (.lreturn, 1) := by decide +kernel
theorem dX12_partOf_30 : decode cX12_partOf 30 = .ok (.aload_n 0, 1) := by decide +kernel
theorem dX12_partOf_31 : decode cX12_partOf 31 = .ok (.aload_n 0, 1) := by decide +kernel
theorem dX12_partOf_32 : decode cX12_partOf 32 = .ok (.getfield 245, 3) := by decide +kernel
theorem dX12_partOf_35 : decode cX12_partOf 35 = .ok (.invokevirtual 248, 3) := by decide +kernel
theorem dX12_partOf_38 : decode cX12_partOf 38 = .ok (.istore_n 2, 1) := by decide +kernel
theorem dX12_partOf_39 : decode cX12_partOf 39 = .ok (.iconst 0, 1) := by decide +kernel
theorem dX12_partOf_40 : decode cX12_partOf 40 = .ok (.istore_n 3, 1) := by decide +kernel
theorem dX12_partOf_41 : decode cX12_partOf 41 = .ok (.aload_n 0, 1) := by decide +kernel
theorem dX12_partOf_42 : decode cX12_partOf 42 = .ok (.dup, 1) := by decide +kernel
theorem dX12_partOf_43 : decode cX12_partOf 43 = .ok (.getfield 245, 3) := by decide +kernel
theorem dX12_partOf_46 : decode cX12_partOf 46 = .ok (.iconst 1, 1) := by decide +kernel
theorem dX12_partOf_47 : decode cX12_partOf 47 = .ok (.iadd, 1) := by decide +kernel
theorem dX12_partOf_48 : decode cX12_partOf 48 = .ok (.putfield 245, 3) := by decide +kernel
theorem dX12_partOf_51 : decode cX12_partOf 51 = .ok (.aload_n 0, 1) := by decide +kernel
theorem dX12_partOf_52 : decode cX12_partOf 52 = .ok (.getfield 275, 3) := by decide +kernel
theorem dX12_partOf_55 : decode cX12_partOf 55 = .ok (.ifCond .eq 45, 3) := by decide +kernel
theorem dX12_partOf_58 : decode cX12_partOf 58 = .ok (.iload_n 2, 1) := by decide +kernel
theorem dX12_partOf_59 : decode cX12_partOf 59 = .ok (.bipush 16, 2) := by decide +kernel
theorem dX12_partOf_61 : decode cX12_partOf 61 = .ok (.if_icmp .eq 15, 3) := by decide +kernel
theorem dX12_partOf_64 : decode cX12_partOf 64 = .ok (.iload_n 2, 1) := by decide +kernel
theorem dX12_partOf_65 : decode cX12_partOf 65 = .ok (.bipush 17, 2) := by decide +kernel
theorem dX12_partOf_67 : decode cX12_partOf 67 = .ok (.if_icmp .eq 9, 3) := by decide +kernel
theorem dX12_partOf_70 : decode cX12_partOf 70 = .ok (.iload_n 2, 1) := by decide +kernel
theorem dX12_partOf_71 : decode cX12_partOf 71 = .ok (.bipush 22, 2) := by decide +kernel
theorem dX12_partOf_73 : decode cX12_partOf 73 = .ok (.if_icmp .ne 27, 3) := by decide +kernel
theorem dX12_partOf_76 : decode cX12_partOf 76 = .ok (.aload_n 0, 1) := by decide +kernel
theorem dX12_partOf_77 : decode cX12_partOf 77 = .ok (.getfield 24, 3) := by decide +kernel
theorem dX12_partOf_80 : decode cX12_partOf 80 = .ok (.sipush 2914, 3) := by decide +kernel
theorem dX12_partOf_83 : decode cX12_partOf 83 = .ok (.aload_n 0, 1) := by decide +kernel
theorem dX12_partOf_84 : decode cX12_partOf 84 = .ok (.getfield 245, 3) := by decide +kernel
theorem dX12_partOf_87 : decode cX12_partOf 87 = .ok (.iadd, 1) := by decide +kernel
theorem dX12_partOf_88 : decode cX12_partOf 88 = .ok (.iaload, 1) := by decide +kernel
theorem dX12_partOf_89 : decode cX12_partOf 89 = .ok (.istore_n 3, 1) := by decide +kernel
theorem dX12_partOf_90 : decode cX12_partOf 90 = .ok (.aload_n 0, 1) := by decide +kernel
theorem dX12_partOf_91 : decode cX12_partOf 91 = .ok (.dup, 1) := by decide +kernel
theorem dX12_partOf_92 : decode cX12_partOf 92 = .ok (.getfield 245, 3) := by decide +kernel
theorem dX12_partOf_95 : decode cX12_partOf 95 = .ok (.iconst 1, 1) := by decide +kernel
theorem dX12_partOf_96 : decode cX12_partOf 96 = .ok (.iadd, 1) := by decide +kernel
theorem dX12_partOf_97 : decode cX12_partOf 97 = .ok (.putfield 245, 3) := by decide +kernel
theorem dX12_partOf_100 : decode cX12_partOf 100 = .ok (.iload_n 1, 1) := by decide +kernel
theorem dX12_partOf_101 : decode cX12_partOf 101 = .ok (.ifCond .eq 10, 3) := by decide +kernel
theorem dX12_partOf_104 : decode cX12_partOf 104 = .ok (.aload_n 0, 1) := by decide +kernel
theorem dX12_partOf_105 : decode cX12_partOf 105 = .ok (.getfield 255, 3) := by decide +kernel
theorem dX12_partOf_108 : decode cX12_partOf 108 = .ok (.ifCond .eq 5, 3) := by decide +kernel
theorem dX12_partOf_111 : decode cX12_partOf 111 = .ok (.lconst 0, 1) := by decide +kernel
theorem dX12_partOf_112 : decode cX12_partOf 112 = .ok (.lreturn, 1) := by decide +kernel
theorem dX12_partOf_113 : decode cX12_partOf 113 = .ok (.iload_n 2, 1) := by decide +kernel
theorem dX12_partOf_114 : decode cX12_partOf 114 = .ok (.bipush 50, 2) := by decide +kernel
theorem dX12_partOf_116 : decode cX12_partOf 116 = .ok (.if_icmp .ne 20, 3) := by decide +kernel
theorem dX12_partOf_119 : decode cX12_partOf 119 = .ok (.aload_n 0, 1) := by decide +kernel
theorem dX12_partOf_120 : decode cX12_partOf 120 = .ok (.getfield 24, 3) := by decide +kernel
theorem dX12_partOf_123 : decode cX12_partOf 123 = .ok (.sipush 2914, 3) := by decide +kernel
theorem dX12_partOf_126 : decode cX12_partOf 126 = .ok (.aload_n 0, 1) := by decide +kernel
theorem dX12_partOf_127 : decode cX12_partOf 127 = .ok (.getfield 245, 3) := by decide +kernel
theorem dX12_partOf_130 : decode cX12_partOf 130 = .ok (.iadd, 1) := by decide +kernel
theorem dX12_partOf_131 : decode cX12_partOf 131 = .ok (.iconst 1, 1) := by decide +kernel
theorem dX12_partOf_132 : decode cX12_partOf 132 = .ok (.isub, 1) := by decide +kernel
theorem dX12_partOf_133 : decode cX12_partOf 133 = .ok (.iaload, 1) := by decide +kernel
theorem dX12_partOf_134 : decode cX12_partOf 134 = .ok (.i2l, 1) := by decide +kernel
theorem dX12_partOf_135 : decode cX12_partOf 135 = .ok (.lreturn, 1) := by decide +kernel
theorem dX12_partOf_136 : decode cX12_partOf 136 = .ok (.aload_n 0, 1) := by decide +kernel
theorem dX12_partOf_137 : decode cX12_partOf 137 = .ok (.getfield 275, 3) := by decide +kernel
theorem dX12_partOf_140 : decode cX12_partOf 140 = .ok (.ifCond .eq 13, 3) := by decide +kernel
theorem dX12_partOf_143 : decode cX12_partOf 143 = .ok (.aload_n 0, 1) := by decide +kernel
theorem dX12_partOf_144 : decode cX12_partOf 144 = .ok (.iload_n 2, 1) := by decide +kernel
theorem dX12_partOf_145 : decode cX12_partOf 145 = .ok (.iload_n 3, 1) := by decide +kernel
theorem dX12_partOf_146 : decode cX12_partOf 146 = .ok (.invokevirtual 278, 3) := by decide +kernel
theorem dX12_partOf_149 : decode cX12_partOf 149 = .ok (.i2l, 1) := by decide +kernel
theorem dX12_partOf_150 : decode cX12_partOf 150 = .ok (.goto 13, 3) := by decide +kernel
theorem dX12_partOf_153 : decode cX12_partOf 153 = .ok (.aload_n 0, 1) := by decide +kernel
theorem dX12_partOf_154 : decode cX12_partOf 154 = .ok (.getfield 59, 3) := by decide +kernel
theorem dX12_partOf_157 : decode cX12_partOf 157 = .ok (.iload_n 2, 1) := by decide +kernel
theorem dX12_partOf_158 : decode cX12_partOf 158 = .ok (.bipush 9, 2) := by decide +kernel
theorem dX12_partOf_160 : decode cX12_partOf 160 = .ok (.isub, 1) := by decide +kernel
theorem dX12_partOf_161 : decode cX12_partOf 161 = .ok (.iaload, 1) := by decide +kernel
theorem dX12_partOf_162 : decode cX12_partOf 162 = .ok (.i2l, 1) := by decide +kernel
theorem dX12_partOf_163 : decode cX12_partOf 163 = .ok (.lreturn, 1) := by decide +kernel
theorem dX12_testOf_0 : decode cX12_testOf 0 = .ok (.aload_n 0, 1) := by decide +kernel
theorem dX12_testOf_1 : decode cX12_testOf 1 = .ok (.iload_n 1, 1) := by decide +kernel
theorem dX12_testOf_2 : decode cX12_testOf 2 = .ok (.invokevirtual 290, 3) := by decide +kernel
theorem dX12_testOf_5 : decode cX12_testOf 5 = .ok (.istore_n 2, 1) := by decide +kernel
theorem dX12_testOf_6 : decode cX12_testOf 6 = .ok (.aload_n 0, 1) := by decide +kernel
theorem dX12_testOf_7 : decode cX12_testOf 7 = .ok (.bipush 6, 2) := by decide +kernel
theorem dX12_testOf_9 : decode cX12_testOf 9 = .ok (.invokevirtual 269, 3) := by decide +kernel
theorem dX12_testOf_12 : decode cX12_testOf 12 = .ok (.ifCond .eq 38, 3) := by decide +kernel
theorem dX12_testOf_15 : decode cX12_testOf 15 = .ok (.aload_n 0, 1) := by decide +kernel
theorem dX12_testOf_16 : decode cX12_testOf 16 = .ok (.iload_n 1, 1) := by decide +kernel
theorem dX12_testOf_17 : decode cX12_testOf 17 = .ok (.ifCond .eq 11, 3) := by decide +kernel
theorem dX12_testOf_20 : decode cX12_testOf 20 = .ok (.iload_n 2, 1) := by decide +kernel
theorem dX12_testOf_21 : decode cX12_testOf 21 = .ok (.ifCond .ne 7, 3) := by decide +kernel
theorem dX12_testOf_24 : decode cX12_testOf 24 = .ok (.iconst 1, 1) := by decide +kernel
theorem dX12_testOf_25 : decode cX12_testOf 25 = .ok (.goto 4, 3) := by decide +kernel
theorem dX12_testOf_28 : decode cX12_testOf 28 = .ok (.iconst 0, 1) := by decide +kernel
theorem dX12_testOf_29 : decode cX12_testOf 29 = .ok (.invokevirtual 290, 3) := by decide +kernel
theorem dX12_testOf_32 : decode cX12_testOf 32 = .ok (.istore_n 3, 1) := by decide +kernel
theorem dX12_testOf_33 : decode cX12_testOf 33 = .ok (.iload_n 2, 1) := by decide +kernel
theorem dX12_testOf_34 : decode cX12_testOf 34 = .ok (.ifCond .ne 7, 3) := by decide +kernel
theorem dX12_testOf_37 : decode cX12_testOf 37 = .ok (.iload_n 3, 1) := by decide +kernel
theorem dX12_testOf_38 : decode cX12_testOf 38 = .ok (.ifCond .eq 7, 3) := by decide +kernel
theorem dX12_testOf_41 : decode cX12_testOf 41 = .ok (.iconst 1, 1) := by decide +kernel
theorem dX12_testOf_42 : decode cX12_testOf 42 = .ok (.goto 4, 3) := by decide +kernel
theorem dX12_testOf_45 : decode cX12_testOf 45 = .ok (.iconst 0, 1) := by decide +kernel
theorem dX12_testOf_46 : decode cX12_testOf 46 = .ok (.istore_n 2, 1) := by decide +kernel
theorem dX12_testOf_47 : decode cX12_testOf 47 = .ok (.goto (-41), 3) := by decide +kernel
theorem dX12_testOf_50 : decode cX12_testOf 50 = .ok (.iload_n 2, 1) := by decide +kernel
theorem dX12_testOf_51 : decode cX12_testOf 51 = .ok (.ireturn, 1) := by decide +kernel
theorem dX12_bothOf_0 : decode cX12_bothOf 0 = .ok (.aload_n 0, 1) := by decide +kernel
theorem dX12_bothOf_1 : decode cX12_bothOf 1 = .ok (.iload_n 1, 1) := by decide +kernel
theorem dX12_bothOf_2 : decode cX12_bothOf 2 = .ok (.invokevirtual 293, 3) := by decide +kernel
theorem dX12_bothOf_5 : decode cX12_bothOf 5 = .ok (.istore_n 2, 1) := by decide +kernel
theorem dX12_bothOf_6 : decode cX12_bothOf 6 = .ok (.aload_n 0, 1) := by decide +kernel
theorem dX12_bothOf_7 : decode cX12_bothOf 7 = .ok (.bipush 7, 2) := by decide +kernel
theorem dX12_bothOf_9 : decode cX12_bothOf 9 = .ok (.invokevirtual 269, 3) := by decide +kernel
theorem dX12_bothOf_12 : decode cX12_bothOf 12 = .ok (.ifCond .eq 38, 3) := by decide +kernel
theorem dX12_bothOf_15 : decode cX12_bothOf 15 = .ok (.aload_n 0, 1) := by decide +kernel
theorem dX12_bothOf_16 : decode cX12_bothOf 16 = .ok (.iload_n 1, 1) := by decide +kernel
theorem dX12_bothOf_17 : decode cX12_bothOf 17 = .ok (.ifCond .eq 11, 3) := by decide +kernel
theorem dX12_bothOf_20 : decode cX12_bothOf 20 = .ok (.iload_n 2, 1) := by decide +kernel
theorem dX12_bothOf_21 : decode cX12_bothOf 21 = .ok (.ifCond .eq 7, 3) := by decide +kernel
theorem dX12_bothOf_24 : decode cX12_bothOf 24 = .ok (.iconst 1, 1) := by decide +kernel
theorem dX12_bothOf_25 : decode cX12_bothOf 25 = .ok (.goto 4, 3) := by decide +kernel
theorem dX12_bothOf_28 : decode cX12_bothOf 28 = .ok (.iconst 0, 1) := by decide +kernel
theorem dX12_bothOf_29 : decode cX12_bothOf 29 = .ok (.invokevirtual 293, 3) := by decide +kernel
theorem dX12_bothOf_32 : decode cX12_bothOf 32 = .ok (.istore_n 3, 1) := by decide +kernel
theorem dX12_bothOf_33 : decode cX12_bothOf 33 = .ok (.iload_n 2, 1) := by decide +kernel
theorem dX12_bothOf_34 : decode cX12_bothOf 34 = .ok (.ifCond .eq 11, 3) := by decide +kernel
theorem dX12_bothOf_37 : decode cX12_bothOf 37 = .ok (.iload_n 3, 1) := by decide +kernel
theorem dX12_bothOf_38 : decode cX12_bothOf 38 = .ok (.ifCond .eq 7, 3) := by decide +kernel
theorem dX12_bothOf_41 : decode cX12_bothOf 41 = .ok (.iconst 1, 1) := by decide +kernel
theorem dX12_bothOf_42 : decode cX12_bothOf 42 = .ok (.goto 4, 3) := by decide +kernel
theorem dX12_bothOf_45 : decode cX12_bothOf 45 = .ok (.iconst 0, 1) := by decide +kernel
theorem dX12_bothOf_46 : decode cX12_bothOf 46 = .ok (.istore_n 2, 1) := by decide +kernel
theorem dX12_bothOf_47 : decode cX12_bothOf 47 = .ok (.goto (-41), 3) := by decide +kernel
theorem dX12_bothOf_50 : decode cX12_bothOf 50 = .ok (.iload_n 2, 1) := by decide +kernel
theorem dX12_bothOf_51 : decode cX12_bothOf 51 = .ok (.ireturn, 1) := by decide +kernel
theorem dX12_plainOf_0 : decode cX12_plainOf 0 = .ok (.iconst 0, 1) := by decide +kernel
theorem dX12_plainOf_1 : decode cX12_plainOf 1 = .ok (.istore_n 2, 1) := by decide +kernel
theorem dX12_plainOf_2 : decode cX12_plainOf 2 = .ok (.aload_n 0, 1) := by decide +kernel
theorem dX12_plainOf_3 : decode cX12_plainOf 3 = .ok (.bipush 8, 2) := by decide +kernel
theorem dX12_plainOf_5 : decode cX12_plainOf 5 = .ok (.invokevirtual 269, 3) := by decide +kernel
theorem dX12_plainOf_8 : decode cX12_plainOf 8 = .ok (.ifCond .eq 16, 3) := by decide +kernel
theorem dX12_plainOf_11 : decode cX12_plainOf 11 = .ok (.iload_n 2, 1) := by decide +kernel
theorem dX12_plainOf_12 : decode cX12_plainOf 12 = .ok (.ifCond .ne 7, 3) := by decide +kernel
theorem dX12_plainOf_15 : decode cX12_plainOf 15 = .ok (.iconst 1, 1) := by decide +kernel
theorem dX12_plainOf_16 : decode cX12_plainOf 16 = .ok (.goto 4, 3) := by decide +kernel
theorem dX12_plainOf_19 : decode cX12_plainOf 19 = .ok (.iconst 0, 1) := by decide +kernel
theorem dX12_plainOf_20 : decode cX12_plainOf 20 = .ok (.istore_n 2, 1) := by decide +kernel
theorem dX12_plainOf_21 : decode cX12_plainOf 21 = .ok (.goto (-19), 3) := by decide +kernel
theorem dX12_plainOf_24 : decode cX12_plainOf 24 = .ok (.aload_n 0, 1) := by decide +kernel
theorem dX12_plainOf_25 : decode cX12_plainOf 25 = .ok (.iload_n 1, 1) := by decide +kernel
theorem dX12_plainOf_26 : decode cX12_plainOf 26 = .ok (.invokevirtual 296, 3) := by decide +kernel
theorem dX12_plainOf_29 : decode cX12_plainOf 29 = .ok (.iload_n 2, 1) := by decide +kernel
theorem dX12_plainOf_30 : decode cX12_plainOf 30 = .ok (.if_icmp .eq 7, 3) := by decide +kernel
theorem dX12_plainOf_33 : decode cX12_plainOf 33 = .ok (.iconst 1, 1) := by decide +kernel
theorem dX12_plainOf_34 : decode cX12_plainOf 34 = .ok (.goto 4, 3) := by decide +kernel
theorem dX12_plainOf_37 : decode cX12_plainOf 37 = .ok (.iconst 0, 1) := by decide +kernel
theorem dX12_plainOf_38 : decode cX12_plainOf 38 = .ok (.ireturn, 1) := by decide +kernel
theorem dX12_positiveOf_0 : decode cX12_positiveOf 0 = .ok (.aload_n 0, 1) := by decide +kernel
theorem dX12_positiveOf_1 : decode cX12_positiveOf 1 = .ok (.bipush 40, 2) := by decide +kernel
theorem dX12_positiveOf_3 : decode cX12_positiveOf 3 = .ok (.invokestatic 207, 3) := by decide +kernel
theorem dX12_positiveOf_6 : decode cX12_positiveOf 6 = .ok (.invokevirtual 269, 3) := by decide +kernel
theorem dX12_positiveOf_9 : decode cX12_positiveOf 9 = .ok (.ifCond .eq 21, 3) := by decide +kernel
theorem dX12_positiveOf_12 : decode cX12_positiveOf 12 = .ok (.aload_n 0, 1) := by decide +kernel
theorem dX12_positiveOf_13 : decode cX12_positiveOf 13 = .ok (.iload_n 1, 1) := by decide +kernel
theorem dX12_positiveOf_14 : decode cX12_positiveOf 14 = .ok (.invokevirtual 299, 3) := by decide +kernel
theorem dX12_positiveOf_17 : decode cX12_positiveOf 17 = .ok (.istore_n 2, 1) := by decide +kernel
theorem dX12_positiveOf_18 : decode cX12_positiveOf 18 = .ok (.aload_n 0, 1) := by decide +kernel
theorem dX12_positiveOf_19 : decode cX12_positiveOf 19 = .ok (.dup, 1) := by decide +kernel
theorem dX12_positiveOf_20 : decode cX12_positiveOf 20 = .ok (.getfield 245, 3) := by decide +kernel
theorem dX12_positiveOf_23 : decode cX12_positiveOf 23 = .ok (.iconst 1, 1) := by decide +kernel
theorem dX12_positiveOf_24 : decode cX12_positiveOf 24 = .ok (.iadd, 1) := by decide +kernel
theorem dX12_positiveOf_25 : decode cX12_positiveOf 25 = .ok (.putfield 245, 3) := by decide +kernel
theorem dX12_positiveOf_28 : decode cX12_positiveOf 28 = .ok (.iload_n 2, 1) := by decide +kernel
theorem dX12_positiveOf_29 : decode cX12_positiveOf 29 = .ok (.ireturn, 1) := by decide +kernel
theorem dX12_positiveOf_30 : decode cX12_positiveOf 30 = .ok (.aload_n 0, 1) := by decide +kernel
theorem dX12_positiveOf_31 : decode cX12_positiveOf 31 = .ok (.iload_n 1, 1) := by decide +kernel
theorem dX12_positiveOf_32 : decode cX12_positiveOf 32 = .ok (.invokevirtual 272, 3) := by decide +kernel
theorem dX12_positiveOf_35 : decode cX12_positiveOf 35 = .ok (.lstore_n 2, 1) := by decide +kernel
theorem dX12_positiveOf_36 : decode cX12_positiveOf 36 = .ok (.aload_n 0, 1) := by decide +kernel
theorem dX12_positiveOf_37 : decode cX12_positiveOf 37 = .ok (.aload_n 0, 1) := by decide +kernel
theorem dX12_positiveOf_38 : decode cX12_positiveOf 38 = .ok (.getfield 245, 3) := by decide +kernel
theorem dX12_positiveOf_41 : decode cX12_positiveOf 41 = .ok (.invokevirtual 248, 3) := by decide +kernel
theorem dX12_positiveOf_44 : decode cX12_positiveOf 44 = .ok (.istore 4, 2) := by decide +kernel
theorem dX12_positiveOf_46 : decode cX12_positiveOf 46 = .ok (.aload_n 0, 1) := by decide +kernel
theorem dX12_positiveOf_47 : decode cX12_positiveOf 47 = .ok (.dup, 1) := by decide +kernel
theorem dX12_positiveOf_48 : decode cX12_positiveOf 48 = .ok (.getfield 245, 3) := by decide +kernel
theorem dX12_positiveOf_51 : decode cX12_positiveOf 51 = .ok (.iconst 1, 1) := by decide +kernel
theorem dX12_positiveOf_52 : decode cX12_positiveOf 52 = .ok (.iadd, 1) := by decide +kernel
theorem dX12_positiveOf_53 : decode cX12_positiveOf 53 = .ok (.putfield 245, 3) := by decide +kernel
theorem dX12_positiveOf_56 : decode cX12_positiveOf 56 = .ok (.aload_n 0, 1) := by decide +kernel
theorem dX12_positiveOf_57 : decode cX12_positiveOf 57 = .ok (.iload_n 1, 1) := by decide +kernel
theorem dX12_positiveOf_58 : decode cX12_positiveOf 58 = .ok (.invokevirtual 272, 3) := by decide +kernel
theorem dX12_positiveOf_61 : decode cX12_positiveOf 61 = .ok (.lstore 5, 2) := by decide +kernel
theorem dX12_positiveOf_63 : decode cX12_positiveOf 63 = .ok (.iload_n 1, 1) := by decide +kernel
theorem dX12_positiveOf_64 : decode cX12_positiveOf 64 = .ok (.ifCond .eq 61, 3) := by decide +kernel
theorem dX12_positiveOf_67 : decode cX12_positiveOf 67 = .ok (.aload_n 0, 1) := by decide +kernel
theorem dX12_positiveOf_68 : decode cX12_positiveOf 68 = .ok (.getfield 255, 3) := by decide +kernel
theorem dX12_positiveOf_71 : decode cX12_positiveOf 71 = .ok (.ifCond .ne 54, 3) := by decide +kernel
theorem dX12_positiveOf_74 : decode cX12_positiveOf 74 = .ok (.iload 4, 2) := by decide +kernel
theorem dX12_positiveOf_76 : decode cX12_positiveOf 76 = .ok (.bipush 60, 2) := by decide +kernel
theorem dX12_positiveOf_78 : decode cX12_positiveOf 78 = .ok (.invokestatic 207, 3) := by decide +kernel
theorem dX12_positiveOf_81 : decode cX12_positiveOf 81 = .ok (.if_icmp .ne 13, 3) := by decide +kernel
theorem dX12_positiveOf_84 : decode cX12_positiveOf 84 = .ok (.lload_n 2, 1) := by decide +kernel
theorem dX12_positiveOf_85 : decode cX12_positiveOf 85 = .ok (.lload 5, 2) := by decide +kernel
theorem dX12_positiveOf_87 : decode cX12_positiveOf 87 = .ok (.lcmp, 1) := by decide +kernel
theorem dX12_positiveOf_88 : decode cX12_positiveOf 88 = .ok (.ifCond .ge 37, 3) := by decide +kernel
theorem dX12_positiveOf_91 : decode cX12_positiveOf 91 = .ok (.goto 30, 3) := by decide +kernel
theorem dX12_positiveOf_94 : decode cX12_positiveOf 94 = .ok (.iload 4, 2) := by decide +kernel
theorem dX12_positiveOf_96 : decode cX12_positiveOf 96 = .ok (.bipush 62, 2) := by decide +kernel
theorem dX12_positiveOf_98 : decode cX12_positiveOf 98 = .ok (.invokestatic 207, 3) := by decide +kernel
theorem dX12_positiveOf_101 : decode cX12_positiveOf 101 = .ok (.if_icmp .ne 13, 3) := by decide +kernel
theorem dX12_positiveOf_104 : decode cX12_positiveOf 104 = .ok (.lload_n 2, 1) := by decide +kernel
theorem dX12_positiveOf_105 : decode cX12_positiveOf 105 = .ok (.lload 5, 2) := by decide +kernel
theorem dX12_positiveOf_107 : decode cX12_positiveOf 107 = .ok (.lcmp, 1) := by decide +kernel
theorem dX12_positiveOf_108 : decode cX12_positiveOf 108 = .ok (.ifCond .le 17, 3) := by decide +kernel
theorem dX12_positiveOf_111 : decode cX12_positiveOf 111 = .ok (.goto 10, 3) := by decide +kernel
theorem dX12_positiveOf_114 : decode cX12_positiveOf 114 = .ok (.lload_n 2, 1) := by decide +kernel
theorem dX12_positiveOf_115 : decode cX12_positiveOf 115 = .ok (.lload 5, 2) := by decide +kernel
theorem dX12_positiveOf_117 : decode cX12_positiveOf 117 = .ok (.lcmp, 1) := by decide +kernel
theorem dX12_positiveOf_118 : decode cX12_positiveOf 118 = .ok (.ifCond .ne 7, 3) := by decide +kernel
theorem dX12_positiveOf_121 : decode cX12_positiveOf 121 = .ok (.iconst 1, 1) := by decide +kernel
theorem dX12_positiveOf_122 : decode cX12_positiveOf 122 = .ok (.goto 4, 3) := by decide +kernel
theorem dX12_positiveOf_125 : decode cX12_positiveOf 125 = .ok (.iconst 0, 1) := by decide +kernel
theorem dX12_positiveOf_126 : decode cX12_positiveOf 126 = .ok (.ireturn, 1) := by decide +kernel
theorem wt7_54 : Cond.code yX12_sumOf cX12_sumOf 7 (some .long) ∈ kG := kt7 54 rfl rfl
theorem wt7_58 : Cond.code yX12_termOf cX12_termOf 7 (some .long) ∈ kG := kt7 58 rfl rfl
theorem wt7_62 : Cond.code yX12_partOf cX12_partOf 4 (some .long) ∈ kG := kt7 62 rfl rfl
theorem wt7_83 : Cond.code yX12_testOf cX12_testOf 4 (some .boolean) ∈ kG := kt7 83 rfl rfl
theorem wt7_87 : Cond.code yX12_bothOf cX12_bothOf 4 (some .boolean) ∈ kG := kt7 87 rfl rfl
theorem wt7_91 : Cond.code yX12_plainOf cX12_plainOf 3 (some .boolean) ∈ kG := kt7 91 rfl rfl
theorem wt7_95 : Cond.code yX12_positiveOf cX12_positiveOf 7 (some .boolean) ∈ kG := kt7 95 rfl rfl
theorem wt6_220 : Cond.methodLink RX12 207 yX12_sign ∈ kG := kt6 220 rfl rfl
theorem wt6_221 : Cond.static yX12_sign ∈ kG := kt6 221 rfl rfl
theorem wt6_222 : Cond.code yX12_sign cX12_sign 1 (some .int) ∈ kG := kt6 222 rfl rfl
theorem wt7_63 : Cond.methodLink RX12 269 yX12_passes0 ∈ kG := kt7 63 rfl rfl
theorem wt7_65 : Cond.instanceMethod yX12_passes0 ∈ kG := kt7 65 rfl rfl
theorem wp5_12 : Cond.selects RX12 yX12_passes0 yX12_passes0 ∈ kG := kp5 12 rfl rfl
theorem wt7_66 : Cond.code yX12_passes0 cX12_passes0 3 (some .boolean) ∈ kG := kt7 66 rfl rfl
theorem wt7_51 : Cond.methodLink RX12 272 yX12_sumOf ∈ kG := kt7 51 rfl rfl
theorem wt7_53 : Cond.instanceMethod yX12_sumOf ∈ kG := kt7 53 rfl rfl
theorem wp5_9 : Cond.selects RX12 yX12_sumOf yX12_sumOf ∈ kG := kp5 9 rfl rfl
theorem wt5_185 : Cond.fieldLink RX12 275 "SunriseRoofModel" "inOrders" "Z" ∈ kG := kt5 185 rfl rfl
theorem wt7_67 : Cond.methodLink RX12 278 yX12_orderValue ∈ kG := kt7 67 rfl rfl
theorem wt7_69 : Cond.instanceMethod yX12_orderValue ∈ kG := kt7 69 rfl rfl
theorem wp5_13 : Cond.selects RX12 yX12_orderValue yX12_orderValue ∈ kG := kp5 13 rfl rfl
theorem wt7_70 : Cond.code yX12_orderValue cX12_orderValue 3 (some .int) ∈ kG := kt7 70 rfl rfl
theorem wt7_59 : Cond.methodLink RX12 266 yX12_partOf ∈ kG := kt7 59 rfl rfl
theorem wt7_61 : Cond.instanceMethod yX12_partOf ∈ kG := kt7 61 rfl rfl
theorem wp5_11 : Cond.selects RX12 yX12_partOf yX12_partOf ∈ kG := kp5 11 rfl rfl
theorem wt7_74 : Cond.methodLink RX12 262 yX12_bounded ∈ kG := kt7 74 rfl rfl
theorem wt7_76 : Cond.instanceMethod yX12_bounded ∈ kG := kt7 76 rfl rfl
theorem wp5_14 : Cond.selects RX12 yX12_bounded yX12_bounded ∈ kG := kp5 14 rfl rfl
theorem wt7_77 : Cond.code yX12_bounded cX12_bounded 4 (some .long) ∈ kG := kt7 77 rfl rfl
theorem wt7_55 : Cond.methodLink RX12 258 yX12_termOf ∈ kG := kt7 55 rfl rfl
theorem wt7_57 : Cond.instanceMethod yX12_termOf ∈ kG := kt7 57 rfl rfl
theorem wp5_10 : Cond.selects RX12 yX12_termOf yX12_termOf ∈ kG := kp5 10 rfl rfl
theorem wt7_80 : Cond.methodLink RX12 299 yX12_testOf ∈ kG := kt7 80 rfl rfl
theorem wt7_82 : Cond.instanceMethod yX12_testOf ∈ kG := kt7 82 rfl rfl
theorem wp5_15 : Cond.selects RX12 yX12_testOf yX12_testOf ∈ kG := kp5 15 rfl rfl
theorem wt7_92 : Cond.methodLink RX12 296 yX12_positiveOf ∈ kG := kt7 92 rfl rfl
theorem wt7_94 : Cond.instanceMethod yX12_positiveOf ∈ kG := kt7 94 rfl rfl
theorem wp6_2 : Cond.selects RX12 yX12_positiveOf yX12_positiveOf ∈ kG := kp6 2 rfl rfl
theorem wt7_88 : Cond.methodLink RX12 293 yX12_plainOf ∈ kG := kt7 88 rfl rfl
theorem wt7_90 : Cond.instanceMethod yX12_plainOf ∈ kG := kt7 90 rfl rfl
theorem wp6_1 : Cond.selects RX12 yX12_plainOf yX12_plainOf ∈ kG := kp6 1 rfl rfl
theorem wt7_84 : Cond.methodLink RX12 290 yX12_bothOf ∈ kG := kt7 84 rfl rfl
theorem wt7_86 : Cond.instanceMethod yX12_bothOf ∈ kG := kt7 86 rfl rfl
theorem wp6_0 : Cond.selects RX12 yX12_bothOf yX12_bothOf ∈ kG := kp6 0 rfl rfl
theorem kc_137 : kb 137 137 137 := ⟨by decide +kernel, by decide +kernel⟩
theorem kc_140 : kb 140 140 140 := ⟨by decide +kernel, by decide +kernel⟩
theorem kc_142 : kb 142 142 142 := ⟨by decide +kernel, by decide +kernel⟩
theorem kc_143 : kb 143 143 143 := ⟨by decide +kernel, by decide +kernel⟩
theorem kc_145 : kb 145 145 145 := ⟨by decide +kernel, by decide +kernel⟩
theorem kc_147 : kb 147 147 147 := ⟨by decide +kernel, by decide +kernel⟩
theorem kc_160 : kb 160 160 160 := ⟨by decide +kernel, by decide +kernel⟩
theorem kc_161 : kb 161 161 161 := ⟨by decide +kernel, by decide +kernel⟩
theorem kc_162 : kb 162 162 162 := ⟨by decide +kernel, by decide +kernel⟩
theorem kc_191 : kb 191 191 191 := ⟨by decide +kernel, by decide +kernel⟩
theorem kc_2914 : kb 2914 2914 2914 := ⟨by decide +kernel, by decide +kernel⟩
theorem kc_37 : kb 37 37 37 := ⟨by decide +kernel, by decide +kernel⟩
theorem kc_40 : kb 40 40 40 := ⟨by decide +kernel, by decide +kernel⟩
theorem kc_42 : kb 42 42 42 := ⟨by decide +kernel, by decide +kernel⟩
theorem kc_45 : kb 45 45 45 := ⟨by decide +kernel, by decide +kernel⟩
theorem kc_47 : kb 47 47 47 := ⟨by decide +kernel, by decide +kernel⟩
theorem kc_50 : kb 50 50 50 := ⟨by decide +kernel, by decide +kernel⟩
theorem kc_60 : kb 60 60 60 := ⟨by decide +kernel, by decide +kernel⟩
theorem kc_62 : kb 62 62 62 := ⟨by decide +kernel, by decide +kernel⟩
theorem kc_7 : kb 7 7 7 := ⟨by decide +kernel, by decide +kernel⟩
theorem kc_8 : kb 8 8 8 := ⟨by decide +kernel, by decide +kernel⟩
theorem kc_91 : kb 91 91 91 := ⟨by decide +kernel, by decide +kernel⟩
set_option maxHeartbeats 4000000 in
def cSum (d : Nat) : Prop := ∀ (l : Launch) {D : va_G} {K : Nat → ClassId} (o : Nat) (r : Nat → Nat) (f : Nat → Int32) (a : Nat → Nat → Int32) (g : Nat → Int64) (hI : mI f a) (lv : Int32) (blv : kb 0 lv 1) (t i j : Nat) (ob : Bool) (hp0 : eS f a t ob) (hp1 : (f 22).toInt = 400 * (t : Int) + (i : Int)) (hp2 : gG ob (mC (a 2) t) d 0 i j), kL l yX12_sumOf (Cond.code yX12_sumOf cX12_sumOf 7 (some .long) :: kG) (rmD (3 * d + 8) 0 0) D (tysK K) [.ref o, .int lv] (mW K o r f a g) (fun v (u : Nat → Int32) => kbl (-9223372036854775808) v 9223372036854775807 ∧ mI u a ∧ fE [22, 24] f u ∧ (u 22).toInt = 400 * (t : Int) + (j : Int)) (fun u => mW K o r u a g) 0 0
set_option maxHeartbeats 4000000 in
def cTerm (d : Nat) : Prop := ∀ (l : Launch) {D : va_G} {K : Nat → ClassId} (o : Nat) (r : Nat → Nat) (f : Nat → Int32) (a : Nat → Nat → Int32) (g : Nat → Int64) (hI : mI f a) (lv : Int32) (blv : kb 0 lv 1) (t i j : Nat) (ob : Bool) (hp0 : eS f a t ob) (hp1 : (f 22).toInt = 400 * (t : Int) + (i : Int)) (hp2 : gG ob (mC (a 2) t) d 1 i j), kL l yX12_termOf (Cond.code yX12_termOf cX12_termOf 7 (some .long) :: kG) (rmD (3 * d + 7) 0 0) D (tysK K) [.ref o, .int lv] (mW K o r f a g) (fun v (u : Nat → Int32) => kbl (-9223372036854775808) v 9223372036854775807 ∧ mI u a ∧ fE [22, 24] f u ∧ (u 22).toInt = 400 * (t : Int) + (j : Int)) (fun u => mW K o r u a g) 0 0
set_option maxHeartbeats 4000000 in
def cPart (d : Nat) : Prop := ∀ (l : Launch) {D : va_G} {K : Nat → ClassId} (o : Nat) (r : Nat → Nat) (f : Nat → Int32) (a : Nat → Nat → Int32) (g : Nat → Int64) (hI : mI f a) (lv : Int32) (blv : kb 0 lv 1) (t i j : Nat) (ob : Bool) (hp0 : eS f a t ob) (hp1 : (f 22).toInt = 400 * (t : Int) + (i : Int)) (hp2 : gG ob (mC (a 2) t) d 2 i j), kL l yX12_partOf (Cond.code yX12_partOf cX12_partOf 4 (some .long) :: kG) (rmD (3 * d + 6) 0 0) D (tysK K) [.ref o, .int lv] (mW K o r f a g) (fun v (u : Nat → Int32) => kbl (-9223372036854775808) v 9223372036854775807 ∧ mI u a ∧ fE [22, 24] f u ∧ (u 22).toInt = 400 * (t : Int) + (j : Int)) (fun u => mW K o r u a g) 0 0
set_option maxHeartbeats 4000000 in
def cTest (d : Nat) : Prop := ∀ (l : Launch) {D : va_G} {K : Nat → ClassId} (o : Nat) (r : Nat → Nat) (f : Nat → Int32) (a : Nat → Nat → Int32) (g : Nat → Int64) (hI : mI f a) (lv : Int32) (blv : kb 0 lv 1) (t i j : Nat) (ob : Bool) (hp0 : eS f a t ob) (hp1 : (f 22).toInt = 400 * (t : Int) + (i : Int)) (hp2 : gG ob (mC (a 2) t) d 3 i j), kI l yX12_testOf (Cond.code yX12_testOf cX12_testOf 4 (some .boolean) :: kG) (rmD (4 * d + 15) 0 0) D (tysK K) [.ref o, .int lv] (mW K o r f a g) (fun v (u : Nat → Int32) => kb 0 v 1 ∧ mI u a ∧ fE [22, 24] f u ∧ (u 22).toInt = 400 * (t : Int) + (j : Int)) (fun u => mW K o r u a g) 0 0
set_option maxHeartbeats 4000000 in
def cBoth (d : Nat) : Prop := ∀ (l : Launch) {D : va_G} {K : Nat → ClassId} (o : Nat) (r : Nat → Nat) (f : Nat → Int32) (a : Nat → Nat → Int32) (g : Nat → Int64) (hI : mI f a) (lv : Int32) (blv : kb 0 lv 1) (t i j : Nat) (ob : Bool) (hp0 : eS f a t ob) (hp1 : (f 22).toInt = 400 * (t : Int) + (i : Int)) (hp2 : gG ob (mC (a 2) t) d 4 i j), kI l yX12_bothOf (Cond.code yX12_bothOf cX12_bothOf 4 (some .boolean) :: kG) (rmD (4 * d + 14) 0 0) D (tysK K) [.ref o, .int lv] (mW K o r f a g) (fun v (u : Nat → Int32) => kb 0 v 1 ∧ mI u a ∧ fE [22, 24] f u ∧ (u 22).toInt = 400 * (t : Int) + (j : Int)) (fun u => mW K o r u a g) 0 0
set_option maxHeartbeats 4000000 in
def cPlain (d : Nat) : Prop := ∀ (l : Launch) {D : va_G} {K : Nat → ClassId} (o : Nat) (r : Nat → Nat) (f : Nat → Int32) (a : Nat → Nat → Int32) (g : Nat → Int64) (hI : mI f a) (lv : Int32) (blv : kb 0 lv 1) (t i j : Nat) (ob : Bool) (hp0 : eS f a t ob) (hp1 : (f 22).toInt = 400 * (t : Int) + (i : Int)) (hp2 : gG ob (mC (a 2) t) d 5 i j), kI l yX12_plainOf (Cond.code yX12_plainOf cX12_plainOf 3 (some .boolean) :: kG) (rmD (4 * d + 13) 0 0) D (tysK K) [.ref o, .int lv] (mW K o r f a g) (fun v (u : Nat → Int32) => kb 0 v 1 ∧ mI u a ∧ fE [22, 24] f u ∧ (u 22).toInt = 400 * (t : Int) + (j : Int)) (fun u => mW K o r u a g) 0 0
set_option maxHeartbeats 4000000 in
def cPos (d : Nat) : Prop := ∀ (l : Launch) {D : va_G} {K : Nat → ClassId} (o : Nat) (r : Nat → Nat) (f : Nat → Int32) (a : Nat → Nat → Int32) (g : Nat → Int64) (hI : mI f a) (lv : Int32) (blv : kb 0 lv 1) (t i j : Nat) (ob : Bool) (hp0 : eS f a t ob) (hp1 : (f 22).toInt = 400 * (t : Int) + (i : Int)) (hp2 : gG ob (mC (a 2) t) d 10 i j), kI l yX12_positiveOf (Cond.code yX12_positiveOf cX12_positiveOf 7 (some .boolean) :: kG) (rmD (4 * d + 12) 0 0) D (tysK K) [.ref o, .int lv] (mW K o r f a g) (fun v (u : Nat → Int32) => kb 0 v 1 ∧ mI u a ∧ fE [22, 24] f u ∧ (u 22).toInt = 400 * (t : Int) + (j : Int)) (fun u => mW K o r u a g) 0 0
set_option maxHeartbeats 4000000 in
set_option maxRecDepth 100000 in
theorem m_partOf (d : Nat) (ih : ∀ e, d = e + 1 → cSum e) (l : Launch) {D : va_G} {K : Nat → ClassId} (o : Nat) (r : Nat → Nat) (f : Nat → Int32) (a : Nat → Nat → Int32) (g : Nat → Int64) (hI : mI f a) (lv : Int32) (blv : kb 0 lv 1) (t i j : Nat) (ob : Bool) (hp0 : eS f a t ob) (hp1 : (f 22).toInt = 400 * (t : Int) + (i : Int)) (hp2 : gG ob (mC (a 2) t) d 2 i j) : kL l yX12_partOf (Cond.code yX12_partOf cX12_partOf 4 (some .long) :: kG) (rmD (3 * d + 6) 0 0) D (tysK K) [.ref o, .int lv] (mW K o r f a g) (fun v (u : Nat → Int32) => kbl (-9223372036854775808) v 9223372036854775807 ∧ mI u a ∧ fE [22, 24] f u ∧ (u 22).toInt = 400 * (t : Int) + (j : Int)) (fun u => mW K o r u a g) 0 0 := by
  refine kL.of (cc := cX12_partOf) (maxL := 4) (ret := (some .long)) (by decide) rfl (Nat.le_of_ble_eq_true rfl) ?_
  intro p e s m below meth c A hx hb hr hml hown hts hlocks hnm hK hP hD hS hA ls hl
  have hE : fE [22, 24] f f := fE_rf
  have hg : ∀ w ∈ kG, w.before _ s = true := fun w h => hts w (List.mem_cons_of_mem _ h)
  have hown : s.vm.findClass RX12 = some m.cls := hown
  have hl : lv_has ls 4 [(0, .ref o), (1, .int lv)] := hl
  obtain ⟨c22, ec22⟩ : ∃ z : Int32, z = f 22 := ⟨_, rfl⟩
  have hg0 : c22.toInt = 400 * (t : Int) + (i : Int) := by rw [ec22]; exact hp1
  cases ob
  · rcases gG_out hp2 with ⟨h1, ee, mm, hd, h2, h3, hj⟩ | ⟨h1, hj⟩ | ⟨ho, h1, h2, hj⟩ | ⟨ho, h1, h2, h3, hj⟩ | ⟨ho, h1 | h1 | h1, h2, hj⟩
    · have b1 : kb 0 c22 2799 := kb_go (eS_fE hE hp0 (by decide) (by decide)) (mC_lt (eS_fE hE hp0 (by decide) (by decide)) (ne_0 h1 (by decide +kernel))) hg0
      refine lv_aload_n hx hb dX12_partOf_0 rfl (lv_at hl 0 rfl) ?_
      refine lv_bipush (v := 91) hx hb dX12_partOf_1 (by decide) ?_
      refine kN.callS (As := [.int 91]) (rest := [.ref o]) ⟨hx, hb, hml, hown, hg⟩ (m_sign l 91 (kb_w kc_91 (by decide) (by decide))) (va_cwS 1 hg (kgS wt6_220 wt6_221 wt1_14 wt6_222) rfl rfl rfl (by decide +kernel) ⟨by dsimp only [rmD]; omega, by dsimp only [rmD]; omega⟩) hP hS rfl hl.1 rfl (Nat.le_of_ble_eq_true rfl) dX12_partOf_3 ⟨Nat.le_refl _, Nat.le_refl _⟩ (fun v3 H locs hw2 hP hS => ?_)
      refine k_top (z := 191) (Int32.toInt_inj.mp (hw2.2.trans (by decide +kernel))) ?_
      refine kI.callV (As := [.int 191]) (rest := []) ⟨hx, hb, hml, hown, hg⟩ (m_passes0 l o r f a g hI 191 (kb_w kc_191 (by decide) (by decide)) t (i) false (eS_fE hE hp0 (by decide) (by decide)) (by rw [ec22.symm]; exact hg0)) (cwV 1 hg (kgV wt7_63 wt7_65 wp5_12 wt1_14 wt7_66) rfl rfl rfl (by decide +kernel) ⟨by dsimp only [rmD]; omega, by dsimp only [rmD]; omega⟩) hK hP hD hS hA mIs [] rfl (wr := []) rfl rfl rfl (fun i h => by cases h) 0 12 rfl rfl rfl hl.1 rfl (Nat.le_of_ble_eq_true rfl) dX12_partOf_6 ⟨Nat.le_refl _, Nat.le_refl _⟩ (fun v6 u7 H locs hw5 hP hD hS => ?_)
      have hP : va_P D vwCl (mW K o r u7 a g) H := hP
      have hD : va_D A (mW K o r u7 a g) := hD
      have hI : mI u7 a := hw5.2.1
      have eE8 : fE [22] f u7 := hw5.2.2.1
      have hE : fE [22, 24] f u7 := fE_tr hE (fE_w (by decide) eE8)
      have hz9 := pass_y hw5.2.2.2 h1
      refine k_top (z := 1) hz9.1 ?_
      obtain ⟨gv10, egv10⟩ : ∃ z : Int32, z = u7 22 := ⟨_, rfl⟩
      have hg11 : gv10.toInt = 400 * (t : Int) + ((i + 1 : Nat) : Int) := by rw [egv10]; exact hz9.2
      refine lv_if_eq (tgt := 30) hx hb dX12_partOf_9 (by decide) (fun c12 => ?_) (fun c12 => ?_)
      · exact kb_dj c12 kc_1 kc_0 (by decide)
      · refine lv_aload_n hx hb dX12_partOf_12 rfl (lv_at hl 0 rfl) ?_
        refine lv_iload_n hx hb dX12_partOf_13 rfl (lv_at hl 1 rfl) ?_
        refine kL.callV (As := [.int lv]) (rest := []) ⟨hx, hb, hml, hown, hg⟩ ((ih ee hd) l o r u7 a g hI lv blv t (i + 1) (mm) false (eS_fE hE hp0 (by decide) (by decide)) (by rw [egv10.symm]; exact hg11) h2) (cwV 1 hg (kgV wt7_51 wt7_53 wp5_9 wt1_14 wt7_54) rfl rfl rfl (by decide +kernel) ⟨by dsimp only [rmD]; omega, by dsimp only [rmD]; omega⟩) hK hP hD hS hA mIs [] rfl (wr := []) rfl rfl rfl (fun i h => by cases h) 0 12 rfl rfl rfl hl.1 rfl (Nat.le_of_ble_eq_true rfl) dX12_partOf_14 ⟨Nat.le_refl _, Nat.le_refl _⟩ (fun v14 u15 H locs hw13 hP hD hS => ?_)
        have hP : va_P D vwCl (mW K o r u15 a g) H := hP
        have hD : va_D A (mW K o r u15 a g) := hD
        have hI : mI u15 a := hw13.2.1
        have eE16 : fE [22, 24] u7 u15 := hw13.2.2.1
        have hE : fE [22, 24] f u15 := fE_tr hE eE16
        obtain ⟨gv17, egv17⟩ : ∃ z : Int32, z = u15 22 := ⟨_, rfl⟩
        have hg18 : gv17.toInt = 400 * (t : Int) + ((mm : Nat) : Int) := by rw [egv17]; exact hw13.2.2.2
        have b19 : kb 0 gv17 2799 := kb_go (eS_fE hE hp0 (by decide) (by decide)) (mC_lt (eS_fE hE hp0 (by decide) (by decide)) (ne_0 h3 (by decide +kernel))) hg18
        refine lv_lstore_n (lv' := [(2, .long v14), (0, .ref o), (1, .int lv)]) hx hb dX12_partOf_17 rfl hl (by decide) rfl (fun ls hl => ?_)
        refine lv_aload_n hx hb dX12_partOf_18 rfl (lv_at hl 1 rfl) ?_
        refine lv_dup hx hb dX12_partOf_19 rfl ?_
        refine va_get (D := D) (ci := 12) (v := .int (u15 22)) (C := RX12) (T := TX12) (N := 48) hx hb hg inC12 hown hK hP 0 rfl rfl 22 (by decide) (hg _ wt5_182) (fun _ h9 => h9) rfl dX12_partOf_20 ?_
        refine k_top (z := gv17) egv17.symm ?_
        refine lv_iconst (v := 1) hx hb dX12_partOf_23 (by decide) ?_
        refine lv_iadd hx hb dX12_partOf_24 ?_
        refine lv_topi (fun t20 et20 => ?_)
        have b21 : kb 1 t20 2800 := kb_eq et20 (kb_add b19 kc_1 (by decide) (by decide))
        have qt20 : t20.toInt = gv17.toInt + 1 := by rw [et20]; exact kt_addc b19 kc_1 (by decide) (by decide)
        have hg22 : t20.toInt = 400 * (t : Int) + ((mm + 1 : Nat) : Int) := by rw [qt20, hg18]; omega
        refine va_put (D := D) (ci := 12) (v := .int t20) (ty := .int) (C := RX12) (T := TX12) (N := 48) hx hb hg inC12 tyX12 tyX12_ok nmX12 hown hK hP hD hS 0 rfl rfl 22 (by decide) (hg _ wt5_182) (fun _ h9 => h9) rfl (by decide +kernel) rfl rfl (Nat.le_of_ble_eq_true rfl) dX12_partOf_25 (fun H locs hP hD hS => ?_)
        have hP : va_P D vwCl (mW K o r (upd u15 22 t20) a g) H := hP
        have hD : va_D A (mW K o r (upd u15 22 t20) a g) := hD
        refine k_gen (P := fun z => va_P D vwCl (mW K o r z a g) H ∧ va_D A (mW K o r z a g) ∧ (mI z a) ∧ (fE [22, 24] f z)) (upd u15 22 t20) ⟨hP, hD, (mI_f hI (fI_st hI.1 22 (kb_any _) (by decide) (by decide))), (fE_f hE (by decide))⟩ (fun f_23 ef_23 hq => ?_)
        obtain ⟨hP, hD, hI, hE⟩ := hq
        refine lv_lload_n hx hb dX12_partOf_28 rfl (lv_at hl 0 rfl) ?_
        exact kL_ret (v := v14) hx hb hr hlocks hK hS dX12_partOf_29 f_23 hP hD ⟨(kbl_any v14), hI, hE, (by rw [(show f_23 22 = t20 from by rw [← ef_23]; rfl), hg22]; omega)⟩
    · have b24 : kb 0 c22 2799 := kb_go (eS_fE hE hp0 (by decide) (by decide)) (mC_lt (eS_fE hE hp0 (by decide) (by decide)) (ne_0 h1 (by decide +kernel))) hg0
      refine lv_aload_n hx hb dX12_partOf_0 rfl (lv_at hl 0 rfl) ?_
      refine lv_bipush (v := 91) hx hb dX12_partOf_1 (by decide) ?_
      refine kN.callS (As := [.int 91]) (rest := [.ref o]) ⟨hx, hb, hml, hown, hg⟩ (m_sign l 91 (kb_w kc_91 (by decide) (by decide))) (va_cwS 1 hg (kgS wt6_220 wt6_221 wt1_14 wt6_222) rfl rfl rfl (by decide +kernel) ⟨by dsimp only [rmD]; omega, by dsimp only [rmD]; omega⟩) hP hS rfl hl.1 rfl (Nat.le_of_ble_eq_true rfl) dX12_partOf_3 ⟨Nat.le_refl _, Nat.le_refl _⟩ (fun v26 H locs hw25 hP hS => ?_)
      refine k_top (z := 191) (Int32.toInt_inj.mp (hw25.2.trans (by decide +kernel))) ?_
      refine kI.callV (As := [.int 191]) (rest := []) ⟨hx, hb, hml, hown, hg⟩ (m_passes0 l o r f a g hI 191 (kb_w kc_191 (by decide) (by decide)) t (i) false (eS_fE hE hp0 (by decide) (by decide)) (by rw [ec22.symm]; exact hg0)) (cwV 1 hg (kgV wt7_63 wt7_65 wp5_12 wt1_14 wt7_66) rfl rfl rfl (by decide +kernel) ⟨by dsimp only [rmD]; omega, by dsimp only [rmD]; omega⟩) hK hP hD hS hA mIs [] rfl (wr := []) rfl rfl rfl (fun i h => by cases h) 0 12 rfl rfl rfl hl.1 rfl (Nat.le_of_ble_eq_true rfl) dX12_partOf_6 ⟨Nat.le_refl _, Nat.le_refl _⟩ (fun v29 u30 H locs hw28 hP hD hS => ?_)
      have hP : va_P D vwCl (mW K o r u30 a g) H := hP
      have hD : va_D A (mW K o r u30 a g) := hD
      have hI : mI u30 a := hw28.2.1
      have eE31 : fE [22] f u30 := hw28.2.2.1
      have hE : fE [22, 24] f u30 := fE_tr hE (fE_w (by decide) eE31)
      have hz32 := pass_n hw28.2.2.2 (fun q => absurd (h1.symm.trans q) (by decide +kernel))
      refine k_top (z := 0) hz32.1 ?_
      obtain ⟨gv33, egv33⟩ : ∃ z : Int32, z = u30 22 := ⟨_, rfl⟩
      have hg34 : gv33.toInt = 400 * (t : Int) + ((i : Nat) : Int) := by rw [egv33]; exact hz32.2
      have b35 : kb 0 gv33 2799 := kb_go (eS_fE hE hp0 (by decide) (by decide)) (mC_lt (eS_fE hE hp0 (by decide) (by decide)) (ne_0 h1 (by decide +kernel))) hg34
      refine lv_if_eq (tgt := 30) hx hb dX12_partOf_9 (by decide) (fun c36 => ?_) (fun c36 => ?_)
      · refine lv_aload_n hx hb dX12_partOf_30 rfl (lv_at hl 0 rfl) ?_
        refine lv_aload_n hx hb dX12_partOf_31 rfl (lv_at hl 0 rfl) ?_
        refine va_get (D := D) (ci := 12) (v := .int (u30 22)) (C := RX12) (T := TX12) (N := 48) hx hb hg inC12 hown hK hP 0 rfl rfl 22 (by decide) (hg _ wt5_182) (fun _ h9 => h9) rfl dX12_partOf_32 ?_
        refine k_top (z := gv33) egv33.symm ?_
        refine kI.callV (As := [.int gv33]) (rest := []) ⟨hx, hb, hml, hown, hg⟩ (m_codeAt l o r u30 a g hI gv33  t (i) false (eS_fE hE hp0 (by decide) (by decide)) hg34) (cwV 1 hg (kgV wt7_47 wt7_49 wp5_8 wt1_14 wt7_50) rfl rfl rfl (by decide +kernel) ⟨by dsimp only [rmD]; omega, by dsimp only [rmD]; omega⟩) hK hP hD hS hA mIs [] rfl (wr := []) rfl rfl rfl (fun i h => by cases h) 0 12 rfl rfl rfl hl.1 rfl (Nat.le_of_ble_eq_true rfl) dX12_partOf_35 ⟨Nat.le_refl _, Nat.le_refl _⟩ (fun v38 u39 H locs hw37 hP hD hS => ?_)
        have hP : va_P D vwCl (mW K o r u30 a g) H := hP
        have hD : va_D A (mW K o r u30 a g) := hD
        refine k_top (z := 50) (hw37.2.trans h1) ?_
        refine lv_istore_n (lv' := [(2, .int 50), (0, .ref o), (1, .int lv)]) hx hb dX12_partOf_38 rfl hl (by decide) rfl (fun ls hl => ?_)
        refine lv_iconst (v := 0) hx hb dX12_partOf_39 (by decide) ?_
        refine lv_istore_n (lv' := [(3, .int 0), (2, .int 50), (0, .ref o), (1, .int lv)]) hx hb dX12_partOf_40 rfl hl (by decide) rfl (fun ls hl => ?_)
        refine lv_aload_n hx hb dX12_partOf_41 rfl (lv_at hl 2 rfl) ?_
        refine lv_dup hx hb dX12_partOf_42 rfl ?_
        refine va_get (D := D) (ci := 12) (v := .int (u30 22)) (C := RX12) (T := TX12) (N := 48) hx hb hg inC12 hown hK hP 0 rfl rfl 22 (by decide) (hg _ wt5_182) (fun _ h9 => h9) rfl dX12_partOf_43 ?_
        refine k_top (z := gv33) egv33.symm ?_
        refine lv_iconst (v := 1) hx hb dX12_partOf_46 (by decide) ?_
        refine lv_iadd hx hb dX12_partOf_47 ?_
        refine lv_topi (fun t40 et40 => ?_)
        have b41 : kb 1 t40 2800 := kb_eq et40 (kb_add b35 kc_1 (by decide) (by decide))
        have qt40 : t40.toInt = gv33.toInt + 1 := by rw [et40]; exact kt_addc b35 kc_1 (by decide) (by decide)
        have hg42 : t40.toInt = 400 * (t : Int) + ((i + 1 : Nat) : Int) := by rw [qt40, hg34]; omega
        refine va_put (D := D) (ci := 12) (v := .int t40) (ty := .int) (C := RX12) (T := TX12) (N := 48) hx hb hg inC12 tyX12 tyX12_ok nmX12 hown hK hP hD hS 0 rfl rfl 22 (by decide) (hg _ wt5_182) (fun _ h9 => h9) rfl (by decide +kernel) rfl rfl (Nat.le_of_ble_eq_true rfl) dX12_partOf_48 (fun H locs hP hD hS => ?_)
        have hP : va_P D vwCl (mW K o r (upd u30 22 t40) a g) H := hP
        have hD : va_D A (mW K o r (upd u30 22 t40) a g) := hD
        refine k_gen (P := fun z => va_P D vwCl (mW K o r z a g) H ∧ va_D A (mW K o r z a g) ∧ (mI z a) ∧ (fE [22, 24] f z)) (upd u30 22 t40) ⟨hP, hD, (mI_f hI (fI_st hI.1 22 (kb_any _) (by decide) (by decide))), (fE_f hE (by decide))⟩ (fun f_43 ef_43 hq => ?_)
        obtain ⟨hP, hD, hI, hE⟩ := hq
        refine lv_aload_n hx hb dX12_partOf_51 rfl (lv_at hl 2 rfl) ?_
        refine va_get (D := D) (ci := 12) (v := .int (f_43 25)) (C := RX12) (T := TX12) (N := 48) hx hb hg inC12 hown hK hP 0 rfl rfl 25 (by decide) (hg _ wt5_185) (fun _ h9 => h9) rfl dX12_partOf_52 ?_
        refine k_top (z := 0) ((show f_43 25 = u30 25 from by rw [← ef_43]; rfl).trans ((eE31 25 (by decide)).trans hp0.2.2.1)) ?_
        refine lv_if_eq (tgt := 100) hx hb dX12_partOf_55 (by decide) (fun c44 => ?_) (fun c44 => ?_)
        · refine lv_iload_n hx hb dX12_partOf_100 rfl (lv_at hl 3 rfl) ?_
          refine lv_if_eq (tgt := 111) hx hb dX12_partOf_101 (by decide) (fun c45 => ?_) (fun c45 => ?_)
          · have b46 : kb 0 lv 0 := kb_eq c45 kc_0
            refine lv_lconst (v := 0) hx hb dX12_partOf_111 (by decide) ?_
            exact kL_ret (v := 0) hx hb hr hlocks hK hS dX12_partOf_112 f_43 hP hD ⟨(kbl_w kcl_0 (by decide) (by decide)), hI, hE, (by rw [(show f_43 22 = t40 from by rw [← ef_43]; rfl), hg42]; omega)⟩
          · have b47 : kb 1 lv 1 := kr_nel c45 blv kc_0 (by decide)
            refine lv_aload_n hx hb dX12_partOf_104 rfl (lv_at hl 2 rfl) ?_
            refine va_get (D := D) (ci := 12) (v := .int (f_43 24)) (C := RX12) (T := TX12) (N := 48) hx hb hg inC12 hown hK hP 0 rfl rfl 24 (by decide) (hg _ wt5_184) (fun _ h9 => h9) rfl dX12_partOf_105 ?_
            refine lv_topi (fun t48 et48 => ?_)
            have b49 : kb 0 t48 1 := kb_eq et48 (fI_at hI.1 24 (by decide) (by decide))
            refine lv_if_eq (tgt := 113) hx hb dX12_partOf_108 (by decide) (fun c50 => ?_) (fun c50 => ?_)
            · have b51 : kb 0 t48 0 := kb_eq c50 kc_0
              refine lv_iload_n hx hb dX12_partOf_113 rfl (lv_at hl 1 rfl) ?_
              refine lv_bipush (v := 50) hx hb dX12_partOf_114 (by decide) ?_
              refine lv_icmp_ne (tgt := 136) hx hb dX12_partOf_116 (by decide) (fun c52 => ?_) (fun c52 => ?_)
              · exact kb_nsame c52 kc_50 kc_50
              · refine lv_aload_n hx hb dX12_partOf_119 rfl (lv_at hl 2 rfl) ?_
                refine va_get (D := D) (ci := 12) (v := .ref (r 2)) (C := RX12) (T := TX12) (N := 48) hx hb hg inC12 hown hK hP 0 rfl rfl 2 (by decide) (hg _ wt5_162) (fun _ h9 => h9) rfl dX12_partOf_120 ?_
                refine lv_sipush (v := 2914) hx hb dX12_partOf_123 (by decide) ?_
                refine lv_aload_n hx hb dX12_partOf_126 rfl (lv_at hl 2 rfl) ?_
                refine va_get (D := D) (ci := 12) (v := .int (f_43 22)) (C := RX12) (T := TX12) (N := 48) hx hb hg inC12 hown hK hP 0 rfl rfl 22 (by decide) (hg _ wt5_182) (fun _ h9 => h9) rfl dX12_partOf_127 ?_
                refine k_top (z := t40) (show f_43 22 = t40 from by rw [← ef_43]; rfl) ?_
                refine lv_iadd hx hb dX12_partOf_130 ?_
                refine lv_topi (fun t53 et53 => ?_)
                have b54 : kb 2915 t53 5714 := kb_eq et53 (kb_add kc_2914 b41 (by decide) (by decide))
                have qt53 : t53.toInt = 2914 + t40.toInt := by rw [et53]; exact kt_cadd kc_2914 b41 (by decide) (by decide)
                refine lv_iconst (v := 1) hx hb dX12_partOf_131 (by decide) ?_
                refine lv_isub hx hb dX12_partOf_132 ?_
                refine lv_topi (fun t55 et55 => ?_)
                have b56 : kb 2914 t55 5713 := kb_eq et55 (kb_sub b54 kc_1 (by decide) (by decide))
                have qt55 : t55.toInt = t53.toInt - 1 := by rw [et55]; exact kt_subc b54 kc_1 (by decide) (by decide)
                refine va_iald hx hb hK hP 2 0 rfl rfl (kb_in b56 (by decide) (by decide)) dX12_partOf_133 ?_
                refine lv_topi (fun t57 et57 => ?_)
                refine lv_i2l hx hb dX12_partOf_134 rfl ?_
                refine lv_topl (fun t58 et58 => ?_)
                exact kL_ret (v := t58) hx hb hr hlocks hK hS dX12_partOf_135 f_43 hP hD ⟨(kbl_any t58), hI, hE, (by rw [(show f_43 22 = t40 from by rw [← ef_43]; rfl), hg42]; omega)⟩
            · have b59 : kb 1 t48 1 := kr_nel c50 b49 kc_0 (by decide)
              refine lv_lconst (v := 0) hx hb dX12_partOf_111 (by decide) ?_
              exact kL_ret (v := 0) hx hb hr hlocks hK hS dX12_partOf_112 f_43 hP hD ⟨(kbl_w kcl_0 (by decide) (by decide)), hI, hE, (by rw [(show f_43 22 = t40 from by rw [← ef_43]; rfl), hg42]; omega)⟩
        · exact kb_nsame c44 kc_0 kc_0
      · exact kb_nsame c36 kc_0 kc_0
    · have b60 : kb 0 c22 2799 := kb_go (eS_fE hE hp0 (by decide) (by decide)) (mC_lt (eS_fE hE hp0 (by decide) (by decide)) (kb_nz (kb_of2 ⟨h1, h2⟩) (by decide))) hg0
      refine lv_aload_n hx hb dX12_partOf_0 rfl (lv_at hl 0 rfl) ?_
      refine lv_bipush (v := 91) hx hb dX12_partOf_1 (by decide) ?_
      refine kN.callS (As := [.int 91]) (rest := [.ref o]) ⟨hx, hb, hml, hown, hg⟩ (m_sign l 91 (kb_w kc_91 (by decide) (by decide))) (va_cwS 1 hg (kgS wt6_220 wt6_221 wt1_14 wt6_222) rfl rfl rfl (by decide +kernel) ⟨by dsimp only [rmD]; omega, by dsimp only [rmD]; omega⟩) hP hS rfl hl.1 rfl (Nat.le_of_ble_eq_true rfl) dX12_partOf_3 ⟨Nat.le_refl _, Nat.le_refl _⟩ (fun v62 H locs hw61 hP hS => ?_)
      refine k_top (z := 191) (Int32.toInt_inj.mp (hw61.2.trans (by decide +kernel))) ?_
      refine kI.callV (As := [.int 191]) (rest := []) ⟨hx, hb, hml, hown, hg⟩ (m_passes0 l o r f a g hI 191 (kb_w kc_191 (by decide) (by decide)) t (i) false (eS_fE hE hp0 (by decide) (by decide)) (by rw [ec22.symm]; exact hg0)) (cwV 1 hg (kgV wt7_63 wt7_65 wp5_12 wt1_14 wt7_66) rfl rfl rfl (by decide +kernel) ⟨by dsimp only [rmD]; omega, by dsimp only [rmD]; omega⟩) hK hP hD hS hA mIs [] rfl (wr := []) rfl rfl rfl (fun i h => by cases h) 0 12 rfl rfl rfl hl.1 rfl (Nat.le_of_ble_eq_true rfl) dX12_partOf_6 ⟨Nat.le_refl _, Nat.le_refl _⟩ (fun v65 u66 H locs hw64 hP hD hS => ?_)
      have hP : va_P D vwCl (mW K o r u66 a g) H := hP
      have hD : va_D A (mW K o r u66 a g) := hD
      have hI : mI u66 a := hw64.2.1
      have eE67 : fE [22] f u66 := hw64.2.2.1
      have hE : fE [22, 24] f u66 := fE_tr hE (fE_w (by decide) eE67)
      have hz68 := pass_n hw64.2.2.2 (fun q => kb_dj q (kb_of2 ⟨h1, h2⟩) kc_191 (by decide))
      refine k_top (z := 0) hz68.1 ?_
      obtain ⟨gv69, egv69⟩ : ∃ z : Int32, z = u66 22 := ⟨_, rfl⟩
      have hg70 : gv69.toInt = 400 * (t : Int) + ((i : Nat) : Int) := by rw [egv69]; exact hz68.2
      have b71 : kb 0 gv69 2799 := kb_go (eS_fE hE hp0 (by decide) (by decide)) (mC_lt (eS_fE hE hp0 (by decide) (by decide)) (kb_nz (kb_of2 ⟨h1, h2⟩) (by decide))) hg70
      refine lv_if_eq (tgt := 30) hx hb dX12_partOf_9 (by decide) (fun c72 => ?_) (fun c72 => ?_)
      · refine lv_aload_n hx hb dX12_partOf_30 rfl (lv_at hl 0 rfl) ?_
        refine lv_aload_n hx hb dX12_partOf_31 rfl (lv_at hl 0 rfl) ?_
        refine va_get (D := D) (ci := 12) (v := .int (u66 22)) (C := RX12) (T := TX12) (N := 48) hx hb hg inC12 hown hK hP 0 rfl rfl 22 (by decide) (hg _ wt5_182) (fun _ h9 => h9) rfl dX12_partOf_32 ?_
        refine k_top (z := gv69) egv69.symm ?_
        refine kI.callV (As := [.int gv69]) (rest := []) ⟨hx, hb, hml, hown, hg⟩ (m_codeAt l o r u66 a g hI gv69  t (i) false (eS_fE hE hp0 (by decide) (by decide)) hg70) (cwV 1 hg (kgV wt7_47 wt7_49 wp5_8 wt1_14 wt7_50) rfl rfl rfl (by decide +kernel) ⟨by dsimp only [rmD]; omega, by dsimp only [rmD]; omega⟩) hK hP hD hS hA mIs [] rfl (wr := []) rfl rfl rfl (fun i h => by cases h) 0 12 rfl rfl rfl hl.1 rfl (Nat.le_of_ble_eq_true rfl) dX12_partOf_35 ⟨Nat.le_refl _, Nat.le_refl _⟩ (fun v74 u75 H locs hw73 hP hD hS => ?_)
        have hP : va_P D vwCl (mW K o r u66 a g) H := hP
        have hD : va_D A (mW K o r u66 a g) := hD
        have b76 : kb 9 v74 18 := kb_eq hw73.2 (kb_of2 ⟨h1, h2⟩)
        refine lv_istore_n (lv' := [(2, .int v74), (0, .ref o), (1, .int lv)]) hx hb dX12_partOf_38 rfl hl (by decide) rfl (fun ls hl => ?_)
        refine lv_iconst (v := 0) hx hb dX12_partOf_39 (by decide) ?_
        refine lv_istore_n (lv' := [(3, .int 0), (2, .int v74), (0, .ref o), (1, .int lv)]) hx hb dX12_partOf_40 rfl hl (by decide) rfl (fun ls hl => ?_)
        refine lv_aload_n hx hb dX12_partOf_41 rfl (lv_at hl 2 rfl) ?_
        refine lv_dup hx hb dX12_partOf_42 rfl ?_
        refine va_get (D := D) (ci := 12) (v := .int (u66 22)) (C := RX12) (T := TX12) (N := 48) hx hb hg inC12 hown hK hP 0 rfl rfl 22 (by decide) (hg _ wt5_182) (fun _ h9 => h9) rfl dX12_partOf_43 ?_
        refine k_top (z := gv69) egv69.symm ?_
        refine lv_iconst (v := 1) hx hb dX12_partOf_46 (by decide) ?_
        refine lv_iadd hx hb dX12_partOf_47 ?_
        refine lv_topi (fun t77 et77 => ?_)
        have b78 : kb 1 t77 2800 := kb_eq et77 (kb_add b71 kc_1 (by decide) (by decide))
        have qt77 : t77.toInt = gv69.toInt + 1 := by rw [et77]; exact kt_addc b71 kc_1 (by decide) (by decide)
        have hg79 : t77.toInt = 400 * (t : Int) + ((i + 1 : Nat) : Int) := by rw [qt77, hg70]; omega
        refine va_put (D := D) (ci := 12) (v := .int t77) (ty := .int) (C := RX12) (T := TX12) (N := 48) hx hb hg inC12 tyX12 tyX12_ok nmX12 hown hK hP hD hS 0 rfl rfl 22 (by decide) (hg _ wt5_182) (fun _ h9 => h9) rfl (by decide +kernel) rfl rfl (Nat.le_of_ble_eq_true rfl) dX12_partOf_48 (fun H locs hP hD hS => ?_)
        have hP : va_P D vwCl (mW K o r (upd u66 22 t77) a g) H := hP
        have hD : va_D A (mW K o r (upd u66 22 t77) a g) := hD
        refine k_gen (P := fun z => va_P D vwCl (mW K o r z a g) H ∧ va_D A (mW K o r z a g) ∧ (mI z a) ∧ (fE [22, 24] f z)) (upd u66 22 t77) ⟨hP, hD, (mI_f hI (fI_st hI.1 22 (kb_any _) (by decide) (by decide))), (fE_f hE (by decide))⟩ (fun f_80 ef_80 hq => ?_)
        obtain ⟨hP, hD, hI, hE⟩ := hq
        refine lv_aload_n hx hb dX12_partOf_51 rfl (lv_at hl 2 rfl) ?_
        refine va_get (D := D) (ci := 12) (v := .int (f_80 25)) (C := RX12) (T := TX12) (N := 48) hx hb hg inC12 hown hK hP 0 rfl rfl 25 (by decide) (hg _ wt5_185) (fun _ h9 => h9) rfl dX12_partOf_52 ?_
        refine k_top (z := 0) ((show f_80 25 = u66 25 from by rw [← ef_80]; rfl).trans ((eE67 25 (by decide)).trans hp0.2.2.1)) ?_
        refine lv_if_eq (tgt := 100) hx hb dX12_partOf_55 (by decide) (fun c81 => ?_) (fun c81 => ?_)
        · refine lv_iload_n hx hb dX12_partOf_100 rfl (lv_at hl 3 rfl) ?_
          refine lv_if_eq (tgt := 111) hx hb dX12_partOf_101 (by decide) (fun c82 => ?_) (fun c82 => ?_)
          · have b83 : kb 0 lv 0 := kb_eq c82 kc_0
            refine lv_lconst (v := 0) hx hb dX12_partOf_111 (by decide) ?_
            exact kL_ret (v := 0) hx hb hr hlocks hK hS dX12_partOf_112 f_80 hP hD ⟨(kbl_w kcl_0 (by decide) (by decide)), hI, hE, (by rw [(show f_80 22 = t77 from by rw [← ef_80]; rfl), hg79]; omega)⟩
          · have b84 : kb 1 lv 1 := kr_nel c82 blv kc_0 (by decide)
            refine lv_aload_n hx hb dX12_partOf_104 rfl (lv_at hl 2 rfl) ?_
            refine va_get (D := D) (ci := 12) (v := .int (f_80 24)) (C := RX12) (T := TX12) (N := 48) hx hb hg inC12 hown hK hP 0 rfl rfl 24 (by decide) (hg _ wt5_184) (fun _ h9 => h9) rfl dX12_partOf_105 ?_
            refine lv_topi (fun t85 et85 => ?_)
            have b86 : kb 0 t85 1 := kb_eq et85 (fI_at hI.1 24 (by decide) (by decide))
            refine lv_if_eq (tgt := 113) hx hb dX12_partOf_108 (by decide) (fun c87 => ?_) (fun c87 => ?_)
            · have b88 : kb 0 t85 0 := kb_eq c87 kc_0
              refine lv_iload_n hx hb dX12_partOf_113 rfl (lv_at hl 1 rfl) ?_
              refine lv_bipush (v := 50) hx hb dX12_partOf_114 (by decide) ?_
              refine lv_icmp_ne (tgt := 136) hx hb dX12_partOf_116 (by decide) (fun c89 => ?_) (fun c89 => ?_)
              · refine lv_aload_n hx hb dX12_partOf_136 rfl (lv_at hl 2 rfl) ?_
                refine va_get (D := D) (ci := 12) (v := .int (f_80 25)) (C := RX12) (T := TX12) (N := 48) hx hb hg inC12 hown hK hP 0 rfl rfl 25 (by decide) (hg _ wt5_185) (fun _ h9 => h9) rfl dX12_partOf_137 ?_
                refine k_top (z := 0) ((show f_80 25 = u66 25 from by rw [← ef_80]; rfl).trans ((eE67 25 (by decide)).trans hp0.2.2.1)) ?_
                refine lv_if_eq (tgt := 153) hx hb dX12_partOf_140 (by decide) (fun c90 => ?_) (fun c90 => ?_)
                · refine lv_aload_n hx hb dX12_partOf_153 rfl (lv_at hl 2 rfl) ?_
                  refine va_get (D := D) (ci := 12) (v := .ref (r 26)) (C := RX12) (T := TX12) (N := 48) hx hb hg inC12 hown hK hP 0 rfl rfl 26 (by decide) (hg _ wt5_186) (fun _ h9 => h9) rfl dX12_partOf_154 ?_
                  refine lv_iload_n hx hb dX12_partOf_157 rfl (lv_at hl 1 rfl) ?_
                  refine lv_bipush (v := 9) hx hb dX12_partOf_158 (by decide) ?_
                  refine lv_isub hx hb dX12_partOf_160 ?_
                  refine lv_topi (fun t91 et91 => ?_)
                  have b92 : kb 0 t91 9 := kb_eq et91 (kb_sub b76 kc_9 (by decide) (by decide))
                  have qt91 : t91.toInt = v74.toInt - 9 := by rw [et91]; exact kt_subc b76 kc_9 (by decide) (by decide)
                  refine va_iald hx hb hK hP 12 0 rfl rfl (kb_in b92 (by decide) (by decide)) dX12_partOf_161 ?_
                  refine lv_topi (fun t93 et93 => ?_)
                  refine lv_i2l hx hb dX12_partOf_162 rfl ?_
                  refine lv_topl (fun t94 et94 => ?_)
                  exact kL_ret (v := t94) hx hb hr hlocks hK hS dX12_partOf_163 f_80 hP hD ⟨(kbl_any t94), hI, hE, (by rw [(show f_80 22 = t77 from by rw [← ef_80]; rfl), hg79]; omega)⟩
                · exact kb_nsame c90 kc_0 kc_0
              · exact kb_dj c89 b76 kc_50 (by decide)
            · have b95 : kb 1 t85 1 := kr_nel c87 b86 kc_0 (by decide)
              refine lv_lconst (v := 0) hx hb dX12_partOf_111 (by decide) ?_
              exact kL_ret (v := 0) hx hb hr hlocks hK hS dX12_partOf_112 f_80 hP hD ⟨(kbl_w kcl_0 (by decide) (by decide)), hI, hE, (by rw [(show f_80 22 = t77 from by rw [← ef_80]; rfl), hg79]; omega)⟩
        · exact kb_nsame c81 kc_0 kc_0
      · exact kb_nsame c72 kc_0 kc_0
    · exact absurd ho (by decide)
    · exact absurd ho (by decide)
    · exact absurd ho (by decide)
    · exact absurd ho (by decide)
  · rcases gG_out hp2 with ⟨h1, ee, mm, hd, h2, h3, hj⟩ | ⟨h1, hj⟩ | ⟨ho, h1, h2, hj⟩ | ⟨ho, h1, h2, h3, hj⟩ | ⟨ho, h1 | h1 | h1, h2, hj⟩
    · have b96 : kb 0 c22 2799 := kb_go (eS_fE hE hp0 (by decide) (by decide)) (mC_lt (eS_fE hE hp0 (by decide) (by decide)) (ne_0 h1 (by decide +kernel))) hg0
      refine lv_aload_n hx hb dX12_partOf_0 rfl (lv_at hl 0 rfl) ?_
      refine lv_bipush (v := 91) hx hb dX12_partOf_1 (by decide) ?_
      refine kN.callS (As := [.int 91]) (rest := [.ref o]) ⟨hx, hb, hml, hown, hg⟩ (m_sign l 91 (kb_w kc_91 (by decide) (by decide))) (va_cwS 1 hg (kgS wt6_220 wt6_221 wt1_14 wt6_222) rfl rfl rfl (by decide +kernel) ⟨by dsimp only [rmD]; omega, by dsimp only [rmD]; omega⟩) hP hS rfl hl.1 rfl (Nat.le_of_ble_eq_true rfl) dX12_partOf_3 ⟨Nat.le_refl _, Nat.le_refl _⟩ (fun v98 H locs hw97 hP hS => ?_)
      refine k_top (z := 191) (Int32.toInt_inj.mp (hw97.2.trans (by decide +kernel))) ?_
      refine kI.callV (As := [.int 191]) (rest := []) ⟨hx, hb, hml, hown, hg⟩ (m_passes0 l o r f a g hI 191 (kb_w kc_191 (by decide) (by decide)) t (i) true (eS_fE hE hp0 (by decide) (by decide)) (by rw [ec22.symm]; exact hg0)) (cwV 1 hg (kgV wt7_63 wt7_65 wp5_12 wt1_14 wt7_66) rfl rfl rfl (by decide +kernel) ⟨by dsimp only [rmD]; omega, by dsimp only [rmD]; omega⟩) hK hP hD hS hA mIs [] rfl (wr := []) rfl rfl rfl (fun i h => by cases h) 0 12 rfl rfl rfl hl.1 rfl (Nat.le_of_ble_eq_true rfl) dX12_partOf_6 ⟨Nat.le_refl _, Nat.le_refl _⟩ (fun v101 u102 H locs hw100 hP hD hS => ?_)
      have hP : va_P D vwCl (mW K o r u102 a g) H := hP
      have hD : va_D A (mW K o r u102 a g) := hD
      have hI : mI u102 a := hw100.2.1
      have eE103 : fE [22] f u102 := hw100.2.2.1
      have hE : fE [22, 24] f u102 := fE_tr hE (fE_w (by decide) eE103)
      have hz104 := pass_y hw100.2.2.2 h1
      refine k_top (z := 1) hz104.1 ?_
      obtain ⟨gv105, egv105⟩ : ∃ z : Int32, z = u102 22 := ⟨_, rfl⟩
      have hg106 : gv105.toInt = 400 * (t : Int) + ((i + 1 : Nat) : Int) := by rw [egv105]; exact hz104.2
      refine lv_if_eq (tgt := 30) hx hb dX12_partOf_9 (by decide) (fun c107 => ?_) (fun c107 => ?_)
      · exact kb_dj c107 kc_1 kc_0 (by decide)
      · refine lv_aload_n hx hb dX12_partOf_12 rfl (lv_at hl 0 rfl) ?_
        refine lv_iload_n hx hb dX12_partOf_13 rfl (lv_at hl 1 rfl) ?_
        refine kL.callV (As := [.int lv]) (rest := []) ⟨hx, hb, hml, hown, hg⟩ ((ih ee hd) l o r u102 a g hI lv blv t (i + 1) (mm) true (eS_fE hE hp0 (by decide) (by decide)) (by rw [egv105.symm]; exact hg106) h2) (cwV 1 hg (kgV wt7_51 wt7_53 wp5_9 wt1_14 wt7_54) rfl rfl rfl (by decide +kernel) ⟨by dsimp only [rmD]; omega, by dsimp only [rmD]; omega⟩) hK hP hD hS hA mIs [] rfl (wr := []) rfl rfl rfl (fun i h => by cases h) 0 12 rfl rfl rfl hl.1 rfl (Nat.le_of_ble_eq_true rfl) dX12_partOf_14 ⟨Nat.le_refl _, Nat.le_refl _⟩ (fun v109 u110 H locs hw108 hP hD hS => ?_)
        have hP : va_P D vwCl (mW K o r u110 a g) H := hP
        have hD : va_D A (mW K o r u110 a g) := hD
        have hI : mI u110 a := hw108.2.1
        have eE111 : fE [22, 24] u102 u110 := hw108.2.2.1
        have hE : fE [22, 24] f u110 := fE_tr hE eE111
        obtain ⟨gv112, egv112⟩ : ∃ z : Int32, z = u110 22 := ⟨_, rfl⟩
        have hg113 : gv112.toInt = 400 * (t : Int) + ((mm : Nat) : Int) := by rw [egv112]; exact hw108.2.2.2
        have b114 : kb 0 gv112 2799 := kb_go (eS_fE hE hp0 (by decide) (by decide)) (mC_lt (eS_fE hE hp0 (by decide) (by decide)) (ne_0 h3 (by decide +kernel))) hg113
        refine lv_lstore_n (lv' := [(2, .long v109), (0, .ref o), (1, .int lv)]) hx hb dX12_partOf_17 rfl hl (by decide) rfl (fun ls hl => ?_)
        refine lv_aload_n hx hb dX12_partOf_18 rfl (lv_at hl 1 rfl) ?_
        refine lv_dup hx hb dX12_partOf_19 rfl ?_
        refine va_get (D := D) (ci := 12) (v := .int (u110 22)) (C := RX12) (T := TX12) (N := 48) hx hb hg inC12 hown hK hP 0 rfl rfl 22 (by decide) (hg _ wt5_182) (fun _ h9 => h9) rfl dX12_partOf_20 ?_
        refine k_top (z := gv112) egv112.symm ?_
        refine lv_iconst (v := 1) hx hb dX12_partOf_23 (by decide) ?_
        refine lv_iadd hx hb dX12_partOf_24 ?_
        refine lv_topi (fun t115 et115 => ?_)
        have b116 : kb 1 t115 2800 := kb_eq et115 (kb_add b114 kc_1 (by decide) (by decide))
        have qt115 : t115.toInt = gv112.toInt + 1 := by rw [et115]; exact kt_addc b114 kc_1 (by decide) (by decide)
        have hg117 : t115.toInt = 400 * (t : Int) + ((mm + 1 : Nat) : Int) := by rw [qt115, hg113]; omega
        refine va_put (D := D) (ci := 12) (v := .int t115) (ty := .int) (C := RX12) (T := TX12) (N := 48) hx hb hg inC12 tyX12 tyX12_ok nmX12 hown hK hP hD hS 0 rfl rfl 22 (by decide) (hg _ wt5_182) (fun _ h9 => h9) rfl (by decide +kernel) rfl rfl (Nat.le_of_ble_eq_true rfl) dX12_partOf_25 (fun H locs hP hD hS => ?_)
        have hP : va_P D vwCl (mW K o r (upd u110 22 t115) a g) H := hP
        have hD : va_D A (mW K o r (upd u110 22 t115) a g) := hD
        refine k_gen (P := fun z => va_P D vwCl (mW K o r z a g) H ∧ va_D A (mW K o r z a g) ∧ (mI z a) ∧ (fE [22, 24] f z)) (upd u110 22 t115) ⟨hP, hD, (mI_f hI (fI_st hI.1 22 (kb_any _) (by decide) (by decide))), (fE_f hE (by decide))⟩ (fun f_118 ef_118 hq => ?_)
        obtain ⟨hP, hD, hI, hE⟩ := hq
        refine lv_lload_n hx hb dX12_partOf_28 rfl (lv_at hl 0 rfl) ?_
        exact kL_ret (v := v109) hx hb hr hlocks hK hS dX12_partOf_29 f_118 hP hD ⟨(kbl_any v109), hI, hE, (by rw [(show f_118 22 = t115 from by rw [← ef_118]; rfl), hg117]; omega)⟩
    · have b119 : kb 0 c22 2799 := kb_go (eS_fE hE hp0 (by decide) (by decide)) (mC_lt (eS_fE hE hp0 (by decide) (by decide)) (ne_0 h1 (by decide +kernel))) hg0
      refine lv_aload_n hx hb dX12_partOf_0 rfl (lv_at hl 0 rfl) ?_
      refine lv_bipush (v := 91) hx hb dX12_partOf_1 (by decide) ?_
      refine kN.callS (As := [.int 91]) (rest := [.ref o]) ⟨hx, hb, hml, hown, hg⟩ (m_sign l 91 (kb_w kc_91 (by decide) (by decide))) (va_cwS 1 hg (kgS wt6_220 wt6_221 wt1_14 wt6_222) rfl rfl rfl (by decide +kernel) ⟨by dsimp only [rmD]; omega, by dsimp only [rmD]; omega⟩) hP hS rfl hl.1 rfl (Nat.le_of_ble_eq_true rfl) dX12_partOf_3 ⟨Nat.le_refl _, Nat.le_refl _⟩ (fun v121 H locs hw120 hP hS => ?_)
      refine k_top (z := 191) (Int32.toInt_inj.mp (hw120.2.trans (by decide +kernel))) ?_
      refine kI.callV (As := [.int 191]) (rest := []) ⟨hx, hb, hml, hown, hg⟩ (m_passes0 l o r f a g hI 191 (kb_w kc_191 (by decide) (by decide)) t (i) true (eS_fE hE hp0 (by decide) (by decide)) (by rw [ec22.symm]; exact hg0)) (cwV 1 hg (kgV wt7_63 wt7_65 wp5_12 wt1_14 wt7_66) rfl rfl rfl (by decide +kernel) ⟨by dsimp only [rmD]; omega, by dsimp only [rmD]; omega⟩) hK hP hD hS hA mIs [] rfl (wr := []) rfl rfl rfl (fun i h => by cases h) 0 12 rfl rfl rfl hl.1 rfl (Nat.le_of_ble_eq_true rfl) dX12_partOf_6 ⟨Nat.le_refl _, Nat.le_refl _⟩ (fun v124 u125 H locs hw123 hP hD hS => ?_)
      have hP : va_P D vwCl (mW K o r u125 a g) H := hP
      have hD : va_D A (mW K o r u125 a g) := hD
      have hI : mI u125 a := hw123.2.1
      have eE126 : fE [22] f u125 := hw123.2.2.1
      have hE : fE [22, 24] f u125 := fE_tr hE (fE_w (by decide) eE126)
      have hz127 := pass_n hw123.2.2.2 (fun q => absurd (h1.symm.trans q) (by decide +kernel))
      refine k_top (z := 0) hz127.1 ?_
      obtain ⟨gv128, egv128⟩ : ∃ z : Int32, z = u125 22 := ⟨_, rfl⟩
      have hg129 : gv128.toInt = 400 * (t : Int) + ((i : Nat) : Int) := by rw [egv128]; exact hz127.2
      have b130 : kb 0 gv128 2799 := kb_go (eS_fE hE hp0 (by decide) (by decide)) (mC_lt (eS_fE hE hp0 (by decide) (by decide)) (ne_0 h1 (by decide +kernel))) hg129
      refine lv_if_eq (tgt := 30) hx hb dX12_partOf_9 (by decide) (fun c131 => ?_) (fun c131 => ?_)
      · refine lv_aload_n hx hb dX12_partOf_30 rfl (lv_at hl 0 rfl) ?_
        refine lv_aload_n hx hb dX12_partOf_31 rfl (lv_at hl 0 rfl) ?_
        refine va_get (D := D) (ci := 12) (v := .int (u125 22)) (C := RX12) (T := TX12) (N := 48) hx hb hg inC12 hown hK hP 0 rfl rfl 22 (by decide) (hg _ wt5_182) (fun _ h9 => h9) rfl dX12_partOf_32 ?_
        refine k_top (z := gv128) egv128.symm ?_
        refine kI.callV (As := [.int gv128]) (rest := []) ⟨hx, hb, hml, hown, hg⟩ (m_codeAt l o r u125 a g hI gv128  t (i) true (eS_fE hE hp0 (by decide) (by decide)) hg129) (cwV 1 hg (kgV wt7_47 wt7_49 wp5_8 wt1_14 wt7_50) rfl rfl rfl (by decide +kernel) ⟨by dsimp only [rmD]; omega, by dsimp only [rmD]; omega⟩) hK hP hD hS hA mIs [] rfl (wr := []) rfl rfl rfl (fun i h => by cases h) 0 12 rfl rfl rfl hl.1 rfl (Nat.le_of_ble_eq_true rfl) dX12_partOf_35 ⟨Nat.le_refl _, Nat.le_refl _⟩ (fun v133 u134 H locs hw132 hP hD hS => ?_)
        have hP : va_P D vwCl (mW K o r u125 a g) H := hP
        have hD : va_D A (mW K o r u125 a g) := hD
        refine k_top (z := 50) (hw132.2.trans h1) ?_
        refine lv_istore_n (lv' := [(2, .int 50), (0, .ref o), (1, .int lv)]) hx hb dX12_partOf_38 rfl hl (by decide) rfl (fun ls hl => ?_)
        refine lv_iconst (v := 0) hx hb dX12_partOf_39 (by decide) ?_
        refine lv_istore_n (lv' := [(3, .int 0), (2, .int 50), (0, .ref o), (1, .int lv)]) hx hb dX12_partOf_40 rfl hl (by decide) rfl (fun ls hl => ?_)
        refine lv_aload_n hx hb dX12_partOf_41 rfl (lv_at hl 2 rfl) ?_
        refine lv_dup hx hb dX12_partOf_42 rfl ?_
        refine va_get (D := D) (ci := 12) (v := .int (u125 22)) (C := RX12) (T := TX12) (N := 48) hx hb hg inC12 hown hK hP 0 rfl rfl 22 (by decide) (hg _ wt5_182) (fun _ h9 => h9) rfl dX12_partOf_43 ?_
        refine k_top (z := gv128) egv128.symm ?_
        refine lv_iconst (v := 1) hx hb dX12_partOf_46 (by decide) ?_
        refine lv_iadd hx hb dX12_partOf_47 ?_
        refine lv_topi (fun t135 et135 => ?_)
        have b136 : kb 1 t135 2800 := kb_eq et135 (kb_add b130 kc_1 (by decide) (by decide))
        have qt135 : t135.toInt = gv128.toInt + 1 := by rw [et135]; exact kt_addc b130 kc_1 (by decide) (by decide)
        have hg137 : t135.toInt = 400 * (t : Int) + ((i + 1 : Nat) : Int) := by rw [qt135, hg129]; omega
        refine va_put (D := D) (ci := 12) (v := .int t135) (ty := .int) (C := RX12) (T := TX12) (N := 48) hx hb hg inC12 tyX12 tyX12_ok nmX12 hown hK hP hD hS 0 rfl rfl 22 (by decide) (hg _ wt5_182) (fun _ h9 => h9) rfl (by decide +kernel) rfl rfl (Nat.le_of_ble_eq_true rfl) dX12_partOf_48 (fun H locs hP hD hS => ?_)
        have hP : va_P D vwCl (mW K o r (upd u125 22 t135) a g) H := hP
        have hD : va_D A (mW K o r (upd u125 22 t135) a g) := hD
        refine k_gen (P := fun z => va_P D vwCl (mW K o r z a g) H ∧ va_D A (mW K o r z a g) ∧ (mI z a) ∧ (fE [22, 24] f z)) (upd u125 22 t135) ⟨hP, hD, (mI_f hI (fI_st hI.1 22 (kb_any _) (by decide) (by decide))), (fE_f hE (by decide))⟩ (fun f_138 ef_138 hq => ?_)
        obtain ⟨hP, hD, hI, hE⟩ := hq
        refine lv_aload_n hx hb dX12_partOf_51 rfl (lv_at hl 2 rfl) ?_
        refine va_get (D := D) (ci := 12) (v := .int (f_138 25)) (C := RX12) (T := TX12) (N := 48) hx hb hg inC12 hown hK hP 0 rfl rfl 25 (by decide) (hg _ wt5_185) (fun _ h9 => h9) rfl dX12_partOf_52 ?_
        refine k_top (z := 1) ((show f_138 25 = u125 25 from by rw [← ef_138]; rfl).trans ((eE126 25 (by decide)).trans hp0.2.2.1)) ?_
        refine lv_if_eq (tgt := 100) hx hb dX12_partOf_55 (by decide) (fun c145 => ?_) (fun c145 => ?_)
        · exact kb_dj c145 kc_1 kc_0 (by decide)
        · refine lv_iload_n hx hb dX12_partOf_58 rfl (lv_at hl 1 rfl) ?_
          refine lv_bipush (v := 16) hx hb dX12_partOf_59 (by decide) ?_
          refine lv_icmp_eq (tgt := 76) hx hb dX12_partOf_61 (by decide) (fun c163 => ?_) (fun c163 => ?_)
          · exact kb_dj c163 kc_50 kc_16 (by decide)
          · refine lv_iload_n hx hb dX12_partOf_64 rfl (lv_at hl 1 rfl) ?_
            refine lv_bipush (v := 17) hx hb dX12_partOf_65 (by decide) ?_
            refine lv_icmp_eq (tgt := 76) hx hb dX12_partOf_67 (by decide) (fun c180 => ?_) (fun c180 => ?_)
            · exact kb_dj c180 kc_50 kc_17 (by decide)
            · refine lv_iload_n hx hb dX12_partOf_70 rfl (lv_at hl 1 rfl) ?_
              refine lv_bipush (v := 22) hx hb dX12_partOf_71 (by decide) ?_
              refine lv_icmp_ne (tgt := 100) hx hb dX12_partOf_73 (by decide) (fun c181 => ?_) (fun c181 => ?_)
              · refine lv_iload_n hx hb dX12_partOf_100 rfl (lv_at hl 3 rfl) ?_
                refine lv_if_eq (tgt := 111) hx hb dX12_partOf_101 (by decide) (fun c182 => ?_) (fun c182 => ?_)
                · have b183 : kb 0 lv 0 := kb_eq c182 kc_0
                  refine lv_lconst (v := 0) hx hb dX12_partOf_111 (by decide) ?_
                  exact kL_ret (v := 0) hx hb hr hlocks hK hS dX12_partOf_112 f_138 hP hD ⟨(kbl_w kcl_0 (by decide) (by decide)), hI, hE, (by rw [(show f_138 22 = t135 from by rw [← ef_138]; rfl), hg137]; omega)⟩
                · have b184 : kb 1 lv 1 := kr_nel c182 blv kc_0 (by decide)
                  refine lv_aload_n hx hb dX12_partOf_104 rfl (lv_at hl 2 rfl) ?_
                  refine va_get (D := D) (ci := 12) (v := .int (f_138 24)) (C := RX12) (T := TX12) (N := 48) hx hb hg inC12 hown hK hP 0 rfl rfl 24 (by decide) (hg _ wt5_184) (fun _ h9 => h9) rfl dX12_partOf_105 ?_
                  refine lv_topi (fun t185 et185 => ?_)
                  have b186 : kb 0 t185 1 := kb_eq et185 (fI_at hI.1 24 (by decide) (by decide))
                  refine lv_if_eq (tgt := 113) hx hb dX12_partOf_108 (by decide) (fun c187 => ?_) (fun c187 => ?_)
                  · have b188 : kb 0 t185 0 := kb_eq c187 kc_0
                    refine lv_iload_n hx hb dX12_partOf_113 rfl (lv_at hl 1 rfl) ?_
                    refine lv_bipush (v := 50) hx hb dX12_partOf_114 (by decide) ?_
                    refine lv_icmp_ne (tgt := 136) hx hb dX12_partOf_116 (by decide) (fun c189 => ?_) (fun c189 => ?_)
                    · exact kb_nsame c189 kc_50 kc_50
                    · refine lv_aload_n hx hb dX12_partOf_119 rfl (lv_at hl 2 rfl) ?_
                      refine va_get (D := D) (ci := 12) (v := .ref (r 2)) (C := RX12) (T := TX12) (N := 48) hx hb hg inC12 hown hK hP 0 rfl rfl 2 (by decide) (hg _ wt5_162) (fun _ h9 => h9) rfl dX12_partOf_120 ?_
                      refine lv_sipush (v := 2914) hx hb dX12_partOf_123 (by decide) ?_
                      refine lv_aload_n hx hb dX12_partOf_126 rfl (lv_at hl 2 rfl) ?_
                      refine va_get (D := D) (ci := 12) (v := .int (f_138 22)) (C := RX12) (T := TX12) (N := 48) hx hb hg inC12 hown hK hP 0 rfl rfl 22 (by decide) (hg _ wt5_182) (fun _ h9 => h9) rfl dX12_partOf_127 ?_
                      refine k_top (z := t135) (show f_138 22 = t135 from by rw [← ef_138]; rfl) ?_
                      refine lv_iadd hx hb dX12_partOf_130 ?_
                      refine lv_topi (fun t190 et190 => ?_)
                      have b191 : kb 2915 t190 5714 := kb_eq et190 (kb_add kc_2914 b136 (by decide) (by decide))
                      have qt190 : t190.toInt = 2914 + t135.toInt := by rw [et190]; exact kt_cadd kc_2914 b136 (by decide) (by decide)
                      refine lv_iconst (v := 1) hx hb dX12_partOf_131 (by decide) ?_
                      refine lv_isub hx hb dX12_partOf_132 ?_
                      refine lv_topi (fun t192 et192 => ?_)
                      have b193 : kb 2914 t192 5713 := kb_eq et192 (kb_sub b191 kc_1 (by decide) (by decide))
                      have qt192 : t192.toInt = t190.toInt - 1 := by rw [et192]; exact kt_subc b191 kc_1 (by decide) (by decide)
                      refine va_iald hx hb hK hP 2 0 rfl rfl (kb_in b193 (by decide) (by decide)) dX12_partOf_133 ?_
                      refine lv_topi (fun t194 et194 => ?_)
                      refine lv_i2l hx hb dX12_partOf_134 rfl ?_
                      refine lv_topl (fun t195 et195 => ?_)
                      exact kL_ret (v := t195) hx hb hr hlocks hK hS dX12_partOf_135 f_138 hP hD ⟨(kbl_any t195), hI, hE, (by rw [(show f_138 22 = t135 from by rw [← ef_138]; rfl), hg137]; omega)⟩
                  · have b196 : kb 1 t185 1 := kr_nel c187 b186 kc_0 (by decide)
                    refine lv_lconst (v := 0) hx hb dX12_partOf_111 (by decide) ?_
                    exact kL_ret (v := 0) hx hb hr hlocks hK hS dX12_partOf_112 f_138 hP hD ⟨(kbl_w kcl_0 (by decide) (by decide)), hI, hE, (by rw [(show f_138 22 = t135 from by rw [← ef_138]; rfl), hg137]; omega)⟩
              · exact kb_dj c181 kc_50 kc_22 (by decide)
      · exact kb_nsame c131 kc_0 kc_0
    · exact absurd ho (by decide)
    · have b197 : kb 0 c22 2799 := kb_go (eS_fE hE hp0 (by decide) (by decide)) (mC_lt (eS_fE hE hp0 (by decide) (by decide)) (kb_nz (kb_of2 ⟨h1, h2⟩) (by decide))) hg0
      refine lv_aload_n hx hb dX12_partOf_0 rfl (lv_at hl 0 rfl) ?_
      refine lv_bipush (v := 91) hx hb dX12_partOf_1 (by decide) ?_
      refine kN.callS (As := [.int 91]) (rest := [.ref o]) ⟨hx, hb, hml, hown, hg⟩ (m_sign l 91 (kb_w kc_91 (by decide) (by decide))) (va_cwS 1 hg (kgS wt6_220 wt6_221 wt1_14 wt6_222) rfl rfl rfl (by decide +kernel) ⟨by dsimp only [rmD]; omega, by dsimp only [rmD]; omega⟩) hP hS rfl hl.1 rfl (Nat.le_of_ble_eq_true rfl) dX12_partOf_3 ⟨Nat.le_refl _, Nat.le_refl _⟩ (fun v199 H locs hw198 hP hS => ?_)
      refine k_top (z := 191) (Int32.toInt_inj.mp (hw198.2.trans (by decide +kernel))) ?_
      refine kI.callV (As := [.int 191]) (rest := []) ⟨hx, hb, hml, hown, hg⟩ (m_passes0 l o r f a g hI 191 (kb_w kc_191 (by decide) (by decide)) t (i) true (eS_fE hE hp0 (by decide) (by decide)) (by rw [ec22.symm]; exact hg0)) (cwV 1 hg (kgV wt7_63 wt7_65 wp5_12 wt1_14 wt7_66) rfl rfl rfl (by decide +kernel) ⟨by dsimp only [rmD]; omega, by dsimp only [rmD]; omega⟩) hK hP hD hS hA mIs [] rfl (wr := []) rfl rfl rfl (fun i h => by cases h) 0 12 rfl rfl rfl hl.1 rfl (Nat.le_of_ble_eq_true rfl) dX12_partOf_6 ⟨Nat.le_refl _, Nat.le_refl _⟩ (fun v202 u203 H locs hw201 hP hD hS => ?_)
      have hP : va_P D vwCl (mW K o r u203 a g) H := hP
      have hD : va_D A (mW K o r u203 a g) := hD
      have hI : mI u203 a := hw201.2.1
      have eE204 : fE [22] f u203 := hw201.2.2.1
      have hE : fE [22, 24] f u203 := fE_tr hE (fE_w (by decide) eE204)
      have hz205 := pass_n hw201.2.2.2 (fun q => kb_dj q (kb_of2 ⟨h1, h2⟩) kc_191 (by decide))
      refine k_top (z := 0) hz205.1 ?_
      obtain ⟨gv206, egv206⟩ : ∃ z : Int32, z = u203 22 := ⟨_, rfl⟩
      have hg207 : gv206.toInt = 400 * (t : Int) + ((i : Nat) : Int) := by rw [egv206]; exact hz205.2
      have b208 : kb 0 gv206 2799 := kb_go (eS_fE hE hp0 (by decide) (by decide)) (mC_lt (eS_fE hE hp0 (by decide) (by decide)) (kb_nz (kb_of2 ⟨h1, h2⟩) (by decide))) hg207
      refine lv_if_eq (tgt := 30) hx hb dX12_partOf_9 (by decide) (fun c209 => ?_) (fun c209 => ?_)
      · refine lv_aload_n hx hb dX12_partOf_30 rfl (lv_at hl 0 rfl) ?_
        refine lv_aload_n hx hb dX12_partOf_31 rfl (lv_at hl 0 rfl) ?_
        refine va_get (D := D) (ci := 12) (v := .int (u203 22)) (C := RX12) (T := TX12) (N := 48) hx hb hg inC12 hown hK hP 0 rfl rfl 22 (by decide) (hg _ wt5_182) (fun _ h9 => h9) rfl dX12_partOf_32 ?_
        refine k_top (z := gv206) egv206.symm ?_
        refine kI.callV (As := [.int gv206]) (rest := []) ⟨hx, hb, hml, hown, hg⟩ (m_codeAt l o r u203 a g hI gv206  t (i) true (eS_fE hE hp0 (by decide) (by decide)) hg207) (cwV 1 hg (kgV wt7_47 wt7_49 wp5_8 wt1_14 wt7_50) rfl rfl rfl (by decide +kernel) ⟨by dsimp only [rmD]; omega, by dsimp only [rmD]; omega⟩) hK hP hD hS hA mIs [] rfl (wr := []) rfl rfl rfl (fun i h => by cases h) 0 12 rfl rfl rfl hl.1 rfl (Nat.le_of_ble_eq_true rfl) dX12_partOf_35 ⟨Nat.le_refl _, Nat.le_refl _⟩ (fun v211 u212 H locs hw210 hP hD hS => ?_)
        have hP : va_P D vwCl (mW K o r u203 a g) H := hP
        have hD : va_D A (mW K o r u203 a g) := hD
        have b213 : kb 16 v211 22 := kb_eq hw210.2 (kb_of2 ⟨h1, h2⟩)
        refine lv_istore_n (lv' := [(2, .int v211), (0, .ref o), (1, .int lv)]) hx hb dX12_partOf_38 rfl hl (by decide) rfl (fun ls hl => ?_)
        refine lv_iconst (v := 0) hx hb dX12_partOf_39 (by decide) ?_
        refine lv_istore_n (lv' := [(3, .int 0), (2, .int v211), (0, .ref o), (1, .int lv)]) hx hb dX12_partOf_40 rfl hl (by decide) rfl (fun ls hl => ?_)
        refine lv_aload_n hx hb dX12_partOf_41 rfl (lv_at hl 2 rfl) ?_
        refine lv_dup hx hb dX12_partOf_42 rfl ?_
        refine va_get (D := D) (ci := 12) (v := .int (u203 22)) (C := RX12) (T := TX12) (N := 48) hx hb hg inC12 hown hK hP 0 rfl rfl 22 (by decide) (hg _ wt5_182) (fun _ h9 => h9) rfl dX12_partOf_43 ?_
        refine k_top (z := gv206) egv206.symm ?_
        refine lv_iconst (v := 1) hx hb dX12_partOf_46 (by decide) ?_
        refine lv_iadd hx hb dX12_partOf_47 ?_
        refine lv_topi (fun t214 et214 => ?_)
        have b215 : kb 1 t214 2800 := kb_eq et214 (kb_add b208 kc_1 (by decide) (by decide))
        have qt214 : t214.toInt = gv206.toInt + 1 := by rw [et214]; exact kt_addc b208 kc_1 (by decide) (by decide)
        have hg216 : t214.toInt = 400 * (t : Int) + ((i + 1 : Nat) : Int) := by rw [qt214, hg207]; omega
        refine va_put (D := D) (ci := 12) (v := .int t214) (ty := .int) (C := RX12) (T := TX12) (N := 48) hx hb hg inC12 tyX12 tyX12_ok nmX12 hown hK hP hD hS 0 rfl rfl 22 (by decide) (hg _ wt5_182) (fun _ h9 => h9) rfl (by decide +kernel) rfl rfl (Nat.le_of_ble_eq_true rfl) dX12_partOf_48 (fun H locs hP hD hS => ?_)
        have hP : va_P D vwCl (mW K o r (upd u203 22 t214) a g) H := hP
        have hD : va_D A (mW K o r (upd u203 22 t214) a g) := hD
        refine k_gen (P := fun z => va_P D vwCl (mW K o r z a g) H ∧ va_D A (mW K o r z a g) ∧ (mI z a) ∧ (fE [22, 24] f z)) (upd u203 22 t214) ⟨hP, hD, (mI_f hI (fI_st hI.1 22 (kb_any _) (by decide) (by decide))), (fE_f hE (by decide))⟩ (fun f_217 ef_217 hq => ?_)
        obtain ⟨hP, hD, hI, hE⟩ := hq
        refine lv_aload_n hx hb dX12_partOf_51 rfl (lv_at hl 2 rfl) ?_
        refine va_get (D := D) (ci := 12) (v := .int (f_217 25)) (C := RX12) (T := TX12) (N := 48) hx hb hg inC12 hown hK hP 0 rfl rfl 25 (by decide) (hg _ wt5_185) (fun _ h9 => h9) rfl dX12_partOf_52 ?_
        refine k_top (z := 1) ((show f_217 25 = u203 25 from by rw [← ef_217]; rfl).trans ((eE204 25 (by decide)).trans hp0.2.2.1)) ?_
        refine lv_if_eq (tgt := 100) hx hb dX12_partOf_55 (by decide) (fun c232 => ?_) (fun c232 => ?_)
        · exact kb_dj c232 kc_1 kc_0 (by decide)
        · refine lv_iload_n hx hb dX12_partOf_58 rfl (lv_at hl 1 rfl) ?_
          refine lv_bipush (v := 16) hx hb dX12_partOf_59 (by decide) ?_
          refine lv_icmp_eq (tgt := 76) hx hb dX12_partOf_61 (by decide) (fun c253 => ?_) (fun c253 => ?_)
          · exact absurd c253 (fun q => (fun q => h3 (Or.inl q)) (hw210.2.symm.trans q))
          · have b254 : kb 17 v211 22 := kr_nel c253 b213 kc_16 (by decide)
            refine lv_iload_n hx hb dX12_partOf_64 rfl (lv_at hl 1 rfl) ?_
            refine lv_bipush (v := 17) hx hb dX12_partOf_65 (by decide) ?_
            refine lv_icmp_eq (tgt := 76) hx hb dX12_partOf_67 (by decide) (fun c273 => ?_) (fun c273 => ?_)
            · exact absurd c273 (fun q => (fun q => h3 (Or.inr (Or.inl q))) (hw210.2.symm.trans q))
            · have b274 : kb 18 v211 22 := kr_nel c273 b254 kc_17 (by decide)
              refine lv_iload_n hx hb dX12_partOf_70 rfl (lv_at hl 1 rfl) ?_
              refine lv_bipush (v := 22) hx hb dX12_partOf_71 (by decide) ?_
              refine lv_icmp_ne (tgt := 100) hx hb dX12_partOf_73 (by decide) (fun c276 => ?_) (fun c276 => ?_)
              · have b277 : kb 18 v211 21 := kr_neh c276 b274 kc_22 (by decide)
                refine lv_iload_n hx hb dX12_partOf_100 rfl (lv_at hl 3 rfl) ?_
                refine lv_if_eq (tgt := 111) hx hb dX12_partOf_101 (by decide) (fun c278 => ?_) (fun c278 => ?_)
                · have b279 : kb 0 lv 0 := kb_eq c278 kc_0
                  refine lv_lconst (v := 0) hx hb dX12_partOf_111 (by decide) ?_
                  exact kL_ret (v := 0) hx hb hr hlocks hK hS dX12_partOf_112 f_217 hP hD ⟨(kbl_w kcl_0 (by decide) (by decide)), hI, hE, (by rw [(show f_217 22 = t214 from by rw [← ef_217]; rfl), hg216]; omega)⟩
                · have b280 : kb 1 lv 1 := kr_nel c278 blv kc_0 (by decide)
                  refine lv_aload_n hx hb dX12_partOf_104 rfl (lv_at hl 2 rfl) ?_
                  refine va_get (D := D) (ci := 12) (v := .int (f_217 24)) (C := RX12) (T := TX12) (N := 48) hx hb hg inC12 hown hK hP 0 rfl rfl 24 (by decide) (hg _ wt5_184) (fun _ h9 => h9) rfl dX12_partOf_105 ?_
                  refine lv_topi (fun t281 et281 => ?_)
                  have b282 : kb 0 t281 1 := kb_eq et281 (fI_at hI.1 24 (by decide) (by decide))
                  refine lv_if_eq (tgt := 113) hx hb dX12_partOf_108 (by decide) (fun c283 => ?_) (fun c283 => ?_)
                  · have b284 : kb 0 t281 0 := kb_eq c283 kc_0
                    refine lv_iload_n hx hb dX12_partOf_113 rfl (lv_at hl 1 rfl) ?_
                    refine lv_bipush (v := 50) hx hb dX12_partOf_114 (by decide) ?_
                    refine lv_icmp_ne (tgt := 136) hx hb dX12_partOf_116 (by decide) (fun c285 => ?_) (fun c285 => ?_)
                    · refine lv_aload_n hx hb dX12_partOf_136 rfl (lv_at hl 2 rfl) ?_
                      refine va_get (D := D) (ci := 12) (v := .int (f_217 25)) (C := RX12) (T := TX12) (N := 48) hx hb hg inC12 hown hK hP 0 rfl rfl 25 (by decide) (hg _ wt5_185) (fun _ h9 => h9) rfl dX12_partOf_137 ?_
                      refine k_top (z := 1) ((show f_217 25 = u203 25 from by rw [← ef_217]; rfl).trans ((eE204 25 (by decide)).trans hp0.2.2.1)) ?_
                      refine lv_if_eq (tgt := 153) hx hb dX12_partOf_140 (by decide) (fun c286 => ?_) (fun c286 => ?_)
                      · exact kb_dj c286 kc_1 kc_0 (by decide)
                      · refine lv_aload_n hx hb dX12_partOf_143 rfl (lv_at hl 2 rfl) ?_
                        refine lv_iload_n hx hb dX12_partOf_144 rfl (lv_at hl 1 rfl) ?_
                        refine lv_iload_n hx hb dX12_partOf_145 rfl (lv_at hl 0 rfl) ?_
                        refine kI.callV (As := [.int v211, .int 0]) (rest := []) ⟨hx, hb, hml, hown, hg⟩ (m_orderValue l o r f_217 a g hI v211 0 (kb_w b277 (by decide) (by decide)) ) (cwV 2 hg (kgV wt7_67 wt7_69 wp5_13 wt1_14 wt7_70) rfl rfl rfl (by decide +kernel) ⟨by dsimp only [rmD]; omega, by dsimp only [rmD]; omega⟩) hK hP hD hS hA mIs [] rfl (wr := []) rfl rfl rfl (fun i h => by cases h) 0 12 rfl rfl rfl hl.1 rfl (Nat.le_of_ble_eq_true rfl) dX12_partOf_146 ⟨Nat.le_refl _, Nat.le_refl _⟩ (fun v288 u289 H locs hw287 hP hD hS => ?_)
                        have hP : va_P D vwCl (mW K o r f_217 a g) H := hP
                        have hD : va_D A (mW K o r f_217 a g) := hD
                        refine lv_i2l hx hb dX12_partOf_149 rfl ?_
                        refine lv_topl (fun t290 et290 => ?_)
                        refine lv_goto (tgt := 163) hx hb dX12_partOf_150 (by decide) ?_
                        exact kL_ret (v := t290) hx hb hr hlocks hK hS dX12_partOf_163 f_217 hP hD ⟨(kbl_any t290), hI, hE, (by rw [(show f_217 22 = t214 from by rw [← ef_217]; rfl), hg216]; omega)⟩
                    · exact kb_dj c285 b277 kc_50 (by decide)
                  · have b291 : kb 1 t281 1 := kr_nel c283 b282 kc_0 (by decide)
                    refine lv_lconst (v := 0) hx hb dX12_partOf_111 (by decide) ?_
                    exact kL_ret (v := 0) hx hb hr hlocks hK hS dX12_partOf_112 f_217 hP hD ⟨(kbl_w kcl_0 (by decide) (by decide)), hI, hE, (by rw [(show f_217 22 = t214 from by rw [← ef_217]; rfl), hg216]; omega)⟩
              · exact absurd c276 (fun q => (fun q => h3 (Or.inr (Or.inr q))) (hw210.2.symm.trans q))
      · exact kb_nsame c209 kc_0 kc_0
    · have b292 : kb 0 c22 2799 := kb_go (eS_fE hE hp0 (by decide) (by decide)) (mC_lt (eS_fE hE hp0 (by decide) (by decide)) (ne_0 h1 (by decide +kernel))) hg0
      refine lv_aload_n hx hb dX12_partOf_0 rfl (lv_at hl 0 rfl) ?_
      refine lv_bipush (v := 91) hx hb dX12_partOf_1 (by decide) ?_
      refine kN.callS (As := [.int 91]) (rest := [.ref o]) ⟨hx, hb, hml, hown, hg⟩ (m_sign l 91 (kb_w kc_91 (by decide) (by decide))) (va_cwS 1 hg (kgS wt6_220 wt6_221 wt1_14 wt6_222) rfl rfl rfl (by decide +kernel) ⟨by dsimp only [rmD]; omega, by dsimp only [rmD]; omega⟩) hP hS rfl hl.1 rfl (Nat.le_of_ble_eq_true rfl) dX12_partOf_3 ⟨Nat.le_refl _, Nat.le_refl _⟩ (fun v294 H locs hw293 hP hS => ?_)
      refine k_top (z := 191) (Int32.toInt_inj.mp (hw293.2.trans (by decide +kernel))) ?_
      refine kI.callV (As := [.int 191]) (rest := []) ⟨hx, hb, hml, hown, hg⟩ (m_passes0 l o r f a g hI 191 (kb_w kc_191 (by decide) (by decide)) t (i) true (eS_fE hE hp0 (by decide) (by decide)) (by rw [ec22.symm]; exact hg0)) (cwV 1 hg (kgV wt7_63 wt7_65 wp5_12 wt1_14 wt7_66) rfl rfl rfl (by decide +kernel) ⟨by dsimp only [rmD]; omega, by dsimp only [rmD]; omega⟩) hK hP hD hS hA mIs [] rfl (wr := []) rfl rfl rfl (fun i h => by cases h) 0 12 rfl rfl rfl hl.1 rfl (Nat.le_of_ble_eq_true rfl) dX12_partOf_6 ⟨Nat.le_refl _, Nat.le_refl _⟩ (fun v297 u298 H locs hw296 hP hD hS => ?_)
      have hP : va_P D vwCl (mW K o r u298 a g) H := hP
      have hD : va_D A (mW K o r u298 a g) := hD
      have hI : mI u298 a := hw296.2.1
      have eE299 : fE [22] f u298 := hw296.2.2.1
      have hE : fE [22, 24] f u298 := fE_tr hE (fE_w (by decide) eE299)
      have hz300 := pass_n hw296.2.2.2 (fun q => absurd (h1.symm.trans q) (by decide +kernel))
      refine k_top (z := 0) hz300.1 ?_
      obtain ⟨gv301, egv301⟩ : ∃ z : Int32, z = u298 22 := ⟨_, rfl⟩
      have hg302 : gv301.toInt = 400 * (t : Int) + ((i : Nat) : Int) := by rw [egv301]; exact hz300.2
      have b303 : kb 0 gv301 2799 := kb_go (eS_fE hE hp0 (by decide) (by decide)) (mC_lt (eS_fE hE hp0 (by decide) (by decide)) (ne_0 h1 (by decide +kernel))) hg302
      refine lv_if_eq (tgt := 30) hx hb dX12_partOf_9 (by decide) (fun c304 => ?_) (fun c304 => ?_)
      · refine lv_aload_n hx hb dX12_partOf_30 rfl (lv_at hl 0 rfl) ?_
        refine lv_aload_n hx hb dX12_partOf_31 rfl (lv_at hl 0 rfl) ?_
        refine va_get (D := D) (ci := 12) (v := .int (u298 22)) (C := RX12) (T := TX12) (N := 48) hx hb hg inC12 hown hK hP 0 rfl rfl 22 (by decide) (hg _ wt5_182) (fun _ h9 => h9) rfl dX12_partOf_32 ?_
        refine k_top (z := gv301) egv301.symm ?_
        refine kI.callV (As := [.int gv301]) (rest := []) ⟨hx, hb, hml, hown, hg⟩ (m_codeAt l o r u298 a g hI gv301  t (i) true (eS_fE hE hp0 (by decide) (by decide)) hg302) (cwV 1 hg (kgV wt7_47 wt7_49 wp5_8 wt1_14 wt7_50) rfl rfl rfl (by decide +kernel) ⟨by dsimp only [rmD]; omega, by dsimp only [rmD]; omega⟩) hK hP hD hS hA mIs [] rfl (wr := []) rfl rfl rfl (fun i h => by cases h) 0 12 rfl rfl rfl hl.1 rfl (Nat.le_of_ble_eq_true rfl) dX12_partOf_35 ⟨Nat.le_refl _, Nat.le_refl _⟩ (fun v306 u307 H locs hw305 hP hD hS => ?_)
        have hP : va_P D vwCl (mW K o r u298 a g) H := hP
        have hD : va_D A (mW K o r u298 a g) := hD
        refine k_top (z := 16) (hw305.2.trans h1) ?_
        refine lv_istore_n (lv' := [(2, .int 16), (0, .ref o), (1, .int lv)]) hx hb dX12_partOf_38 rfl hl (by decide) rfl (fun ls hl => ?_)
        refine lv_iconst (v := 0) hx hb dX12_partOf_39 (by decide) ?_
        refine lv_istore_n (lv' := [(3, .int 0), (2, .int 16), (0, .ref o), (1, .int lv)]) hx hb dX12_partOf_40 rfl hl (by decide) rfl (fun ls hl => ?_)
        refine lv_aload_n hx hb dX12_partOf_41 rfl (lv_at hl 2 rfl) ?_
        refine lv_dup hx hb dX12_partOf_42 rfl ?_
        refine va_get (D := D) (ci := 12) (v := .int (u298 22)) (C := RX12) (T := TX12) (N := 48) hx hb hg inC12 hown hK hP 0 rfl rfl 22 (by decide) (hg _ wt5_182) (fun _ h9 => h9) rfl dX12_partOf_43 ?_
        refine k_top (z := gv301) egv301.symm ?_
        refine lv_iconst (v := 1) hx hb dX12_partOf_46 (by decide) ?_
        refine lv_iadd hx hb dX12_partOf_47 ?_
        refine lv_topi (fun t308 et308 => ?_)
        have b309 : kb 1 t308 2800 := kb_eq et308 (kb_add b303 kc_1 (by decide) (by decide))
        have qt308 : t308.toInt = gv301.toInt + 1 := by rw [et308]; exact kt_addc b303 kc_1 (by decide) (by decide)
        have hg310 : t308.toInt = 400 * (t : Int) + ((i + 1 : Nat) : Int) := by rw [qt308, hg302]; omega
        have b311 : kb 0 t308 2799 := kb_go (eS_fE hE hp0 (by decide) (by decide)) (mC_lt (eS_fE hE hp0 (by decide) (by decide)) (ne_0 h2 (by decide +kernel))) hg310
        refine va_put (D := D) (ci := 12) (v := .int t308) (ty := .int) (C := RX12) (T := TX12) (N := 48) hx hb hg inC12 tyX12 tyX12_ok nmX12 hown hK hP hD hS 0 rfl rfl 22 (by decide) (hg _ wt5_182) (fun _ h9 => h9) rfl (by decide +kernel) rfl rfl (Nat.le_of_ble_eq_true rfl) dX12_partOf_48 (fun H locs hP hD hS => ?_)
        have hP : va_P D vwCl (mW K o r (upd u298 22 t308) a g) H := hP
        have hD : va_D A (mW K o r (upd u298 22 t308) a g) := hD
        refine k_gen (P := fun z => va_P D vwCl (mW K o r z a g) H ∧ va_D A (mW K o r z a g) ∧ (mI z a) ∧ (fE [22, 24] f z)) (upd u298 22 t308) ⟨hP, hD, (mI_f hI (fI_st hI.1 22 (kb_any _) (by decide) (by decide))), (fE_f hE (by decide))⟩ (fun f_312 ef_312 hq => ?_)
        obtain ⟨hP, hD, hI, hE⟩ := hq
        refine lv_aload_n hx hb dX12_partOf_51 rfl (lv_at hl 2 rfl) ?_
        refine va_get (D := D) (ci := 12) (v := .int (f_312 25)) (C := RX12) (T := TX12) (N := 48) hx hb hg inC12 hown hK hP 0 rfl rfl 25 (by decide) (hg _ wt5_185) (fun _ h9 => h9) rfl dX12_partOf_52 ?_
        refine k_top (z := 1) ((show f_312 25 = u298 25 from by rw [← ef_312]; rfl).trans ((eE299 25 (by decide)).trans hp0.2.2.1)) ?_
        refine lv_if_eq (tgt := 100) hx hb dX12_partOf_55 (by decide) (fun c321 => ?_) (fun c321 => ?_)
        · exact kb_dj c321 kc_1 kc_0 (by decide)
        · refine lv_iload_n hx hb dX12_partOf_58 rfl (lv_at hl 1 rfl) ?_
          refine lv_bipush (v := 16) hx hb dX12_partOf_59 (by decide) ?_
          refine lv_icmp_eq (tgt := 76) hx hb dX12_partOf_61 (by decide) (fun c322 => ?_) (fun c322 => ?_)
          · refine lv_aload_n hx hb dX12_partOf_76 rfl (lv_at hl 2 rfl) ?_
            refine va_get (D := D) (ci := 12) (v := .ref (r 2)) (C := RX12) (T := TX12) (N := 48) hx hb hg inC12 hown hK hP 0 rfl rfl 2 (by decide) (hg _ wt5_162) (fun _ h9 => h9) rfl dX12_partOf_77 ?_
            refine lv_sipush (v := 2914) hx hb dX12_partOf_80 (by decide) ?_
            refine lv_aload_n hx hb dX12_partOf_83 rfl (lv_at hl 2 rfl) ?_
            refine va_get (D := D) (ci := 12) (v := .int (f_312 22)) (C := RX12) (T := TX12) (N := 48) hx hb hg inC12 hown hK hP 0 rfl rfl 22 (by decide) (hg _ wt5_182) (fun _ h9 => h9) rfl dX12_partOf_84 ?_
            refine k_top (z := t308) (show f_312 22 = t308 from by rw [← ef_312]; rfl) ?_
            refine lv_iadd hx hb dX12_partOf_87 ?_
            refine lv_topi (fun t323 et323 => ?_)
            have b324 : kb 2914 t323 5713 := kb_eq et323 (kb_add kc_2914 b311 (by decide) (by decide))
            have qt323 : t323.toInt = 2914 + t308.toInt := by rw [et323]; exact kt_cadd kc_2914 b311 (by decide) (by decide)
            refine va_iald hx hb hK hP 2 0 rfl rfl (kb_in b324 (by decide) (by decide)) dX12_partOf_88 ?_
            refine lv_topi (fun t325 et325 => ?_)
            refine lv_istore_n (lv' := [(3, .int t325), (2, .int 16), (0, .ref o), (1, .int lv)]) hx hb dX12_partOf_89 rfl hl (by decide) rfl (fun ls hl => ?_)
            refine lv_aload_n hx hb dX12_partOf_90 rfl (lv_at hl 2 rfl) ?_
            refine lv_dup hx hb dX12_partOf_91 rfl ?_
            refine va_get (D := D) (ci := 12) (v := .int (f_312 22)) (C := RX12) (T := TX12) (N := 48) hx hb hg inC12 hown hK hP 0 rfl rfl 22 (by decide) (hg _ wt5_182) (fun _ h9 => h9) rfl dX12_partOf_92 ?_
            refine k_top (z := t308) (show f_312 22 = t308 from by rw [← ef_312]; rfl) ?_
            refine lv_iconst (v := 1) hx hb dX12_partOf_95 (by decide) ?_
            refine lv_iadd hx hb dX12_partOf_96 ?_
            refine lv_topi (fun t326 et326 => ?_)
            have b327 : kb 1 t326 2800 := kb_eq et326 (kb_add b311 kc_1 (by decide) (by decide))
            have qt326 : t326.toInt = t308.toInt + 1 := by rw [et326]; exact kt_addc b311 kc_1 (by decide) (by decide)
            have hg328 : t326.toInt = 400 * (t : Int) + ((i + 1 + 1 : Nat) : Int) := by rw [qt326, hg310]; omega
            refine va_put (D := D) (ci := 12) (v := .int t326) (ty := .int) (C := RX12) (T := TX12) (N := 48) hx hb hg inC12 tyX12 tyX12_ok nmX12 hown hK hP hD hS 0 rfl rfl 22 (by decide) (hg _ wt5_182) (fun _ h9 => h9) rfl (by decide +kernel) rfl rfl (Nat.le_of_ble_eq_true rfl) dX12_partOf_97 (fun H locs hP hD hS => ?_)
            have hP : va_P D vwCl (mW K o r (upd f_312 22 t326) a g) H := hP
            have hD : va_D A (mW K o r (upd f_312 22 t326) a g) := hD
            refine k_gen (P := fun z => va_P D vwCl (mW K o r z a g) H ∧ va_D A (mW K o r z a g) ∧ (mI z a) ∧ (fE [22, 24] f z)) (upd f_312 22 t326) ⟨hP, hD, (mI_f hI (fI_st hI.1 22 (kb_any _) (by decide) (by decide))), (fE_f hE (by decide))⟩ (fun f_329 ef_329 hq => ?_)
            obtain ⟨hP, hD, hI, hE⟩ := hq
            refine lv_iload_n hx hb dX12_partOf_100 rfl (lv_at hl 3 rfl) ?_
            refine lv_if_eq (tgt := 111) hx hb dX12_partOf_101 (by decide) (fun c330 => ?_) (fun c330 => ?_)
            · have b331 : kb 0 lv 0 := kb_eq c330 kc_0
              refine lv_lconst (v := 0) hx hb dX12_partOf_111 (by decide) ?_
              exact kL_ret (v := 0) hx hb hr hlocks hK hS dX12_partOf_112 f_329 hP hD ⟨(kbl_w kcl_0 (by decide) (by decide)), hI, hE, (by rw [(show f_329 22 = t326 from by rw [← ef_329]; rfl), hg328]; omega)⟩
            · have b332 : kb 1 lv 1 := kr_nel c330 blv kc_0 (by decide)
              refine lv_aload_n hx hb dX12_partOf_104 rfl (lv_at hl 2 rfl) ?_
              refine va_get (D := D) (ci := 12) (v := .int (f_329 24)) (C := RX12) (T := TX12) (N := 48) hx hb hg inC12 hown hK hP 0 rfl rfl 24 (by decide) (hg _ wt5_184) (fun _ h9 => h9) rfl dX12_partOf_105 ?_
              refine lv_topi (fun t333 et333 => ?_)
              have b334 : kb 0 t333 1 := kb_eq et333 (fI_at hI.1 24 (by decide) (by decide))
              refine lv_if_eq (tgt := 113) hx hb dX12_partOf_108 (by decide) (fun c335 => ?_) (fun c335 => ?_)
              · have b336 : kb 0 t333 0 := kb_eq c335 kc_0
                refine lv_iload_n hx hb dX12_partOf_113 rfl (lv_at hl 1 rfl) ?_
                refine lv_bipush (v := 50) hx hb dX12_partOf_114 (by decide) ?_
                refine lv_icmp_ne (tgt := 136) hx hb dX12_partOf_116 (by decide) (fun c337 => ?_) (fun c337 => ?_)
                · refine lv_aload_n hx hb dX12_partOf_136 rfl (lv_at hl 2 rfl) ?_
                  refine va_get (D := D) (ci := 12) (v := .int (f_329 25)) (C := RX12) (T := TX12) (N := 48) hx hb hg inC12 hown hK hP 0 rfl rfl 25 (by decide) (hg _ wt5_185) (fun _ h9 => h9) rfl dX12_partOf_137 ?_
                  refine k_top (z := 1) ((show f_329 25 = f_312 25 from by rw [← ef_329]; rfl).trans ((show f_312 25 = u298 25 from by rw [← ef_312]; rfl).trans ((eE299 25 (by decide)).trans hp0.2.2.1))) ?_
                  refine lv_if_eq (tgt := 153) hx hb dX12_partOf_140 (by decide) (fun c338 => ?_) (fun c338 => ?_)
                  · exact kb_dj c338 kc_1 kc_0 (by decide)
                  · refine lv_aload_n hx hb dX12_partOf_143 rfl (lv_at hl 2 rfl) ?_
                    refine lv_iload_n hx hb dX12_partOf_144 rfl (lv_at hl 1 rfl) ?_
                    refine lv_iload_n hx hb dX12_partOf_145 rfl (lv_at hl 0 rfl) ?_
                    refine kI.callV (As := [.int 16, .int t325]) (rest := []) ⟨hx, hb, hml, hown, hg⟩ (m_orderValue l o r f_329 a g hI 16 t325 (kb_w kc_16 (by decide) (by decide)) ) (cwV 2 hg (kgV wt7_67 wt7_69 wp5_13 wt1_14 wt7_70) rfl rfl rfl (by decide +kernel) ⟨by dsimp only [rmD]; omega, by dsimp only [rmD]; omega⟩) hK hP hD hS hA mIs [] rfl (wr := []) rfl rfl rfl (fun i h => by cases h) 0 12 rfl rfl rfl hl.1 rfl (Nat.le_of_ble_eq_true rfl) dX12_partOf_146 ⟨Nat.le_refl _, Nat.le_refl _⟩ (fun v340 u341 H locs hw339 hP hD hS => ?_)
                    have hP : va_P D vwCl (mW K o r f_329 a g) H := hP
                    have hD : va_D A (mW K o r f_329 a g) := hD
                    refine lv_i2l hx hb dX12_partOf_149 rfl ?_
                    refine lv_topl (fun t342 et342 => ?_)
                    refine lv_goto (tgt := 163) hx hb dX12_partOf_150 (by decide) ?_
                    exact kL_ret (v := t342) hx hb hr hlocks hK hS dX12_partOf_163 f_329 hP hD ⟨(kbl_any t342), hI, hE, (by rw [(show f_329 22 = t326 from by rw [← ef_329]; rfl), hg328]; omega)⟩
                · exact kb_dj c337 kc_16 kc_50 (by decide)
              · have b343 : kb 1 t333 1 := kr_nel c335 b334 kc_0 (by decide)
                refine lv_lconst (v := 0) hx hb dX12_partOf_111 (by decide) ?_
                exact kL_ret (v := 0) hx hb hr hlocks hK hS dX12_partOf_112 f_329 hP hD ⟨(kbl_w kcl_0 (by decide) (by decide)), hI, hE, (by rw [(show f_329 22 = t326 from by rw [← ef_329]; rfl), hg328]; omega)⟩
          · exact kb_nsame c322 kc_16 kc_16
      · exact kb_nsame c304 kc_0 kc_0
    · have b344 : kb 0 c22 2799 := kb_go (eS_fE hE hp0 (by decide) (by decide)) (mC_lt (eS_fE hE hp0 (by decide) (by decide)) (ne_0 h1 (by decide +kernel))) hg0
      refine lv_aload_n hx hb dX12_partOf_0 rfl (lv_at hl 0 rfl) ?_
      refine lv_bipush (v := 91) hx hb dX12_partOf_1 (by decide) ?_
      refine kN.callS (As := [.int 91]) (rest := [.ref o]) ⟨hx, hb, hml, hown, hg⟩ (m_sign l 91 (kb_w kc_91 (by decide) (by decide))) (va_cwS 1 hg (kgS wt6_220 wt6_221 wt1_14 wt6_222) rfl rfl rfl (by decide +kernel) ⟨by dsimp only [rmD]; omega, by dsimp only [rmD]; omega⟩) hP hS rfl hl.1 rfl (Nat.le_of_ble_eq_true rfl) dX12_partOf_3 ⟨Nat.le_refl _, Nat.le_refl _⟩ (fun v346 H locs hw345 hP hS => ?_)
      refine k_top (z := 191) (Int32.toInt_inj.mp (hw345.2.trans (by decide +kernel))) ?_
      refine kI.callV (As := [.int 191]) (rest := []) ⟨hx, hb, hml, hown, hg⟩ (m_passes0 l o r f a g hI 191 (kb_w kc_191 (by decide) (by decide)) t (i) true (eS_fE hE hp0 (by decide) (by decide)) (by rw [ec22.symm]; exact hg0)) (cwV 1 hg (kgV wt7_63 wt7_65 wp5_12 wt1_14 wt7_66) rfl rfl rfl (by decide +kernel) ⟨by dsimp only [rmD]; omega, by dsimp only [rmD]; omega⟩) hK hP hD hS hA mIs [] rfl (wr := []) rfl rfl rfl (fun i h => by cases h) 0 12 rfl rfl rfl hl.1 rfl (Nat.le_of_ble_eq_true rfl) dX12_partOf_6 ⟨Nat.le_refl _, Nat.le_refl _⟩ (fun v349 u350 H locs hw348 hP hD hS => ?_)
      have hP : va_P D vwCl (mW K o r u350 a g) H := hP
      have hD : va_D A (mW K o r u350 a g) := hD
      have hI : mI u350 a := hw348.2.1
      have eE351 : fE [22] f u350 := hw348.2.2.1
      have hE : fE [22, 24] f u350 := fE_tr hE (fE_w (by decide) eE351)
      have hz352 := pass_n hw348.2.2.2 (fun q => absurd (h1.symm.trans q) (by decide +kernel))
      refine k_top (z := 0) hz352.1 ?_
      obtain ⟨gv353, egv353⟩ : ∃ z : Int32, z = u350 22 := ⟨_, rfl⟩
      have hg354 : gv353.toInt = 400 * (t : Int) + ((i : Nat) : Int) := by rw [egv353]; exact hz352.2
      have b355 : kb 0 gv353 2799 := kb_go (eS_fE hE hp0 (by decide) (by decide)) (mC_lt (eS_fE hE hp0 (by decide) (by decide)) (ne_0 h1 (by decide +kernel))) hg354
      refine lv_if_eq (tgt := 30) hx hb dX12_partOf_9 (by decide) (fun c356 => ?_) (fun c356 => ?_)
      · refine lv_aload_n hx hb dX12_partOf_30 rfl (lv_at hl 0 rfl) ?_
        refine lv_aload_n hx hb dX12_partOf_31 rfl (lv_at hl 0 rfl) ?_
        refine va_get (D := D) (ci := 12) (v := .int (u350 22)) (C := RX12) (T := TX12) (N := 48) hx hb hg inC12 hown hK hP 0 rfl rfl 22 (by decide) (hg _ wt5_182) (fun _ h9 => h9) rfl dX12_partOf_32 ?_
        refine k_top (z := gv353) egv353.symm ?_
        refine kI.callV (As := [.int gv353]) (rest := []) ⟨hx, hb, hml, hown, hg⟩ (m_codeAt l o r u350 a g hI gv353  t (i) true (eS_fE hE hp0 (by decide) (by decide)) hg354) (cwV 1 hg (kgV wt7_47 wt7_49 wp5_8 wt1_14 wt7_50) rfl rfl rfl (by decide +kernel) ⟨by dsimp only [rmD]; omega, by dsimp only [rmD]; omega⟩) hK hP hD hS hA mIs [] rfl (wr := []) rfl rfl rfl (fun i h => by cases h) 0 12 rfl rfl rfl hl.1 rfl (Nat.le_of_ble_eq_true rfl) dX12_partOf_35 ⟨Nat.le_refl _, Nat.le_refl _⟩ (fun v358 u359 H locs hw357 hP hD hS => ?_)
        have hP : va_P D vwCl (mW K o r u350 a g) H := hP
        have hD : va_D A (mW K o r u350 a g) := hD
        refine k_top (z := 17) (hw357.2.trans h1) ?_
        refine lv_istore_n (lv' := [(2, .int 17), (0, .ref o), (1, .int lv)]) hx hb dX12_partOf_38 rfl hl (by decide) rfl (fun ls hl => ?_)
        refine lv_iconst (v := 0) hx hb dX12_partOf_39 (by decide) ?_
        refine lv_istore_n (lv' := [(3, .int 0), (2, .int 17), (0, .ref o), (1, .int lv)]) hx hb dX12_partOf_40 rfl hl (by decide) rfl (fun ls hl => ?_)
        refine lv_aload_n hx hb dX12_partOf_41 rfl (lv_at hl 2 rfl) ?_
        refine lv_dup hx hb dX12_partOf_42 rfl ?_
        refine va_get (D := D) (ci := 12) (v := .int (u350 22)) (C := RX12) (T := TX12) (N := 48) hx hb hg inC12 hown hK hP 0 rfl rfl 22 (by decide) (hg _ wt5_182) (fun _ h9 => h9) rfl dX12_partOf_43 ?_
        refine k_top (z := gv353) egv353.symm ?_
        refine lv_iconst (v := 1) hx hb dX12_partOf_46 (by decide) ?_
        refine lv_iadd hx hb dX12_partOf_47 ?_
        refine lv_topi (fun t360 et360 => ?_)
        have b361 : kb 1 t360 2800 := kb_eq et360 (kb_add b355 kc_1 (by decide) (by decide))
        have qt360 : t360.toInt = gv353.toInt + 1 := by rw [et360]; exact kt_addc b355 kc_1 (by decide) (by decide)
        have hg362 : t360.toInt = 400 * (t : Int) + ((i + 1 : Nat) : Int) := by rw [qt360, hg354]; omega
        have b363 : kb 0 t360 2799 := kb_go (eS_fE hE hp0 (by decide) (by decide)) (mC_lt (eS_fE hE hp0 (by decide) (by decide)) (ne_0 h2 (by decide +kernel))) hg362
        refine va_put (D := D) (ci := 12) (v := .int t360) (ty := .int) (C := RX12) (T := TX12) (N := 48) hx hb hg inC12 tyX12 tyX12_ok nmX12 hown hK hP hD hS 0 rfl rfl 22 (by decide) (hg _ wt5_182) (fun _ h9 => h9) rfl (by decide +kernel) rfl rfl (Nat.le_of_ble_eq_true rfl) dX12_partOf_48 (fun H locs hP hD hS => ?_)
        have hP : va_P D vwCl (mW K o r (upd u350 22 t360) a g) H := hP
        have hD : va_D A (mW K o r (upd u350 22 t360) a g) := hD
        refine k_gen (P := fun z => va_P D vwCl (mW K o r z a g) H ∧ va_D A (mW K o r z a g) ∧ (mI z a) ∧ (fE [22, 24] f z)) (upd u350 22 t360) ⟨hP, hD, (mI_f hI (fI_st hI.1 22 (kb_any _) (by decide) (by decide))), (fE_f hE (by decide))⟩ (fun f_364 ef_364 hq => ?_)
        obtain ⟨hP, hD, hI, hE⟩ := hq
        refine lv_aload_n hx hb dX12_partOf_51 rfl (lv_at hl 2 rfl) ?_
        refine va_get (D := D) (ci := 12) (v := .int (f_364 25)) (C := RX12) (T := TX12) (N := 48) hx hb hg inC12 hown hK hP 0 rfl rfl 25 (by decide) (hg _ wt5_185) (fun _ h9 => h9) rfl dX12_partOf_52 ?_
        refine k_top (z := 1) ((show f_364 25 = u350 25 from by rw [← ef_364]; rfl).trans ((eE351 25 (by decide)).trans hp0.2.2.1)) ?_
        refine lv_if_eq (tgt := 100) hx hb dX12_partOf_55 (by decide) (fun c375 => ?_) (fun c375 => ?_)
        · exact kb_dj c375 kc_1 kc_0 (by decide)
        · refine lv_iload_n hx hb dX12_partOf_58 rfl (lv_at hl 1 rfl) ?_
          refine lv_bipush (v := 16) hx hb dX12_partOf_59 (by decide) ?_
          refine lv_icmp_eq (tgt := 76) hx hb dX12_partOf_61 (by decide) (fun c377 => ?_) (fun c377 => ?_)
          · exact kb_dj c377 kc_17 kc_16 (by decide)
          · refine lv_iload_n hx hb dX12_partOf_64 rfl (lv_at hl 1 rfl) ?_
            refine lv_bipush (v := 17) hx hb dX12_partOf_65 (by decide) ?_
            refine lv_icmp_eq (tgt := 76) hx hb dX12_partOf_67 (by decide) (fun c378 => ?_) (fun c378 => ?_)
            · refine lv_aload_n hx hb dX12_partOf_76 rfl (lv_at hl 2 rfl) ?_
              refine va_get (D := D) (ci := 12) (v := .ref (r 2)) (C := RX12) (T := TX12) (N := 48) hx hb hg inC12 hown hK hP 0 rfl rfl 2 (by decide) (hg _ wt5_162) (fun _ h9 => h9) rfl dX12_partOf_77 ?_
              refine lv_sipush (v := 2914) hx hb dX12_partOf_80 (by decide) ?_
              refine lv_aload_n hx hb dX12_partOf_83 rfl (lv_at hl 2 rfl) ?_
              refine va_get (D := D) (ci := 12) (v := .int (f_364 22)) (C := RX12) (T := TX12) (N := 48) hx hb hg inC12 hown hK hP 0 rfl rfl 22 (by decide) (hg _ wt5_182) (fun _ h9 => h9) rfl dX12_partOf_84 ?_
              refine k_top (z := t360) (show f_364 22 = t360 from by rw [← ef_364]; rfl) ?_
              refine lv_iadd hx hb dX12_partOf_87 ?_
              refine lv_topi (fun t379 et379 => ?_)
              have b380 : kb 2914 t379 5713 := kb_eq et379 (kb_add kc_2914 b363 (by decide) (by decide))
              have qt379 : t379.toInt = 2914 + t360.toInt := by rw [et379]; exact kt_cadd kc_2914 b363 (by decide) (by decide)
              refine va_iald hx hb hK hP 2 0 rfl rfl (kb_in b380 (by decide) (by decide)) dX12_partOf_88 ?_
              refine lv_topi (fun t381 et381 => ?_)
              refine lv_istore_n (lv' := [(3, .int t381), (2, .int 17), (0, .ref o), (1, .int lv)]) hx hb dX12_partOf_89 rfl hl (by decide) rfl (fun ls hl => ?_)
              refine lv_aload_n hx hb dX12_partOf_90 rfl (lv_at hl 2 rfl) ?_
              refine lv_dup hx hb dX12_partOf_91 rfl ?_
              refine va_get (D := D) (ci := 12) (v := .int (f_364 22)) (C := RX12) (T := TX12) (N := 48) hx hb hg inC12 hown hK hP 0 rfl rfl 22 (by decide) (hg _ wt5_182) (fun _ h9 => h9) rfl dX12_partOf_92 ?_
              refine k_top (z := t360) (show f_364 22 = t360 from by rw [← ef_364]; rfl) ?_
              refine lv_iconst (v := 1) hx hb dX12_partOf_95 (by decide) ?_
              refine lv_iadd hx hb dX12_partOf_96 ?_
              refine lv_topi (fun t382 et382 => ?_)
              have b383 : kb 1 t382 2800 := kb_eq et382 (kb_add b363 kc_1 (by decide) (by decide))
              have qt382 : t382.toInt = t360.toInt + 1 := by rw [et382]; exact kt_addc b363 kc_1 (by decide) (by decide)
              have hg384 : t382.toInt = 400 * (t : Int) + ((i + 1 + 1 : Nat) : Int) := by rw [qt382, hg362]; omega
              refine va_put (D := D) (ci := 12) (v := .int t382) (ty := .int) (C := RX12) (T := TX12) (N := 48) hx hb hg inC12 tyX12 tyX12_ok nmX12 hown hK hP hD hS 0 rfl rfl 22 (by decide) (hg _ wt5_182) (fun _ h9 => h9) rfl (by decide +kernel) rfl rfl (Nat.le_of_ble_eq_true rfl) dX12_partOf_97 (fun H locs hP hD hS => ?_)
              have hP : va_P D vwCl (mW K o r (upd f_364 22 t382) a g) H := hP
              have hD : va_D A (mW K o r (upd f_364 22 t382) a g) := hD
              refine k_gen (P := fun z => va_P D vwCl (mW K o r z a g) H ∧ va_D A (mW K o r z a g) ∧ (mI z a) ∧ (fE [22, 24] f z)) (upd f_364 22 t382) ⟨hP, hD, (mI_f hI (fI_st hI.1 22 (kb_any _) (by decide) (by decide))), (fE_f hE (by decide))⟩ (fun f_385 ef_385 hq => ?_)
              obtain ⟨hP, hD, hI, hE⟩ := hq
              refine lv_iload_n hx hb dX12_partOf_100 rfl (lv_at hl 3 rfl) ?_
              refine lv_if_eq (tgt := 111) hx hb dX12_partOf_101 (by decide) (fun c386 => ?_) (fun c386 => ?_)
              · have b387 : kb 0 lv 0 := kb_eq c386 kc_0
                refine lv_lconst (v := 0) hx hb dX12_partOf_111 (by decide) ?_
                exact kL_ret (v := 0) hx hb hr hlocks hK hS dX12_partOf_112 f_385 hP hD ⟨(kbl_w kcl_0 (by decide) (by decide)), hI, hE, (by rw [(show f_385 22 = t382 from by rw [← ef_385]; rfl), hg384]; omega)⟩
              · have b388 : kb 1 lv 1 := kr_nel c386 blv kc_0 (by decide)
                refine lv_aload_n hx hb dX12_partOf_104 rfl (lv_at hl 2 rfl) ?_
                refine va_get (D := D) (ci := 12) (v := .int (f_385 24)) (C := RX12) (T := TX12) (N := 48) hx hb hg inC12 hown hK hP 0 rfl rfl 24 (by decide) (hg _ wt5_184) (fun _ h9 => h9) rfl dX12_partOf_105 ?_
                refine lv_topi (fun t389 et389 => ?_)
                have b390 : kb 0 t389 1 := kb_eq et389 (fI_at hI.1 24 (by decide) (by decide))
                refine lv_if_eq (tgt := 113) hx hb dX12_partOf_108 (by decide) (fun c391 => ?_) (fun c391 => ?_)
                · have b392 : kb 0 t389 0 := kb_eq c391 kc_0
                  refine lv_iload_n hx hb dX12_partOf_113 rfl (lv_at hl 1 rfl) ?_
                  refine lv_bipush (v := 50) hx hb dX12_partOf_114 (by decide) ?_
                  refine lv_icmp_ne (tgt := 136) hx hb dX12_partOf_116 (by decide) (fun c393 => ?_) (fun c393 => ?_)
                  · refine lv_aload_n hx hb dX12_partOf_136 rfl (lv_at hl 2 rfl) ?_
                    refine va_get (D := D) (ci := 12) (v := .int (f_385 25)) (C := RX12) (T := TX12) (N := 48) hx hb hg inC12 hown hK hP 0 rfl rfl 25 (by decide) (hg _ wt5_185) (fun _ h9 => h9) rfl dX12_partOf_137 ?_
                    refine k_top (z := 1) ((show f_385 25 = f_364 25 from by rw [← ef_385]; rfl).trans ((show f_364 25 = u350 25 from by rw [← ef_364]; rfl).trans ((eE351 25 (by decide)).trans hp0.2.2.1))) ?_
                    refine lv_if_eq (tgt := 153) hx hb dX12_partOf_140 (by decide) (fun c394 => ?_) (fun c394 => ?_)
                    · exact kb_dj c394 kc_1 kc_0 (by decide)
                    · refine lv_aload_n hx hb dX12_partOf_143 rfl (lv_at hl 2 rfl) ?_
                      refine lv_iload_n hx hb dX12_partOf_144 rfl (lv_at hl 1 rfl) ?_
                      refine lv_iload_n hx hb dX12_partOf_145 rfl (lv_at hl 0 rfl) ?_
                      refine kI.callV (As := [.int 17, .int t381]) (rest := []) ⟨hx, hb, hml, hown, hg⟩ (m_orderValue l o r f_385 a g hI 17 t381 (kb_w kc_17 (by decide) (by decide)) ) (cwV 2 hg (kgV wt7_67 wt7_69 wp5_13 wt1_14 wt7_70) rfl rfl rfl (by decide +kernel) ⟨by dsimp only [rmD]; omega, by dsimp only [rmD]; omega⟩) hK hP hD hS hA mIs [] rfl (wr := []) rfl rfl rfl (fun i h => by cases h) 0 12 rfl rfl rfl hl.1 rfl (Nat.le_of_ble_eq_true rfl) dX12_partOf_146 ⟨Nat.le_refl _, Nat.le_refl _⟩ (fun v396 u397 H locs hw395 hP hD hS => ?_)
                      have hP : va_P D vwCl (mW K o r f_385 a g) H := hP
                      have hD : va_D A (mW K o r f_385 a g) := hD
                      refine lv_i2l hx hb dX12_partOf_149 rfl ?_
                      refine lv_topl (fun t398 et398 => ?_)
                      refine lv_goto (tgt := 163) hx hb dX12_partOf_150 (by decide) ?_
                      exact kL_ret (v := t398) hx hb hr hlocks hK hS dX12_partOf_163 f_385 hP hD ⟨(kbl_any t398), hI, hE, (by rw [(show f_385 22 = t382 from by rw [← ef_385]; rfl), hg384]; omega)⟩
                  · exact kb_dj c393 kc_17 kc_50 (by decide)
                · have b399 : kb 1 t389 1 := kr_nel c391 b390 kc_0 (by decide)
                  refine lv_lconst (v := 0) hx hb dX12_partOf_111 (by decide) ?_
                  exact kL_ret (v := 0) hx hb hr hlocks hK hS dX12_partOf_112 f_385 hP hD ⟨(kbl_w kcl_0 (by decide) (by decide)), hI, hE, (by rw [(show f_385 22 = t382 from by rw [← ef_385]; rfl), hg384]; omega)⟩
            · exact kb_nsame c378 kc_17 kc_17
      · exact kb_nsame c356 kc_0 kc_0
    · have b400 : kb 0 c22 2799 := kb_go (eS_fE hE hp0 (by decide) (by decide)) (mC_lt (eS_fE hE hp0 (by decide) (by decide)) (ne_0 h1 (by decide +kernel))) hg0
      refine lv_aload_n hx hb dX12_partOf_0 rfl (lv_at hl 0 rfl) ?_
      refine lv_bipush (v := 91) hx hb dX12_partOf_1 (by decide) ?_
      refine kN.callS (As := [.int 91]) (rest := [.ref o]) ⟨hx, hb, hml, hown, hg⟩ (m_sign l 91 (kb_w kc_91 (by decide) (by decide))) (va_cwS 1 hg (kgS wt6_220 wt6_221 wt1_14 wt6_222) rfl rfl rfl (by decide +kernel) ⟨by dsimp only [rmD]; omega, by dsimp only [rmD]; omega⟩) hP hS rfl hl.1 rfl (Nat.le_of_ble_eq_true rfl) dX12_partOf_3 ⟨Nat.le_refl _, Nat.le_refl _⟩ (fun v402 H locs hw401 hP hS => ?_)
      refine k_top (z := 191) (Int32.toInt_inj.mp (hw401.2.trans (by decide +kernel))) ?_
      refine kI.callV (As := [.int 191]) (rest := []) ⟨hx, hb, hml, hown, hg⟩ (m_passes0 l o r f a g hI 191 (kb_w kc_191 (by decide) (by decide)) t (i) true (eS_fE hE hp0 (by decide) (by decide)) (by rw [ec22.symm]; exact hg0)) (cwV 1 hg (kgV wt7_63 wt7_65 wp5_12 wt1_14 wt7_66) rfl rfl rfl (by decide +kernel) ⟨by dsimp only [rmD]; omega, by dsimp only [rmD]; omega⟩) hK hP hD hS hA mIs [] rfl (wr := []) rfl rfl rfl (fun i h => by cases h) 0 12 rfl rfl rfl hl.1 rfl (Nat.le_of_ble_eq_true rfl) dX12_partOf_6 ⟨Nat.le_refl _, Nat.le_refl _⟩ (fun v405 u406 H locs hw404 hP hD hS => ?_)
      have hP : va_P D vwCl (mW K o r u406 a g) H := hP
      have hD : va_D A (mW K o r u406 a g) := hD
      have hI : mI u406 a := hw404.2.1
      have eE407 : fE [22] f u406 := hw404.2.2.1
      have hE : fE [22, 24] f u406 := fE_tr hE (fE_w (by decide) eE407)
      have hz408 := pass_n hw404.2.2.2 (fun q => absurd (h1.symm.trans q) (by decide +kernel))
      refine k_top (z := 0) hz408.1 ?_
      obtain ⟨gv409, egv409⟩ : ∃ z : Int32, z = u406 22 := ⟨_, rfl⟩
      have hg410 : gv409.toInt = 400 * (t : Int) + ((i : Nat) : Int) := by rw [egv409]; exact hz408.2
      have b411 : kb 0 gv409 2799 := kb_go (eS_fE hE hp0 (by decide) (by decide)) (mC_lt (eS_fE hE hp0 (by decide) (by decide)) (ne_0 h1 (by decide +kernel))) hg410
      refine lv_if_eq (tgt := 30) hx hb dX12_partOf_9 (by decide) (fun c412 => ?_) (fun c412 => ?_)
      · refine lv_aload_n hx hb dX12_partOf_30 rfl (lv_at hl 0 rfl) ?_
        refine lv_aload_n hx hb dX12_partOf_31 rfl (lv_at hl 0 rfl) ?_
        refine va_get (D := D) (ci := 12) (v := .int (u406 22)) (C := RX12) (T := TX12) (N := 48) hx hb hg inC12 hown hK hP 0 rfl rfl 22 (by decide) (hg _ wt5_182) (fun _ h9 => h9) rfl dX12_partOf_32 ?_
        refine k_top (z := gv409) egv409.symm ?_
        refine kI.callV (As := [.int gv409]) (rest := []) ⟨hx, hb, hml, hown, hg⟩ (m_codeAt l o r u406 a g hI gv409  t (i) true (eS_fE hE hp0 (by decide) (by decide)) hg410) (cwV 1 hg (kgV wt7_47 wt7_49 wp5_8 wt1_14 wt7_50) rfl rfl rfl (by decide +kernel) ⟨by dsimp only [rmD]; omega, by dsimp only [rmD]; omega⟩) hK hP hD hS hA mIs [] rfl (wr := []) rfl rfl rfl (fun i h => by cases h) 0 12 rfl rfl rfl hl.1 rfl (Nat.le_of_ble_eq_true rfl) dX12_partOf_35 ⟨Nat.le_refl _, Nat.le_refl _⟩ (fun v414 u415 H locs hw413 hP hD hS => ?_)
        have hP : va_P D vwCl (mW K o r u406 a g) H := hP
        have hD : va_D A (mW K o r u406 a g) := hD
        refine k_top (z := 22) (hw413.2.trans h1) ?_
        refine lv_istore_n (lv' := [(2, .int 22), (0, .ref o), (1, .int lv)]) hx hb dX12_partOf_38 rfl hl (by decide) rfl (fun ls hl => ?_)
        refine lv_iconst (v := 0) hx hb dX12_partOf_39 (by decide) ?_
        refine lv_istore_n (lv' := [(3, .int 0), (2, .int 22), (0, .ref o), (1, .int lv)]) hx hb dX12_partOf_40 rfl hl (by decide) rfl (fun ls hl => ?_)
        refine lv_aload_n hx hb dX12_partOf_41 rfl (lv_at hl 2 rfl) ?_
        refine lv_dup hx hb dX12_partOf_42 rfl ?_
        refine va_get (D := D) (ci := 12) (v := .int (u406 22)) (C := RX12) (T := TX12) (N := 48) hx hb hg inC12 hown hK hP 0 rfl rfl 22 (by decide) (hg _ wt5_182) (fun _ h9 => h9) rfl dX12_partOf_43 ?_
        refine k_top (z := gv409) egv409.symm ?_
        refine lv_iconst (v := 1) hx hb dX12_partOf_46 (by decide) ?_
        refine lv_iadd hx hb dX12_partOf_47 ?_
        refine lv_topi (fun t416 et416 => ?_)
        have b417 : kb 1 t416 2800 := kb_eq et416 (kb_add b411 kc_1 (by decide) (by decide))
        have qt416 : t416.toInt = gv409.toInt + 1 := by rw [et416]; exact kt_addc b411 kc_1 (by decide) (by decide)
        have hg418 : t416.toInt = 400 * (t : Int) + ((i + 1 : Nat) : Int) := by rw [qt416, hg410]; omega
        have b419 : kb 0 t416 2799 := kb_go (eS_fE hE hp0 (by decide) (by decide)) (mC_lt (eS_fE hE hp0 (by decide) (by decide)) (ne_0 h2 (by decide +kernel))) hg418
        refine va_put (D := D) (ci := 12) (v := .int t416) (ty := .int) (C := RX12) (T := TX12) (N := 48) hx hb hg inC12 tyX12 tyX12_ok nmX12 hown hK hP hD hS 0 rfl rfl 22 (by decide) (hg _ wt5_182) (fun _ h9 => h9) rfl (by decide +kernel) rfl rfl (Nat.le_of_ble_eq_true rfl) dX12_partOf_48 (fun H locs hP hD hS => ?_)
        have hP : va_P D vwCl (mW K o r (upd u406 22 t416) a g) H := hP
        have hD : va_D A (mW K o r (upd u406 22 t416) a g) := hD
        refine k_gen (P := fun z => va_P D vwCl (mW K o r z a g) H ∧ va_D A (mW K o r z a g) ∧ (mI z a) ∧ (fE [22, 24] f z)) (upd u406 22 t416) ⟨hP, hD, (mI_f hI (fI_st hI.1 22 (kb_any _) (by decide) (by decide))), (fE_f hE (by decide))⟩ (fun f_420 ef_420 hq => ?_)
        obtain ⟨hP, hD, hI, hE⟩ := hq
        refine lv_aload_n hx hb dX12_partOf_51 rfl (lv_at hl 2 rfl) ?_
        refine va_get (D := D) (ci := 12) (v := .int (f_420 25)) (C := RX12) (T := TX12) (N := 48) hx hb hg inC12 hown hK hP 0 rfl rfl 25 (by decide) (hg _ wt5_185) (fun _ h9 => h9) rfl dX12_partOf_52 ?_
        refine k_top (z := 1) ((show f_420 25 = u406 25 from by rw [← ef_420]; rfl).trans ((eE407 25 (by decide)).trans hp0.2.2.1)) ?_
        refine lv_if_eq (tgt := 100) hx hb dX12_partOf_55 (by decide) (fun c434 => ?_) (fun c434 => ?_)
        · exact kb_dj c434 kc_1 kc_0 (by decide)
        · refine lv_iload_n hx hb dX12_partOf_58 rfl (lv_at hl 1 rfl) ?_
          refine lv_bipush (v := 16) hx hb dX12_partOf_59 (by decide) ?_
          refine lv_icmp_eq (tgt := 76) hx hb dX12_partOf_61 (by decide) (fun c437 => ?_) (fun c437 => ?_)
          · exact kb_dj c437 kc_22 kc_16 (by decide)
          · refine lv_iload_n hx hb dX12_partOf_64 rfl (lv_at hl 1 rfl) ?_
            refine lv_bipush (v := 17) hx hb dX12_partOf_65 (by decide) ?_
            refine lv_icmp_eq (tgt := 76) hx hb dX12_partOf_67 (by decide) (fun c439 => ?_) (fun c439 => ?_)
            · exact kb_dj c439 kc_22 kc_17 (by decide)
            · refine lv_iload_n hx hb dX12_partOf_70 rfl (lv_at hl 1 rfl) ?_
              refine lv_bipush (v := 22) hx hb dX12_partOf_71 (by decide) ?_
              refine lv_icmp_ne (tgt := 100) hx hb dX12_partOf_73 (by decide) (fun c447 => ?_) (fun c447 => ?_)
              · exact kb_nsame c447 kc_22 kc_22
              · refine lv_aload_n hx hb dX12_partOf_76 rfl (lv_at hl 2 rfl) ?_
                refine va_get (D := D) (ci := 12) (v := .ref (r 2)) (C := RX12) (T := TX12) (N := 48) hx hb hg inC12 hown hK hP 0 rfl rfl 2 (by decide) (hg _ wt5_162) (fun _ h9 => h9) rfl dX12_partOf_77 ?_
                refine lv_sipush (v := 2914) hx hb dX12_partOf_80 (by decide) ?_
                refine lv_aload_n hx hb dX12_partOf_83 rfl (lv_at hl 2 rfl) ?_
                refine va_get (D := D) (ci := 12) (v := .int (f_420 22)) (C := RX12) (T := TX12) (N := 48) hx hb hg inC12 hown hK hP 0 rfl rfl 22 (by decide) (hg _ wt5_182) (fun _ h9 => h9) rfl dX12_partOf_84 ?_
                refine k_top (z := t416) (show f_420 22 = t416 from by rw [← ef_420]; rfl) ?_
                refine lv_iadd hx hb dX12_partOf_87 ?_
                refine lv_topi (fun t448 et448 => ?_)
                have b449 : kb 2914 t448 5713 := kb_eq et448 (kb_add kc_2914 b419 (by decide) (by decide))
                have qt448 : t448.toInt = 2914 + t416.toInt := by rw [et448]; exact kt_cadd kc_2914 b419 (by decide) (by decide)
                refine va_iald hx hb hK hP 2 0 rfl rfl (kb_in b449 (by decide) (by decide)) dX12_partOf_88 ?_
                refine lv_topi (fun t450 et450 => ?_)
                refine lv_istore_n (lv' := [(3, .int t450), (2, .int 22), (0, .ref o), (1, .int lv)]) hx hb dX12_partOf_89 rfl hl (by decide) rfl (fun ls hl => ?_)
                refine lv_aload_n hx hb dX12_partOf_90 rfl (lv_at hl 2 rfl) ?_
                refine lv_dup hx hb dX12_partOf_91 rfl ?_
                refine va_get (D := D) (ci := 12) (v := .int (f_420 22)) (C := RX12) (T := TX12) (N := 48) hx hb hg inC12 hown hK hP 0 rfl rfl 22 (by decide) (hg _ wt5_182) (fun _ h9 => h9) rfl dX12_partOf_92 ?_
                refine k_top (z := t416) (show f_420 22 = t416 from by rw [← ef_420]; rfl) ?_
                refine lv_iconst (v := 1) hx hb dX12_partOf_95 (by decide) ?_
                refine lv_iadd hx hb dX12_partOf_96 ?_
                refine lv_topi (fun t451 et451 => ?_)
                have b452 : kb 1 t451 2800 := kb_eq et451 (kb_add b419 kc_1 (by decide) (by decide))
                have qt451 : t451.toInt = t416.toInt + 1 := by rw [et451]; exact kt_addc b419 kc_1 (by decide) (by decide)
                have hg453 : t451.toInt = 400 * (t : Int) + ((i + 1 + 1 : Nat) : Int) := by rw [qt451, hg418]; omega
                refine va_put (D := D) (ci := 12) (v := .int t451) (ty := .int) (C := RX12) (T := TX12) (N := 48) hx hb hg inC12 tyX12 tyX12_ok nmX12 hown hK hP hD hS 0 rfl rfl 22 (by decide) (hg _ wt5_182) (fun _ h9 => h9) rfl (by decide +kernel) rfl rfl (Nat.le_of_ble_eq_true rfl) dX12_partOf_97 (fun H locs hP hD hS => ?_)
                have hP : va_P D vwCl (mW K o r (upd f_420 22 t451) a g) H := hP
                have hD : va_D A (mW K o r (upd f_420 22 t451) a g) := hD
                refine k_gen (P := fun z => va_P D vwCl (mW K o r z a g) H ∧ va_D A (mW K o r z a g) ∧ (mI z a) ∧ (fE [22, 24] f z)) (upd f_420 22 t451) ⟨hP, hD, (mI_f hI (fI_st hI.1 22 (kb_any _) (by decide) (by decide))), (fE_f hE (by decide))⟩ (fun f_454 ef_454 hq => ?_)
                obtain ⟨hP, hD, hI, hE⟩ := hq
                refine lv_iload_n hx hb dX12_partOf_100 rfl (lv_at hl 3 rfl) ?_
                refine lv_if_eq (tgt := 111) hx hb dX12_partOf_101 (by decide) (fun c455 => ?_) (fun c455 => ?_)
                · have b456 : kb 0 lv 0 := kb_eq c455 kc_0
                  refine lv_lconst (v := 0) hx hb dX12_partOf_111 (by decide) ?_
                  exact kL_ret (v := 0) hx hb hr hlocks hK hS dX12_partOf_112 f_454 hP hD ⟨(kbl_w kcl_0 (by decide) (by decide)), hI, hE, (by rw [(show f_454 22 = t451 from by rw [← ef_454]; rfl), hg453]; omega)⟩
                · have b457 : kb 1 lv 1 := kr_nel c455 blv kc_0 (by decide)
                  refine lv_aload_n hx hb dX12_partOf_104 rfl (lv_at hl 2 rfl) ?_
                  refine va_get (D := D) (ci := 12) (v := .int (f_454 24)) (C := RX12) (T := TX12) (N := 48) hx hb hg inC12 hown hK hP 0 rfl rfl 24 (by decide) (hg _ wt5_184) (fun _ h9 => h9) rfl dX12_partOf_105 ?_
                  refine lv_topi (fun t458 et458 => ?_)
                  have b459 : kb 0 t458 1 := kb_eq et458 (fI_at hI.1 24 (by decide) (by decide))
                  refine lv_if_eq (tgt := 113) hx hb dX12_partOf_108 (by decide) (fun c460 => ?_) (fun c460 => ?_)
                  · have b461 : kb 0 t458 0 := kb_eq c460 kc_0
                    refine lv_iload_n hx hb dX12_partOf_113 rfl (lv_at hl 1 rfl) ?_
                    refine lv_bipush (v := 50) hx hb dX12_partOf_114 (by decide) ?_
                    refine lv_icmp_ne (tgt := 136) hx hb dX12_partOf_116 (by decide) (fun c462 => ?_) (fun c462 => ?_)
                    · refine lv_aload_n hx hb dX12_partOf_136 rfl (lv_at hl 2 rfl) ?_
                      refine va_get (D := D) (ci := 12) (v := .int (f_454 25)) (C := RX12) (T := TX12) (N := 48) hx hb hg inC12 hown hK hP 0 rfl rfl 25 (by decide) (hg _ wt5_185) (fun _ h9 => h9) rfl dX12_partOf_137 ?_
                      refine k_top (z := 1) ((show f_454 25 = f_420 25 from by rw [← ef_454]; rfl).trans ((show f_420 25 = u406 25 from by rw [← ef_420]; rfl).trans ((eE407 25 (by decide)).trans hp0.2.2.1))) ?_
                      refine lv_if_eq (tgt := 153) hx hb dX12_partOf_140 (by decide) (fun c463 => ?_) (fun c463 => ?_)
                      · exact kb_dj c463 kc_1 kc_0 (by decide)
                      · refine lv_aload_n hx hb dX12_partOf_143 rfl (lv_at hl 2 rfl) ?_
                        refine lv_iload_n hx hb dX12_partOf_144 rfl (lv_at hl 1 rfl) ?_
                        refine lv_iload_n hx hb dX12_partOf_145 rfl (lv_at hl 0 rfl) ?_
                        refine kI.callV (As := [.int 22, .int t450]) (rest := []) ⟨hx, hb, hml, hown, hg⟩ (m_orderValue l o r f_454 a g hI 22 t450 (kb_w kc_22 (by decide) (by decide)) ) (cwV 2 hg (kgV wt7_67 wt7_69 wp5_13 wt1_14 wt7_70) rfl rfl rfl (by decide +kernel) ⟨by dsimp only [rmD]; omega, by dsimp only [rmD]; omega⟩) hK hP hD hS hA mIs [] rfl (wr := []) rfl rfl rfl (fun i h => by cases h) 0 12 rfl rfl rfl hl.1 rfl (Nat.le_of_ble_eq_true rfl) dX12_partOf_146 ⟨Nat.le_refl _, Nat.le_refl _⟩ (fun v465 u466 H locs hw464 hP hD hS => ?_)
                        have hP : va_P D vwCl (mW K o r f_454 a g) H := hP
                        have hD : va_D A (mW K o r f_454 a g) := hD
                        refine lv_i2l hx hb dX12_partOf_149 rfl ?_
                        refine lv_topl (fun t467 et467 => ?_)
                        refine lv_goto (tgt := 163) hx hb dX12_partOf_150 (by decide) ?_
                        exact kL_ret (v := t467) hx hb hr hlocks hK hS dX12_partOf_163 f_454 hP hD ⟨(kbl_any t467), hI, hE, (by rw [(show f_454 22 = t451 from by rw [← ef_454]; rfl), hg453]; omega)⟩
                    · exact kb_dj c462 kc_22 kc_50 (by decide)
                  · have b468 : kb 1 t458 1 := kr_nel c460 b459 kc_0 (by decide)
                    refine lv_lconst (v := 0) hx hb dX12_partOf_111 (by decide) ?_
                    exact kL_ret (v := 0) hx hb hr hlocks hK hS dX12_partOf_112 f_454 hP hD ⟨(kbl_w kcl_0 (by decide) (by decide)), hI, hE, (by rw [(show f_454 22 = t451 from by rw [← ef_454]; rfl), hg453]; omega)⟩
      · exact kb_nsame c412 kc_0 kc_0
set_option maxHeartbeats 4000000 in
set_option maxRecDepth 100000 in
theorem m_termOf (d : Nat) (hpart : cPart d) (l : Launch) {D : va_G} {K : Nat → ClassId} (o : Nat) (r : Nat → Nat) (f : Nat → Int32) (a : Nat → Nat → Int32) (g : Nat → Int64) (hI : mI f a) (lv : Int32) (blv : kb 0 lv 1) (t i j : Nat) (ob : Bool) (hp0 : eS f a t ob) (hp1 : (f 22).toInt = 400 * (t : Int) + (i : Int)) (hp2 : gG ob (mC (a 2) t) d 1 i j) : kL l yX12_termOf (Cond.code yX12_termOf cX12_termOf 7 (some .long) :: kG) (rmD (3 * d + 7) 0 0) D (tysK K) [.ref o, .int lv] (mW K o r f a g) (fun v (u : Nat → Int32) => kbl (-9223372036854775808) v 9223372036854775807 ∧ mI u a ∧ fE [22, 24] f u ∧ (u 22).toInt = 400 * (t : Int) + (j : Int)) (fun u => mW K o r u a g) 0 0 := by
  refine kL.of (cc := cX12_termOf) (maxL := 7) (ret := (some .long)) (by decide) rfl (Nat.le_of_ble_eq_true rfl) ?_
  intro p e s m below meth c A hx hb hr hml hown hts hlocks hnm hK hP hD hS hA ls hl
  have hE : fE [22, 24] f f := fE_rf
  have hg : ∀ w ∈ kG, w.before _ s = true := fun w h => hts w (List.mem_cons_of_mem _ h)
  have hown : s.vm.findClass RX12 = some m.cls := hown
  have hl : lv_has ls 7 [(0, .ref o), (1, .int lv)] := hl
  obtain ⟨c22, ec22⟩ : ∃ z : Int32, z = f 22 := ⟨_, rfl⟩
  have hg0 : c22.toInt = 400 * (t : Int) + (i : Int) := by rw [ec22]; exact hp1
  obtain ⟨m0, hm1, hm2⟩ := gG_out hp2
  obtain ⟨n0, hn0⟩ := hm2
  refine lv_aload_n hx hb dX12_termOf_0 rfl (lv_at hl 0 rfl) ?_
  refine lv_iload_n hx hb dX12_termOf_1 rfl (lv_at hl 1 rfl) ?_
  refine kL.callV (As := [.int lv]) (rest := []) ⟨hx, hb, hml, hown, hg⟩ (hpart l o r f a g hI lv blv t (i) (m0) ob (eS_fE hE hp0 (by decide) (by decide)) (by rw [ec22.symm]; exact hg0) hm1) (cwV 1 hg (kgV wt7_59 wt7_61 wp5_11 wt1_14 wt7_62) rfl rfl rfl (by decide +kernel) ⟨by dsimp only [rmD]; omega, by dsimp only [rmD]; omega⟩) hK hP hD hS hA mIs [] rfl (wr := []) rfl rfl rfl (fun i h => by cases h) 0 12 rfl rfl rfl hl.1 rfl (Nat.le_of_ble_eq_true rfl) dX12_termOf_2 ⟨Nat.le_refl _, Nat.le_refl _⟩ (fun v2 u3 H locs hw1 hP hD hS => ?_)
  have hP : va_P D vwCl (mW K o r u3 a g) H := hP
  have hD : va_D A (mW K o r u3 a g) := hD
  have hI : mI u3 a := hw1.2.1
  have eE4 : fE [22, 24] f u3 := hw1.2.2.1
  have hE : fE [22, 24] f u3 := fE_tr hE eE4
  obtain ⟨gv5, egv5⟩ : ∃ z : Int32, z = u3 22 := ⟨_, rfl⟩
  have hg6 : gv5.toInt = 400 * (t : Int) + ((m0 : Nat) : Int) := by rw [egv5]; exact hw1.2.2.2
  refine lv_lstore_n (lv' := [(2, .long v2), (0, .ref o), (1, .int lv)]) hx hb dX12_termOf_5 rfl hl (by decide) rfl (fun ls hl => ?_)
  have lp9 : ∀ (n10 : Nat) (i7 : Nat) (F8 : Nat → Int32) (H : Heap) (locs : List Loc) (ls : Array Slot) (y7 : Int64), (gg ob (mC (a 2) t) n10 d 7 i7 j) → (mI F8 a) → (fE [22, 24] f F8) → ((F8 22).toInt = 400 * (t : Int) + (i7 : Int)) → va_P D vwCl (mW K o r F8 a g) H → va_D A (mW K o r F8 a g) → va_S A s.heap H locs → lv_has ls 7 [(2, .long y7), (0, .ref o), (1, .int lv)] → W p l e (rmD (3 * d + 7) 0 0) s m ([.ref o, .int lv] : List Value).toArray below meth c H locs 0 0 (kQl D (tysK K) (fun v (u : Nat → Int32) => kbl (-9223372036854775808) v 9223372036854775807 ∧ mI u a ∧ fE [22, 24] f u ∧ (u 22).toInt = 400 * (t : Int) + (j : Int)) (fun u => mW K o r u a g) A below ([.ref o, .int lv] : List Value).toArray s 0 0) (F0 m 6 ls []) := by
    intro n10
    induction n10 with
    | zero =>
      intro i7 F8  H locs ls y7 hmlp9 hI hE hvlp9_0 hP hD hS hl
      exact (hmlp9 : False).elim
    | succ n10 ihlp9 =>
      intro i7 F8  H locs ls y7 hmlp9 hI hE hvlp9_0 hP hD hS hl
      obtain ⟨gv11, egv11⟩ : ∃ z : Int32, z = F8 22 := ⟨_, rfl⟩
      have hg12 : gv11.toInt = 400 * (t : Int) + ((i7 : Nat) : Int) := by rw [egv11]; exact hvlp9_0
      rcases gg_out hmlp9 with ⟨h1, hj⟩ | ⟨h1 | h1 | h1, mm, ht, h6⟩
      · refine lv_aload_n hx hb dX12_termOf_6 rfl (lv_at hl 1 rfl) ?_
        refine lv_aload_n hx hb dX12_termOf_7 rfl (lv_at hl 1 rfl) ?_
        refine va_get (D := D) (ci := 12) (v := .int (F8 22)) (C := RX12) (T := TX12) (N := 48) hx hb hg inC12 hown hK hP 0 rfl rfl 22 (by decide) (hg _ wt5_182) (fun _ h9 => h9) rfl dX12_termOf_8 ?_
        refine k_top (z := gv11) egv11.symm ?_
        refine kI.callV (As := [.int gv11]) (rest := []) ⟨hx, hb, hml, hown, hg⟩ (m_codeAt l o r F8 a g hI gv11  t (i7) ob (eS_fE hE hp0 (by decide) (by decide)) hg12) (cwV 1 hg (kgV wt7_47 wt7_49 wp5_8 wt1_14 wt7_50) rfl rfl rfl (by decide +kernel) ⟨by dsimp only [rmD]; omega, by dsimp only [rmD]; omega⟩) hK hP hD hS hA mIs [] rfl (wr := []) rfl rfl rfl (fun i h => by cases h) 0 12 rfl rfl rfl hl.1 rfl (Nat.le_of_ble_eq_true rfl) dX12_termOf_11 ⟨Nat.le_refl _, Nat.le_refl _⟩ (fun v14 u15 H locs hw13 hP hD hS => ?_)
        have hP : va_P D vwCl (mW K o r F8 a g) H := hP
        have hD : va_D A (mW K o r F8 a g) := hD
        refine lv_bipush (v := 42) hx hb dX12_termOf_14 (by decide) ?_
        refine kN.callS (As := [.int 42]) (rest := [.int v14]) ⟨hx, hb, hml, hown, hg⟩ (m_sign l 42 (kb_w kc_42 (by decide) (by decide))) (va_cwS 1 hg (kgS wt6_220 wt6_221 wt1_14 wt6_222) rfl rfl rfl (by decide +kernel) ⟨by dsimp only [rmD]; omega, by dsimp only [rmD]; omega⟩) hP hS rfl hl.1 rfl (Nat.le_of_ble_eq_true rfl) dX12_termOf_16 ⟨Nat.le_refl _, Nat.le_refl _⟩ (fun v17 H locs hw16 hP hS => ?_)
        refine k_top (z := 142) (Int32.toInt_inj.mp (hw16.2.trans (by decide +kernel))) ?_
        refine lv_icmp_eq (tgt := 54) hx hb dX12_termOf_19 (by decide) (fun c33 => ?_) (fun c33 => ?_)
        · exact absurd c33 (fun q => (fun q => h1 (Or.inl q)) (hw13.2.symm.trans q))
        · refine lv_aload_n hx hb dX12_termOf_22 rfl (lv_at hl 1 rfl) ?_
          refine lv_aload_n hx hb dX12_termOf_23 rfl (lv_at hl 1 rfl) ?_
          refine va_get (D := D) (ci := 12) (v := .int (F8 22)) (C := RX12) (T := TX12) (N := 48) hx hb hg inC12 hown hK hP 0 rfl rfl 22 (by decide) (hg _ wt5_182) (fun _ h9 => h9) rfl dX12_termOf_24 ?_
          refine k_top (z := gv11) egv11.symm ?_
          refine kI.callV (As := [.int gv11]) (rest := []) ⟨hx, hb, hml, hown, hg⟩ (m_codeAt l o r F8 a g hI gv11  t (i7) ob (eS_fE hE hp0 (by decide) (by decide)) hg12) (cwV 1 hg (kgV wt7_47 wt7_49 wp5_8 wt1_14 wt7_50) rfl rfl rfl (by decide +kernel) ⟨by dsimp only [rmD]; omega, by dsimp only [rmD]; omega⟩) hK hP hD hS hA mIs [] rfl (wr := []) rfl rfl rfl (fun i h => by cases h) 0 12 rfl rfl rfl hl.1 rfl (Nat.le_of_ble_eq_true rfl) dX12_termOf_27 ⟨Nat.le_refl _, Nat.le_refl _⟩ (fun v35 u36 H locs hw34 hP hD hS => ?_)
          have hP : va_P D vwCl (mW K o r F8 a g) H := hP
          have hD : va_D A (mW K o r F8 a g) := hD
          refine lv_bipush (v := 47) hx hb dX12_termOf_30 (by decide) ?_
          refine kN.callS (As := [.int 47]) (rest := [.int v35]) ⟨hx, hb, hml, hown, hg⟩ (m_sign l 47 (kb_w kc_47 (by decide) (by decide))) (va_cwS 1 hg (kgS wt6_220 wt6_221 wt1_14 wt6_222) rfl rfl rfl (by decide +kernel) ⟨by dsimp only [rmD]; omega, by dsimp only [rmD]; omega⟩) hP hS rfl hl.1 rfl (Nat.le_of_ble_eq_true rfl) dX12_termOf_32 ⟨Nat.le_refl _, Nat.le_refl _⟩ (fun v38 H locs hw37 hP hS => ?_)
          refine k_top (z := 147) (Int32.toInt_inj.mp (hw37.2.trans (by decide +kernel))) ?_
          refine lv_icmp_eq (tgt := 54) hx hb dX12_termOf_35 (by decide) (fun c47 => ?_) (fun c47 => ?_)
          · exact absurd c47 (fun q => (fun q => h1 (Or.inr (Or.inl q))) (hw34.2.symm.trans q))
          · refine lv_aload_n hx hb dX12_termOf_38 rfl (lv_at hl 1 rfl) ?_
            refine lv_aload_n hx hb dX12_termOf_39 rfl (lv_at hl 1 rfl) ?_
            refine va_get (D := D) (ci := 12) (v := .int (F8 22)) (C := RX12) (T := TX12) (N := 48) hx hb hg inC12 hown hK hP 0 rfl rfl 22 (by decide) (hg _ wt5_182) (fun _ h9 => h9) rfl dX12_termOf_40 ?_
            refine k_top (z := gv11) egv11.symm ?_
            refine kI.callV (As := [.int gv11]) (rest := []) ⟨hx, hb, hml, hown, hg⟩ (m_codeAt l o r F8 a g hI gv11  t (i7) ob (eS_fE hE hp0 (by decide) (by decide)) hg12) (cwV 1 hg (kgV wt7_47 wt7_49 wp5_8 wt1_14 wt7_50) rfl rfl rfl (by decide +kernel) ⟨by dsimp only [rmD]; omega, by dsimp only [rmD]; omega⟩) hK hP hD hS hA mIs [] rfl (wr := []) rfl rfl rfl (fun i h => by cases h) 0 12 rfl rfl rfl hl.1 rfl (Nat.le_of_ble_eq_true rfl) dX12_termOf_43 ⟨Nat.le_refl _, Nat.le_refl _⟩ (fun v49 u50 H locs hw48 hP hD hS => ?_)
            have hP : va_P D vwCl (mW K o r F8 a g) H := hP
            have hD : va_D A (mW K o r F8 a g) := hD
            refine lv_bipush (v := 37) hx hb dX12_termOf_46 (by decide) ?_
            refine kN.callS (As := [.int 37]) (rest := [.int v49]) ⟨hx, hb, hml, hown, hg⟩ (m_sign l 37 (kb_w kc_37 (by decide) (by decide))) (va_cwS 1 hg (kgS wt6_220 wt6_221 wt1_14 wt6_222) rfl rfl rfl (by decide +kernel) ⟨by dsimp only [rmD]; omega, by dsimp only [rmD]; omega⟩) hP hS rfl hl.1 rfl (Nat.le_of_ble_eq_true rfl) dX12_termOf_48 ⟨Nat.le_refl _, Nat.le_refl _⟩ (fun v52 H locs hw51 hP hS => ?_)
            refine k_top (z := 137) (Int32.toInt_inj.mp (hw51.2.trans (by decide +kernel))) ?_
            refine lv_icmp_ne (tgt := 168) hx hb dX12_termOf_51 (by decide) (fun c54 => ?_) (fun c54 => ?_)
            · refine lv_lload_n hx hb dX12_termOf_168 rfl (lv_at hl 0 rfl) ?_
              exact kL_ret (v := y7) hx hb hr hlocks hK hS dX12_termOf_169 F8 hP hD ⟨(kbl_any y7), hI, hE, (by rw [egv11.symm, hg12]; omega)⟩
            · exact absurd c54 (fun q => (fun q => h1 (Or.inr (Or.inr q))) (hw48.2.symm.trans q))
      · have b55 : kb 0 gv11 2799 := kb_go (eS_fE hE hp0 (by decide) (by decide)) (mC_lt (eS_fE hE hp0 (by decide) (by decide)) (ne_0 h1 (by decide +kernel))) hg12
        refine lv_aload_n hx hb dX12_termOf_6 rfl (lv_at hl 1 rfl) ?_
        refine lv_aload_n hx hb dX12_termOf_7 rfl (lv_at hl 1 rfl) ?_
        refine va_get (D := D) (ci := 12) (v := .int (F8 22)) (C := RX12) (T := TX12) (N := 48) hx hb hg inC12 hown hK hP 0 rfl rfl 22 (by decide) (hg _ wt5_182) (fun _ h9 => h9) rfl dX12_termOf_8 ?_
        refine k_top (z := gv11) egv11.symm ?_
        refine kI.callV (As := [.int gv11]) (rest := []) ⟨hx, hb, hml, hown, hg⟩ (m_codeAt l o r F8 a g hI gv11  t (i7) ob (eS_fE hE hp0 (by decide) (by decide)) hg12) (cwV 1 hg (kgV wt7_47 wt7_49 wp5_8 wt1_14 wt7_50) rfl rfl rfl (by decide +kernel) ⟨by dsimp only [rmD]; omega, by dsimp only [rmD]; omega⟩) hK hP hD hS hA mIs [] rfl (wr := []) rfl rfl rfl (fun i h => by cases h) 0 12 rfl rfl rfl hl.1 rfl (Nat.le_of_ble_eq_true rfl) dX12_termOf_11 ⟨Nat.le_refl _, Nat.le_refl _⟩ (fun v57 u58 H locs hw56 hP hD hS => ?_)
        have hP : va_P D vwCl (mW K o r F8 a g) H := hP
        have hD : va_D A (mW K o r F8 a g) := hD
        refine k_top (z := 142) (hw56.2.trans h1) ?_
        refine lv_bipush (v := 42) hx hb dX12_termOf_14 (by decide) ?_
        refine kN.callS (As := [.int 42]) (rest := [.int 142]) ⟨hx, hb, hml, hown, hg⟩ (m_sign l 42 (kb_w kc_42 (by decide) (by decide))) (va_cwS 1 hg (kgS wt6_220 wt6_221 wt1_14 wt6_222) rfl rfl rfl (by decide +kernel) ⟨by dsimp only [rmD]; omega, by dsimp only [rmD]; omega⟩) hP hS rfl hl.1 rfl (Nat.le_of_ble_eq_true rfl) dX12_termOf_16 ⟨Nat.le_refl _, Nat.le_refl _⟩ (fun v60 H locs hw59 hP hS => ?_)
        refine k_top (z := 142) (Int32.toInt_inj.mp (hw59.2.trans (by decide +kernel))) ?_
        refine lv_icmp_eq (tgt := 54) hx hb dX12_termOf_19 (by decide) (fun c62 => ?_) (fun c62 => ?_)
        · refine lv_aload_n hx hb dX12_termOf_54 rfl (lv_at hl 1 rfl) ?_
          refine lv_aload_n hx hb dX12_termOf_55 rfl (lv_at hl 1 rfl) ?_
          refine va_get (D := D) (ci := 12) (v := .int (F8 22)) (C := RX12) (T := TX12) (N := 48) hx hb hg inC12 hown hK hP 0 rfl rfl 22 (by decide) (hg _ wt5_182) (fun _ h9 => h9) rfl dX12_termOf_56 ?_
          refine k_top (z := gv11) egv11.symm ?_
          refine kI.callV (As := [.int gv11]) (rest := []) ⟨hx, hb, hml, hown, hg⟩ (m_codeAt l o r F8 a g hI gv11  t (i7) ob (eS_fE hE hp0 (by decide) (by decide)) hg12) (cwV 1 hg (kgV wt7_47 wt7_49 wp5_8 wt1_14 wt7_50) rfl rfl rfl (by decide +kernel) ⟨by dsimp only [rmD]; omega, by dsimp only [rmD]; omega⟩) hK hP hD hS hA mIs [] rfl (wr := []) rfl rfl rfl (fun i h => by cases h) 0 12 rfl rfl rfl hl.1 rfl (Nat.le_of_ble_eq_true rfl) dX12_termOf_59 ⟨Nat.le_refl _, Nat.le_refl _⟩ (fun v64 u65 H locs hw63 hP hD hS => ?_)
          have hP : va_P D vwCl (mW K o r F8 a g) H := hP
          have hD : va_D A (mW K o r F8 a g) := hD
          refine k_top (z := 142) (hw63.2.trans h1) ?_
          refine lv_istore (lv' := [(4, .int 142), (2, .long y7), (0, .ref o), (1, .int lv)]) hx hb dX12_termOf_62 hl (by decide) rfl (fun ls hl => ?_)
          refine lv_aload_n hx hb dX12_termOf_64 rfl (lv_at hl 2 rfl) ?_
          refine lv_dup hx hb dX12_termOf_65 rfl ?_
          refine va_get (D := D) (ci := 12) (v := .int (F8 22)) (C := RX12) (T := TX12) (N := 48) hx hb hg inC12 hown hK hP 0 rfl rfl 22 (by decide) (hg _ wt5_182) (fun _ h9 => h9) rfl dX12_termOf_66 ?_
          refine k_top (z := gv11) egv11.symm ?_
          refine lv_iconst (v := 1) hx hb dX12_termOf_69 (by decide) ?_
          refine lv_iadd hx hb dX12_termOf_70 ?_
          refine lv_topi (fun t66 et66 => ?_)
          have b67 : kb 1 t66 2800 := kb_eq et66 (kb_add b55 kc_1 (by decide) (by decide))
          have qt66 : t66.toInt = gv11.toInt + 1 := by rw [et66]; exact kt_addc b55 kc_1 (by decide) (by decide)
          have hg68 : t66.toInt = 400 * (t : Int) + ((i7 + 1 : Nat) : Int) := by rw [qt66, hg12]; omega
          refine va_put (D := D) (ci := 12) (v := .int t66) (ty := .int) (C := RX12) (T := TX12) (N := 48) hx hb hg inC12 tyX12 tyX12_ok nmX12 hown hK hP hD hS 0 rfl rfl 22 (by decide) (hg _ wt5_182) (fun _ h9 => h9) rfl (by decide +kernel) rfl rfl (Nat.le_of_ble_eq_true rfl) dX12_termOf_71 (fun H locs hP hD hS => ?_)
          have hP : va_P D vwCl (mW K o r (upd F8 22 t66) a g) H := hP
          have hD : va_D A (mW K o r (upd F8 22 t66) a g) := hD
          refine k_gen (P := fun z => va_P D vwCl (mW K o r z a g) H ∧ va_D A (mW K o r z a g) ∧ (mI z a) ∧ (fE [22, 24] f z)) (upd F8 22 t66) ⟨hP, hD, (mI_f hI (fI_st hI.1 22 (kb_any _) (by decide) (by decide))), (fE_f hE (by decide))⟩ (fun f_69 ef_69 hq => ?_)
          obtain ⟨hP, hD, hI, hE⟩ := hq
          refine lv_aload_n hx hb dX12_termOf_74 rfl (lv_at hl 2 rfl) ?_
          refine lv_iload_n hx hb dX12_termOf_75 rfl (lv_at hl 3 rfl) ?_
          refine kL.callV (As := [.int lv]) (rest := []) ⟨hx, hb, hml, hown, hg⟩ (hpart l o r f_69 a g hI lv blv t (i7 + 1) (mm) ob (eS_fE hE hp0 (by decide) (by decide)) (by rw [(show f_69 22 = t66 from by rw [← ef_69]; rfl)]; exact hg68) (gG_of ht)) (cwV 1 hg (kgV wt7_59 wt7_61 wp5_11 wt1_14 wt7_62) rfl rfl rfl (by decide +kernel) ⟨by dsimp only [rmD]; omega, by dsimp only [rmD]; omega⟩) hK hP hD hS hA mIs [] rfl (wr := []) rfl rfl rfl (fun i h => by cases h) 0 12 rfl rfl rfl hl.1 rfl (Nat.le_of_ble_eq_true rfl) dX12_termOf_76 ⟨Nat.le_refl _, Nat.le_refl _⟩ (fun v71 u72 H locs hw70 hP hD hS => ?_)
          have hP : va_P D vwCl (mW K o r u72 a g) H := hP
          have hD : va_D A (mW K o r u72 a g) := hD
          have hI : mI u72 a := hw70.2.1
          have eE73 : fE [22, 24] f_69 u72 := hw70.2.2.1
          have hE : fE [22, 24] f u72 := fE_tr hE eE73
          obtain ⟨gv74, egv74⟩ : ∃ z : Int32, z = u72 22 := ⟨_, rfl⟩
          have hg75 : gv74.toInt = 400 * (t : Int) + ((mm : Nat) : Int) := by rw [egv74]; exact hw70.2.2.2
          refine lv_lstore (lv' := [(5, .long v71), (4, .int 142), (2, .long y7), (0, .ref o), (1, .int lv)]) hx hb dX12_termOf_79 hl (by decide) rfl (fun ls hl => ?_)
          refine lv_iload hx hb dX12_termOf_81 (lv_at hl 1 rfl) ?_
          refine lv_bipush (v := 42) hx hb dX12_termOf_83 (by decide) ?_
          refine kN.callS (As := [.int 42]) (rest := [.int 142]) ⟨hx, hb, hml, hown, hg⟩ (m_sign l 42 (kb_w kc_42 (by decide) (by decide))) (va_cwS 1 hg (kgS wt6_220 wt6_221 wt1_14 wt6_222) rfl rfl rfl (by decide +kernel) ⟨by dsimp only [rmD]; omega, by dsimp only [rmD]; omega⟩) hP hS rfl hl.1 rfl (Nat.le_of_ble_eq_true rfl) dX12_termOf_85 ⟨Nat.le_refl _, Nat.le_refl _⟩ (fun v77 H locs hw76 hP hS => ?_)
          refine k_top (z := 142) (Int32.toInt_inj.mp (hw76.2.trans (by decide +kernel))) ?_
          refine lv_icmp_eq (tgt := 121) hx hb dX12_termOf_88 (by decide) (fun c79 => ?_) (fun c79 => ?_)
          · refine lv_aload_n hx hb dX12_termOf_121 rfl (lv_at hl 3 rfl) ?_
            refine lv_iload hx hb dX12_termOf_122 (lv_at hl 1 rfl) ?_
            refine lv_bipush (v := 42) hx hb dX12_termOf_124 (by decide) ?_
            refine kN.callS (As := [.int 42]) (rest := [.int 142, .ref o]) ⟨hx, hb, hml, hown, hg⟩ (m_sign l 42 (kb_w kc_42 (by decide) (by decide))) (va_cwS 1 hg (kgS wt6_220 wt6_221 wt1_14 wt6_222) rfl rfl rfl (by decide +kernel) ⟨by dsimp only [rmD]; omega, by dsimp only [rmD]; omega⟩) hP hS rfl hl.1 rfl (Nat.le_of_ble_eq_true rfl) dX12_termOf_126 ⟨Nat.le_refl _, Nat.le_refl _⟩ (fun v81 H locs hw80 hP hS => ?_)
            refine k_top (z := 142) (Int32.toInt_inj.mp (hw80.2.trans (by decide +kernel))) ?_
            refine lv_icmp_ne (tgt := 139) hx hb dX12_termOf_129 (by decide) (fun c84 => ?_) (fun c84 => ?_)
            · exact kb_nsame c84 kc_142 kc_142
            · refine lv_lload_n hx hb dX12_termOf_132 rfl (lv_at hl 2 rfl) ?_
              refine lv_lload hx hb dX12_termOf_133 (lv_at hl 0 rfl) ?_
              refine lv_lmul hx hb dX12_termOf_135 ?_
              refine lv_topl (fun t85 et85 => ?_)
              refine lv_goto (tgt := 160) hx hb dX12_termOf_136 (by decide) ?_
              refine lv_iload_n hx hb dX12_termOf_160 rfl (lv_at hl 4 rfl) ?_
              refine kL.callV (As := [.long t85, .int lv]) (rest := []) ⟨hx, hb, hml, hown, hg⟩ (m_bounded l o r u72 a g hI t85 lv blv ) (cwV 2 hg (kgV wt7_74 wt7_76 wp5_14 wt1_14 wt7_77) rfl rfl rfl (by decide +kernel) ⟨by dsimp only [rmD]; omega, by dsimp only [rmD]; omega⟩) hK hP hD hS hA mIs [] rfl (wr := []) rfl rfl rfl (fun i h => by cases h) 0 12 rfl rfl rfl hl.1 rfl (Nat.le_of_ble_eq_true rfl) dX12_termOf_161 ⟨Nat.le_refl _, Nat.le_refl _⟩ (fun v87 u88 H locs hw86 hP hD hS => ?_)
              have hP : va_P D vwCl (mW K o r u88 a g) H := hP
              have hD : va_D A (mW K o r u88 a g) := hD
              have hI : mI u88 a := hw86.2.1
              have eE89 : fE [24] u72 u88 := hw86.2.2
              have hE : fE [22, 24] f u88 := fE_tr hE (fE_w (by decide) eE89)
              refine lv_lstore_n (lv' := [(2, .long v87), (5, .long v71), (4, .int 142), (0, .ref o), (1, .int lv)]) hx hb dX12_termOf_164 rfl hl (by decide) rfl (fun ls hl => ?_)
              refine lv_goto (tgt := 6) hx hb dX12_termOf_165 (by decide) ?_
              exact ihlp9 (mm) u88 _ _ _ v87 (h6) hI hE (by rw [((eE89 22 (by decide)).trans egv74.symm)]; exact hg75) hP hD hS (lv_sub hl [0, 3, 4] rfl)
          · exact kb_nsame c79 kc_142 kc_142
        · exact kb_nsame c62 kc_142 kc_142
      · have b90 : kb 0 gv11 2799 := kb_go (eS_fE hE hp0 (by decide) (by decide)) (mC_lt (eS_fE hE hp0 (by decide) (by decide)) (ne_0 h1 (by decide +kernel))) hg12
        refine lv_aload_n hx hb dX12_termOf_6 rfl (lv_at hl 1 rfl) ?_
        refine lv_aload_n hx hb dX12_termOf_7 rfl (lv_at hl 1 rfl) ?_
        refine va_get (D := D) (ci := 12) (v := .int (F8 22)) (C := RX12) (T := TX12) (N := 48) hx hb hg inC12 hown hK hP 0 rfl rfl 22 (by decide) (hg _ wt5_182) (fun _ h9 => h9) rfl dX12_termOf_8 ?_
        refine k_top (z := gv11) egv11.symm ?_
        refine kI.callV (As := [.int gv11]) (rest := []) ⟨hx, hb, hml, hown, hg⟩ (m_codeAt l o r F8 a g hI gv11  t (i7) ob (eS_fE hE hp0 (by decide) (by decide)) hg12) (cwV 1 hg (kgV wt7_47 wt7_49 wp5_8 wt1_14 wt7_50) rfl rfl rfl (by decide +kernel) ⟨by dsimp only [rmD]; omega, by dsimp only [rmD]; omega⟩) hK hP hD hS hA mIs [] rfl (wr := []) rfl rfl rfl (fun i h => by cases h) 0 12 rfl rfl rfl hl.1 rfl (Nat.le_of_ble_eq_true rfl) dX12_termOf_11 ⟨Nat.le_refl _, Nat.le_refl _⟩ (fun v92 u93 H locs hw91 hP hD hS => ?_)
        have hP : va_P D vwCl (mW K o r F8 a g) H := hP
        have hD : va_D A (mW K o r F8 a g) := hD
        refine k_top (z := 147) (hw91.2.trans h1) ?_
        refine lv_bipush (v := 42) hx hb dX12_termOf_14 (by decide) ?_
        refine kN.callS (As := [.int 42]) (rest := [.int 147]) ⟨hx, hb, hml, hown, hg⟩ (m_sign l 42 (kb_w kc_42 (by decide) (by decide))) (va_cwS 1 hg (kgS wt6_220 wt6_221 wt1_14 wt6_222) rfl rfl rfl (by decide +kernel) ⟨by dsimp only [rmD]; omega, by dsimp only [rmD]; omega⟩) hP hS rfl hl.1 rfl (Nat.le_of_ble_eq_true rfl) dX12_termOf_16 ⟨Nat.le_refl _, Nat.le_refl _⟩ (fun v95 H locs hw94 hP hS => ?_)
        refine k_top (z := 142) (Int32.toInt_inj.mp (hw94.2.trans (by decide +kernel))) ?_
        refine lv_icmp_eq (tgt := 54) hx hb dX12_termOf_19 (by decide) (fun c104 => ?_) (fun c104 => ?_)
        · exact kb_dj c104 kc_147 kc_142 (by decide)
        · refine lv_aload_n hx hb dX12_termOf_22 rfl (lv_at hl 1 rfl) ?_
          refine lv_aload_n hx hb dX12_termOf_23 rfl (lv_at hl 1 rfl) ?_
          refine va_get (D := D) (ci := 12) (v := .int (F8 22)) (C := RX12) (T := TX12) (N := 48) hx hb hg inC12 hown hK hP 0 rfl rfl 22 (by decide) (hg _ wt5_182) (fun _ h9 => h9) rfl dX12_termOf_24 ?_
          refine k_top (z := gv11) egv11.symm ?_
          refine kI.callV (As := [.int gv11]) (rest := []) ⟨hx, hb, hml, hown, hg⟩ (m_codeAt l o r F8 a g hI gv11  t (i7) ob (eS_fE hE hp0 (by decide) (by decide)) hg12) (cwV 1 hg (kgV wt7_47 wt7_49 wp5_8 wt1_14 wt7_50) rfl rfl rfl (by decide +kernel) ⟨by dsimp only [rmD]; omega, by dsimp only [rmD]; omega⟩) hK hP hD hS hA mIs [] rfl (wr := []) rfl rfl rfl (fun i h => by cases h) 0 12 rfl rfl rfl hl.1 rfl (Nat.le_of_ble_eq_true rfl) dX12_termOf_27 ⟨Nat.le_refl _, Nat.le_refl _⟩ (fun v106 u107 H locs hw105 hP hD hS => ?_)
          have hP : va_P D vwCl (mW K o r F8 a g) H := hP
          have hD : va_D A (mW K o r F8 a g) := hD
          refine k_top (z := 147) (hw105.2.trans h1) ?_
          refine lv_bipush (v := 47) hx hb dX12_termOf_30 (by decide) ?_
          refine kN.callS (As := [.int 47]) (rest := [.int 147]) ⟨hx, hb, hml, hown, hg⟩ (m_sign l 47 (kb_w kc_47 (by decide) (by decide))) (va_cwS 1 hg (kgS wt6_220 wt6_221 wt1_14 wt6_222) rfl rfl rfl (by decide +kernel) ⟨by dsimp only [rmD]; omega, by dsimp only [rmD]; omega⟩) hP hS rfl hl.1 rfl (Nat.le_of_ble_eq_true rfl) dX12_termOf_32 ⟨Nat.le_refl _, Nat.le_refl _⟩ (fun v109 H locs hw108 hP hS => ?_)
          refine k_top (z := 147) (Int32.toInt_inj.mp (hw108.2.trans (by decide +kernel))) ?_
          refine lv_icmp_eq (tgt := 54) hx hb dX12_termOf_35 (by decide) (fun c111 => ?_) (fun c111 => ?_)
          · refine lv_aload_n hx hb dX12_termOf_54 rfl (lv_at hl 1 rfl) ?_
            refine lv_aload_n hx hb dX12_termOf_55 rfl (lv_at hl 1 rfl) ?_
            refine va_get (D := D) (ci := 12) (v := .int (F8 22)) (C := RX12) (T := TX12) (N := 48) hx hb hg inC12 hown hK hP 0 rfl rfl 22 (by decide) (hg _ wt5_182) (fun _ h9 => h9) rfl dX12_termOf_56 ?_
            refine k_top (z := gv11) egv11.symm ?_
            refine kI.callV (As := [.int gv11]) (rest := []) ⟨hx, hb, hml, hown, hg⟩ (m_codeAt l o r F8 a g hI gv11  t (i7) ob (eS_fE hE hp0 (by decide) (by decide)) hg12) (cwV 1 hg (kgV wt7_47 wt7_49 wp5_8 wt1_14 wt7_50) rfl rfl rfl (by decide +kernel) ⟨by dsimp only [rmD]; omega, by dsimp only [rmD]; omega⟩) hK hP hD hS hA mIs [] rfl (wr := []) rfl rfl rfl (fun i h => by cases h) 0 12 rfl rfl rfl hl.1 rfl (Nat.le_of_ble_eq_true rfl) dX12_termOf_59 ⟨Nat.le_refl _, Nat.le_refl _⟩ (fun v113 u114 H locs hw112 hP hD hS => ?_)
            have hP : va_P D vwCl (mW K o r F8 a g) H := hP
            have hD : va_D A (mW K o r F8 a g) := hD
            refine k_top (z := 147) (hw112.2.trans h1) ?_
            refine lv_istore (lv' := [(4, .int 147), (2, .long y7), (0, .ref o), (1, .int lv)]) hx hb dX12_termOf_62 hl (by decide) rfl (fun ls hl => ?_)
            refine lv_aload_n hx hb dX12_termOf_64 rfl (lv_at hl 2 rfl) ?_
            refine lv_dup hx hb dX12_termOf_65 rfl ?_
            refine va_get (D := D) (ci := 12) (v := .int (F8 22)) (C := RX12) (T := TX12) (N := 48) hx hb hg inC12 hown hK hP 0 rfl rfl 22 (by decide) (hg _ wt5_182) (fun _ h9 => h9) rfl dX12_termOf_66 ?_
            refine k_top (z := gv11) egv11.symm ?_
            refine lv_iconst (v := 1) hx hb dX12_termOf_69 (by decide) ?_
            refine lv_iadd hx hb dX12_termOf_70 ?_
            refine lv_topi (fun t115 et115 => ?_)
            have b116 : kb 1 t115 2800 := kb_eq et115 (kb_add b90 kc_1 (by decide) (by decide))
            have qt115 : t115.toInt = gv11.toInt + 1 := by rw [et115]; exact kt_addc b90 kc_1 (by decide) (by decide)
            have hg117 : t115.toInt = 400 * (t : Int) + ((i7 + 1 : Nat) : Int) := by rw [qt115, hg12]; omega
            refine va_put (D := D) (ci := 12) (v := .int t115) (ty := .int) (C := RX12) (T := TX12) (N := 48) hx hb hg inC12 tyX12 tyX12_ok nmX12 hown hK hP hD hS 0 rfl rfl 22 (by decide) (hg _ wt5_182) (fun _ h9 => h9) rfl (by decide +kernel) rfl rfl (Nat.le_of_ble_eq_true rfl) dX12_termOf_71 (fun H locs hP hD hS => ?_)
            have hP : va_P D vwCl (mW K o r (upd F8 22 t115) a g) H := hP
            have hD : va_D A (mW K o r (upd F8 22 t115) a g) := hD
            refine k_gen (P := fun z => va_P D vwCl (mW K o r z a g) H ∧ va_D A (mW K o r z a g) ∧ (mI z a) ∧ (fE [22, 24] f z)) (upd F8 22 t115) ⟨hP, hD, (mI_f hI (fI_st hI.1 22 (kb_any _) (by decide) (by decide))), (fE_f hE (by decide))⟩ (fun f_118 ef_118 hq => ?_)
            obtain ⟨hP, hD, hI, hE⟩ := hq
            refine lv_aload_n hx hb dX12_termOf_74 rfl (lv_at hl 2 rfl) ?_
            refine lv_iload_n hx hb dX12_termOf_75 rfl (lv_at hl 3 rfl) ?_
            refine kL.callV (As := [.int lv]) (rest := []) ⟨hx, hb, hml, hown, hg⟩ (hpart l o r f_118 a g hI lv blv t (i7 + 1) (mm) ob (eS_fE hE hp0 (by decide) (by decide)) (by rw [(show f_118 22 = t115 from by rw [← ef_118]; rfl)]; exact hg117) (gG_of ht)) (cwV 1 hg (kgV wt7_59 wt7_61 wp5_11 wt1_14 wt7_62) rfl rfl rfl (by decide +kernel) ⟨by dsimp only [rmD]; omega, by dsimp only [rmD]; omega⟩) hK hP hD hS hA mIs [] rfl (wr := []) rfl rfl rfl (fun i h => by cases h) 0 12 rfl rfl rfl hl.1 rfl (Nat.le_of_ble_eq_true rfl) dX12_termOf_76 ⟨Nat.le_refl _, Nat.le_refl _⟩ (fun v120 u121 H locs hw119 hP hD hS => ?_)
            have hP : va_P D vwCl (mW K o r u121 a g) H := hP
            have hD : va_D A (mW K o r u121 a g) := hD
            have hI : mI u121 a := hw119.2.1
            have eE122 : fE [22, 24] f_118 u121 := hw119.2.2.1
            have hE : fE [22, 24] f u121 := fE_tr hE eE122
            obtain ⟨gv123, egv123⟩ : ∃ z : Int32, z = u121 22 := ⟨_, rfl⟩
            have hg124 : gv123.toInt = 400 * (t : Int) + ((mm : Nat) : Int) := by rw [egv123]; exact hw119.2.2.2
            refine lv_lstore (lv' := [(5, .long v120), (4, .int 147), (2, .long y7), (0, .ref o), (1, .int lv)]) hx hb dX12_termOf_79 hl (by decide) rfl (fun ls hl => ?_)
            refine lv_iload hx hb dX12_termOf_81 (lv_at hl 1 rfl) ?_
            refine lv_bipush (v := 42) hx hb dX12_termOf_83 (by decide) ?_
            refine kN.callS (As := [.int 42]) (rest := [.int 147]) ⟨hx, hb, hml, hown, hg⟩ (m_sign l 42 (kb_w kc_42 (by decide) (by decide))) (va_cwS 1 hg (kgS wt6_220 wt6_221 wt1_14 wt6_222) rfl rfl rfl (by decide +kernel) ⟨by dsimp only [rmD]; omega, by dsimp only [rmD]; omega⟩) hP hS rfl hl.1 rfl (Nat.le_of_ble_eq_true rfl) dX12_termOf_85 ⟨Nat.le_refl _, Nat.le_refl _⟩ (fun v126 H locs hw125 hP hS => ?_)
            refine k_top (z := 142) (Int32.toInt_inj.mp (hw125.2.trans (by decide +kernel))) ?_
            refine lv_icmp_eq (tgt := 121) hx hb dX12_termOf_88 (by decide) (fun c128 => ?_) (fun c128 => ?_)
            · exact kb_dj c128 kc_147 kc_142 (by decide)
            · refine lv_lload hx hb dX12_termOf_91 (lv_at hl 0 rfl) ?_
              refine lv_lconst (v := 0) hx hb dX12_termOf_93 (by decide) ?_
              refine W.lcmp hx hb dX12_termOf_94 ?_
              refine lv_topi (fun t129 et129 => ?_)
              refine lv_if_ne (tgt := 121) hx hb dX12_termOf_95 (by decide) (fun c130 => ?_) (fun c130 => ?_)
              · have h131 := klc_ne (et129 ▸ c130)
                refine lv_aload_n hx hb dX12_termOf_121 rfl (lv_at hl 3 rfl) ?_
                refine lv_iload hx hb dX12_termOf_122 (lv_at hl 1 rfl) ?_
                refine lv_bipush (v := 42) hx hb dX12_termOf_124 (by decide) ?_
                refine kN.callS (As := [.int 42]) (rest := [.int 147, .ref o]) ⟨hx, hb, hml, hown, hg⟩ (m_sign l 42 (kb_w kc_42 (by decide) (by decide))) (va_cwS 1 hg (kgS wt6_220 wt6_221 wt1_14 wt6_222) rfl rfl rfl (by decide +kernel) ⟨by dsimp only [rmD]; omega, by dsimp only [rmD]; omega⟩) hP hS rfl hl.1 rfl (Nat.le_of_ble_eq_true rfl) dX12_termOf_126 ⟨Nat.le_refl _, Nat.le_refl _⟩ (fun v133 H locs hw132 hP hS => ?_)
                refine k_top (z := 142) (Int32.toInt_inj.mp (hw132.2.trans (by decide +kernel))) ?_
                refine lv_icmp_ne (tgt := 139) hx hb dX12_termOf_129 (by decide) (fun c140 => ?_) (fun c140 => ?_)
                · refine lv_iload hx hb dX12_termOf_139 (lv_at hl 1 rfl) ?_
                  refine lv_bipush (v := 47) hx hb dX12_termOf_141 (by decide) ?_
                  refine kN.callS (As := [.int 47]) (rest := [.int 147, .ref o]) ⟨hx, hb, hml, hown, hg⟩ (m_sign l 47 (kb_w kc_47 (by decide) (by decide))) (va_cwS 1 hg (kgS wt6_220 wt6_221 wt1_14 wt6_222) rfl rfl rfl (by decide +kernel) ⟨by dsimp only [rmD]; omega, by dsimp only [rmD]; omega⟩) hP hS rfl hl.1 rfl (Nat.le_of_ble_eq_true rfl) dX12_termOf_143 ⟨Nat.le_refl _, Nat.le_refl _⟩ (fun v142 H locs hw141 hP hS => ?_)
                  refine k_top (z := 147) (Int32.toInt_inj.mp (hw141.2.trans (by decide +kernel))) ?_
                  refine lv_icmp_ne (tgt := 156) hx hb dX12_termOf_146 (by decide) (fun c145 => ?_) (fun c145 => ?_)
                  · exact kb_nsame c145 kc_147 kc_147
                  · refine lv_lload_n hx hb dX12_termOf_149 rfl (lv_at hl 2 rfl) ?_
                    refine lv_lload hx hb dX12_termOf_150 (lv_at hl 0 rfl) ?_
                    refine lv_ldiv hx hb dX12_termOf_152 h131 ?_
                    refine lv_topl (fun t146 et146 => ?_)
                    refine lv_goto (tgt := 160) hx hb dX12_termOf_153 (by decide) ?_
                    refine lv_iload_n hx hb dX12_termOf_160 rfl (lv_at hl 4 rfl) ?_
                    refine kL.callV (As := [.long t146, .int lv]) (rest := []) ⟨hx, hb, hml, hown, hg⟩ (m_bounded l o r u121 a g hI t146 lv blv ) (cwV 2 hg (kgV wt7_74 wt7_76 wp5_14 wt1_14 wt7_77) rfl rfl rfl (by decide +kernel) ⟨by dsimp only [rmD]; omega, by dsimp only [rmD]; omega⟩) hK hP hD hS hA mIs [] rfl (wr := []) rfl rfl rfl (fun i h => by cases h) 0 12 rfl rfl rfl hl.1 rfl (Nat.le_of_ble_eq_true rfl) dX12_termOf_161 ⟨Nat.le_refl _, Nat.le_refl _⟩ (fun v148 u149 H locs hw147 hP hD hS => ?_)
                    have hP : va_P D vwCl (mW K o r u149 a g) H := hP
                    have hD : va_D A (mW K o r u149 a g) := hD
                    have hI : mI u149 a := hw147.2.1
                    have eE150 : fE [24] u121 u149 := hw147.2.2
                    have hE : fE [22, 24] f u149 := fE_tr hE (fE_w (by decide) eE150)
                    refine lv_lstore_n (lv' := [(2, .long v148), (5, .long v120), (4, .int 147), (0, .ref o), (1, .int lv)]) hx hb dX12_termOf_164 rfl hl (by decide) rfl (fun ls hl => ?_)
                    refine lv_goto (tgt := 6) hx hb dX12_termOf_165 (by decide) ?_
                    exact ihlp9 (mm) u149 _ _ _ v148 (h6) hI hE (by rw [((eE150 22 (by decide)).trans egv123.symm)]; exact hg124) hP hD hS (lv_sub hl [0, 3, 4] rfl)
                · exact kb_dj c140 kc_147 kc_142 (by decide)
              · have h151 := klc_eq (et129 ▸ c130)
                refine lv_aload_n hx hb dX12_termOf_98 rfl (lv_at hl 3 rfl) ?_
                refine lv_aload_n hx hb dX12_termOf_99 rfl (lv_at hl 3 rfl) ?_
                refine va_get (D := D) (ci := 12) (v := .int (u121 24)) (C := RX12) (T := TX12) (N := 48) hx hb hg inC12 hown hK hP 0 rfl rfl 24 (by decide) (hg _ wt5_184) (fun _ h9 => h9) rfl dX12_termOf_100 ?_
                refine lv_topi (fun t152 et152 => ?_)
                have b153 : kb 0 t152 1 := kb_eq et152 (fI_at hI.1 24 (by decide) (by decide))
                have jn181 : ∀ (H : Heap) (locs : List Loc) (ls : Array Slot), va_P D vwCl (mW K o r u121 a g) H → va_D A (mW K o r u121 a g) → va_S A s.heap H locs → lv_has ls 7 [(5, .long v120), (4, .int 147), (2, .long y7), (0, .ref o), (1, .int lv)] → W p l e (rmD (3 * d + 7) 0 0) s m ([.ref o, .int lv] : List Value).toArray below meth c H locs 0 0 (kQl D (tysK K) (fun v (u : Nat → Int32) => kbl (-9223372036854775808) v 9223372036854775807 ∧ mI u a ∧ fE [22, 24] f u ∧ (u 22).toInt = 400 * (t : Int) + (j : Int)) (fun u => mW K o r u a g) A below ([.ref o, .int lv] : List Value).toArray s 0 0) (F0 m 110 ls [.ref o]) := by
                  intro  H locs ls   hP hD hS hl
                  refine lv_iconst (v := 1) hx hb dX12_termOf_110 (by decide) ?_
                  refine lv_goto (tgt := 115) hx hb dX12_termOf_111 (by decide) ?_
                  refine va_put (D := D) (ci := 12) (v := .int 1) (ty := .boolean) (C := RX12) (T := TX12) (N := 48) hx hb hg inC12 tyX12 tyX12_ok nmX12 hown hK hP hD hS 0 rfl rfl 24 (by decide) (hg _ wt5_184) (fun _ h9 => h9) rfl (by decide +kernel) rfl rfl (Nat.le_of_ble_eq_true rfl) dX12_termOf_115 (fun H locs hP hD hS => ?_)
                  have hP : va_P D vwCl (mW K o r (upd u121 24 1) a g) H := hP
                  have hD : va_D A (mW K o r (upd u121 24 1) a g) := hD
                  refine k_gen (P := fun z => va_P D vwCl (mW K o r z a g) H ∧ va_D A (mW K o r z a g) ∧ (mI z a) ∧ (fE [22, 24] f z)) (upd u121 24 1) ⟨hP, hD, (mI_f hI (fI_st hI.1 24 kc_1 (by decide) (by decide))), (fE_f hE (by decide))⟩ (fun f_182 ef_182 hq => ?_)
                  obtain ⟨hP, hD, hI, hE⟩ := hq
                  refine lv_lconst (v := 1) hx hb dX12_termOf_118 (by decide) ?_
                  refine lv_lstore (lv' := [(5, .long 1), (4, .int 147), (2, .long y7), (0, .ref o), (1, .int lv)]) hx hb dX12_termOf_119 hl (by decide) rfl (fun ls hl => ?_)
                  refine lv_aload_n hx hb dX12_termOf_121 rfl (lv_at hl 3 rfl) ?_
                  refine lv_iload hx hb dX12_termOf_122 (lv_at hl 1 rfl) ?_
                  refine lv_bipush (v := 42) hx hb dX12_termOf_124 (by decide) ?_
                  refine kN.callS (As := [.int 42]) (rest := [.int 147, .ref o]) ⟨hx, hb, hml, hown, hg⟩ (m_sign l 42 (kb_w kc_42 (by decide) (by decide))) (va_cwS 1 hg (kgS wt6_220 wt6_221 wt1_14 wt6_222) rfl rfl rfl (by decide +kernel) ⟨by dsimp only [rmD]; omega, by dsimp only [rmD]; omega⟩) hP hS rfl hl.1 rfl (Nat.le_of_ble_eq_true rfl) dX12_termOf_126 ⟨Nat.le_refl _, Nat.le_refl _⟩ (fun v184 H locs hw183 hP hS => ?_)
                  refine k_top (z := 142) (Int32.toInt_inj.mp (hw183.2.trans (by decide +kernel))) ?_
                  refine lv_icmp_ne (tgt := 139) hx hb dX12_termOf_129 (by decide) (fun c191 => ?_) (fun c191 => ?_)
                  · refine lv_iload hx hb dX12_termOf_139 (lv_at hl 1 rfl) ?_
                    refine lv_bipush (v := 47) hx hb dX12_termOf_141 (by decide) ?_
                    refine kN.callS (As := [.int 47]) (rest := [.int 147, .ref o]) ⟨hx, hb, hml, hown, hg⟩ (m_sign l 47 (kb_w kc_47 (by decide) (by decide))) (va_cwS 1 hg (kgS wt6_220 wt6_221 wt1_14 wt6_222) rfl rfl rfl (by decide +kernel) ⟨by dsimp only [rmD]; omega, by dsimp only [rmD]; omega⟩) hP hS rfl hl.1 rfl (Nat.le_of_ble_eq_true rfl) dX12_termOf_143 ⟨Nat.le_refl _, Nat.le_refl _⟩ (fun v193 H locs hw192 hP hS => ?_)
                    refine k_top (z := 147) (Int32.toInt_inj.mp (hw192.2.trans (by decide +kernel))) ?_
                    refine lv_icmp_ne (tgt := 156) hx hb dX12_termOf_146 (by decide) (fun c196 => ?_) (fun c196 => ?_)
                    · exact kb_nsame c196 kc_147 kc_147
                    · refine lv_lload_n hx hb dX12_termOf_149 rfl (lv_at hl 2 rfl) ?_
                      refine lv_lload hx hb dX12_termOf_150 (lv_at hl 0 rfl) ?_
                      refine lv_ldiv hx hb dX12_termOf_152 (by decide +kernel) ?_
                      refine lv_topl (fun t197 et197 => ?_)
                      refine lv_goto (tgt := 160) hx hb dX12_termOf_153 (by decide) ?_
                      refine lv_iload_n hx hb dX12_termOf_160 rfl (lv_at hl 4 rfl) ?_
                      refine kL.callV (As := [.long t197, .int lv]) (rest := []) ⟨hx, hb, hml, hown, hg⟩ (m_bounded l o r f_182 a g hI t197 lv blv ) (cwV 2 hg (kgV wt7_74 wt7_76 wp5_14 wt1_14 wt7_77) rfl rfl rfl (by decide +kernel) ⟨by dsimp only [rmD]; omega, by dsimp only [rmD]; omega⟩) hK hP hD hS hA mIs [] rfl (wr := []) rfl rfl rfl (fun i h => by cases h) 0 12 rfl rfl rfl hl.1 rfl (Nat.le_of_ble_eq_true rfl) dX12_termOf_161 ⟨Nat.le_refl _, Nat.le_refl _⟩ (fun v199 u200 H locs hw198 hP hD hS => ?_)
                      have hP : va_P D vwCl (mW K o r u200 a g) H := hP
                      have hD : va_D A (mW K o r u200 a g) := hD
                      have hI : mI u200 a := hw198.2.1
                      have eE201 : fE [24] f_182 u200 := hw198.2.2
                      have hE : fE [22, 24] f u200 := fE_tr hE (fE_w (by decide) eE201)
                      refine lv_lstore_n (lv' := [(2, .long v199), (5, .long 1), (4, .int 147), (0, .ref o), (1, .int lv)]) hx hb dX12_termOf_164 rfl hl (by decide) rfl (fun ls hl => ?_)
                      refine lv_goto (tgt := 6) hx hb dX12_termOf_165 (by decide) ?_
                      exact ihlp9 (mm) u200 _ _ _ v199 (h6) hI hE (by rw [((eE201 22 (by decide)).trans ((show f_182 22 = u121 22 from by rw [← ef_182]; rfl).trans egv123.symm))]; exact hg124) hP hD hS (lv_sub hl [0, 3, 4] rfl)
                  · exact kb_dj c191 kc_147 kc_142 (by decide)
                refine lv_if_ne (tgt := 110) hx hb dX12_termOf_103 (by decide) (fun c202 => ?_) (fun c202 => ?_)
                · have b203 : kb 1 t152 1 := kr_nel c202 b153 kc_0 (by decide)
                  exact jn181 _ _ _   hP hD hS (lv_sub hl [0, 1, 2, 3, 4] rfl)
                · have b204 : kb 0 t152 0 := kb_eq c202 kc_0
                  refine lv_iload_n hx hb dX12_termOf_106 rfl (lv_at hl 4 rfl) ?_
                  refine lv_if_eq (tgt := 114) hx hb dX12_termOf_107 (by decide) (fun c207 => ?_) (fun c207 => ?_)
                  · have b208 : kb 0 lv 0 := kb_eq c207 kc_0
                    refine lv_iconst (v := 0) hx hb dX12_termOf_114 (by decide) ?_
                    refine va_put (D := D) (ci := 12) (v := .int 0) (ty := .boolean) (C := RX12) (T := TX12) (N := 48) hx hb hg inC12 tyX12 tyX12_ok nmX12 hown hK hP hD hS 0 rfl rfl 24 (by decide) (hg _ wt5_184) (fun _ h9 => h9) rfl (by decide +kernel) rfl rfl (Nat.le_of_ble_eq_true rfl) dX12_termOf_115 (fun H locs hP hD hS => ?_)
                    have hP : va_P D vwCl (mW K o r (upd u121 24 0) a g) H := hP
                    have hD : va_D A (mW K o r (upd u121 24 0) a g) := hD
                    refine k_gen (P := fun z => va_P D vwCl (mW K o r z a g) H ∧ va_D A (mW K o r z a g) ∧ (mI z a) ∧ (fE [22, 24] f z)) (upd u121 24 0) ⟨hP, hD, (mI_f hI (fI_st hI.1 24 kc_0 (by decide) (by decide))), (fE_f hE (by decide))⟩ (fun f_209 ef_209 hq => ?_)
                    obtain ⟨hP, hD, hI, hE⟩ := hq
                    refine lv_lconst (v := 1) hx hb dX12_termOf_118 (by decide) ?_
                    refine lv_lstore (lv' := [(5, .long 1), (4, .int 147), (2, .long y7), (0, .ref o), (1, .int lv)]) hx hb dX12_termOf_119 hl (by decide) rfl (fun ls hl => ?_)
                    refine lv_aload_n hx hb dX12_termOf_121 rfl (lv_at hl 3 rfl) ?_
                    refine lv_iload hx hb dX12_termOf_122 (lv_at hl 1 rfl) ?_
                    refine lv_bipush (v := 42) hx hb dX12_termOf_124 (by decide) ?_
                    refine kN.callS (As := [.int 42]) (rest := [.int 147, .ref o]) ⟨hx, hb, hml, hown, hg⟩ (m_sign l 42 (kb_w kc_42 (by decide) (by decide))) (va_cwS 1 hg (kgS wt6_220 wt6_221 wt1_14 wt6_222) rfl rfl rfl (by decide +kernel) ⟨by dsimp only [rmD]; omega, by dsimp only [rmD]; omega⟩) hP hS rfl hl.1 rfl (Nat.le_of_ble_eq_true rfl) dX12_termOf_126 ⟨Nat.le_refl _, Nat.le_refl _⟩ (fun v211 H locs hw210 hP hS => ?_)
                    refine k_top (z := 142) (Int32.toInt_inj.mp (hw210.2.trans (by decide +kernel))) ?_
                    refine lv_icmp_ne (tgt := 139) hx hb dX12_termOf_129 (by decide) (fun c218 => ?_) (fun c218 => ?_)
                    · refine lv_iload hx hb dX12_termOf_139 (lv_at hl 1 rfl) ?_
                      refine lv_bipush (v := 47) hx hb dX12_termOf_141 (by decide) ?_
                      refine kN.callS (As := [.int 47]) (rest := [.int 147, .ref o]) ⟨hx, hb, hml, hown, hg⟩ (m_sign l 47 (kb_w kc_47 (by decide) (by decide))) (va_cwS 1 hg (kgS wt6_220 wt6_221 wt1_14 wt6_222) rfl rfl rfl (by decide +kernel) ⟨by dsimp only [rmD]; omega, by dsimp only [rmD]; omega⟩) hP hS rfl hl.1 rfl (Nat.le_of_ble_eq_true rfl) dX12_termOf_143 ⟨Nat.le_refl _, Nat.le_refl _⟩ (fun v220 H locs hw219 hP hS => ?_)
                      refine k_top (z := 147) (Int32.toInt_inj.mp (hw219.2.trans (by decide +kernel))) ?_
                      refine lv_icmp_ne (tgt := 156) hx hb dX12_termOf_146 (by decide) (fun c223 => ?_) (fun c223 => ?_)
                      · exact kb_nsame c223 kc_147 kc_147
                      · refine lv_lload_n hx hb dX12_termOf_149 rfl (lv_at hl 2 rfl) ?_
                        refine lv_lload hx hb dX12_termOf_150 (lv_at hl 0 rfl) ?_
                        refine lv_ldiv hx hb dX12_termOf_152 (by decide +kernel) ?_
                        refine lv_topl (fun t224 et224 => ?_)
                        refine lv_goto (tgt := 160) hx hb dX12_termOf_153 (by decide) ?_
                        refine lv_iload_n hx hb dX12_termOf_160 rfl (lv_at hl 4 rfl) ?_
                        refine kL.callV (As := [.long t224, .int lv]) (rest := []) ⟨hx, hb, hml, hown, hg⟩ (m_bounded l o r f_209 a g hI t224 lv (kb_w b208 (by decide) (by decide)) ) (cwV 2 hg (kgV wt7_74 wt7_76 wp5_14 wt1_14 wt7_77) rfl rfl rfl (by decide +kernel) ⟨by dsimp only [rmD]; omega, by dsimp only [rmD]; omega⟩) hK hP hD hS hA mIs [] rfl (wr := []) rfl rfl rfl (fun i h => by cases h) 0 12 rfl rfl rfl hl.1 rfl (Nat.le_of_ble_eq_true rfl) dX12_termOf_161 ⟨Nat.le_refl _, Nat.le_refl _⟩ (fun v226 u227 H locs hw225 hP hD hS => ?_)
                        have hP : va_P D vwCl (mW K o r u227 a g) H := hP
                        have hD : va_D A (mW K o r u227 a g) := hD
                        have hI : mI u227 a := hw225.2.1
                        have eE228 : fE [24] f_209 u227 := hw225.2.2
                        have hE : fE [22, 24] f u227 := fE_tr hE (fE_w (by decide) eE228)
                        refine lv_lstore_n (lv' := [(2, .long v226), (5, .long 1), (4, .int 147), (0, .ref o), (1, .int lv)]) hx hb dX12_termOf_164 rfl hl (by decide) rfl (fun ls hl => ?_)
                        refine lv_goto (tgt := 6) hx hb dX12_termOf_165 (by decide) ?_
                        exact ihlp9 (mm) u227 _ _ _ v226 (h6) hI hE (by rw [((eE228 22 (by decide)).trans ((show f_209 22 = u121 22 from by rw [← ef_209]; rfl).trans egv123.symm))]; exact hg124) hP hD hS (lv_sub hl [0, 3, 4] rfl)
                    · exact kb_dj c218 kc_147 kc_142 (by decide)
                  · have b229 : kb 1 lv 1 := kr_nel c207 blv kc_0 (by decide)
                    exact jn181 _ _ _   hP hD hS (lv_sub hl [0, 1, 2, 3, 4] rfl)
          · exact kb_nsame c111 kc_147 kc_147
      · have b230 : kb 0 gv11 2799 := kb_go (eS_fE hE hp0 (by decide) (by decide)) (mC_lt (eS_fE hE hp0 (by decide) (by decide)) (ne_0 h1 (by decide +kernel))) hg12
        refine lv_aload_n hx hb dX12_termOf_6 rfl (lv_at hl 1 rfl) ?_
        refine lv_aload_n hx hb dX12_termOf_7 rfl (lv_at hl 1 rfl) ?_
        refine va_get (D := D) (ci := 12) (v := .int (F8 22)) (C := RX12) (T := TX12) (N := 48) hx hb hg inC12 hown hK hP 0 rfl rfl 22 (by decide) (hg _ wt5_182) (fun _ h9 => h9) rfl dX12_termOf_8 ?_
        refine k_top (z := gv11) egv11.symm ?_
        refine kI.callV (As := [.int gv11]) (rest := []) ⟨hx, hb, hml, hown, hg⟩ (m_codeAt l o r F8 a g hI gv11  t (i7) ob (eS_fE hE hp0 (by decide) (by decide)) hg12) (cwV 1 hg (kgV wt7_47 wt7_49 wp5_8 wt1_14 wt7_50) rfl rfl rfl (by decide +kernel) ⟨by dsimp only [rmD]; omega, by dsimp only [rmD]; omega⟩) hK hP hD hS hA mIs [] rfl (wr := []) rfl rfl rfl (fun i h => by cases h) 0 12 rfl rfl rfl hl.1 rfl (Nat.le_of_ble_eq_true rfl) dX12_termOf_11 ⟨Nat.le_refl _, Nat.le_refl _⟩ (fun v232 u233 H locs hw231 hP hD hS => ?_)
        have hP : va_P D vwCl (mW K o r F8 a g) H := hP
        have hD : va_D A (mW K o r F8 a g) := hD
        refine k_top (z := 137) (hw231.2.trans h1) ?_
        refine lv_bipush (v := 42) hx hb dX12_termOf_14 (by decide) ?_
        refine kN.callS (As := [.int 42]) (rest := [.int 137]) ⟨hx, hb, hml, hown, hg⟩ (m_sign l 42 (kb_w kc_42 (by decide) (by decide))) (va_cwS 1 hg (kgS wt6_220 wt6_221 wt1_14 wt6_222) rfl rfl rfl (by decide +kernel) ⟨by dsimp only [rmD]; omega, by dsimp only [rmD]; omega⟩) hP hS rfl hl.1 rfl (Nat.le_of_ble_eq_true rfl) dX12_termOf_16 ⟨Nat.le_refl _, Nat.le_refl _⟩ (fun v235 H locs hw234 hP hS => ?_)
        refine k_top (z := 142) (Int32.toInt_inj.mp (hw234.2.trans (by decide +kernel))) ?_
        refine lv_icmp_eq (tgt := 54) hx hb dX12_termOf_19 (by decide) (fun c251 => ?_) (fun c251 => ?_)
        · exact kb_dj c251 kc_137 kc_142 (by decide)
        · refine lv_aload_n hx hb dX12_termOf_22 rfl (lv_at hl 1 rfl) ?_
          refine lv_aload_n hx hb dX12_termOf_23 rfl (lv_at hl 1 rfl) ?_
          refine va_get (D := D) (ci := 12) (v := .int (F8 22)) (C := RX12) (T := TX12) (N := 48) hx hb hg inC12 hown hK hP 0 rfl rfl 22 (by decide) (hg _ wt5_182) (fun _ h9 => h9) rfl dX12_termOf_24 ?_
          refine k_top (z := gv11) egv11.symm ?_
          refine kI.callV (As := [.int gv11]) (rest := []) ⟨hx, hb, hml, hown, hg⟩ (m_codeAt l o r F8 a g hI gv11  t (i7) ob (eS_fE hE hp0 (by decide) (by decide)) hg12) (cwV 1 hg (kgV wt7_47 wt7_49 wp5_8 wt1_14 wt7_50) rfl rfl rfl (by decide +kernel) ⟨by dsimp only [rmD]; omega, by dsimp only [rmD]; omega⟩) hK hP hD hS hA mIs [] rfl (wr := []) rfl rfl rfl (fun i h => by cases h) 0 12 rfl rfl rfl hl.1 rfl (Nat.le_of_ble_eq_true rfl) dX12_termOf_27 ⟨Nat.le_refl _, Nat.le_refl _⟩ (fun v253 u254 H locs hw252 hP hD hS => ?_)
          have hP : va_P D vwCl (mW K o r F8 a g) H := hP
          have hD : va_D A (mW K o r F8 a g) := hD
          refine k_top (z := 137) (hw252.2.trans h1) ?_
          refine lv_bipush (v := 47) hx hb dX12_termOf_30 (by decide) ?_
          refine kN.callS (As := [.int 47]) (rest := [.int 137]) ⟨hx, hb, hml, hown, hg⟩ (m_sign l 47 (kb_w kc_47 (by decide) (by decide))) (va_cwS 1 hg (kgS wt6_220 wt6_221 wt1_14 wt6_222) rfl rfl rfl (by decide +kernel) ⟨by dsimp only [rmD]; omega, by dsimp only [rmD]; omega⟩) hP hS rfl hl.1 rfl (Nat.le_of_ble_eq_true rfl) dX12_termOf_32 ⟨Nat.le_refl _, Nat.le_refl _⟩ (fun v256 H locs hw255 hP hS => ?_)
          refine k_top (z := 147) (Int32.toInt_inj.mp (hw255.2.trans (by decide +kernel))) ?_
          refine lv_icmp_eq (tgt := 54) hx hb dX12_termOf_35 (by decide) (fun c265 => ?_) (fun c265 => ?_)
          · exact kb_dj c265 kc_137 kc_147 (by decide)
          · refine lv_aload_n hx hb dX12_termOf_38 rfl (lv_at hl 1 rfl) ?_
            refine lv_aload_n hx hb dX12_termOf_39 rfl (lv_at hl 1 rfl) ?_
            refine va_get (D := D) (ci := 12) (v := .int (F8 22)) (C := RX12) (T := TX12) (N := 48) hx hb hg inC12 hown hK hP 0 rfl rfl 22 (by decide) (hg _ wt5_182) (fun _ h9 => h9) rfl dX12_termOf_40 ?_
            refine k_top (z := gv11) egv11.symm ?_
            refine kI.callV (As := [.int gv11]) (rest := []) ⟨hx, hb, hml, hown, hg⟩ (m_codeAt l o r F8 a g hI gv11  t (i7) ob (eS_fE hE hp0 (by decide) (by decide)) hg12) (cwV 1 hg (kgV wt7_47 wt7_49 wp5_8 wt1_14 wt7_50) rfl rfl rfl (by decide +kernel) ⟨by dsimp only [rmD]; omega, by dsimp only [rmD]; omega⟩) hK hP hD hS hA mIs [] rfl (wr := []) rfl rfl rfl (fun i h => by cases h) 0 12 rfl rfl rfl hl.1 rfl (Nat.le_of_ble_eq_true rfl) dX12_termOf_43 ⟨Nat.le_refl _, Nat.le_refl _⟩ (fun v267 u268 H locs hw266 hP hD hS => ?_)
            have hP : va_P D vwCl (mW K o r F8 a g) H := hP
            have hD : va_D A (mW K o r F8 a g) := hD
            refine k_top (z := 137) (hw266.2.trans h1) ?_
            refine lv_bipush (v := 37) hx hb dX12_termOf_46 (by decide) ?_
            refine kN.callS (As := [.int 37]) (rest := [.int 137]) ⟨hx, hb, hml, hown, hg⟩ (m_sign l 37 (kb_w kc_37 (by decide) (by decide))) (va_cwS 1 hg (kgS wt6_220 wt6_221 wt1_14 wt6_222) rfl rfl rfl (by decide +kernel) ⟨by dsimp only [rmD]; omega, by dsimp only [rmD]; omega⟩) hP hS rfl hl.1 rfl (Nat.le_of_ble_eq_true rfl) dX12_termOf_48 ⟨Nat.le_refl _, Nat.le_refl _⟩ (fun v270 H locs hw269 hP hS => ?_)
            refine k_top (z := 137) (Int32.toInt_inj.mp (hw269.2.trans (by decide +kernel))) ?_
            refine lv_icmp_ne (tgt := 168) hx hb dX12_termOf_51 (by decide) (fun c272 => ?_) (fun c272 => ?_)
            · exact kb_nsame c272 kc_137 kc_137
            · refine lv_aload_n hx hb dX12_termOf_54 rfl (lv_at hl 1 rfl) ?_
              refine lv_aload_n hx hb dX12_termOf_55 rfl (lv_at hl 1 rfl) ?_
              refine va_get (D := D) (ci := 12) (v := .int (F8 22)) (C := RX12) (T := TX12) (N := 48) hx hb hg inC12 hown hK hP 0 rfl rfl 22 (by decide) (hg _ wt5_182) (fun _ h9 => h9) rfl dX12_termOf_56 ?_
              refine k_top (z := gv11) egv11.symm ?_
              refine kI.callV (As := [.int gv11]) (rest := []) ⟨hx, hb, hml, hown, hg⟩ (m_codeAt l o r F8 a g hI gv11  t (i7) ob (eS_fE hE hp0 (by decide) (by decide)) hg12) (cwV 1 hg (kgV wt7_47 wt7_49 wp5_8 wt1_14 wt7_50) rfl rfl rfl (by decide +kernel) ⟨by dsimp only [rmD]; omega, by dsimp only [rmD]; omega⟩) hK hP hD hS hA mIs [] rfl (wr := []) rfl rfl rfl (fun i h => by cases h) 0 12 rfl rfl rfl hl.1 rfl (Nat.le_of_ble_eq_true rfl) dX12_termOf_59 ⟨Nat.le_refl _, Nat.le_refl _⟩ (fun v274 u275 H locs hw273 hP hD hS => ?_)
              have hP : va_P D vwCl (mW K o r F8 a g) H := hP
              have hD : va_D A (mW K o r F8 a g) := hD
              refine k_top (z := 137) (hw273.2.trans h1) ?_
              refine lv_istore (lv' := [(4, .int 137), (2, .long y7), (0, .ref o), (1, .int lv)]) hx hb dX12_termOf_62 hl (by decide) rfl (fun ls hl => ?_)
              refine lv_aload_n hx hb dX12_termOf_64 rfl (lv_at hl 2 rfl) ?_
              refine lv_dup hx hb dX12_termOf_65 rfl ?_
              refine va_get (D := D) (ci := 12) (v := .int (F8 22)) (C := RX12) (T := TX12) (N := 48) hx hb hg inC12 hown hK hP 0 rfl rfl 22 (by decide) (hg _ wt5_182) (fun _ h9 => h9) rfl dX12_termOf_66 ?_
              refine k_top (z := gv11) egv11.symm ?_
              refine lv_iconst (v := 1) hx hb dX12_termOf_69 (by decide) ?_
              refine lv_iadd hx hb dX12_termOf_70 ?_
              refine lv_topi (fun t276 et276 => ?_)
              have b277 : kb 1 t276 2800 := kb_eq et276 (kb_add b230 kc_1 (by decide) (by decide))
              have qt276 : t276.toInt = gv11.toInt + 1 := by rw [et276]; exact kt_addc b230 kc_1 (by decide) (by decide)
              have hg278 : t276.toInt = 400 * (t : Int) + ((i7 + 1 : Nat) : Int) := by rw [qt276, hg12]; omega
              refine va_put (D := D) (ci := 12) (v := .int t276) (ty := .int) (C := RX12) (T := TX12) (N := 48) hx hb hg inC12 tyX12 tyX12_ok nmX12 hown hK hP hD hS 0 rfl rfl 22 (by decide) (hg _ wt5_182) (fun _ h9 => h9) rfl (by decide +kernel) rfl rfl (Nat.le_of_ble_eq_true rfl) dX12_termOf_71 (fun H locs hP hD hS => ?_)
              have hP : va_P D vwCl (mW K o r (upd F8 22 t276) a g) H := hP
              have hD : va_D A (mW K o r (upd F8 22 t276) a g) := hD
              refine k_gen (P := fun z => va_P D vwCl (mW K o r z a g) H ∧ va_D A (mW K o r z a g) ∧ (mI z a) ∧ (fE [22, 24] f z)) (upd F8 22 t276) ⟨hP, hD, (mI_f hI (fI_st hI.1 22 (kb_any _) (by decide) (by decide))), (fE_f hE (by decide))⟩ (fun f_279 ef_279 hq => ?_)
              obtain ⟨hP, hD, hI, hE⟩ := hq
              refine lv_aload_n hx hb dX12_termOf_74 rfl (lv_at hl 2 rfl) ?_
              refine lv_iload_n hx hb dX12_termOf_75 rfl (lv_at hl 3 rfl) ?_
              refine kL.callV (As := [.int lv]) (rest := []) ⟨hx, hb, hml, hown, hg⟩ (hpart l o r f_279 a g hI lv blv t (i7 + 1) (mm) ob (eS_fE hE hp0 (by decide) (by decide)) (by rw [(show f_279 22 = t276 from by rw [← ef_279]; rfl)]; exact hg278) (gG_of ht)) (cwV 1 hg (kgV wt7_59 wt7_61 wp5_11 wt1_14 wt7_62) rfl rfl rfl (by decide +kernel) ⟨by dsimp only [rmD]; omega, by dsimp only [rmD]; omega⟩) hK hP hD hS hA mIs [] rfl (wr := []) rfl rfl rfl (fun i h => by cases h) 0 12 rfl rfl rfl hl.1 rfl (Nat.le_of_ble_eq_true rfl) dX12_termOf_76 ⟨Nat.le_refl _, Nat.le_refl _⟩ (fun v281 u282 H locs hw280 hP hD hS => ?_)
              have hP : va_P D vwCl (mW K o r u282 a g) H := hP
              have hD : va_D A (mW K o r u282 a g) := hD
              have hI : mI u282 a := hw280.2.1
              have eE283 : fE [22, 24] f_279 u282 := hw280.2.2.1
              have hE : fE [22, 24] f u282 := fE_tr hE eE283
              obtain ⟨gv284, egv284⟩ : ∃ z : Int32, z = u282 22 := ⟨_, rfl⟩
              have hg285 : gv284.toInt = 400 * (t : Int) + ((mm : Nat) : Int) := by rw [egv284]; exact hw280.2.2.2
              refine lv_lstore (lv' := [(5, .long v281), (4, .int 137), (2, .long y7), (0, .ref o), (1, .int lv)]) hx hb dX12_termOf_79 hl (by decide) rfl (fun ls hl => ?_)
              refine lv_iload hx hb dX12_termOf_81 (lv_at hl 1 rfl) ?_
              refine lv_bipush (v := 42) hx hb dX12_termOf_83 (by decide) ?_
              refine kN.callS (As := [.int 42]) (rest := [.int 137]) ⟨hx, hb, hml, hown, hg⟩ (m_sign l 42 (kb_w kc_42 (by decide) (by decide))) (va_cwS 1 hg (kgS wt6_220 wt6_221 wt1_14 wt6_222) rfl rfl rfl (by decide +kernel) ⟨by dsimp only [rmD]; omega, by dsimp only [rmD]; omega⟩) hP hS rfl hl.1 rfl (Nat.le_of_ble_eq_true rfl) dX12_termOf_85 ⟨Nat.le_refl _, Nat.le_refl _⟩ (fun v287 H locs hw286 hP hS => ?_)
              refine k_top (z := 142) (Int32.toInt_inj.mp (hw286.2.trans (by decide +kernel))) ?_
              refine lv_icmp_eq (tgt := 121) hx hb dX12_termOf_88 (by decide) (fun c289 => ?_) (fun c289 => ?_)
              · exact kb_dj c289 kc_137 kc_142 (by decide)
              · refine lv_lload hx hb dX12_termOf_91 (lv_at hl 0 rfl) ?_
                refine lv_lconst (v := 0) hx hb dX12_termOf_93 (by decide) ?_
                refine W.lcmp hx hb dX12_termOf_94 ?_
                refine lv_topi (fun t290 et290 => ?_)
                refine lv_if_ne (tgt := 121) hx hb dX12_termOf_95 (by decide) (fun c291 => ?_) (fun c291 => ?_)
                · have h292 := klc_ne (et290 ▸ c291)
                  refine lv_aload_n hx hb dX12_termOf_121 rfl (lv_at hl 3 rfl) ?_
                  refine lv_iload hx hb dX12_termOf_122 (lv_at hl 1 rfl) ?_
                  refine lv_bipush (v := 42) hx hb dX12_termOf_124 (by decide) ?_
                  refine kN.callS (As := [.int 42]) (rest := [.int 137, .ref o]) ⟨hx, hb, hml, hown, hg⟩ (m_sign l 42 (kb_w kc_42 (by decide) (by decide))) (va_cwS 1 hg (kgS wt6_220 wt6_221 wt1_14 wt6_222) rfl rfl rfl (by decide +kernel) ⟨by dsimp only [rmD]; omega, by dsimp only [rmD]; omega⟩) hP hS rfl hl.1 rfl (Nat.le_of_ble_eq_true rfl) dX12_termOf_126 ⟨Nat.le_refl _, Nat.le_refl _⟩ (fun v294 H locs hw293 hP hS => ?_)
                  refine k_top (z := 142) (Int32.toInt_inj.mp (hw293.2.trans (by decide +kernel))) ?_
                  refine lv_icmp_ne (tgt := 139) hx hb dX12_termOf_129 (by decide) (fun c301 => ?_) (fun c301 => ?_)
                  · refine lv_iload hx hb dX12_termOf_139 (lv_at hl 1 rfl) ?_
                    refine lv_bipush (v := 47) hx hb dX12_termOf_141 (by decide) ?_
                    refine kN.callS (As := [.int 47]) (rest := [.int 137, .ref o]) ⟨hx, hb, hml, hown, hg⟩ (m_sign l 47 (kb_w kc_47 (by decide) (by decide))) (va_cwS 1 hg (kgS wt6_220 wt6_221 wt1_14 wt6_222) rfl rfl rfl (by decide +kernel) ⟨by dsimp only [rmD]; omega, by dsimp only [rmD]; omega⟩) hP hS rfl hl.1 rfl (Nat.le_of_ble_eq_true rfl) dX12_termOf_143 ⟨Nat.le_refl _, Nat.le_refl _⟩ (fun v303 H locs hw302 hP hS => ?_)
                    refine k_top (z := 147) (Int32.toInt_inj.mp (hw302.2.trans (by decide +kernel))) ?_
                    refine lv_icmp_ne (tgt := 156) hx hb dX12_termOf_146 (by decide) (fun c306 => ?_) (fun c306 => ?_)
                    · refine lv_lload_n hx hb dX12_termOf_156 rfl (lv_at hl 2 rfl) ?_
                      refine lv_lload hx hb dX12_termOf_157 (lv_at hl 0 rfl) ?_
                      refine lv_lrem hx hb dX12_termOf_159 h292 ?_
                      refine lv_topl (fun t307 et307 => ?_)
                      refine lv_iload_n hx hb dX12_termOf_160 rfl (lv_at hl 4 rfl) ?_
                      refine kL.callV (As := [.long t307, .int lv]) (rest := []) ⟨hx, hb, hml, hown, hg⟩ (m_bounded l o r u282 a g hI t307 lv blv ) (cwV 2 hg (kgV wt7_74 wt7_76 wp5_14 wt1_14 wt7_77) rfl rfl rfl (by decide +kernel) ⟨by dsimp only [rmD]; omega, by dsimp only [rmD]; omega⟩) hK hP hD hS hA mIs [] rfl (wr := []) rfl rfl rfl (fun i h => by cases h) 0 12 rfl rfl rfl hl.1 rfl (Nat.le_of_ble_eq_true rfl) dX12_termOf_161 ⟨Nat.le_refl _, Nat.le_refl _⟩ (fun v309 u310 H locs hw308 hP hD hS => ?_)
                      have hP : va_P D vwCl (mW K o r u310 a g) H := hP
                      have hD : va_D A (mW K o r u310 a g) := hD
                      have hI : mI u310 a := hw308.2.1
                      have eE311 : fE [24] u282 u310 := hw308.2.2
                      have hE : fE [22, 24] f u310 := fE_tr hE (fE_w (by decide) eE311)
                      refine lv_lstore_n (lv' := [(2, .long v309), (5, .long v281), (4, .int 137), (0, .ref o), (1, .int lv)]) hx hb dX12_termOf_164 rfl hl (by decide) rfl (fun ls hl => ?_)
                      refine lv_goto (tgt := 6) hx hb dX12_termOf_165 (by decide) ?_
                      exact ihlp9 (mm) u310 _ _ _ v309 (h6) hI hE (by rw [((eE311 22 (by decide)).trans egv284.symm)]; exact hg285) hP hD hS (lv_sub hl [0, 3, 4] rfl)
                    · exact kb_dj c306 kc_137 kc_147 (by decide)
                  · exact kb_dj c301 kc_137 kc_142 (by decide)
                · have h312 := klc_eq (et290 ▸ c291)
                  refine lv_aload_n hx hb dX12_termOf_98 rfl (lv_at hl 3 rfl) ?_
                  refine lv_aload_n hx hb dX12_termOf_99 rfl (lv_at hl 3 rfl) ?_
                  refine va_get (D := D) (ci := 12) (v := .int (u282 24)) (C := RX12) (T := TX12) (N := 48) hx hb hg inC12 hown hK hP 0 rfl rfl 24 (by decide) (hg _ wt5_184) (fun _ h9 => h9) rfl dX12_termOf_100 ?_
                  refine lv_topi (fun t313 et313 => ?_)
                  have b314 : kb 0 t313 1 := kb_eq et313 (fI_at hI.1 24 (by decide) (by decide))
                  have jn342 : ∀ (H : Heap) (locs : List Loc) (ls : Array Slot), va_P D vwCl (mW K o r u282 a g) H → va_D A (mW K o r u282 a g) → va_S A s.heap H locs → lv_has ls 7 [(5, .long v281), (4, .int 137), (2, .long y7), (0, .ref o), (1, .int lv)] → W p l e (rmD (3 * d + 7) 0 0) s m ([.ref o, .int lv] : List Value).toArray below meth c H locs 0 0 (kQl D (tysK K) (fun v (u : Nat → Int32) => kbl (-9223372036854775808) v 9223372036854775807 ∧ mI u a ∧ fE [22, 24] f u ∧ (u 22).toInt = 400 * (t : Int) + (j : Int)) (fun u => mW K o r u a g) A below ([.ref o, .int lv] : List Value).toArray s 0 0) (F0 m 110 ls [.ref o]) := by
                    intro  H locs ls   hP hD hS hl
                    refine lv_iconst (v := 1) hx hb dX12_termOf_110 (by decide) ?_
                    refine lv_goto (tgt := 115) hx hb dX12_termOf_111 (by decide) ?_
                    refine va_put (D := D) (ci := 12) (v := .int 1) (ty := .boolean) (C := RX12) (T := TX12) (N := 48) hx hb hg inC12 tyX12 tyX12_ok nmX12 hown hK hP hD hS 0 rfl rfl 24 (by decide) (hg _ wt5_184) (fun _ h9 => h9) rfl (by decide +kernel) rfl rfl (Nat.le_of_ble_eq_true rfl) dX12_termOf_115 (fun H locs hP hD hS => ?_)
                    have hP : va_P D vwCl (mW K o r (upd u282 24 1) a g) H := hP
                    have hD : va_D A (mW K o r (upd u282 24 1) a g) := hD
                    refine k_gen (P := fun z => va_P D vwCl (mW K o r z a g) H ∧ va_D A (mW K o r z a g) ∧ (mI z a) ∧ (fE [22, 24] f z)) (upd u282 24 1) ⟨hP, hD, (mI_f hI (fI_st hI.1 24 kc_1 (by decide) (by decide))), (fE_f hE (by decide))⟩ (fun f_343 ef_343 hq => ?_)
                    obtain ⟨hP, hD, hI, hE⟩ := hq
                    refine lv_lconst (v := 1) hx hb dX12_termOf_118 (by decide) ?_
                    refine lv_lstore (lv' := [(5, .long 1), (4, .int 137), (2, .long y7), (0, .ref o), (1, .int lv)]) hx hb dX12_termOf_119 hl (by decide) rfl (fun ls hl => ?_)
                    refine lv_aload_n hx hb dX12_termOf_121 rfl (lv_at hl 3 rfl) ?_
                    refine lv_iload hx hb dX12_termOf_122 (lv_at hl 1 rfl) ?_
                    refine lv_bipush (v := 42) hx hb dX12_termOf_124 (by decide) ?_
                    refine kN.callS (As := [.int 42]) (rest := [.int 137, .ref o]) ⟨hx, hb, hml, hown, hg⟩ (m_sign l 42 (kb_w kc_42 (by decide) (by decide))) (va_cwS 1 hg (kgS wt6_220 wt6_221 wt1_14 wt6_222) rfl rfl rfl (by decide +kernel) ⟨by dsimp only [rmD]; omega, by dsimp only [rmD]; omega⟩) hP hS rfl hl.1 rfl (Nat.le_of_ble_eq_true rfl) dX12_termOf_126 ⟨Nat.le_refl _, Nat.le_refl _⟩ (fun v345 H locs hw344 hP hS => ?_)
                    refine k_top (z := 142) (Int32.toInt_inj.mp (hw344.2.trans (by decide +kernel))) ?_
                    refine lv_icmp_ne (tgt := 139) hx hb dX12_termOf_129 (by decide) (fun c352 => ?_) (fun c352 => ?_)
                    · refine lv_iload hx hb dX12_termOf_139 (lv_at hl 1 rfl) ?_
                      refine lv_bipush (v := 47) hx hb dX12_termOf_141 (by decide) ?_
                      refine kN.callS (As := [.int 47]) (rest := [.int 137, .ref o]) ⟨hx, hb, hml, hown, hg⟩ (m_sign l 47 (kb_w kc_47 (by decide) (by decide))) (va_cwS 1 hg (kgS wt6_220 wt6_221 wt1_14 wt6_222) rfl rfl rfl (by decide +kernel) ⟨by dsimp only [rmD]; omega, by dsimp only [rmD]; omega⟩) hP hS rfl hl.1 rfl (Nat.le_of_ble_eq_true rfl) dX12_termOf_143 ⟨Nat.le_refl _, Nat.le_refl _⟩ (fun v354 H locs hw353 hP hS => ?_)
                      refine k_top (z := 147) (Int32.toInt_inj.mp (hw353.2.trans (by decide +kernel))) ?_
                      refine lv_icmp_ne (tgt := 156) hx hb dX12_termOf_146 (by decide) (fun c357 => ?_) (fun c357 => ?_)
                      · refine lv_lload_n hx hb dX12_termOf_156 rfl (lv_at hl 2 rfl) ?_
                        refine lv_lload hx hb dX12_termOf_157 (lv_at hl 0 rfl) ?_
                        refine lv_lrem hx hb dX12_termOf_159 (by decide +kernel) ?_
                        refine lv_topl (fun t358 et358 => ?_)
                        refine lv_iload_n hx hb dX12_termOf_160 rfl (lv_at hl 4 rfl) ?_
                        refine kL.callV (As := [.long t358, .int lv]) (rest := []) ⟨hx, hb, hml, hown, hg⟩ (m_bounded l o r f_343 a g hI t358 lv blv ) (cwV 2 hg (kgV wt7_74 wt7_76 wp5_14 wt1_14 wt7_77) rfl rfl rfl (by decide +kernel) ⟨by dsimp only [rmD]; omega, by dsimp only [rmD]; omega⟩) hK hP hD hS hA mIs [] rfl (wr := []) rfl rfl rfl (fun i h => by cases h) 0 12 rfl rfl rfl hl.1 rfl (Nat.le_of_ble_eq_true rfl) dX12_termOf_161 ⟨Nat.le_refl _, Nat.le_refl _⟩ (fun v360 u361 H locs hw359 hP hD hS => ?_)
                        have hP : va_P D vwCl (mW K o r u361 a g) H := hP
                        have hD : va_D A (mW K o r u361 a g) := hD
                        have hI : mI u361 a := hw359.2.1
                        have eE362 : fE [24] f_343 u361 := hw359.2.2
                        have hE : fE [22, 24] f u361 := fE_tr hE (fE_w (by decide) eE362)
                        refine lv_lstore_n (lv' := [(2, .long v360), (5, .long 1), (4, .int 137), (0, .ref o), (1, .int lv)]) hx hb dX12_termOf_164 rfl hl (by decide) rfl (fun ls hl => ?_)
                        refine lv_goto (tgt := 6) hx hb dX12_termOf_165 (by decide) ?_
                        exact ihlp9 (mm) u361 _ _ _ v360 (h6) hI hE (by rw [((eE362 22 (by decide)).trans ((show f_343 22 = u282 22 from by rw [← ef_343]; rfl).trans egv284.symm))]; exact hg285) hP hD hS (lv_sub hl [0, 3, 4] rfl)
                      · exact kb_dj c357 kc_137 kc_147 (by decide)
                    · exact kb_dj c352 kc_137 kc_142 (by decide)
                  refine lv_if_ne (tgt := 110) hx hb dX12_termOf_103 (by decide) (fun c363 => ?_) (fun c363 => ?_)
                  · have b364 : kb 1 t313 1 := kr_nel c363 b314 kc_0 (by decide)
                    exact jn342 _ _ _   hP hD hS (lv_sub hl [0, 1, 2, 3, 4] rfl)
                  · have b365 : kb 0 t313 0 := kb_eq c363 kc_0
                    refine lv_iload_n hx hb dX12_termOf_106 rfl (lv_at hl 4 rfl) ?_
                    refine lv_if_eq (tgt := 114) hx hb dX12_termOf_107 (by decide) (fun c368 => ?_) (fun c368 => ?_)
                    · have b369 : kb 0 lv 0 := kb_eq c368 kc_0
                      refine lv_iconst (v := 0) hx hb dX12_termOf_114 (by decide) ?_
                      refine va_put (D := D) (ci := 12) (v := .int 0) (ty := .boolean) (C := RX12) (T := TX12) (N := 48) hx hb hg inC12 tyX12 tyX12_ok nmX12 hown hK hP hD hS 0 rfl rfl 24 (by decide) (hg _ wt5_184) (fun _ h9 => h9) rfl (by decide +kernel) rfl rfl (Nat.le_of_ble_eq_true rfl) dX12_termOf_115 (fun H locs hP hD hS => ?_)
                      have hP : va_P D vwCl (mW K o r (upd u282 24 0) a g) H := hP
                      have hD : va_D A (mW K o r (upd u282 24 0) a g) := hD
                      refine k_gen (P := fun z => va_P D vwCl (mW K o r z a g) H ∧ va_D A (mW K o r z a g) ∧ (mI z a) ∧ (fE [22, 24] f z)) (upd u282 24 0) ⟨hP, hD, (mI_f hI (fI_st hI.1 24 kc_0 (by decide) (by decide))), (fE_f hE (by decide))⟩ (fun f_370 ef_370 hq => ?_)
                      obtain ⟨hP, hD, hI, hE⟩ := hq
                      refine lv_lconst (v := 1) hx hb dX12_termOf_118 (by decide) ?_
                      refine lv_lstore (lv' := [(5, .long 1), (4, .int 137), (2, .long y7), (0, .ref o), (1, .int lv)]) hx hb dX12_termOf_119 hl (by decide) rfl (fun ls hl => ?_)
                      refine lv_aload_n hx hb dX12_termOf_121 rfl (lv_at hl 3 rfl) ?_
                      refine lv_iload hx hb dX12_termOf_122 (lv_at hl 1 rfl) ?_
                      refine lv_bipush (v := 42) hx hb dX12_termOf_124 (by decide) ?_
                      refine kN.callS (As := [.int 42]) (rest := [.int 137, .ref o]) ⟨hx, hb, hml, hown, hg⟩ (m_sign l 42 (kb_w kc_42 (by decide) (by decide))) (va_cwS 1 hg (kgS wt6_220 wt6_221 wt1_14 wt6_222) rfl rfl rfl (by decide +kernel) ⟨by dsimp only [rmD]; omega, by dsimp only [rmD]; omega⟩) hP hS rfl hl.1 rfl (Nat.le_of_ble_eq_true rfl) dX12_termOf_126 ⟨Nat.le_refl _, Nat.le_refl _⟩ (fun v372 H locs hw371 hP hS => ?_)
                      refine k_top (z := 142) (Int32.toInt_inj.mp (hw371.2.trans (by decide +kernel))) ?_
                      refine lv_icmp_ne (tgt := 139) hx hb dX12_termOf_129 (by decide) (fun c379 => ?_) (fun c379 => ?_)
                      · refine lv_iload hx hb dX12_termOf_139 (lv_at hl 1 rfl) ?_
                        refine lv_bipush (v := 47) hx hb dX12_termOf_141 (by decide) ?_
                        refine kN.callS (As := [.int 47]) (rest := [.int 137, .ref o]) ⟨hx, hb, hml, hown, hg⟩ (m_sign l 47 (kb_w kc_47 (by decide) (by decide))) (va_cwS 1 hg (kgS wt6_220 wt6_221 wt1_14 wt6_222) rfl rfl rfl (by decide +kernel) ⟨by dsimp only [rmD]; omega, by dsimp only [rmD]; omega⟩) hP hS rfl hl.1 rfl (Nat.le_of_ble_eq_true rfl) dX12_termOf_143 ⟨Nat.le_refl _, Nat.le_refl _⟩ (fun v381 H locs hw380 hP hS => ?_)
                        refine k_top (z := 147) (Int32.toInt_inj.mp (hw380.2.trans (by decide +kernel))) ?_
                        refine lv_icmp_ne (tgt := 156) hx hb dX12_termOf_146 (by decide) (fun c384 => ?_) (fun c384 => ?_)
                        · refine lv_lload_n hx hb dX12_termOf_156 rfl (lv_at hl 2 rfl) ?_
                          refine lv_lload hx hb dX12_termOf_157 (lv_at hl 0 rfl) ?_
                          refine lv_lrem hx hb dX12_termOf_159 (by decide +kernel) ?_
                          refine lv_topl (fun t385 et385 => ?_)
                          refine lv_iload_n hx hb dX12_termOf_160 rfl (lv_at hl 4 rfl) ?_
                          refine kL.callV (As := [.long t385, .int lv]) (rest := []) ⟨hx, hb, hml, hown, hg⟩ (m_bounded l o r f_370 a g hI t385 lv (kb_w b369 (by decide) (by decide)) ) (cwV 2 hg (kgV wt7_74 wt7_76 wp5_14 wt1_14 wt7_77) rfl rfl rfl (by decide +kernel) ⟨by dsimp only [rmD]; omega, by dsimp only [rmD]; omega⟩) hK hP hD hS hA mIs [] rfl (wr := []) rfl rfl rfl (fun i h => by cases h) 0 12 rfl rfl rfl hl.1 rfl (Nat.le_of_ble_eq_true rfl) dX12_termOf_161 ⟨Nat.le_refl _, Nat.le_refl _⟩ (fun v387 u388 H locs hw386 hP hD hS => ?_)
                          have hP : va_P D vwCl (mW K o r u388 a g) H := hP
                          have hD : va_D A (mW K o r u388 a g) := hD
                          have hI : mI u388 a := hw386.2.1
                          have eE389 : fE [24] f_370 u388 := hw386.2.2
                          have hE : fE [22, 24] f u388 := fE_tr hE (fE_w (by decide) eE389)
                          refine lv_lstore_n (lv' := [(2, .long v387), (5, .long 1), (4, .int 137), (0, .ref o), (1, .int lv)]) hx hb dX12_termOf_164 rfl hl (by decide) rfl (fun ls hl => ?_)
                          refine lv_goto (tgt := 6) hx hb dX12_termOf_165 (by decide) ?_
                          exact ihlp9 (mm) u388 _ _ _ v387 (h6) hI hE (by rw [((eE389 22 (by decide)).trans ((show f_370 22 = u282 22 from by rw [← ef_370]; rfl).trans egv284.symm))]; exact hg285) hP hD hS (lv_sub hl [0, 3, 4] rfl)
                        · exact kb_dj c384 kc_137 kc_147 (by decide)
                      · exact kb_dj c379 kc_137 kc_142 (by decide)
                    · have b390 : kb 1 lv 1 := kr_nel c368 blv kc_0 (by decide)
                      exact jn342 _ _ _   hP hD hS (lv_sub hl [0, 1, 2, 3, 4] rfl)
  exact lp9 (n0) (m0) u3 _ _ _ v2 (hn0) hI hE (by rw [egv5.symm]; exact hg6) hP hD hS (lv_sub hl [0, 1, 2] rfl)
set_option maxHeartbeats 4000000 in
set_option maxRecDepth 100000 in
theorem m_sumOf (d : Nat) (hterm : cTerm d) (l : Launch) {D : va_G} {K : Nat → ClassId} (o : Nat) (r : Nat → Nat) (f : Nat → Int32) (a : Nat → Nat → Int32) (g : Nat → Int64) (hI : mI f a) (lv : Int32) (blv : kb 0 lv 1) (t i j : Nat) (ob : Bool) (hp0 : eS f a t ob) (hp1 : (f 22).toInt = 400 * (t : Int) + (i : Int)) (hp2 : gG ob (mC (a 2) t) d 0 i j) : kL l yX12_sumOf (Cond.code yX12_sumOf cX12_sumOf 7 (some .long) :: kG) (rmD (3 * d + 8) 0 0) D (tysK K) [.ref o, .int lv] (mW K o r f a g) (fun v (u : Nat → Int32) => kbl (-9223372036854775808) v 9223372036854775807 ∧ mI u a ∧ fE [22, 24] f u ∧ (u 22).toInt = 400 * (t : Int) + (j : Int)) (fun u => mW K o r u a g) 0 0 := by
  refine kL.of (cc := cX12_sumOf) (maxL := 7) (ret := (some .long)) (by decide) rfl (Nat.le_of_ble_eq_true rfl) ?_
  intro p e s m below meth c A hx hb hr hml hown hts hlocks hnm hK hP hD hS hA ls hl
  have hE : fE [22, 24] f f := fE_rf
  have hg : ∀ w ∈ kG, w.before _ s = true := fun w h => hts w (List.mem_cons_of_mem _ h)
  have hown : s.vm.findClass RX12 = some m.cls := hown
  have hl : lv_has ls 7 [(0, .ref o), (1, .int lv)] := hl
  obtain ⟨c22, ec22⟩ : ∃ z : Int32, z = f 22 := ⟨_, rfl⟩
  have hg0 : c22.toInt = 400 * (t : Int) + (i : Int) := by rw [ec22]; exact hp1
  obtain ⟨m0, hm1, hm2⟩ := gG_out hp2
  obtain ⟨n0, hn0⟩ := hm2
  refine lv_aload_n hx hb dX12_sumOf_0 rfl (lv_at hl 0 rfl) ?_
  refine lv_iload_n hx hb dX12_sumOf_1 rfl (lv_at hl 1 rfl) ?_
  refine kL.callV (As := [.int lv]) (rest := []) ⟨hx, hb, hml, hown, hg⟩ (hterm l o r f a g hI lv blv t (i) (m0) ob (eS_fE hE hp0 (by decide) (by decide)) (by rw [ec22.symm]; exact hg0) hm1) (cwV 1 hg (kgV wt7_55 wt7_57 wp5_10 wt1_14 wt7_58) rfl rfl rfl (by decide +kernel) ⟨by dsimp only [rmD]; omega, by dsimp only [rmD]; omega⟩) hK hP hD hS hA mIs [] rfl (wr := []) rfl rfl rfl (fun i h => by cases h) 0 12 rfl rfl rfl hl.1 rfl (Nat.le_of_ble_eq_true rfl) dX12_sumOf_2 ⟨Nat.le_refl _, Nat.le_refl _⟩ (fun v2 u3 H locs hw1 hP hD hS => ?_)
  have hP : va_P D vwCl (mW K o r u3 a g) H := hP
  have hD : va_D A (mW K o r u3 a g) := hD
  have hI : mI u3 a := hw1.2.1
  have eE4 : fE [22, 24] f u3 := hw1.2.2.1
  have hE : fE [22, 24] f u3 := fE_tr hE eE4
  obtain ⟨gv5, egv5⟩ : ∃ z : Int32, z = u3 22 := ⟨_, rfl⟩
  have hg6 : gv5.toInt = 400 * (t : Int) + ((m0 : Nat) : Int) := by rw [egv5]; exact hw1.2.2.2
  refine lv_lstore_n (lv' := [(2, .long v2), (0, .ref o), (1, .int lv)]) hx hb dX12_sumOf_5 rfl hl (by decide) rfl (fun ls hl => ?_)
  have lp9 : ∀ (n10 : Nat) (i6 : Nat) (F8 : Nat → Int32) (H : Heap) (locs : List Loc) (ls : Array Slot) (y7 : Int64), (gg ob (mC (a 2) t) n10 d 6 i6 j) → (mI F8 a) → (fE [22, 24] f F8) → ((F8 22).toInt = 400 * (t : Int) + (i6 : Int)) → va_P D vwCl (mW K o r F8 a g) H → va_D A (mW K o r F8 a g) → va_S A s.heap H locs → lv_has ls 7 [(2, .long y7), (0, .ref o), (1, .int lv)] → W p l e (rmD (3 * d + 8) 0 0) s m ([.ref o, .int lv] : List Value).toArray below meth c H locs 0 0 (kQl D (tysK K) (fun v (u : Nat → Int32) => kbl (-9223372036854775808) v 9223372036854775807 ∧ mI u a ∧ fE [22, 24] f u ∧ (u 22).toInt = 400 * (t : Int) + (j : Int)) (fun u => mW K o r u a g) A below ([.ref o, .int lv] : List Value).toArray s 0 0) (F0 m 6 ls []) := by
    intro n10
    induction n10 with
    | zero =>
      intro i6 F8  H locs ls y7 hmlp9 hI hE hvlp9_0 hP hD hS hl
      exact (hmlp9 : False).elim
    | succ n10 ihlp9 =>
      intro i6 F8  H locs ls y7 hmlp9 hI hE hvlp9_0 hP hD hS hl
      obtain ⟨gv11, egv11⟩ : ∃ z : Int32, z = F8 22 := ⟨_, rfl⟩
      have hg12 : gv11.toInt = 400 * (t : Int) + ((i6 : Nat) : Int) := by rw [egv11]; exact hvlp9_0
      rcases gg_out hmlp9 with ⟨h1, hj⟩ | ⟨h1 | h1, mm, ht, h6⟩
      · refine lv_aload_n hx hb dX12_sumOf_6 rfl (lv_at hl 1 rfl) ?_
        refine lv_aload_n hx hb dX12_sumOf_7 rfl (lv_at hl 1 rfl) ?_
        refine va_get (D := D) (ci := 12) (v := .int (F8 22)) (C := RX12) (T := TX12) (N := 48) hx hb hg inC12 hown hK hP 0 rfl rfl 22 (by decide) (hg _ wt5_182) (fun _ h9 => h9) rfl dX12_sumOf_8 ?_
        refine k_top (z := gv11) egv11.symm ?_
        refine kI.callV (As := [.int gv11]) (rest := []) ⟨hx, hb, hml, hown, hg⟩ (m_codeAt l o r F8 a g hI gv11  t (i6) ob (eS_fE hE hp0 (by decide) (by decide)) hg12) (cwV 1 hg (kgV wt7_47 wt7_49 wp5_8 wt1_14 wt7_50) rfl rfl rfl (by decide +kernel) ⟨by dsimp only [rmD]; omega, by dsimp only [rmD]; omega⟩) hK hP hD hS hA mIs [] rfl (wr := []) rfl rfl rfl (fun i h => by cases h) 0 12 rfl rfl rfl hl.1 rfl (Nat.le_of_ble_eq_true rfl) dX12_sumOf_11 ⟨Nat.le_refl _, Nat.le_refl _⟩ (fun v14 u15 H locs hw13 hP hD hS => ?_)
        have hP : va_P D vwCl (mW K o r F8 a g) H := hP
        have hD : va_D A (mW K o r F8 a g) := hD
        refine lv_bipush (v := 43) hx hb dX12_sumOf_14 (by decide) ?_
        refine kN.callS (As := [.int 43]) (rest := [.int v14]) ⟨hx, hb, hml, hown, hg⟩ (m_sign l 43 (kb_w kc_43 (by decide) (by decide))) (va_cwS 1 hg (kgS wt6_220 wt6_221 wt1_14 wt6_222) rfl rfl rfl (by decide +kernel) ⟨by dsimp only [rmD]; omega, by dsimp only [rmD]; omega⟩) hP hS rfl hl.1 rfl (Nat.le_of_ble_eq_true rfl) dX12_sumOf_16 ⟨Nat.le_refl _, Nat.le_refl _⟩ (fun v17 H locs hw16 hP hS => ?_)
        refine k_top (z := 143) (Int32.toInt_inj.mp (hw16.2.trans (by decide +kernel))) ?_
        refine lv_icmp_eq (tgt := 38) hx hb dX12_sumOf_19 (by decide) (fun c26 => ?_) (fun c26 => ?_)
        · exact absurd c26 (fun q => (fun q => h1 (Or.inl q)) (hw13.2.symm.trans q))
        · refine lv_aload_n hx hb dX12_sumOf_22 rfl (lv_at hl 1 rfl) ?_
          refine lv_aload_n hx hb dX12_sumOf_23 rfl (lv_at hl 1 rfl) ?_
          refine va_get (D := D) (ci := 12) (v := .int (F8 22)) (C := RX12) (T := TX12) (N := 48) hx hb hg inC12 hown hK hP 0 rfl rfl 22 (by decide) (hg _ wt5_182) (fun _ h9 => h9) rfl dX12_sumOf_24 ?_
          refine k_top (z := gv11) egv11.symm ?_
          refine kI.callV (As := [.int gv11]) (rest := []) ⟨hx, hb, hml, hown, hg⟩ (m_codeAt l o r F8 a g hI gv11  t (i6) ob (eS_fE hE hp0 (by decide) (by decide)) hg12) (cwV 1 hg (kgV wt7_47 wt7_49 wp5_8 wt1_14 wt7_50) rfl rfl rfl (by decide +kernel) ⟨by dsimp only [rmD]; omega, by dsimp only [rmD]; omega⟩) hK hP hD hS hA mIs [] rfl (wr := []) rfl rfl rfl (fun i h => by cases h) 0 12 rfl rfl rfl hl.1 rfl (Nat.le_of_ble_eq_true rfl) dX12_sumOf_27 ⟨Nat.le_refl _, Nat.le_refl _⟩ (fun v28 u29 H locs hw27 hP hD hS => ?_)
          have hP : va_P D vwCl (mW K o r F8 a g) H := hP
          have hD : va_D A (mW K o r F8 a g) := hD
          refine lv_bipush (v := 45) hx hb dX12_sumOf_30 (by decide) ?_
          refine kN.callS (As := [.int 45]) (rest := [.int v28]) ⟨hx, hb, hml, hown, hg⟩ (m_sign l 45 (kb_w kc_45 (by decide) (by decide))) (va_cwS 1 hg (kgS wt6_220 wt6_221 wt1_14 wt6_222) rfl rfl rfl (by decide +kernel) ⟨by dsimp only [rmD]; omega, by dsimp only [rmD]; omega⟩) hP hS rfl hl.1 rfl (Nat.le_of_ble_eq_true rfl) dX12_sumOf_32 ⟨Nat.le_refl _, Nat.le_refl _⟩ (fun v31 H locs hw30 hP hS => ?_)
          refine k_top (z := 145) (Int32.toInt_inj.mp (hw30.2.trans (by decide +kernel))) ?_
          refine lv_icmp_ne (tgt := 103) hx hb dX12_sumOf_35 (by decide) (fun c33 => ?_) (fun c33 => ?_)
          · refine lv_lload_n hx hb dX12_sumOf_103 rfl (lv_at hl 0 rfl) ?_
            exact kL_ret (v := y7) hx hb hr hlocks hK hS dX12_sumOf_104 F8 hP hD ⟨(kbl_any y7), hI, hE, (by rw [egv11.symm, hg12]; omega)⟩
          · exact absurd c33 (fun q => (fun q => h1 (Or.inr q)) (hw27.2.symm.trans q))
      · have b34 : kb 0 gv11 2799 := kb_go (eS_fE hE hp0 (by decide) (by decide)) (mC_lt (eS_fE hE hp0 (by decide) (by decide)) (ne_0 h1 (by decide +kernel))) hg12
        refine lv_aload_n hx hb dX12_sumOf_6 rfl (lv_at hl 1 rfl) ?_
        refine lv_aload_n hx hb dX12_sumOf_7 rfl (lv_at hl 1 rfl) ?_
        refine va_get (D := D) (ci := 12) (v := .int (F8 22)) (C := RX12) (T := TX12) (N := 48) hx hb hg inC12 hown hK hP 0 rfl rfl 22 (by decide) (hg _ wt5_182) (fun _ h9 => h9) rfl dX12_sumOf_8 ?_
        refine k_top (z := gv11) egv11.symm ?_
        refine kI.callV (As := [.int gv11]) (rest := []) ⟨hx, hb, hml, hown, hg⟩ (m_codeAt l o r F8 a g hI gv11  t (i6) ob (eS_fE hE hp0 (by decide) (by decide)) hg12) (cwV 1 hg (kgV wt7_47 wt7_49 wp5_8 wt1_14 wt7_50) rfl rfl rfl (by decide +kernel) ⟨by dsimp only [rmD]; omega, by dsimp only [rmD]; omega⟩) hK hP hD hS hA mIs [] rfl (wr := []) rfl rfl rfl (fun i h => by cases h) 0 12 rfl rfl rfl hl.1 rfl (Nat.le_of_ble_eq_true rfl) dX12_sumOf_11 ⟨Nat.le_refl _, Nat.le_refl _⟩ (fun v36 u37 H locs hw35 hP hD hS => ?_)
        have hP : va_P D vwCl (mW K o r F8 a g) H := hP
        have hD : va_D A (mW K o r F8 a g) := hD
        refine k_top (z := 143) (hw35.2.trans h1) ?_
        refine lv_bipush (v := 43) hx hb dX12_sumOf_14 (by decide) ?_
        refine kN.callS (As := [.int 43]) (rest := [.int 143]) ⟨hx, hb, hml, hown, hg⟩ (m_sign l 43 (kb_w kc_43 (by decide) (by decide))) (va_cwS 1 hg (kgS wt6_220 wt6_221 wt1_14 wt6_222) rfl rfl rfl (by decide +kernel) ⟨by dsimp only [rmD]; omega, by dsimp only [rmD]; omega⟩) hP hS rfl hl.1 rfl (Nat.le_of_ble_eq_true rfl) dX12_sumOf_16 ⟨Nat.le_refl _, Nat.le_refl _⟩ (fun v39 H locs hw38 hP hS => ?_)
        refine k_top (z := 143) (Int32.toInt_inj.mp (hw38.2.trans (by decide +kernel))) ?_
        refine lv_icmp_eq (tgt := 38) hx hb dX12_sumOf_19 (by decide) (fun c41 => ?_) (fun c41 => ?_)
        · refine lv_aload_n hx hb dX12_sumOf_38 rfl (lv_at hl 1 rfl) ?_
          refine lv_aload_n hx hb dX12_sumOf_39 rfl (lv_at hl 1 rfl) ?_
          refine va_get (D := D) (ci := 12) (v := .int (F8 22)) (C := RX12) (T := TX12) (N := 48) hx hb hg inC12 hown hK hP 0 rfl rfl 22 (by decide) (hg _ wt5_182) (fun _ h9 => h9) rfl dX12_sumOf_40 ?_
          refine k_top (z := gv11) egv11.symm ?_
          refine kI.callV (As := [.int gv11]) (rest := []) ⟨hx, hb, hml, hown, hg⟩ (m_codeAt l o r F8 a g hI gv11  t (i6) ob (eS_fE hE hp0 (by decide) (by decide)) hg12) (cwV 1 hg (kgV wt7_47 wt7_49 wp5_8 wt1_14 wt7_50) rfl rfl rfl (by decide +kernel) ⟨by dsimp only [rmD]; omega, by dsimp only [rmD]; omega⟩) hK hP hD hS hA mIs [] rfl (wr := []) rfl rfl rfl (fun i h => by cases h) 0 12 rfl rfl rfl hl.1 rfl (Nat.le_of_ble_eq_true rfl) dX12_sumOf_43 ⟨Nat.le_refl _, Nat.le_refl _⟩ (fun v43 u44 H locs hw42 hP hD hS => ?_)
          have hP : va_P D vwCl (mW K o r F8 a g) H := hP
          have hD : va_D A (mW K o r F8 a g) := hD
          refine k_top (z := 143) (hw42.2.trans h1) ?_
          refine lv_bipush (v := 43) hx hb dX12_sumOf_46 (by decide) ?_
          refine kN.callS (As := [.int 43]) (rest := [.int 143]) ⟨hx, hb, hml, hown, hg⟩ (m_sign l 43 (kb_w kc_43 (by decide) (by decide))) (va_cwS 1 hg (kgS wt6_220 wt6_221 wt1_14 wt6_222) rfl rfl rfl (by decide +kernel) ⟨by dsimp only [rmD]; omega, by dsimp only [rmD]; omega⟩) hP hS rfl hl.1 rfl (Nat.le_of_ble_eq_true rfl) dX12_sumOf_48 ⟨Nat.le_refl _, Nat.le_refl _⟩ (fun v46 H locs hw45 hP hS => ?_)
          refine k_top (z := 143) (Int32.toInt_inj.mp (hw45.2.trans (by decide +kernel))) ?_
          refine lv_icmp_ne (tgt := 58) hx hb dX12_sumOf_51 (by decide) (fun c48 => ?_) (fun c48 => ?_)
          · exact kb_nsame c48 kc_143 kc_143
          · refine lv_iconst (v := 1) hx hb dX12_sumOf_54 (by decide) ?_
            refine lv_goto (tgt := 59) hx hb dX12_sumOf_55 (by decide) ?_
            refine lv_istore (lv' := [(4, .int 1), (2, .long y7), (0, .ref o), (1, .int lv)]) hx hb dX12_sumOf_59 hl (by decide) rfl (fun ls hl => ?_)
            refine lv_aload_n hx hb dX12_sumOf_61 rfl (lv_at hl 2 rfl) ?_
            refine lv_dup hx hb dX12_sumOf_62 rfl ?_
            refine va_get (D := D) (ci := 12) (v := .int (F8 22)) (C := RX12) (T := TX12) (N := 48) hx hb hg inC12 hown hK hP 0 rfl rfl 22 (by decide) (hg _ wt5_182) (fun _ h9 => h9) rfl dX12_sumOf_63 ?_
            refine k_top (z := gv11) egv11.symm ?_
            refine lv_iconst (v := 1) hx hb dX12_sumOf_66 (by decide) ?_
            refine lv_iadd hx hb dX12_sumOf_67 ?_
            refine lv_topi (fun t49 et49 => ?_)
            have b50 : kb 1 t49 2800 := kb_eq et49 (kb_add b34 kc_1 (by decide) (by decide))
            have qt49 : t49.toInt = gv11.toInt + 1 := by rw [et49]; exact kt_addc b34 kc_1 (by decide) (by decide)
            have hg51 : t49.toInt = 400 * (t : Int) + ((i6 + 1 : Nat) : Int) := by rw [qt49, hg12]; omega
            refine va_put (D := D) (ci := 12) (v := .int t49) (ty := .int) (C := RX12) (T := TX12) (N := 48) hx hb hg inC12 tyX12 tyX12_ok nmX12 hown hK hP hD hS 0 rfl rfl 22 (by decide) (hg _ wt5_182) (fun _ h9 => h9) rfl (by decide +kernel) rfl rfl (Nat.le_of_ble_eq_true rfl) dX12_sumOf_68 (fun H locs hP hD hS => ?_)
            have hP : va_P D vwCl (mW K o r (upd F8 22 t49) a g) H := hP
            have hD : va_D A (mW K o r (upd F8 22 t49) a g) := hD
            refine k_gen (P := fun z => va_P D vwCl (mW K o r z a g) H ∧ va_D A (mW K o r z a g) ∧ (mI z a) ∧ (fE [22, 24] f z)) (upd F8 22 t49) ⟨hP, hD, (mI_f hI (fI_st hI.1 22 (kb_any _) (by decide) (by decide))), (fE_f hE (by decide))⟩ (fun f_52 ef_52 hq => ?_)
            obtain ⟨hP, hD, hI, hE⟩ := hq
            refine lv_aload_n hx hb dX12_sumOf_71 rfl (lv_at hl 2 rfl) ?_
            refine lv_iload_n hx hb dX12_sumOf_72 rfl (lv_at hl 3 rfl) ?_
            refine kL.callV (As := [.int lv]) (rest := []) ⟨hx, hb, hml, hown, hg⟩ (hterm l o r f_52 a g hI lv blv t (i6 + 1) (mm) ob (eS_fE hE hp0 (by decide) (by decide)) (by rw [(show f_52 22 = t49 from by rw [← ef_52]; rfl)]; exact hg51) (gG_of ht)) (cwV 1 hg (kgV wt7_55 wt7_57 wp5_10 wt1_14 wt7_58) rfl rfl rfl (by decide +kernel) ⟨by dsimp only [rmD]; omega, by dsimp only [rmD]; omega⟩) hK hP hD hS hA mIs [] rfl (wr := []) rfl rfl rfl (fun i h => by cases h) 0 12 rfl rfl rfl hl.1 rfl (Nat.le_of_ble_eq_true rfl) dX12_sumOf_73 ⟨Nat.le_refl _, Nat.le_refl _⟩ (fun v54 u55 H locs hw53 hP hD hS => ?_)
            have hP : va_P D vwCl (mW K o r u55 a g) H := hP
            have hD : va_D A (mW K o r u55 a g) := hD
            have hI : mI u55 a := hw53.2.1
            have eE56 : fE [22, 24] f_52 u55 := hw53.2.2.1
            have hE : fE [22, 24] f u55 := fE_tr hE eE56
            obtain ⟨gv57, egv57⟩ : ∃ z : Int32, z = u55 22 := ⟨_, rfl⟩
            have hg58 : gv57.toInt = 400 * (t : Int) + ((mm : Nat) : Int) := by rw [egv57]; exact hw53.2.2.2
            refine lv_lstore (lv' := [(5, .long v54), (4, .int 1), (2, .long y7), (0, .ref o), (1, .int lv)]) hx hb dX12_sumOf_76 hl (by decide) rfl (fun ls hl => ?_)
            refine lv_aload_n hx hb dX12_sumOf_78 rfl (lv_at hl 3 rfl) ?_
            refine lv_iload hx hb dX12_sumOf_79 (lv_at hl 1 rfl) ?_
            refine lv_if_eq (tgt := 91) hx hb dX12_sumOf_81 (by decide) (fun c60 => ?_) (fun c60 => ?_)
            · exact kb_dj c60 kc_1 kc_0 (by decide)
            · refine lv_lload_n hx hb dX12_sumOf_84 rfl (lv_at hl 2 rfl) ?_
              refine lv_lload hx hb dX12_sumOf_85 (lv_at hl 0 rfl) ?_
              refine lv_ladd hx hb dX12_sumOf_87 ?_
              refine lv_topl (fun t61 et61 => ?_)
              refine lv_goto (tgt := 95) hx hb dX12_sumOf_88 (by decide) ?_
              refine lv_iload_n hx hb dX12_sumOf_95 rfl (lv_at hl 4 rfl) ?_
              refine kL.callV (As := [.long t61, .int lv]) (rest := []) ⟨hx, hb, hml, hown, hg⟩ (m_bounded l o r u55 a g hI t61 lv blv ) (cwV 2 hg (kgV wt7_74 wt7_76 wp5_14 wt1_14 wt7_77) rfl rfl rfl (by decide +kernel) ⟨by dsimp only [rmD]; omega, by dsimp only [rmD]; omega⟩) hK hP hD hS hA mIs [] rfl (wr := []) rfl rfl rfl (fun i h => by cases h) 0 12 rfl rfl rfl hl.1 rfl (Nat.le_of_ble_eq_true rfl) dX12_sumOf_96 ⟨Nat.le_refl _, Nat.le_refl _⟩ (fun v63 u64 H locs hw62 hP hD hS => ?_)
              have hP : va_P D vwCl (mW K o r u64 a g) H := hP
              have hD : va_D A (mW K o r u64 a g) := hD
              have hI : mI u64 a := hw62.2.1
              have eE65 : fE [24] u55 u64 := hw62.2.2
              have hE : fE [22, 24] f u64 := fE_tr hE (fE_w (by decide) eE65)
              refine lv_lstore_n (lv' := [(2, .long v63), (5, .long v54), (4, .int 1), (0, .ref o), (1, .int lv)]) hx hb dX12_sumOf_99 rfl hl (by decide) rfl (fun ls hl => ?_)
              refine lv_goto (tgt := 6) hx hb dX12_sumOf_100 (by decide) ?_
              exact ihlp9 (mm) u64 _ _ _ v63 (h6) hI hE (by rw [((eE65 22 (by decide)).trans egv57.symm)]; exact hg58) hP hD hS (lv_sub hl [0, 3, 4] rfl)
        · exact kb_nsame c41 kc_143 kc_143
      · have b66 : kb 0 gv11 2799 := kb_go (eS_fE hE hp0 (by decide) (by decide)) (mC_lt (eS_fE hE hp0 (by decide) (by decide)) (ne_0 h1 (by decide +kernel))) hg12
        refine lv_aload_n hx hb dX12_sumOf_6 rfl (lv_at hl 1 rfl) ?_
        refine lv_aload_n hx hb dX12_sumOf_7 rfl (lv_at hl 1 rfl) ?_
        refine va_get (D := D) (ci := 12) (v := .int (F8 22)) (C := RX12) (T := TX12) (N := 48) hx hb hg inC12 hown hK hP 0 rfl rfl 22 (by decide) (hg _ wt5_182) (fun _ h9 => h9) rfl dX12_sumOf_8 ?_
        refine k_top (z := gv11) egv11.symm ?_
        refine kI.callV (As := [.int gv11]) (rest := []) ⟨hx, hb, hml, hown, hg⟩ (m_codeAt l o r F8 a g hI gv11  t (i6) ob (eS_fE hE hp0 (by decide) (by decide)) hg12) (cwV 1 hg (kgV wt7_47 wt7_49 wp5_8 wt1_14 wt7_50) rfl rfl rfl (by decide +kernel) ⟨by dsimp only [rmD]; omega, by dsimp only [rmD]; omega⟩) hK hP hD hS hA mIs [] rfl (wr := []) rfl rfl rfl (fun i h => by cases h) 0 12 rfl rfl rfl hl.1 rfl (Nat.le_of_ble_eq_true rfl) dX12_sumOf_11 ⟨Nat.le_refl _, Nat.le_refl _⟩ (fun v68 u69 H locs hw67 hP hD hS => ?_)
        have hP : va_P D vwCl (mW K o r F8 a g) H := hP
        have hD : va_D A (mW K o r F8 a g) := hD
        refine k_top (z := 145) (hw67.2.trans h1) ?_
        refine lv_bipush (v := 43) hx hb dX12_sumOf_14 (by decide) ?_
        refine kN.callS (As := [.int 43]) (rest := [.int 145]) ⟨hx, hb, hml, hown, hg⟩ (m_sign l 43 (kb_w kc_43 (by decide) (by decide))) (va_cwS 1 hg (kgS wt6_220 wt6_221 wt1_14 wt6_222) rfl rfl rfl (by decide +kernel) ⟨by dsimp only [rmD]; omega, by dsimp only [rmD]; omega⟩) hP hS rfl hl.1 rfl (Nat.le_of_ble_eq_true rfl) dX12_sumOf_16 ⟨Nat.le_refl _, Nat.le_refl _⟩ (fun v71 H locs hw70 hP hS => ?_)
        refine k_top (z := 143) (Int32.toInt_inj.mp (hw70.2.trans (by decide +kernel))) ?_
        refine lv_icmp_eq (tgt := 38) hx hb dX12_sumOf_19 (by decide) (fun c80 => ?_) (fun c80 => ?_)
        · exact kb_dj c80 kc_145 kc_143 (by decide)
        · refine lv_aload_n hx hb dX12_sumOf_22 rfl (lv_at hl 1 rfl) ?_
          refine lv_aload_n hx hb dX12_sumOf_23 rfl (lv_at hl 1 rfl) ?_
          refine va_get (D := D) (ci := 12) (v := .int (F8 22)) (C := RX12) (T := TX12) (N := 48) hx hb hg inC12 hown hK hP 0 rfl rfl 22 (by decide) (hg _ wt5_182) (fun _ h9 => h9) rfl dX12_sumOf_24 ?_
          refine k_top (z := gv11) egv11.symm ?_
          refine kI.callV (As := [.int gv11]) (rest := []) ⟨hx, hb, hml, hown, hg⟩ (m_codeAt l o r F8 a g hI gv11  t (i6) ob (eS_fE hE hp0 (by decide) (by decide)) hg12) (cwV 1 hg (kgV wt7_47 wt7_49 wp5_8 wt1_14 wt7_50) rfl rfl rfl (by decide +kernel) ⟨by dsimp only [rmD]; omega, by dsimp only [rmD]; omega⟩) hK hP hD hS hA mIs [] rfl (wr := []) rfl rfl rfl (fun i h => by cases h) 0 12 rfl rfl rfl hl.1 rfl (Nat.le_of_ble_eq_true rfl) dX12_sumOf_27 ⟨Nat.le_refl _, Nat.le_refl _⟩ (fun v82 u83 H locs hw81 hP hD hS => ?_)
          have hP : va_P D vwCl (mW K o r F8 a g) H := hP
          have hD : va_D A (mW K o r F8 a g) := hD
          refine k_top (z := 145) (hw81.2.trans h1) ?_
          refine lv_bipush (v := 45) hx hb dX12_sumOf_30 (by decide) ?_
          refine kN.callS (As := [.int 45]) (rest := [.int 145]) ⟨hx, hb, hml, hown, hg⟩ (m_sign l 45 (kb_w kc_45 (by decide) (by decide))) (va_cwS 1 hg (kgS wt6_220 wt6_221 wt1_14 wt6_222) rfl rfl rfl (by decide +kernel) ⟨by dsimp only [rmD]; omega, by dsimp only [rmD]; omega⟩) hP hS rfl hl.1 rfl (Nat.le_of_ble_eq_true rfl) dX12_sumOf_32 ⟨Nat.le_refl _, Nat.le_refl _⟩ (fun v85 H locs hw84 hP hS => ?_)
          refine k_top (z := 145) (Int32.toInt_inj.mp (hw84.2.trans (by decide +kernel))) ?_
          refine lv_icmp_ne (tgt := 103) hx hb dX12_sumOf_35 (by decide) (fun c87 => ?_) (fun c87 => ?_)
          · exact kb_nsame c87 kc_145 kc_145
          · refine lv_aload_n hx hb dX12_sumOf_38 rfl (lv_at hl 1 rfl) ?_
            refine lv_aload_n hx hb dX12_sumOf_39 rfl (lv_at hl 1 rfl) ?_
            refine va_get (D := D) (ci := 12) (v := .int (F8 22)) (C := RX12) (T := TX12) (N := 48) hx hb hg inC12 hown hK hP 0 rfl rfl 22 (by decide) (hg _ wt5_182) (fun _ h9 => h9) rfl dX12_sumOf_40 ?_
            refine k_top (z := gv11) egv11.symm ?_
            refine kI.callV (As := [.int gv11]) (rest := []) ⟨hx, hb, hml, hown, hg⟩ (m_codeAt l o r F8 a g hI gv11  t (i6) ob (eS_fE hE hp0 (by decide) (by decide)) hg12) (cwV 1 hg (kgV wt7_47 wt7_49 wp5_8 wt1_14 wt7_50) rfl rfl rfl (by decide +kernel) ⟨by dsimp only [rmD]; omega, by dsimp only [rmD]; omega⟩) hK hP hD hS hA mIs [] rfl (wr := []) rfl rfl rfl (fun i h => by cases h) 0 12 rfl rfl rfl hl.1 rfl (Nat.le_of_ble_eq_true rfl) dX12_sumOf_43 ⟨Nat.le_refl _, Nat.le_refl _⟩ (fun v89 u90 H locs hw88 hP hD hS => ?_)
            have hP : va_P D vwCl (mW K o r F8 a g) H := hP
            have hD : va_D A (mW K o r F8 a g) := hD
            refine k_top (z := 145) (hw88.2.trans h1) ?_
            refine lv_bipush (v := 43) hx hb dX12_sumOf_46 (by decide) ?_
            refine kN.callS (As := [.int 43]) (rest := [.int 145]) ⟨hx, hb, hml, hown, hg⟩ (m_sign l 43 (kb_w kc_43 (by decide) (by decide))) (va_cwS 1 hg (kgS wt6_220 wt6_221 wt1_14 wt6_222) rfl rfl rfl (by decide +kernel) ⟨by dsimp only [rmD]; omega, by dsimp only [rmD]; omega⟩) hP hS rfl hl.1 rfl (Nat.le_of_ble_eq_true rfl) dX12_sumOf_48 ⟨Nat.le_refl _, Nat.le_refl _⟩ (fun v92 H locs hw91 hP hS => ?_)
            refine k_top (z := 143) (Int32.toInt_inj.mp (hw91.2.trans (by decide +kernel))) ?_
            refine lv_icmp_ne (tgt := 58) hx hb dX12_sumOf_51 (by decide) (fun c94 => ?_) (fun c94 => ?_)
            · refine lv_iconst (v := 0) hx hb dX12_sumOf_58 (by decide) ?_
              refine lv_istore (lv' := [(4, .int 0), (2, .long y7), (0, .ref o), (1, .int lv)]) hx hb dX12_sumOf_59 hl (by decide) rfl (fun ls hl => ?_)
              refine lv_aload_n hx hb dX12_sumOf_61 rfl (lv_at hl 2 rfl) ?_
              refine lv_dup hx hb dX12_sumOf_62 rfl ?_
              refine va_get (D := D) (ci := 12) (v := .int (F8 22)) (C := RX12) (T := TX12) (N := 48) hx hb hg inC12 hown hK hP 0 rfl rfl 22 (by decide) (hg _ wt5_182) (fun _ h9 => h9) rfl dX12_sumOf_63 ?_
              refine k_top (z := gv11) egv11.symm ?_
              refine lv_iconst (v := 1) hx hb dX12_sumOf_66 (by decide) ?_
              refine lv_iadd hx hb dX12_sumOf_67 ?_
              refine lv_topi (fun t95 et95 => ?_)
              have b96 : kb 1 t95 2800 := kb_eq et95 (kb_add b66 kc_1 (by decide) (by decide))
              have qt95 : t95.toInt = gv11.toInt + 1 := by rw [et95]; exact kt_addc b66 kc_1 (by decide) (by decide)
              have hg97 : t95.toInt = 400 * (t : Int) + ((i6 + 1 : Nat) : Int) := by rw [qt95, hg12]; omega
              refine va_put (D := D) (ci := 12) (v := .int t95) (ty := .int) (C := RX12) (T := TX12) (N := 48) hx hb hg inC12 tyX12 tyX12_ok nmX12 hown hK hP hD hS 0 rfl rfl 22 (by decide) (hg _ wt5_182) (fun _ h9 => h9) rfl (by decide +kernel) rfl rfl (Nat.le_of_ble_eq_true rfl) dX12_sumOf_68 (fun H locs hP hD hS => ?_)
              have hP : va_P D vwCl (mW K o r (upd F8 22 t95) a g) H := hP
              have hD : va_D A (mW K o r (upd F8 22 t95) a g) := hD
              refine k_gen (P := fun z => va_P D vwCl (mW K o r z a g) H ∧ va_D A (mW K o r z a g) ∧ (mI z a) ∧ (fE [22, 24] f z)) (upd F8 22 t95) ⟨hP, hD, (mI_f hI (fI_st hI.1 22 (kb_any _) (by decide) (by decide))), (fE_f hE (by decide))⟩ (fun f_98 ef_98 hq => ?_)
              obtain ⟨hP, hD, hI, hE⟩ := hq
              refine lv_aload_n hx hb dX12_sumOf_71 rfl (lv_at hl 2 rfl) ?_
              refine lv_iload_n hx hb dX12_sumOf_72 rfl (lv_at hl 3 rfl) ?_
              refine kL.callV (As := [.int lv]) (rest := []) ⟨hx, hb, hml, hown, hg⟩ (hterm l o r f_98 a g hI lv blv t (i6 + 1) (mm) ob (eS_fE hE hp0 (by decide) (by decide)) (by rw [(show f_98 22 = t95 from by rw [← ef_98]; rfl)]; exact hg97) (gG_of ht)) (cwV 1 hg (kgV wt7_55 wt7_57 wp5_10 wt1_14 wt7_58) rfl rfl rfl (by decide +kernel) ⟨by dsimp only [rmD]; omega, by dsimp only [rmD]; omega⟩) hK hP hD hS hA mIs [] rfl (wr := []) rfl rfl rfl (fun i h => by cases h) 0 12 rfl rfl rfl hl.1 rfl (Nat.le_of_ble_eq_true rfl) dX12_sumOf_73 ⟨Nat.le_refl _, Nat.le_refl _⟩ (fun v100 u101 H locs hw99 hP hD hS => ?_)
              have hP : va_P D vwCl (mW K o r u101 a g) H := hP
              have hD : va_D A (mW K o r u101 a g) := hD
              have hI : mI u101 a := hw99.2.1
              have eE102 : fE [22, 24] f_98 u101 := hw99.2.2.1
              have hE : fE [22, 24] f u101 := fE_tr hE eE102
              obtain ⟨gv103, egv103⟩ : ∃ z : Int32, z = u101 22 := ⟨_, rfl⟩
              have hg104 : gv103.toInt = 400 * (t : Int) + ((mm : Nat) : Int) := by rw [egv103]; exact hw99.2.2.2
              refine lv_lstore (lv' := [(5, .long v100), (4, .int 0), (2, .long y7), (0, .ref o), (1, .int lv)]) hx hb dX12_sumOf_76 hl (by decide) rfl (fun ls hl => ?_)
              refine lv_aload_n hx hb dX12_sumOf_78 rfl (lv_at hl 3 rfl) ?_
              refine lv_iload hx hb dX12_sumOf_79 (lv_at hl 1 rfl) ?_
              refine lv_if_eq (tgt := 91) hx hb dX12_sumOf_81 (by decide) (fun c106 => ?_) (fun c106 => ?_)
              · refine lv_lload_n hx hb dX12_sumOf_91 rfl (lv_at hl 2 rfl) ?_
                refine lv_lload hx hb dX12_sumOf_92 (lv_at hl 0 rfl) ?_
                refine lv_lsub hx hb dX12_sumOf_94 ?_
                refine lv_topl (fun t107 et107 => ?_)
                refine lv_iload_n hx hb dX12_sumOf_95 rfl (lv_at hl 4 rfl) ?_
                refine kL.callV (As := [.long t107, .int lv]) (rest := []) ⟨hx, hb, hml, hown, hg⟩ (m_bounded l o r u101 a g hI t107 lv blv ) (cwV 2 hg (kgV wt7_74 wt7_76 wp5_14 wt1_14 wt7_77) rfl rfl rfl (by decide +kernel) ⟨by dsimp only [rmD]; omega, by dsimp only [rmD]; omega⟩) hK hP hD hS hA mIs [] rfl (wr := []) rfl rfl rfl (fun i h => by cases h) 0 12 rfl rfl rfl hl.1 rfl (Nat.le_of_ble_eq_true rfl) dX12_sumOf_96 ⟨Nat.le_refl _, Nat.le_refl _⟩ (fun v109 u110 H locs hw108 hP hD hS => ?_)
                have hP : va_P D vwCl (mW K o r u110 a g) H := hP
                have hD : va_D A (mW K o r u110 a g) := hD
                have hI : mI u110 a := hw108.2.1
                have eE111 : fE [24] u101 u110 := hw108.2.2
                have hE : fE [22, 24] f u110 := fE_tr hE (fE_w (by decide) eE111)
                refine lv_lstore_n (lv' := [(2, .long v109), (5, .long v100), (4, .int 0), (0, .ref o), (1, .int lv)]) hx hb dX12_sumOf_99 rfl hl (by decide) rfl (fun ls hl => ?_)
                refine lv_goto (tgt := 6) hx hb dX12_sumOf_100 (by decide) ?_
                exact ihlp9 (mm) u110 _ _ _ v109 (h6) hI hE (by rw [((eE111 22 (by decide)).trans egv103.symm)]; exact hg104) hP hD hS (lv_sub hl [0, 3, 4] rfl)
              · exact kb_nsame c106 kc_0 kc_0
            · exact kb_dj c94 kc_145 kc_143 (by decide)
  exact lp9 (n0) (m0) u3 _ _ _ v2 (hn0) hI hE (by rw [egv5.symm]; exact hg6) hP hD hS (lv_sub hl [0, 1, 2] rfl)
set_option maxHeartbeats 4000000 in
set_option maxRecDepth 100000 in
theorem m_positiveOf (d : Nat) (ih : ∀ e, d = e + 1 → cTest e) (hsum : cSum d) (l : Launch) {D : va_G} {K : Nat → ClassId} (o : Nat) (r : Nat → Nat) (f : Nat → Int32) (a : Nat → Nat → Int32) (g : Nat → Int64) (hI : mI f a) (lv : Int32) (blv : kb 0 lv 1) (t i j : Nat) (ob : Bool) (hp0 : eS f a t ob) (hp1 : (f 22).toInt = 400 * (t : Int) + (i : Int)) (hp2 : gG ob (mC (a 2) t) d 10 i j) : kI l yX12_positiveOf (Cond.code yX12_positiveOf cX12_positiveOf 7 (some .boolean) :: kG) (rmD (4 * d + 12) 0 0) D (tysK K) [.ref o, .int lv] (mW K o r f a g) (fun v (u : Nat → Int32) => kb 0 v 1 ∧ mI u a ∧ fE [22, 24] f u ∧ (u 22).toInt = 400 * (t : Int) + (j : Int)) (fun u => mW K o r u a g) 0 0 := by
  refine kI.of (cc := cX12_positiveOf) (maxL := 7) (ret := (some .boolean)) (by decide) rfl (Nat.le_of_ble_eq_true rfl) ?_
  intro p e s m below meth c A hx hb hr hml hown hts hlocks hnm hK hP hD hS hA ls hl
  have hE : fE [22, 24] f f := fE_rf
  have hg : ∀ w ∈ kG, w.before _ s = true := fun w h => hts w (List.mem_cons_of_mem _ h)
  have hown : s.vm.findClass RX12 = some m.cls := hown
  have hl : lv_has ls 7 [(0, .ref o), (1, .int lv)] := hl
  obtain ⟨c22, ec22⟩ : ∃ z : Int32, z = f 22 := ⟨_, rfl⟩
  have hg0 : c22.toInt = 400 * (t : Int) + (i : Int) := by rw [ec22]; exact hp1
  rcases gG_out hp2 with ⟨h1, ee, mm, hd, h2, h3, hj⟩ | ⟨h1, mm, h2, h3 | h3 | h3, h4⟩
  · have b1 : kb 0 c22 2799 := kb_go (eS_fE hE hp0 (by decide) (by decide)) (mC_lt (eS_fE hE hp0 (by decide) (by decide)) (ne_0 h1 (by decide +kernel))) hg0
    refine lv_aload_n hx hb dX12_positiveOf_0 rfl (lv_at hl 0 rfl) ?_
    refine lv_bipush (v := 40) hx hb dX12_positiveOf_1 (by decide) ?_
    refine kN.callS (As := [.int 40]) (rest := [.ref o]) ⟨hx, hb, hml, hown, hg⟩ (m_sign l 40 (kb_w kc_40 (by decide) (by decide))) (va_cwS 1 hg (kgS wt6_220 wt6_221 wt1_14 wt6_222) rfl rfl rfl (by decide +kernel) ⟨by dsimp only [rmD]; omega, by dsimp only [rmD]; omega⟩) hP hS rfl hl.1 rfl (Nat.le_of_ble_eq_true rfl) dX12_positiveOf_3 ⟨Nat.le_refl _, Nat.le_refl _⟩ (fun v3 H locs hw2 hP hS => ?_)
    refine k_top (z := 140) (Int32.toInt_inj.mp (hw2.2.trans (by decide +kernel))) ?_
    refine kI.callV (As := [.int 140]) (rest := []) ⟨hx, hb, hml, hown, hg⟩ (m_passes0 l o r f a g hI 140 (kb_w kc_140 (by decide) (by decide)) t (i) ob (eS_fE hE hp0 (by decide) (by decide)) (by rw [ec22.symm]; exact hg0)) (cwV 1 hg (kgV wt7_63 wt7_65 wp5_12 wt1_14 wt7_66) rfl rfl rfl (by decide +kernel) ⟨by dsimp only [rmD]; omega, by dsimp only [rmD]; omega⟩) hK hP hD hS hA mIs [] rfl (wr := []) rfl rfl rfl (fun i h => by cases h) 0 12 rfl rfl rfl hl.1 rfl (Nat.le_of_ble_eq_true rfl) dX12_positiveOf_6 ⟨Nat.le_refl _, Nat.le_refl _⟩ (fun v6 u7 H locs hw5 hP hD hS => ?_)
    have hP : va_P D vwCl (mW K o r u7 a g) H := hP
    have hD : va_D A (mW K o r u7 a g) := hD
    have hI : mI u7 a := hw5.2.1
    have eE8 : fE [22] f u7 := hw5.2.2.1
    have hE : fE [22, 24] f u7 := fE_tr hE (fE_w (by decide) eE8)
    have hz9 := pass_y hw5.2.2.2 h1
    refine k_top (z := 1) hz9.1 ?_
    obtain ⟨gv10, egv10⟩ : ∃ z : Int32, z = u7 22 := ⟨_, rfl⟩
    have hg11 : gv10.toInt = 400 * (t : Int) + ((i + 1 : Nat) : Int) := by rw [egv10]; exact hz9.2
    refine lv_if_eq (tgt := 30) hx hb dX12_positiveOf_9 (by decide) (fun c12 => ?_) (fun c12 => ?_)
    · exact kb_dj c12 kc_1 kc_0 (by decide)
    · refine lv_aload_n hx hb dX12_positiveOf_12 rfl (lv_at hl 0 rfl) ?_
      refine lv_iload_n hx hb dX12_positiveOf_13 rfl (lv_at hl 1 rfl) ?_
      refine kI.callV (As := [.int lv]) (rest := []) ⟨hx, hb, hml, hown, hg⟩ ((ih ee hd) l o r u7 a g hI lv blv t (i + 1) (mm) ob (eS_fE hE hp0 (by decide) (by decide)) (by rw [egv10.symm]; exact hg11) h2) (cwV 1 hg (kgV wt7_80 wt7_82 wp5_15 wt1_14 wt7_83) rfl rfl rfl (by decide +kernel) ⟨by dsimp only [rmD]; omega, by dsimp only [rmD]; omega⟩) hK hP hD hS hA mIs [] rfl (wr := []) rfl rfl rfl (fun i h => by cases h) 0 12 rfl rfl rfl hl.1 rfl (Nat.le_of_ble_eq_true rfl) dX12_positiveOf_14 ⟨Nat.le_refl _, Nat.le_refl _⟩ (fun v14 u15 H locs hw13 hP hD hS => ?_)
      have hP : va_P D vwCl (mW K o r u15 a g) H := hP
      have hD : va_D A (mW K o r u15 a g) := hD
      have hI : mI u15 a := hw13.2.1
      have eE16 : fE [22, 24] u7 u15 := hw13.2.2.1
      have hE : fE [22, 24] f u15 := fE_tr hE eE16
      obtain ⟨gv17, egv17⟩ : ∃ z : Int32, z = u15 22 := ⟨_, rfl⟩
      have hg18 : gv17.toInt = 400 * (t : Int) + ((mm : Nat) : Int) := by rw [egv17]; exact hw13.2.2.2
      have b19 : kb 0 gv17 2799 := kb_go (eS_fE hE hp0 (by decide) (by decide)) (mC_lt (eS_fE hE hp0 (by decide) (by decide)) (ne_0 h3 (by decide +kernel))) hg18
      refine lv_istore_n (lv' := [(2, .int v14), (0, .ref o), (1, .int lv)]) hx hb dX12_positiveOf_17 rfl hl (by decide) rfl (fun ls hl => ?_)
      refine lv_aload_n hx hb dX12_positiveOf_18 rfl (lv_at hl 1 rfl) ?_
      refine lv_dup hx hb dX12_positiveOf_19 rfl ?_
      refine va_get (D := D) (ci := 12) (v := .int (u15 22)) (C := RX12) (T := TX12) (N := 48) hx hb hg inC12 hown hK hP 0 rfl rfl 22 (by decide) (hg _ wt5_182) (fun _ h9 => h9) rfl dX12_positiveOf_20 ?_
      refine k_top (z := gv17) egv17.symm ?_
      refine lv_iconst (v := 1) hx hb dX12_positiveOf_23 (by decide) ?_
      refine lv_iadd hx hb dX12_positiveOf_24 ?_
      refine lv_topi (fun t20 et20 => ?_)
      have b21 : kb 1 t20 2800 := kb_eq et20 (kb_add b19 kc_1 (by decide) (by decide))
      have qt20 : t20.toInt = gv17.toInt + 1 := by rw [et20]; exact kt_addc b19 kc_1 (by decide) (by decide)
      have hg22 : t20.toInt = 400 * (t : Int) + ((mm + 1 : Nat) : Int) := by rw [qt20, hg18]; omega
      refine va_put (D := D) (ci := 12) (v := .int t20) (ty := .int) (C := RX12) (T := TX12) (N := 48) hx hb hg inC12 tyX12 tyX12_ok nmX12 hown hK hP hD hS 0 rfl rfl 22 (by decide) (hg _ wt5_182) (fun _ h9 => h9) rfl (by decide +kernel) rfl rfl (Nat.le_of_ble_eq_true rfl) dX12_positiveOf_25 (fun H locs hP hD hS => ?_)
      have hP : va_P D vwCl (mW K o r (upd u15 22 t20) a g) H := hP
      have hD : va_D A (mW K o r (upd u15 22 t20) a g) := hD
      refine k_gen (P := fun z => va_P D vwCl (mW K o r z a g) H ∧ va_D A (mW K o r z a g) ∧ (mI z a) ∧ (fE [22, 24] f z)) (upd u15 22 t20) ⟨hP, hD, (mI_f hI (fI_st hI.1 22 (kb_any _) (by decide) (by decide))), (fE_f hE (by decide))⟩ (fun f_23 ef_23 hq => ?_)
      obtain ⟨hP, hD, hI, hE⟩ := hq
      refine lv_iload_n hx hb dX12_positiveOf_28 rfl (lv_at hl 0 rfl) ?_
      exact kI_ret (v := v14) hx hb hr hlocks (kb_bo hw13.1) hK hS dX12_positiveOf_29 f_23 hP hD ⟨hw13.1, hI, hE, (by rw [(show f_23 22 = t20 from by rw [← ef_23]; rfl), hg22]; omega)⟩
  · refine lv_aload_n hx hb dX12_positiveOf_0 rfl (lv_at hl 0 rfl) ?_
    refine lv_bipush (v := 40) hx hb dX12_positiveOf_1 (by decide) ?_
    refine kN.callS (As := [.int 40]) (rest := [.ref o]) ⟨hx, hb, hml, hown, hg⟩ (m_sign l 40 (kb_w kc_40 (by decide) (by decide))) (va_cwS 1 hg (kgS wt6_220 wt6_221 wt1_14 wt6_222) rfl rfl rfl (by decide +kernel) ⟨by dsimp only [rmD]; omega, by dsimp only [rmD]; omega⟩) hP hS rfl hl.1 rfl (Nat.le_of_ble_eq_true rfl) dX12_positiveOf_3 ⟨Nat.le_refl _, Nat.le_refl _⟩ (fun v25 H locs hw24 hP hS => ?_)
    refine k_top (z := 140) (Int32.toInt_inj.mp (hw24.2.trans (by decide +kernel))) ?_
    refine kI.callV (As := [.int 140]) (rest := []) ⟨hx, hb, hml, hown, hg⟩ (m_passes0 l o r f a g hI 140 (kb_w kc_140 (by decide) (by decide)) t (i) ob (eS_fE hE hp0 (by decide) (by decide)) (by rw [ec22.symm]; exact hg0)) (cwV 1 hg (kgV wt7_63 wt7_65 wp5_12 wt1_14 wt7_66) rfl rfl rfl (by decide +kernel) ⟨by dsimp only [rmD]; omega, by dsimp only [rmD]; omega⟩) hK hP hD hS hA mIs [] rfl (wr := []) rfl rfl rfl (fun i h => by cases h) 0 12 rfl rfl rfl hl.1 rfl (Nat.le_of_ble_eq_true rfl) dX12_positiveOf_6 ⟨Nat.le_refl _, Nat.le_refl _⟩ (fun v28 u29 H locs hw27 hP hD hS => ?_)
    have hP : va_P D vwCl (mW K o r u29 a g) H := hP
    have hD : va_D A (mW K o r u29 a g) := hD
    have hI : mI u29 a := hw27.2.1
    have eE30 : fE [22] f u29 := hw27.2.2.1
    have hE : fE [22, 24] f u29 := fE_tr hE (fE_w (by decide) eE30)
    have hz31 := pass_n hw27.2.2.2 h1
    refine k_top (z := 0) hz31.1 ?_
    obtain ⟨gv32, egv32⟩ : ∃ z : Int32, z = u29 22 := ⟨_, rfl⟩
    have hg33 : gv32.toInt = 400 * (t : Int) + ((i : Nat) : Int) := by rw [egv32]; exact hz31.2
    refine lv_if_eq (tgt := 30) hx hb dX12_positiveOf_9 (by decide) (fun c34 => ?_) (fun c34 => ?_)
    · refine lv_aload_n hx hb dX12_positiveOf_30 rfl (lv_at hl 0 rfl) ?_
      refine lv_iload_n hx hb dX12_positiveOf_31 rfl (lv_at hl 1 rfl) ?_
      refine kL.callV (As := [.int lv]) (rest := []) ⟨hx, hb, hml, hown, hg⟩ (hsum l o r u29 a g hI lv blv t (i) (mm) ob (eS_fE hE hp0 (by decide) (by decide)) (by rw [egv32.symm]; exact hg33) h2) (cwV 1 hg (kgV wt7_51 wt7_53 wp5_9 wt1_14 wt7_54) rfl rfl rfl (by decide +kernel) ⟨by dsimp only [rmD]; omega, by dsimp only [rmD]; omega⟩) hK hP hD hS hA mIs [] rfl (wr := []) rfl rfl rfl (fun i h => by cases h) 0 12 rfl rfl rfl hl.1 rfl (Nat.le_of_ble_eq_true rfl) dX12_positiveOf_32 ⟨Nat.le_refl _, Nat.le_refl _⟩ (fun v36 u37 H locs hw35 hP hD hS => ?_)
      have hP : va_P D vwCl (mW K o r u37 a g) H := hP
      have hD : va_D A (mW K o r u37 a g) := hD
      have hI : mI u37 a := hw35.2.1
      have eE38 : fE [22, 24] u29 u37 := hw35.2.2.1
      have hE : fE [22, 24] f u37 := fE_tr hE eE38
      obtain ⟨gv39, egv39⟩ : ∃ z : Int32, z = u37 22 := ⟨_, rfl⟩
      have hg40 : gv39.toInt = 400 * (t : Int) + ((mm : Nat) : Int) := by rw [egv39]; exact hw35.2.2.2
      have b41 : kb 0 gv39 2799 := kb_go (eS_fE hE hp0 (by decide) (by decide)) (mC_lt (eS_fE hE hp0 (by decide) (by decide)) (ne_0 h3 (by decide +kernel))) hg40
      refine lv_lstore_n (lv' := [(2, .long v36), (0, .ref o), (1, .int lv)]) hx hb dX12_positiveOf_35 rfl hl (by decide) rfl (fun ls hl => ?_)
      refine lv_aload_n hx hb dX12_positiveOf_36 rfl (lv_at hl 1 rfl) ?_
      refine lv_aload_n hx hb dX12_positiveOf_37 rfl (lv_at hl 1 rfl) ?_
      refine va_get (D := D) (ci := 12) (v := .int (u37 22)) (C := RX12) (T := TX12) (N := 48) hx hb hg inC12 hown hK hP 0 rfl rfl 22 (by decide) (hg _ wt5_182) (fun _ h9 => h9) rfl dX12_positiveOf_38 ?_
      refine k_top (z := gv39) egv39.symm ?_
      refine kI.callV (As := [.int gv39]) (rest := []) ⟨hx, hb, hml, hown, hg⟩ (m_codeAt l o r u37 a g hI gv39  t (mm) ob (eS_fE hE hp0 (by decide) (by decide)) hg40) (cwV 1 hg (kgV wt7_47 wt7_49 wp5_8 wt1_14 wt7_50) rfl rfl rfl (by decide +kernel) ⟨by dsimp only [rmD]; omega, by dsimp only [rmD]; omega⟩) hK hP hD hS hA mIs [] rfl (wr := []) rfl rfl rfl (fun i h => by cases h) 0 12 rfl rfl rfl hl.1 rfl (Nat.le_of_ble_eq_true rfl) dX12_positiveOf_41 ⟨Nat.le_refl _, Nat.le_refl _⟩ (fun v43 u44 H locs hw42 hP hD hS => ?_)
      have hP : va_P D vwCl (mW K o r u37 a g) H := hP
      have hD : va_D A (mW K o r u37 a g) := hD
      refine k_top (z := 160) (hw42.2.trans h3) ?_
      refine lv_istore (lv' := [(4, .int 160), (2, .long v36), (0, .ref o), (1, .int lv)]) hx hb dX12_positiveOf_44 hl (by decide) rfl (fun ls hl => ?_)
      refine lv_aload_n hx hb dX12_positiveOf_46 rfl (lv_at hl 2 rfl) ?_
      refine lv_dup hx hb dX12_positiveOf_47 rfl ?_
      refine va_get (D := D) (ci := 12) (v := .int (u37 22)) (C := RX12) (T := TX12) (N := 48) hx hb hg inC12 hown hK hP 0 rfl rfl 22 (by decide) (hg _ wt5_182) (fun _ h9 => h9) rfl dX12_positiveOf_48 ?_
      refine k_top (z := gv39) egv39.symm ?_
      refine lv_iconst (v := 1) hx hb dX12_positiveOf_51 (by decide) ?_
      refine lv_iadd hx hb dX12_positiveOf_52 ?_
      refine lv_topi (fun t45 et45 => ?_)
      have b46 : kb 1 t45 2800 := kb_eq et45 (kb_add b41 kc_1 (by decide) (by decide))
      have qt45 : t45.toInt = gv39.toInt + 1 := by rw [et45]; exact kt_addc b41 kc_1 (by decide) (by decide)
      have hg47 : t45.toInt = 400 * (t : Int) + ((mm + 1 : Nat) : Int) := by rw [qt45, hg40]; omega
      refine va_put (D := D) (ci := 12) (v := .int t45) (ty := .int) (C := RX12) (T := TX12) (N := 48) hx hb hg inC12 tyX12 tyX12_ok nmX12 hown hK hP hD hS 0 rfl rfl 22 (by decide) (hg _ wt5_182) (fun _ h9 => h9) rfl (by decide +kernel) rfl rfl (Nat.le_of_ble_eq_true rfl) dX12_positiveOf_53 (fun H locs hP hD hS => ?_)
      have hP : va_P D vwCl (mW K o r (upd u37 22 t45) a g) H := hP
      have hD : va_D A (mW K o r (upd u37 22 t45) a g) := hD
      refine k_gen (P := fun z => va_P D vwCl (mW K o r z a g) H ∧ va_D A (mW K o r z a g) ∧ (mI z a) ∧ (fE [22, 24] f z)) (upd u37 22 t45) ⟨hP, hD, (mI_f hI (fI_st hI.1 22 (kb_any _) (by decide) (by decide))), (fE_f hE (by decide))⟩ (fun f_48 ef_48 hq => ?_)
      obtain ⟨hP, hD, hI, hE⟩ := hq
      refine lv_aload_n hx hb dX12_positiveOf_56 rfl (lv_at hl 2 rfl) ?_
      refine lv_iload_n hx hb dX12_positiveOf_57 rfl (lv_at hl 3 rfl) ?_
      refine kL.callV (As := [.int lv]) (rest := []) ⟨hx, hb, hml, hown, hg⟩ (hsum l o r f_48 a g hI lv blv t (mm + 1) (j) ob (eS_fE hE hp0 (by decide) (by decide)) (by rw [(show f_48 22 = t45 from by rw [← ef_48]; rfl)]; exact hg47) h4) (cwV 1 hg (kgV wt7_51 wt7_53 wp5_9 wt1_14 wt7_54) rfl rfl rfl (by decide +kernel) ⟨by dsimp only [rmD]; omega, by dsimp only [rmD]; omega⟩) hK hP hD hS hA mIs [] rfl (wr := []) rfl rfl rfl (fun i h => by cases h) 0 12 rfl rfl rfl hl.1 rfl (Nat.le_of_ble_eq_true rfl) dX12_positiveOf_58 ⟨Nat.le_refl _, Nat.le_refl _⟩ (fun v50 u51 H locs hw49 hP hD hS => ?_)
      have hP : va_P D vwCl (mW K o r u51 a g) H := hP
      have hD : va_D A (mW K o r u51 a g) := hD
      have hI : mI u51 a := hw49.2.1
      have eE52 : fE [22, 24] f_48 u51 := hw49.2.2.1
      have hE : fE [22, 24] f u51 := fE_tr hE eE52
      obtain ⟨gv53, egv53⟩ : ∃ z : Int32, z = u51 22 := ⟨_, rfl⟩
      have hg54 : gv53.toInt = 400 * (t : Int) + ((j : Nat) : Int) := by rw [egv53]; exact hw49.2.2.2
      refine lv_lstore (lv' := [(5, .long v50), (4, .int 160), (2, .long v36), (0, .ref o), (1, .int lv)]) hx hb dX12_positiveOf_61 hl (by decide) rfl (fun ls hl => ?_)
      refine lv_iload_n hx hb dX12_positiveOf_63 rfl (lv_at hl 4 rfl) ?_
      refine lv_if_eq (tgt := 125) hx hb dX12_positiveOf_64 (by decide) (fun c55 => ?_) (fun c55 => ?_)
      · have b56 : kb 0 lv 0 := kb_eq c55 kc_0
        refine lv_iconst (v := 0) hx hb dX12_positiveOf_125 (by decide) ?_
        exact kI_ret (v := 0) hx hb hr hlocks (by decide +kernel) hK hS dX12_positiveOf_126 u51 hP hD ⟨(kb_w kc_0 (by decide) (by decide)), hI, hE, (by rw [egv53.symm]; exact hg54)⟩
      · have b57 : kb 1 lv 1 := kr_nel c55 blv kc_0 (by decide)
        refine lv_aload_n hx hb dX12_positiveOf_67 rfl (lv_at hl 3 rfl) ?_
        refine va_get (D := D) (ci := 12) (v := .int (u51 24)) (C := RX12) (T := TX12) (N := 48) hx hb hg inC12 hown hK hP 0 rfl rfl 24 (by decide) (hg _ wt5_184) (fun _ h9 => h9) rfl dX12_positiveOf_68 ?_
        refine lv_topi (fun t58 et58 => ?_)
        have b59 : kb 0 t58 1 := kb_eq et58 (fI_at hI.1 24 (by decide) (by decide))
        refine lv_if_ne (tgt := 125) hx hb dX12_positiveOf_71 (by decide) (fun c60 => ?_) (fun c60 => ?_)
        · have b61 : kb 1 t58 1 := kr_nel c60 b59 kc_0 (by decide)
          refine lv_iconst (v := 0) hx hb dX12_positiveOf_125 (by decide) ?_
          exact kI_ret (v := 0) hx hb hr hlocks (by decide +kernel) hK hS dX12_positiveOf_126 u51 hP hD ⟨(kb_w kc_0 (by decide) (by decide)), hI, hE, (by rw [egv53.symm]; exact hg54)⟩
        · have b62 : kb 0 t58 0 := kb_eq c60 kc_0
          refine lv_iload hx hb dX12_positiveOf_74 (lv_at hl 1 rfl) ?_
          refine lv_bipush (v := 60) hx hb dX12_positiveOf_76 (by decide) ?_
          refine kN.callS (As := [.int 60]) (rest := [.int 160]) ⟨hx, hb, hml, hown, hg⟩ (m_sign l 60 (kb_w kc_60 (by decide) (by decide))) (va_cwS 1 hg (kgS wt6_220 wt6_221 wt1_14 wt6_222) rfl rfl rfl (by decide +kernel) ⟨by dsimp only [rmD]; omega, by dsimp only [rmD]; omega⟩) hP hS rfl hl.1 rfl (Nat.le_of_ble_eq_true rfl) dX12_positiveOf_78 ⟨Nat.le_refl _, Nat.le_refl _⟩ (fun v64 H locs hw63 hP hS => ?_)
          refine k_top (z := 160) (Int32.toInt_inj.mp (hw63.2.trans (by decide +kernel))) ?_
          refine lv_icmp_ne (tgt := 94) hx hb dX12_positiveOf_81 (by decide) (fun c66 => ?_) (fun c66 => ?_)
          · exact kb_nsame c66 kc_160 kc_160
          · refine lv_lload_n hx hb dX12_positiveOf_84 rfl (lv_at hl 2 rfl) ?_
            refine lv_lload hx hb dX12_positiveOf_85 (lv_at hl 0 rfl) ?_
            refine W.lcmp hx hb dX12_positiveOf_87 ?_
            refine lv_topi (fun t67 et67 => ?_)
            refine lv_if_ge (tgt := 125) hx hb dX12_positiveOf_88 (by decide) (fun c68 => ?_) (fun c68 => ?_)
            · have h69 := klc_ge (et67 ▸ c68)
              refine lv_iconst (v := 0) hx hb dX12_positiveOf_125 (by decide) ?_
              exact kI_ret (v := 0) hx hb hr hlocks (by decide +kernel) hK hS dX12_positiveOf_126 u51 hP hD ⟨(kb_w kc_0 (by decide) (by decide)), hI, hE, (by rw [egv53.symm]; exact hg54)⟩
            · have h70 := klc_nge (et67 ▸ c68)
              have b71 : kbl (-9223372036854775808) v36 9223372036854775806 := klr_lt1 h70 (kbl_any v36) (kbl_any v50) (by decide)
              have b72 : kbl (-9223372036854775807) v50 9223372036854775807 := klr_lt2 h70 (kbl_any v36) (kbl_any v50) (by decide)
              refine lv_goto (tgt := 121) hx hb dX12_positiveOf_91 (by decide) ?_
              refine lv_iconst (v := 1) hx hb dX12_positiveOf_121 (by decide) ?_
              refine lv_goto (tgt := 126) hx hb dX12_positiveOf_122 (by decide) ?_
              exact kI_ret (v := 1) hx hb hr hlocks (by decide +kernel) hK hS dX12_positiveOf_126 u51 hP hD ⟨(kb_w kc_1 (by decide) (by decide)), hI, hE, (by rw [egv53.symm]; exact hg54)⟩
    · exact kb_nsame c34 kc_0 kc_0
  · refine lv_aload_n hx hb dX12_positiveOf_0 rfl (lv_at hl 0 rfl) ?_
    refine lv_bipush (v := 40) hx hb dX12_positiveOf_1 (by decide) ?_
    refine kN.callS (As := [.int 40]) (rest := [.ref o]) ⟨hx, hb, hml, hown, hg⟩ (m_sign l 40 (kb_w kc_40 (by decide) (by decide))) (va_cwS 1 hg (kgS wt6_220 wt6_221 wt1_14 wt6_222) rfl rfl rfl (by decide +kernel) ⟨by dsimp only [rmD]; omega, by dsimp only [rmD]; omega⟩) hP hS rfl hl.1 rfl (Nat.le_of_ble_eq_true rfl) dX12_positiveOf_3 ⟨Nat.le_refl _, Nat.le_refl _⟩ (fun v74 H locs hw73 hP hS => ?_)
    refine k_top (z := 140) (Int32.toInt_inj.mp (hw73.2.trans (by decide +kernel))) ?_
    refine kI.callV (As := [.int 140]) (rest := []) ⟨hx, hb, hml, hown, hg⟩ (m_passes0 l o r f a g hI 140 (kb_w kc_140 (by decide) (by decide)) t (i) ob (eS_fE hE hp0 (by decide) (by decide)) (by rw [ec22.symm]; exact hg0)) (cwV 1 hg (kgV wt7_63 wt7_65 wp5_12 wt1_14 wt7_66) rfl rfl rfl (by decide +kernel) ⟨by dsimp only [rmD]; omega, by dsimp only [rmD]; omega⟩) hK hP hD hS hA mIs [] rfl (wr := []) rfl rfl rfl (fun i h => by cases h) 0 12 rfl rfl rfl hl.1 rfl (Nat.le_of_ble_eq_true rfl) dX12_positiveOf_6 ⟨Nat.le_refl _, Nat.le_refl _⟩ (fun v77 u78 H locs hw76 hP hD hS => ?_)
    have hP : va_P D vwCl (mW K o r u78 a g) H := hP
    have hD : va_D A (mW K o r u78 a g) := hD
    have hI : mI u78 a := hw76.2.1
    have eE79 : fE [22] f u78 := hw76.2.2.1
    have hE : fE [22, 24] f u78 := fE_tr hE (fE_w (by decide) eE79)
    have hz80 := pass_n hw76.2.2.2 h1
    refine k_top (z := 0) hz80.1 ?_
    obtain ⟨gv81, egv81⟩ : ∃ z : Int32, z = u78 22 := ⟨_, rfl⟩
    have hg82 : gv81.toInt = 400 * (t : Int) + ((i : Nat) : Int) := by rw [egv81]; exact hz80.2
    refine lv_if_eq (tgt := 30) hx hb dX12_positiveOf_9 (by decide) (fun c83 => ?_) (fun c83 => ?_)
    · refine lv_aload_n hx hb dX12_positiveOf_30 rfl (lv_at hl 0 rfl) ?_
      refine lv_iload_n hx hb dX12_positiveOf_31 rfl (lv_at hl 1 rfl) ?_
      refine kL.callV (As := [.int lv]) (rest := []) ⟨hx, hb, hml, hown, hg⟩ (hsum l o r u78 a g hI lv blv t (i) (mm) ob (eS_fE hE hp0 (by decide) (by decide)) (by rw [egv81.symm]; exact hg82) h2) (cwV 1 hg (kgV wt7_51 wt7_53 wp5_9 wt1_14 wt7_54) rfl rfl rfl (by decide +kernel) ⟨by dsimp only [rmD]; omega, by dsimp only [rmD]; omega⟩) hK hP hD hS hA mIs [] rfl (wr := []) rfl rfl rfl (fun i h => by cases h) 0 12 rfl rfl rfl hl.1 rfl (Nat.le_of_ble_eq_true rfl) dX12_positiveOf_32 ⟨Nat.le_refl _, Nat.le_refl _⟩ (fun v85 u86 H locs hw84 hP hD hS => ?_)
      have hP : va_P D vwCl (mW K o r u86 a g) H := hP
      have hD : va_D A (mW K o r u86 a g) := hD
      have hI : mI u86 a := hw84.2.1
      have eE87 : fE [22, 24] u78 u86 := hw84.2.2.1
      have hE : fE [22, 24] f u86 := fE_tr hE eE87
      obtain ⟨gv88, egv88⟩ : ∃ z : Int32, z = u86 22 := ⟨_, rfl⟩
      have hg89 : gv88.toInt = 400 * (t : Int) + ((mm : Nat) : Int) := by rw [egv88]; exact hw84.2.2.2
      have b90 : kb 0 gv88 2799 := kb_go (eS_fE hE hp0 (by decide) (by decide)) (mC_lt (eS_fE hE hp0 (by decide) (by decide)) (ne_0 h3 (by decide +kernel))) hg89
      refine lv_lstore_n (lv' := [(2, .long v85), (0, .ref o), (1, .int lv)]) hx hb dX12_positiveOf_35 rfl hl (by decide) rfl (fun ls hl => ?_)
      refine lv_aload_n hx hb dX12_positiveOf_36 rfl (lv_at hl 1 rfl) ?_
      refine lv_aload_n hx hb dX12_positiveOf_37 rfl (lv_at hl 1 rfl) ?_
      refine va_get (D := D) (ci := 12) (v := .int (u86 22)) (C := RX12) (T := TX12) (N := 48) hx hb hg inC12 hown hK hP 0 rfl rfl 22 (by decide) (hg _ wt5_182) (fun _ h9 => h9) rfl dX12_positiveOf_38 ?_
      refine k_top (z := gv88) egv88.symm ?_
      refine kI.callV (As := [.int gv88]) (rest := []) ⟨hx, hb, hml, hown, hg⟩ (m_codeAt l o r u86 a g hI gv88  t (mm) ob (eS_fE hE hp0 (by decide) (by decide)) hg89) (cwV 1 hg (kgV wt7_47 wt7_49 wp5_8 wt1_14 wt7_50) rfl rfl rfl (by decide +kernel) ⟨by dsimp only [rmD]; omega, by dsimp only [rmD]; omega⟩) hK hP hD hS hA mIs [] rfl (wr := []) rfl rfl rfl (fun i h => by cases h) 0 12 rfl rfl rfl hl.1 rfl (Nat.le_of_ble_eq_true rfl) dX12_positiveOf_41 ⟨Nat.le_refl _, Nat.le_refl _⟩ (fun v92 u93 H locs hw91 hP hD hS => ?_)
      have hP : va_P D vwCl (mW K o r u86 a g) H := hP
      have hD : va_D A (mW K o r u86 a g) := hD
      refine k_top (z := 162) (hw91.2.trans h3) ?_
      refine lv_istore (lv' := [(4, .int 162), (2, .long v85), (0, .ref o), (1, .int lv)]) hx hb dX12_positiveOf_44 hl (by decide) rfl (fun ls hl => ?_)
      refine lv_aload_n hx hb dX12_positiveOf_46 rfl (lv_at hl 2 rfl) ?_
      refine lv_dup hx hb dX12_positiveOf_47 rfl ?_
      refine va_get (D := D) (ci := 12) (v := .int (u86 22)) (C := RX12) (T := TX12) (N := 48) hx hb hg inC12 hown hK hP 0 rfl rfl 22 (by decide) (hg _ wt5_182) (fun _ h9 => h9) rfl dX12_positiveOf_48 ?_
      refine k_top (z := gv88) egv88.symm ?_
      refine lv_iconst (v := 1) hx hb dX12_positiveOf_51 (by decide) ?_
      refine lv_iadd hx hb dX12_positiveOf_52 ?_
      refine lv_topi (fun t94 et94 => ?_)
      have b95 : kb 1 t94 2800 := kb_eq et94 (kb_add b90 kc_1 (by decide) (by decide))
      have qt94 : t94.toInt = gv88.toInt + 1 := by rw [et94]; exact kt_addc b90 kc_1 (by decide) (by decide)
      have hg96 : t94.toInt = 400 * (t : Int) + ((mm + 1 : Nat) : Int) := by rw [qt94, hg89]; omega
      refine va_put (D := D) (ci := 12) (v := .int t94) (ty := .int) (C := RX12) (T := TX12) (N := 48) hx hb hg inC12 tyX12 tyX12_ok nmX12 hown hK hP hD hS 0 rfl rfl 22 (by decide) (hg _ wt5_182) (fun _ h9 => h9) rfl (by decide +kernel) rfl rfl (Nat.le_of_ble_eq_true rfl) dX12_positiveOf_53 (fun H locs hP hD hS => ?_)
      have hP : va_P D vwCl (mW K o r (upd u86 22 t94) a g) H := hP
      have hD : va_D A (mW K o r (upd u86 22 t94) a g) := hD
      refine k_gen (P := fun z => va_P D vwCl (mW K o r z a g) H ∧ va_D A (mW K o r z a g) ∧ (mI z a) ∧ (fE [22, 24] f z)) (upd u86 22 t94) ⟨hP, hD, (mI_f hI (fI_st hI.1 22 (kb_any _) (by decide) (by decide))), (fE_f hE (by decide))⟩ (fun f_97 ef_97 hq => ?_)
      obtain ⟨hP, hD, hI, hE⟩ := hq
      refine lv_aload_n hx hb dX12_positiveOf_56 rfl (lv_at hl 2 rfl) ?_
      refine lv_iload_n hx hb dX12_positiveOf_57 rfl (lv_at hl 3 rfl) ?_
      refine kL.callV (As := [.int lv]) (rest := []) ⟨hx, hb, hml, hown, hg⟩ (hsum l o r f_97 a g hI lv blv t (mm + 1) (j) ob (eS_fE hE hp0 (by decide) (by decide)) (by rw [(show f_97 22 = t94 from by rw [← ef_97]; rfl)]; exact hg96) h4) (cwV 1 hg (kgV wt7_51 wt7_53 wp5_9 wt1_14 wt7_54) rfl rfl rfl (by decide +kernel) ⟨by dsimp only [rmD]; omega, by dsimp only [rmD]; omega⟩) hK hP hD hS hA mIs [] rfl (wr := []) rfl rfl rfl (fun i h => by cases h) 0 12 rfl rfl rfl hl.1 rfl (Nat.le_of_ble_eq_true rfl) dX12_positiveOf_58 ⟨Nat.le_refl _, Nat.le_refl _⟩ (fun v99 u100 H locs hw98 hP hD hS => ?_)
      have hP : va_P D vwCl (mW K o r u100 a g) H := hP
      have hD : va_D A (mW K o r u100 a g) := hD
      have hI : mI u100 a := hw98.2.1
      have eE101 : fE [22, 24] f_97 u100 := hw98.2.2.1
      have hE : fE [22, 24] f u100 := fE_tr hE eE101
      obtain ⟨gv102, egv102⟩ : ∃ z : Int32, z = u100 22 := ⟨_, rfl⟩
      have hg103 : gv102.toInt = 400 * (t : Int) + ((j : Nat) : Int) := by rw [egv102]; exact hw98.2.2.2
      refine lv_lstore (lv' := [(5, .long v99), (4, .int 162), (2, .long v85), (0, .ref o), (1, .int lv)]) hx hb dX12_positiveOf_61 hl (by decide) rfl (fun ls hl => ?_)
      refine lv_iload_n hx hb dX12_positiveOf_63 rfl (lv_at hl 4 rfl) ?_
      refine lv_if_eq (tgt := 125) hx hb dX12_positiveOf_64 (by decide) (fun c104 => ?_) (fun c104 => ?_)
      · have b105 : kb 0 lv 0 := kb_eq c104 kc_0
        refine lv_iconst (v := 0) hx hb dX12_positiveOf_125 (by decide) ?_
        exact kI_ret (v := 0) hx hb hr hlocks (by decide +kernel) hK hS dX12_positiveOf_126 u100 hP hD ⟨(kb_w kc_0 (by decide) (by decide)), hI, hE, (by rw [egv102.symm]; exact hg103)⟩
      · have b106 : kb 1 lv 1 := kr_nel c104 blv kc_0 (by decide)
        refine lv_aload_n hx hb dX12_positiveOf_67 rfl (lv_at hl 3 rfl) ?_
        refine va_get (D := D) (ci := 12) (v := .int (u100 24)) (C := RX12) (T := TX12) (N := 48) hx hb hg inC12 hown hK hP 0 rfl rfl 24 (by decide) (hg _ wt5_184) (fun _ h9 => h9) rfl dX12_positiveOf_68 ?_
        refine lv_topi (fun t107 et107 => ?_)
        have b108 : kb 0 t107 1 := kb_eq et107 (fI_at hI.1 24 (by decide) (by decide))
        refine lv_if_ne (tgt := 125) hx hb dX12_positiveOf_71 (by decide) (fun c109 => ?_) (fun c109 => ?_)
        · have b110 : kb 1 t107 1 := kr_nel c109 b108 kc_0 (by decide)
          refine lv_iconst (v := 0) hx hb dX12_positiveOf_125 (by decide) ?_
          exact kI_ret (v := 0) hx hb hr hlocks (by decide +kernel) hK hS dX12_positiveOf_126 u100 hP hD ⟨(kb_w kc_0 (by decide) (by decide)), hI, hE, (by rw [egv102.symm]; exact hg103)⟩
        · have b111 : kb 0 t107 0 := kb_eq c109 kc_0
          refine lv_iload hx hb dX12_positiveOf_74 (lv_at hl 1 rfl) ?_
          refine lv_bipush (v := 60) hx hb dX12_positiveOf_76 (by decide) ?_
          refine kN.callS (As := [.int 60]) (rest := [.int 162]) ⟨hx, hb, hml, hown, hg⟩ (m_sign l 60 (kb_w kc_60 (by decide) (by decide))) (va_cwS 1 hg (kgS wt6_220 wt6_221 wt1_14 wt6_222) rfl rfl rfl (by decide +kernel) ⟨by dsimp only [rmD]; omega, by dsimp only [rmD]; omega⟩) hP hS rfl hl.1 rfl (Nat.le_of_ble_eq_true rfl) dX12_positiveOf_78 ⟨Nat.le_refl _, Nat.le_refl _⟩ (fun v113 H locs hw112 hP hS => ?_)
          refine k_top (z := 160) (Int32.toInt_inj.mp (hw112.2.trans (by decide +kernel))) ?_
          refine lv_icmp_ne (tgt := 94) hx hb dX12_positiveOf_81 (by decide) (fun c115 => ?_) (fun c115 => ?_)
          · refine lv_iload hx hb dX12_positiveOf_94 (lv_at hl 1 rfl) ?_
            refine lv_bipush (v := 62) hx hb dX12_positiveOf_96 (by decide) ?_
            refine kN.callS (As := [.int 62]) (rest := [.int 162]) ⟨hx, hb, hml, hown, hg⟩ (m_sign l 62 (kb_w kc_62 (by decide) (by decide))) (va_cwS 1 hg (kgS wt6_220 wt6_221 wt1_14 wt6_222) rfl rfl rfl (by decide +kernel) ⟨by dsimp only [rmD]; omega, by dsimp only [rmD]; omega⟩) hP hS rfl hl.1 rfl (Nat.le_of_ble_eq_true rfl) dX12_positiveOf_98 ⟨Nat.le_refl _, Nat.le_refl _⟩ (fun v117 H locs hw116 hP hS => ?_)
            refine k_top (z := 162) (Int32.toInt_inj.mp (hw116.2.trans (by decide +kernel))) ?_
            refine lv_icmp_ne (tgt := 114) hx hb dX12_positiveOf_101 (by decide) (fun c119 => ?_) (fun c119 => ?_)
            · exact kb_nsame c119 kc_162 kc_162
            · refine lv_lload_n hx hb dX12_positiveOf_104 rfl (lv_at hl 2 rfl) ?_
              refine lv_lload hx hb dX12_positiveOf_105 (lv_at hl 0 rfl) ?_
              refine W.lcmp hx hb dX12_positiveOf_107 ?_
              refine lv_topi (fun t120 et120 => ?_)
              refine lv_if_le (tgt := 125) hx hb dX12_positiveOf_108 (by decide) (fun c121 => ?_) (fun c121 => ?_)
              · have h122 := klc_le (et120 ▸ c121)
                refine lv_iconst (v := 0) hx hb dX12_positiveOf_125 (by decide) ?_
                exact kI_ret (v := 0) hx hb hr hlocks (by decide +kernel) hK hS dX12_positiveOf_126 u100 hP hD ⟨(kb_w kc_0 (by decide) (by decide)), hI, hE, (by rw [egv102.symm]; exact hg103)⟩
              · have h123 := klc_nle (et120 ▸ c121)
                have b124 : kbl (-9223372036854775807) v85 9223372036854775807 := klr_lt2 h123 (kbl_any v99) (kbl_any v85) (by decide)
                have b125 : kbl (-9223372036854775808) v99 9223372036854775806 := klr_lt1 h123 (kbl_any v99) (kbl_any v85) (by decide)
                refine lv_goto (tgt := 121) hx hb dX12_positiveOf_111 (by decide) ?_
                refine lv_iconst (v := 1) hx hb dX12_positiveOf_121 (by decide) ?_
                refine lv_goto (tgt := 126) hx hb dX12_positiveOf_122 (by decide) ?_
                exact kI_ret (v := 1) hx hb hr hlocks (by decide +kernel) hK hS dX12_positiveOf_126 u100 hP hD ⟨(kb_w kc_1 (by decide) (by decide)), hI, hE, (by rw [egv102.symm]; exact hg103)⟩
          · exact kb_dj c115 kc_162 kc_160 (by decide)
    · exact kb_nsame c83 kc_0 kc_0
  · refine lv_aload_n hx hb dX12_positiveOf_0 rfl (lv_at hl 0 rfl) ?_
    refine lv_bipush (v := 40) hx hb dX12_positiveOf_1 (by decide) ?_
    refine kN.callS (As := [.int 40]) (rest := [.ref o]) ⟨hx, hb, hml, hown, hg⟩ (m_sign l 40 (kb_w kc_40 (by decide) (by decide))) (va_cwS 1 hg (kgS wt6_220 wt6_221 wt1_14 wt6_222) rfl rfl rfl (by decide +kernel) ⟨by dsimp only [rmD]; omega, by dsimp only [rmD]; omega⟩) hP hS rfl hl.1 rfl (Nat.le_of_ble_eq_true rfl) dX12_positiveOf_3 ⟨Nat.le_refl _, Nat.le_refl _⟩ (fun v127 H locs hw126 hP hS => ?_)
    refine k_top (z := 140) (Int32.toInt_inj.mp (hw126.2.trans (by decide +kernel))) ?_
    refine kI.callV (As := [.int 140]) (rest := []) ⟨hx, hb, hml, hown, hg⟩ (m_passes0 l o r f a g hI 140 (kb_w kc_140 (by decide) (by decide)) t (i) ob (eS_fE hE hp0 (by decide) (by decide)) (by rw [ec22.symm]; exact hg0)) (cwV 1 hg (kgV wt7_63 wt7_65 wp5_12 wt1_14 wt7_66) rfl rfl rfl (by decide +kernel) ⟨by dsimp only [rmD]; omega, by dsimp only [rmD]; omega⟩) hK hP hD hS hA mIs [] rfl (wr := []) rfl rfl rfl (fun i h => by cases h) 0 12 rfl rfl rfl hl.1 rfl (Nat.le_of_ble_eq_true rfl) dX12_positiveOf_6 ⟨Nat.le_refl _, Nat.le_refl _⟩ (fun v130 u131 H locs hw129 hP hD hS => ?_)
    have hP : va_P D vwCl (mW K o r u131 a g) H := hP
    have hD : va_D A (mW K o r u131 a g) := hD
    have hI : mI u131 a := hw129.2.1
    have eE132 : fE [22] f u131 := hw129.2.2.1
    have hE : fE [22, 24] f u131 := fE_tr hE (fE_w (by decide) eE132)
    have hz133 := pass_n hw129.2.2.2 h1
    refine k_top (z := 0) hz133.1 ?_
    obtain ⟨gv134, egv134⟩ : ∃ z : Int32, z = u131 22 := ⟨_, rfl⟩
    have hg135 : gv134.toInt = 400 * (t : Int) + ((i : Nat) : Int) := by rw [egv134]; exact hz133.2
    refine lv_if_eq (tgt := 30) hx hb dX12_positiveOf_9 (by decide) (fun c136 => ?_) (fun c136 => ?_)
    · refine lv_aload_n hx hb dX12_positiveOf_30 rfl (lv_at hl 0 rfl) ?_
      refine lv_iload_n hx hb dX12_positiveOf_31 rfl (lv_at hl 1 rfl) ?_
      refine kL.callV (As := [.int lv]) (rest := []) ⟨hx, hb, hml, hown, hg⟩ (hsum l o r u131 a g hI lv blv t (i) (mm) ob (eS_fE hE hp0 (by decide) (by decide)) (by rw [egv134.symm]; exact hg135) h2) (cwV 1 hg (kgV wt7_51 wt7_53 wp5_9 wt1_14 wt7_54) rfl rfl rfl (by decide +kernel) ⟨by dsimp only [rmD]; omega, by dsimp only [rmD]; omega⟩) hK hP hD hS hA mIs [] rfl (wr := []) rfl rfl rfl (fun i h => by cases h) 0 12 rfl rfl rfl hl.1 rfl (Nat.le_of_ble_eq_true rfl) dX12_positiveOf_32 ⟨Nat.le_refl _, Nat.le_refl _⟩ (fun v138 u139 H locs hw137 hP hD hS => ?_)
      have hP : va_P D vwCl (mW K o r u139 a g) H := hP
      have hD : va_D A (mW K o r u139 a g) := hD
      have hI : mI u139 a := hw137.2.1
      have eE140 : fE [22, 24] u131 u139 := hw137.2.2.1
      have hE : fE [22, 24] f u139 := fE_tr hE eE140
      obtain ⟨gv141, egv141⟩ : ∃ z : Int32, z = u139 22 := ⟨_, rfl⟩
      have hg142 : gv141.toInt = 400 * (t : Int) + ((mm : Nat) : Int) := by rw [egv141]; exact hw137.2.2.2
      have b143 : kb 0 gv141 2799 := kb_go (eS_fE hE hp0 (by decide) (by decide)) (mC_lt (eS_fE hE hp0 (by decide) (by decide)) (ne_0 h3 (by decide +kernel))) hg142
      refine lv_lstore_n (lv' := [(2, .long v138), (0, .ref o), (1, .int lv)]) hx hb dX12_positiveOf_35 rfl hl (by decide) rfl (fun ls hl => ?_)
      refine lv_aload_n hx hb dX12_positiveOf_36 rfl (lv_at hl 1 rfl) ?_
      refine lv_aload_n hx hb dX12_positiveOf_37 rfl (lv_at hl 1 rfl) ?_
      refine va_get (D := D) (ci := 12) (v := .int (u139 22)) (C := RX12) (T := TX12) (N := 48) hx hb hg inC12 hown hK hP 0 rfl rfl 22 (by decide) (hg _ wt5_182) (fun _ h9 => h9) rfl dX12_positiveOf_38 ?_
      refine k_top (z := gv141) egv141.symm ?_
      refine kI.callV (As := [.int gv141]) (rest := []) ⟨hx, hb, hml, hown, hg⟩ (m_codeAt l o r u139 a g hI gv141  t (mm) ob (eS_fE hE hp0 (by decide) (by decide)) hg142) (cwV 1 hg (kgV wt7_47 wt7_49 wp5_8 wt1_14 wt7_50) rfl rfl rfl (by decide +kernel) ⟨by dsimp only [rmD]; omega, by dsimp only [rmD]; omega⟩) hK hP hD hS hA mIs [] rfl (wr := []) rfl rfl rfl (fun i h => by cases h) 0 12 rfl rfl rfl hl.1 rfl (Nat.le_of_ble_eq_true rfl) dX12_positiveOf_41 ⟨Nat.le_refl _, Nat.le_refl _⟩ (fun v145 u146 H locs hw144 hP hD hS => ?_)
      have hP : va_P D vwCl (mW K o r u139 a g) H := hP
      have hD : va_D A (mW K o r u139 a g) := hD
      refine k_top (z := 161) (hw144.2.trans h3) ?_
      refine lv_istore (lv' := [(4, .int 161), (2, .long v138), (0, .ref o), (1, .int lv)]) hx hb dX12_positiveOf_44 hl (by decide) rfl (fun ls hl => ?_)
      refine lv_aload_n hx hb dX12_positiveOf_46 rfl (lv_at hl 2 rfl) ?_
      refine lv_dup hx hb dX12_positiveOf_47 rfl ?_
      refine va_get (D := D) (ci := 12) (v := .int (u139 22)) (C := RX12) (T := TX12) (N := 48) hx hb hg inC12 hown hK hP 0 rfl rfl 22 (by decide) (hg _ wt5_182) (fun _ h9 => h9) rfl dX12_positiveOf_48 ?_
      refine k_top (z := gv141) egv141.symm ?_
      refine lv_iconst (v := 1) hx hb dX12_positiveOf_51 (by decide) ?_
      refine lv_iadd hx hb dX12_positiveOf_52 ?_
      refine lv_topi (fun t147 et147 => ?_)
      have b148 : kb 1 t147 2800 := kb_eq et147 (kb_add b143 kc_1 (by decide) (by decide))
      have qt147 : t147.toInt = gv141.toInt + 1 := by rw [et147]; exact kt_addc b143 kc_1 (by decide) (by decide)
      have hg149 : t147.toInt = 400 * (t : Int) + ((mm + 1 : Nat) : Int) := by rw [qt147, hg142]; omega
      refine va_put (D := D) (ci := 12) (v := .int t147) (ty := .int) (C := RX12) (T := TX12) (N := 48) hx hb hg inC12 tyX12 tyX12_ok nmX12 hown hK hP hD hS 0 rfl rfl 22 (by decide) (hg _ wt5_182) (fun _ h9 => h9) rfl (by decide +kernel) rfl rfl (Nat.le_of_ble_eq_true rfl) dX12_positiveOf_53 (fun H locs hP hD hS => ?_)
      have hP : va_P D vwCl (mW K o r (upd u139 22 t147) a g) H := hP
      have hD : va_D A (mW K o r (upd u139 22 t147) a g) := hD
      refine k_gen (P := fun z => va_P D vwCl (mW K o r z a g) H ∧ va_D A (mW K o r z a g) ∧ (mI z a) ∧ (fE [22, 24] f z)) (upd u139 22 t147) ⟨hP, hD, (mI_f hI (fI_st hI.1 22 (kb_any _) (by decide) (by decide))), (fE_f hE (by decide))⟩ (fun f_150 ef_150 hq => ?_)
      obtain ⟨hP, hD, hI, hE⟩ := hq
      refine lv_aload_n hx hb dX12_positiveOf_56 rfl (lv_at hl 2 rfl) ?_
      refine lv_iload_n hx hb dX12_positiveOf_57 rfl (lv_at hl 3 rfl) ?_
      refine kL.callV (As := [.int lv]) (rest := []) ⟨hx, hb, hml, hown, hg⟩ (hsum l o r f_150 a g hI lv blv t (mm + 1) (j) ob (eS_fE hE hp0 (by decide) (by decide)) (by rw [(show f_150 22 = t147 from by rw [← ef_150]; rfl)]; exact hg149) h4) (cwV 1 hg (kgV wt7_51 wt7_53 wp5_9 wt1_14 wt7_54) rfl rfl rfl (by decide +kernel) ⟨by dsimp only [rmD]; omega, by dsimp only [rmD]; omega⟩) hK hP hD hS hA mIs [] rfl (wr := []) rfl rfl rfl (fun i h => by cases h) 0 12 rfl rfl rfl hl.1 rfl (Nat.le_of_ble_eq_true rfl) dX12_positiveOf_58 ⟨Nat.le_refl _, Nat.le_refl _⟩ (fun v152 u153 H locs hw151 hP hD hS => ?_)
      have hP : va_P D vwCl (mW K o r u153 a g) H := hP
      have hD : va_D A (mW K o r u153 a g) := hD
      have hI : mI u153 a := hw151.2.1
      have eE154 : fE [22, 24] f_150 u153 := hw151.2.2.1
      have hE : fE [22, 24] f u153 := fE_tr hE eE154
      obtain ⟨gv155, egv155⟩ : ∃ z : Int32, z = u153 22 := ⟨_, rfl⟩
      have hg156 : gv155.toInt = 400 * (t : Int) + ((j : Nat) : Int) := by rw [egv155]; exact hw151.2.2.2
      refine lv_lstore (lv' := [(5, .long v152), (4, .int 161), (2, .long v138), (0, .ref o), (1, .int lv)]) hx hb dX12_positiveOf_61 hl (by decide) rfl (fun ls hl => ?_)
      refine lv_iload_n hx hb dX12_positiveOf_63 rfl (lv_at hl 4 rfl) ?_
      refine lv_if_eq (tgt := 125) hx hb dX12_positiveOf_64 (by decide) (fun c157 => ?_) (fun c157 => ?_)
      · have b158 : kb 0 lv 0 := kb_eq c157 kc_0
        refine lv_iconst (v := 0) hx hb dX12_positiveOf_125 (by decide) ?_
        exact kI_ret (v := 0) hx hb hr hlocks (by decide +kernel) hK hS dX12_positiveOf_126 u153 hP hD ⟨(kb_w kc_0 (by decide) (by decide)), hI, hE, (by rw [egv155.symm]; exact hg156)⟩
      · have b159 : kb 1 lv 1 := kr_nel c157 blv kc_0 (by decide)
        refine lv_aload_n hx hb dX12_positiveOf_67 rfl (lv_at hl 3 rfl) ?_
        refine va_get (D := D) (ci := 12) (v := .int (u153 24)) (C := RX12) (T := TX12) (N := 48) hx hb hg inC12 hown hK hP 0 rfl rfl 24 (by decide) (hg _ wt5_184) (fun _ h9 => h9) rfl dX12_positiveOf_68 ?_
        refine lv_topi (fun t160 et160 => ?_)
        have b161 : kb 0 t160 1 := kb_eq et160 (fI_at hI.1 24 (by decide) (by decide))
        refine lv_if_ne (tgt := 125) hx hb dX12_positiveOf_71 (by decide) (fun c162 => ?_) (fun c162 => ?_)
        · have b163 : kb 1 t160 1 := kr_nel c162 b161 kc_0 (by decide)
          refine lv_iconst (v := 0) hx hb dX12_positiveOf_125 (by decide) ?_
          exact kI_ret (v := 0) hx hb hr hlocks (by decide +kernel) hK hS dX12_positiveOf_126 u153 hP hD ⟨(kb_w kc_0 (by decide) (by decide)), hI, hE, (by rw [egv155.symm]; exact hg156)⟩
        · have b164 : kb 0 t160 0 := kb_eq c162 kc_0
          refine lv_iload hx hb dX12_positiveOf_74 (lv_at hl 1 rfl) ?_
          refine lv_bipush (v := 60) hx hb dX12_positiveOf_76 (by decide) ?_
          refine kN.callS (As := [.int 60]) (rest := [.int 161]) ⟨hx, hb, hml, hown, hg⟩ (m_sign l 60 (kb_w kc_60 (by decide) (by decide))) (va_cwS 1 hg (kgS wt6_220 wt6_221 wt1_14 wt6_222) rfl rfl rfl (by decide +kernel) ⟨by dsimp only [rmD]; omega, by dsimp only [rmD]; omega⟩) hP hS rfl hl.1 rfl (Nat.le_of_ble_eq_true rfl) dX12_positiveOf_78 ⟨Nat.le_refl _, Nat.le_refl _⟩ (fun v166 H locs hw165 hP hS => ?_)
          refine k_top (z := 160) (Int32.toInt_inj.mp (hw165.2.trans (by decide +kernel))) ?_
          refine lv_icmp_ne (tgt := 94) hx hb dX12_positiveOf_81 (by decide) (fun c168 => ?_) (fun c168 => ?_)
          · refine lv_iload hx hb dX12_positiveOf_94 (lv_at hl 1 rfl) ?_
            refine lv_bipush (v := 62) hx hb dX12_positiveOf_96 (by decide) ?_
            refine kN.callS (As := [.int 62]) (rest := [.int 161]) ⟨hx, hb, hml, hown, hg⟩ (m_sign l 62 (kb_w kc_62 (by decide) (by decide))) (va_cwS 1 hg (kgS wt6_220 wt6_221 wt1_14 wt6_222) rfl rfl rfl (by decide +kernel) ⟨by dsimp only [rmD]; omega, by dsimp only [rmD]; omega⟩) hP hS rfl hl.1 rfl (Nat.le_of_ble_eq_true rfl) dX12_positiveOf_98 ⟨Nat.le_refl _, Nat.le_refl _⟩ (fun v170 H locs hw169 hP hS => ?_)
            refine k_top (z := 162) (Int32.toInt_inj.mp (hw169.2.trans (by decide +kernel))) ?_
            refine lv_icmp_ne (tgt := 114) hx hb dX12_positiveOf_101 (by decide) (fun c172 => ?_) (fun c172 => ?_)
            · refine lv_lload_n hx hb dX12_positiveOf_114 rfl (lv_at hl 2 rfl) ?_
              refine lv_lload hx hb dX12_positiveOf_115 (lv_at hl 0 rfl) ?_
              refine W.lcmp hx hb dX12_positiveOf_117 ?_
              refine lv_topi (fun t173 et173 => ?_)
              refine lv_if_ne (tgt := 125) hx hb dX12_positiveOf_118 (by decide) (fun c174 => ?_) (fun c174 => ?_)
              · have h175 := klc_ne (et173 ▸ c174)
                refine lv_iconst (v := 0) hx hb dX12_positiveOf_125 (by decide) ?_
                exact kI_ret (v := 0) hx hb hr hlocks (by decide +kernel) hK hS dX12_positiveOf_126 u153 hP hD ⟨(kb_w kc_0 (by decide) (by decide)), hI, hE, (by rw [egv155.symm]; exact hg156)⟩
              · have h176 := klc_eq (et173 ▸ c174)
                refine lv_iconst (v := 1) hx hb dX12_positiveOf_121 (by decide) ?_
                refine lv_goto (tgt := 126) hx hb dX12_positiveOf_122 (by decide) ?_
                exact kI_ret (v := 1) hx hb hr hlocks (by decide +kernel) hK hS dX12_positiveOf_126 u153 hP hD ⟨(kb_w kc_1 (by decide) (by decide)), hI, hE, (by rw [egv155.symm]; exact hg156)⟩
            · exact kb_dj c172 kc_161 kc_162 (by decide)
          · exact kb_dj c168 kc_161 kc_160 (by decide)
    · exact kb_nsame c136 kc_0 kc_0
set_option maxHeartbeats 4000000 in
set_option maxRecDepth 100000 in
theorem m_plainOf (d : Nat) (hpos : cPos d) (l : Launch) {D : va_G} {K : Nat → ClassId} (o : Nat) (r : Nat → Nat) (f : Nat → Int32) (a : Nat → Nat → Int32) (g : Nat → Int64) (hI : mI f a) (lv : Int32) (blv : kb 0 lv 1) (t i j : Nat) (ob : Bool) (hp0 : eS f a t ob) (hp1 : (f 22).toInt = 400 * (t : Int) + (i : Int)) (hp2 : gG ob (mC (a 2) t) d 5 i j) : kI l yX12_plainOf (Cond.code yX12_plainOf cX12_plainOf 3 (some .boolean) :: kG) (rmD (4 * d + 13) 0 0) D (tysK K) [.ref o, .int lv] (mW K o r f a g) (fun v (u : Nat → Int32) => kb 0 v 1 ∧ mI u a ∧ fE [22, 24] f u ∧ (u 22).toInt = 400 * (t : Int) + (j : Int)) (fun u => mW K o r u a g) 0 0 := by
  refine kI.of (cc := cX12_plainOf) (maxL := 3) (ret := (some .boolean)) (by decide) rfl (Nat.le_of_ble_eq_true rfl) ?_
  intro p e s m below meth c A hx hb hr hml hown hts hlocks hnm hK hP hD hS hA ls hl
  have hE : fE [22, 24] f f := fE_rf
  have hg : ∀ w ∈ kG, w.before _ s = true := fun w h => hts w (List.mem_cons_of_mem _ h)
  have hown : s.vm.findClass RX12 = some m.cls := hown
  have hl : lv_has ls 3 [(0, .ref o), (1, .int lv)] := hl
  obtain ⟨c22, ec22⟩ : ∃ z : Int32, z = f 22 := ⟨_, rfl⟩
  have hg0 : c22.toInt = 400 * (t : Int) + (i : Int) := by rw [ec22]; exact hp1
  obtain ⟨n0, hn0⟩ := hp2
  refine lv_iconst (v := 0) hx hb dX12_plainOf_0 (by decide) ?_
  refine lv_istore_n (lv' := [(2, .int 0), (0, .ref o), (1, .int lv)]) hx hb dX12_plainOf_1 rfl hl (by decide) rfl (fun ls hl => ?_)
  have lp3 : ∀ (n4 : Nat) (i5 : Nat) (F2 : Nat → Int32) (H : Heap) (locs : List Loc) (ls : Array Slot) (y1 : Int32), (gg ob (mC (a 2) t) n4 d 5 i5 j) → (mI F2 a) → (fE [22, 24] f F2) → (kb 0 y1 1) → ((F2 22).toInt = 400 * (t : Int) + (i5 : Int)) → va_P D vwCl (mW K o r F2 a g) H → va_D A (mW K o r F2 a g) → va_S A s.heap H locs → lv_has ls 3 [(2, .int y1), (0, .ref o), (1, .int lv)] → W p l e (rmD (4 * d + 13) 0 0) s m ([.ref o, .int lv] : List Value).toArray below meth c H locs 0 0 (kQi D (tysK K) (fun v (u : Nat → Int32) => kb 0 v 1 ∧ mI u a ∧ fE [22, 24] f u ∧ (u 22).toInt = 400 * (t : Int) + (j : Int)) (fun u => mW K o r u a g) A below ([.ref o, .int lv] : List Value).toArray s 0 0) (F0 m 2 ls []) := by
    intro n4
    induction n4 with
    | zero =>
      intro i5 F2  H locs ls y1 hmlp3 hI hE b5 hvlp3_0 hP hD hS hl
      exact (hmlp3 : False).elim
    | succ n4 ihlp3 =>
      intro i5 F2  H locs ls y1 hmlp3 hI hE b5 hvlp3_0 hP hD hS hl
      obtain ⟨gv6, egv6⟩ : ∃ z : Int32, z = F2 22 := ⟨_, rfl⟩
      have hg7 : gv6.toInt = 400 * (t : Int) + ((i5 : Nat) : Int) := by rw [egv6]; exact hvlp3_0
      rcases gg_out hmlp3 with ⟨h1, h6⟩ | ⟨h1, h6⟩
      · have b8 : kb 0 gv6 2799 := kb_go (eS_fE hE hp0 (by decide) (by decide)) (mC_lt (eS_fE hE hp0 (by decide) (by decide)) (ne_0 h1 (by decide +kernel))) hg7
        refine lv_aload_n hx hb dX12_plainOf_2 rfl (lv_at hl 1 rfl) ?_
        refine lv_bipush (v := 8) hx hb dX12_plainOf_3 (by decide) ?_
        refine kI.callV (As := [.int 8]) (rest := []) ⟨hx, hb, hml, hown, hg⟩ (m_passes0 l o r F2 a g hI 8 (kb_w kc_8 (by decide) (by decide)) t (i5) ob (eS_fE hE hp0 (by decide) (by decide)) (by rw [egv6.symm]; exact hg7)) (cwV 1 hg (kgV wt7_63 wt7_65 wp5_12 wt1_14 wt7_66) rfl rfl rfl (by decide +kernel) ⟨by dsimp only [rmD]; omega, by dsimp only [rmD]; omega⟩) hK hP hD hS hA mIs [] rfl (wr := []) rfl rfl rfl (fun i h => by cases h) 0 12 rfl rfl rfl hl.1 rfl (Nat.le_of_ble_eq_true rfl) dX12_plainOf_5 ⟨Nat.le_refl _, Nat.le_refl _⟩ (fun v10 u11 H locs hw9 hP hD hS => ?_)
        have hP : va_P D vwCl (mW K o r u11 a g) H := hP
        have hD : va_D A (mW K o r u11 a g) := hD
        have hI : mI u11 a := hw9.2.1
        have eE12 : fE [22] F2 u11 := hw9.2.2.1
        have hE : fE [22, 24] f u11 := fE_tr hE (fE_w (by decide) eE12)
        have hz13 := pass_y hw9.2.2.2 h1
        refine k_top (z := 1) hz13.1 ?_
        obtain ⟨gv14, egv14⟩ : ∃ z : Int32, z = u11 22 := ⟨_, rfl⟩
        have hg15 : gv14.toInt = 400 * (t : Int) + ((i5 + 1 : Nat) : Int) := by rw [egv14]; exact hz13.2
        refine lv_if_eq (tgt := 24) hx hb dX12_plainOf_8 (by decide) (fun c16 => ?_) (fun c16 => ?_)
        · exact kb_dj c16 kc_1 kc_0 (by decide)
        · refine lv_iload_n hx hb dX12_plainOf_11 rfl (lv_at hl 0 rfl) ?_
          have jn20 : ∀ (H : Heap) (locs : List Loc) (ls : Array Slot) (z19 : Int32), (kb 0 z19 1) → va_P D vwCl (mW K o r u11 a g) H → va_D A (mW K o r u11 a g) → va_S A s.heap H locs → lv_has ls 3 [(2, .int y1), (0, .ref o), (1, .int lv)] → W p l e (rmD (4 * d + 13) 0 0) s m ([.ref o, .int lv] : List Value).toArray below meth c H locs 0 0 (kQi D (tysK K) (fun v (u : Nat → Int32) => kb 0 v 1 ∧ mI u a ∧ fE [22, 24] f u ∧ (u 22).toInt = 400 * (t : Int) + (j : Int)) (fun u => mW K o r u a g) A below ([.ref o, .int lv] : List Value).toArray s 0 0) (F0 m 20 ls [.int z19]) := by
            intro  H locs ls z19 b21 hP hD hS hl
            refine lv_istore_n (lv' := [(2, .int z19), (0, .ref o), (1, .int lv)]) hx hb dX12_plainOf_20 rfl hl (by decide) rfl (fun ls hl => ?_)
            refine lv_goto (tgt := 2) hx hb dX12_plainOf_21 (by decide) ?_
            exact ihlp3 (i5 + 1) u11 _ _ _ z19 (h6) hI hE b21 (by rw [egv14.symm]; exact hg15) hP hD hS (lv_sub hl [0, 1, 2] rfl)
          refine lv_if_ne (tgt := 19) hx hb dX12_plainOf_12 (by decide) (fun c22 => ?_) (fun c22 => ?_)
          · have b23 : kb 1 y1 1 := kr_nel c22 b5 kc_0 (by decide)
            refine lv_iconst (v := 0) hx hb dX12_plainOf_19 (by decide) ?_
            exact jn20 _ _ _ 0 (kb_w kc_0 (by decide) (by decide)) hP hD hS (lv_sub hl [0, 1, 2] rfl)
          · have b24 : kb 0 y1 0 := kb_eq c22 kc_0
            refine lv_iconst (v := 1) hx hb dX12_plainOf_15 (by decide) ?_
            refine lv_goto (tgt := 20) hx hb dX12_plainOf_16 (by decide) ?_
            exact jn20 _ _ _ 1 (kb_w kc_1 (by decide) (by decide)) hP hD hS (lv_sub hl [0, 1, 2] rfl)
      · refine lv_aload_n hx hb dX12_plainOf_2 rfl (lv_at hl 1 rfl) ?_
        refine lv_bipush (v := 8) hx hb dX12_plainOf_3 (by decide) ?_
        refine kI.callV (As := [.int 8]) (rest := []) ⟨hx, hb, hml, hown, hg⟩ (m_passes0 l o r F2 a g hI 8 (kb_w kc_8 (by decide) (by decide)) t (i5) ob (eS_fE hE hp0 (by decide) (by decide)) (by rw [egv6.symm]; exact hg7)) (cwV 1 hg (kgV wt7_63 wt7_65 wp5_12 wt1_14 wt7_66) rfl rfl rfl (by decide +kernel) ⟨by dsimp only [rmD]; omega, by dsimp only [rmD]; omega⟩) hK hP hD hS hA mIs [] rfl (wr := []) rfl rfl rfl (fun i h => by cases h) 0 12 rfl rfl rfl hl.1 rfl (Nat.le_of_ble_eq_true rfl) dX12_plainOf_5 ⟨Nat.le_refl _, Nat.le_refl _⟩ (fun v26 u27 H locs hw25 hP hD hS => ?_)
        have hP : va_P D vwCl (mW K o r u27 a g) H := hP
        have hD : va_D A (mW K o r u27 a g) := hD
        have hI : mI u27 a := hw25.2.1
        have eE28 : fE [22] F2 u27 := hw25.2.2.1
        have hE : fE [22, 24] f u27 := fE_tr hE (fE_w (by decide) eE28)
        have hz29 := pass_n hw25.2.2.2 h1
        refine k_top (z := 0) hz29.1 ?_
        obtain ⟨gv30, egv30⟩ : ∃ z : Int32, z = u27 22 := ⟨_, rfl⟩
        have hg31 : gv30.toInt = 400 * (t : Int) + ((i5 : Nat) : Int) := by rw [egv30]; exact hz29.2
        refine lv_if_eq (tgt := 24) hx hb dX12_plainOf_8 (by decide) (fun c32 => ?_) (fun c32 => ?_)
        · refine lv_aload_n hx hb dX12_plainOf_24 rfl (lv_at hl 1 rfl) ?_
          refine lv_iload_n hx hb dX12_plainOf_25 rfl (lv_at hl 2 rfl) ?_
          refine kI.callV (As := [.int lv]) (rest := []) ⟨hx, hb, hml, hown, hg⟩ (hpos l o r u27 a g hI lv blv t (i5) (j) ob (eS_fE hE hp0 (by decide) (by decide)) (by rw [egv30.symm]; exact hg31) (gG_of h6)) (cwV 1 hg (kgV wt7_92 wt7_94 wp6_2 wt1_14 wt7_95) rfl rfl rfl (by decide +kernel) ⟨by dsimp only [rmD]; omega, by dsimp only [rmD]; omega⟩) hK hP hD hS hA mIs [] rfl (wr := []) rfl rfl rfl (fun i h => by cases h) 0 12 rfl rfl rfl hl.1 rfl (Nat.le_of_ble_eq_true rfl) dX12_plainOf_26 ⟨Nat.le_refl _, Nat.le_refl _⟩ (fun v34 u35 H locs hw33 hP hD hS => ?_)
          have hP : va_P D vwCl (mW K o r u35 a g) H := hP
          have hD : va_D A (mW K o r u35 a g) := hD
          have hI : mI u35 a := hw33.2.1
          have eE36 : fE [22, 24] u27 u35 := hw33.2.2.1
          have hE : fE [22, 24] f u35 := fE_tr hE eE36
          obtain ⟨gv37, egv37⟩ : ∃ z : Int32, z = u35 22 := ⟨_, rfl⟩
          have hg38 : gv37.toInt = 400 * (t : Int) + ((j : Nat) : Int) := by rw [egv37]; exact hw33.2.2.2
          refine lv_iload_n hx hb dX12_plainOf_29 rfl (lv_at hl 0 rfl) ?_
          refine lv_icmp_eq (tgt := 37) hx hb dX12_plainOf_30 (by decide) (fun c39 => ?_) (fun c39 => ?_)
          · refine lv_iconst (v := 0) hx hb dX12_plainOf_37 (by decide) ?_
            exact kI_ret (v := 0) hx hb hr hlocks (by decide +kernel) hK hS dX12_plainOf_38 u35 hP hD ⟨(kb_w kc_0 (by decide) (by decide)), hI, hE, (by rw [egv37.symm]; exact hg38)⟩
          · refine lv_iconst (v := 1) hx hb dX12_plainOf_33 (by decide) ?_
            refine lv_goto (tgt := 38) hx hb dX12_plainOf_34 (by decide) ?_
            exact kI_ret (v := 1) hx hb hr hlocks (by decide +kernel) hK hS dX12_plainOf_38 u35 hP hD ⟨(kb_w kc_1 (by decide) (by decide)), hI, hE, (by rw [egv37.symm]; exact hg38)⟩
        · exact kb_nsame c32 kc_0 kc_0
  exact lp3 (n0) (i) f _ _ _ 0 (hn0) hI hE (kb_w kc_0 (by decide) (by decide)) (by rw [ec22.symm]; exact hg0) hP hD hS (lv_sub hl [0, 1, 2] rfl)
set_option maxHeartbeats 4000000 in
set_option maxRecDepth 100000 in
theorem m_bothOf (d : Nat) (hplain : cPlain d) (l : Launch) {D : va_G} {K : Nat → ClassId} (o : Nat) (r : Nat → Nat) (f : Nat → Int32) (a : Nat → Nat → Int32) (g : Nat → Int64) (hI : mI f a) (lv : Int32) (blv : kb 0 lv 1) (t i j : Nat) (ob : Bool) (hp0 : eS f a t ob) (hp1 : (f 22).toInt = 400 * (t : Int) + (i : Int)) (hp2 : gG ob (mC (a 2) t) d 4 i j) : kI l yX12_bothOf (Cond.code yX12_bothOf cX12_bothOf 4 (some .boolean) :: kG) (rmD (4 * d + 14) 0 0) D (tysK K) [.ref o, .int lv] (mW K o r f a g) (fun v (u : Nat → Int32) => kb 0 v 1 ∧ mI u a ∧ fE [22, 24] f u ∧ (u 22).toInt = 400 * (t : Int) + (j : Int)) (fun u => mW K o r u a g) 0 0 := by
  refine kI.of (cc := cX12_bothOf) (maxL := 4) (ret := (some .boolean)) (by decide) rfl (Nat.le_of_ble_eq_true rfl) ?_
  intro p e s m below meth c A hx hb hr hml hown hts hlocks hnm hK hP hD hS hA ls hl
  have hE : fE [22, 24] f f := fE_rf
  have hg : ∀ w ∈ kG, w.before _ s = true := fun w h => hts w (List.mem_cons_of_mem _ h)
  have hown : s.vm.findClass RX12 = some m.cls := hown
  have hl : lv_has ls 4 [(0, .ref o), (1, .int lv)] := hl
  obtain ⟨c22, ec22⟩ : ∃ z : Int32, z = f 22 := ⟨_, rfl⟩
  have hg0 : c22.toInt = 400 * (t : Int) + (i : Int) := by rw [ec22]; exact hp1
  obtain ⟨m0, hm1, hm2⟩ := gG_out hp2
  obtain ⟨n0, hn0⟩ := hm2
  refine lv_aload_n hx hb dX12_bothOf_0 rfl (lv_at hl 0 rfl) ?_
  refine lv_iload_n hx hb dX12_bothOf_1 rfl (lv_at hl 1 rfl) ?_
  refine kI.callV (As := [.int lv]) (rest := []) ⟨hx, hb, hml, hown, hg⟩ (hplain l o r f a g hI lv blv t (i) (m0) ob (eS_fE hE hp0 (by decide) (by decide)) (by rw [ec22.symm]; exact hg0) hm1) (cwV 1 hg (kgV wt7_88 wt7_90 wp6_1 wt1_14 wt7_91) rfl rfl rfl (by decide +kernel) ⟨by dsimp only [rmD]; omega, by dsimp only [rmD]; omega⟩) hK hP hD hS hA mIs [] rfl (wr := []) rfl rfl rfl (fun i h => by cases h) 0 12 rfl rfl rfl hl.1 rfl (Nat.le_of_ble_eq_true rfl) dX12_bothOf_2 ⟨Nat.le_refl _, Nat.le_refl _⟩ (fun v2 u3 H locs hw1 hP hD hS => ?_)
  have hP : va_P D vwCl (mW K o r u3 a g) H := hP
  have hD : va_D A (mW K o r u3 a g) := hD
  have hI : mI u3 a := hw1.2.1
  have eE4 : fE [22, 24] f u3 := hw1.2.2.1
  have hE : fE [22, 24] f u3 := fE_tr hE eE4
  obtain ⟨gv5, egv5⟩ : ∃ z : Int32, z = u3 22 := ⟨_, rfl⟩
  have hg6 : gv5.toInt = 400 * (t : Int) + ((m0 : Nat) : Int) := by rw [egv5]; exact hw1.2.2.2
  refine lv_istore_n (lv' := [(2, .int v2), (0, .ref o), (1, .int lv)]) hx hb dX12_bothOf_5 rfl hl (by decide) rfl (fun ls hl => ?_)
  have lp9 : ∀ (n10 : Nat) (i9 : Nat) (F8 : Nat → Int32) (H : Heap) (locs : List Loc) (ls : Array Slot) (y7 : Int32), (gg ob (mC (a 2) t) n10 d 9 i9 j) → (mI F8 a) → (fE [22, 24] f F8) → (kb 0 y7 1) → ((F8 22).toInt = 400 * (t : Int) + (i9 : Int)) → va_P D vwCl (mW K o r F8 a g) H → va_D A (mW K o r F8 a g) → va_S A s.heap H locs → lv_has ls 4 [(2, .int y7), (0, .ref o), (1, .int lv)] → W p l e (rmD (4 * d + 14) 0 0) s m ([.ref o, .int lv] : List Value).toArray below meth c H locs 0 0 (kQi D (tysK K) (fun v (u : Nat → Int32) => kb 0 v 1 ∧ mI u a ∧ fE [22, 24] f u ∧ (u 22).toInt = 400 * (t : Int) + (j : Int)) (fun u => mW K o r u a g) A below ([.ref o, .int lv] : List Value).toArray s 0 0) (F0 m 6 ls []) := by
    intro n10
    induction n10 with
    | zero =>
      intro i9 F8  H locs ls y7 hmlp9 hI hE b11 hvlp9_0 hP hD hS hl
      exact (hmlp9 : False).elim
    | succ n10 ihlp9 =>
      intro i9 F8  H locs ls y7 hmlp9 hI hE b11 hvlp9_0 hP hD hS hl
      obtain ⟨gv12, egv12⟩ : ∃ z : Int32, z = F8 22 := ⟨_, rfl⟩
      have hg13 : gv12.toInt = 400 * (t : Int) + ((i9 : Nat) : Int) := by rw [egv12]; exact hvlp9_0
      rcases gg_out hmlp9 with ⟨h1, hj⟩ | ⟨h1, mm, ht, h6⟩
      · refine lv_aload_n hx hb dX12_bothOf_6 rfl (lv_at hl 1 rfl) ?_
        refine lv_bipush (v := 7) hx hb dX12_bothOf_7 (by decide) ?_
        refine kI.callV (As := [.int 7]) (rest := []) ⟨hx, hb, hml, hown, hg⟩ (m_passes0 l o r F8 a g hI 7 (kb_w kc_7 (by decide) (by decide)) t (i9) ob (eS_fE hE hp0 (by decide) (by decide)) (by rw [egv12.symm]; exact hg13)) (cwV 1 hg (kgV wt7_63 wt7_65 wp5_12 wt1_14 wt7_66) rfl rfl rfl (by decide +kernel) ⟨by dsimp only [rmD]; omega, by dsimp only [rmD]; omega⟩) hK hP hD hS hA mIs [] rfl (wr := []) rfl rfl rfl (fun i h => by cases h) 0 12 rfl rfl rfl hl.1 rfl (Nat.le_of_ble_eq_true rfl) dX12_bothOf_9 ⟨Nat.le_refl _, Nat.le_refl _⟩ (fun v15 u16 H locs hw14 hP hD hS => ?_)
        have hP : va_P D vwCl (mW K o r u16 a g) H := hP
        have hD : va_D A (mW K o r u16 a g) := hD
        have hI : mI u16 a := hw14.2.1
        have eE17 : fE [22] F8 u16 := hw14.2.2.1
        have hE : fE [22, 24] f u16 := fE_tr hE (fE_w (by decide) eE17)
        have hz18 := pass_n hw14.2.2.2 h1
        refine k_top (z := 0) hz18.1 ?_
        obtain ⟨gv19, egv19⟩ : ∃ z : Int32, z = u16 22 := ⟨_, rfl⟩
        have hg20 : gv19.toInt = 400 * (t : Int) + ((i9 : Nat) : Int) := by rw [egv19]; exact hz18.2
        refine lv_if_eq (tgt := 50) hx hb dX12_bothOf_12 (by decide) (fun c21 => ?_) (fun c21 => ?_)
        · refine lv_iload_n hx hb dX12_bothOf_50 rfl (lv_at hl 0 rfl) ?_
          exact kI_ret (v := y7) hx hb hr hlocks (kb_bo b11) hK hS dX12_bothOf_51 u16 hP hD ⟨b11, hI, hE, (by rw [egv19.symm, hg20]; omega)⟩
        · exact kb_nsame c21 kc_0 kc_0
      · have b22 : kb 0 gv12 2799 := kb_go (eS_fE hE hp0 (by decide) (by decide)) (mC_lt (eS_fE hE hp0 (by decide) (by decide)) (ne_0 h1 (by decide +kernel))) hg13
        refine lv_aload_n hx hb dX12_bothOf_6 rfl (lv_at hl 1 rfl) ?_
        refine lv_bipush (v := 7) hx hb dX12_bothOf_7 (by decide) ?_
        refine kI.callV (As := [.int 7]) (rest := []) ⟨hx, hb, hml, hown, hg⟩ (m_passes0 l o r F8 a g hI 7 (kb_w kc_7 (by decide) (by decide)) t (i9) ob (eS_fE hE hp0 (by decide) (by decide)) (by rw [egv12.symm]; exact hg13)) (cwV 1 hg (kgV wt7_63 wt7_65 wp5_12 wt1_14 wt7_66) rfl rfl rfl (by decide +kernel) ⟨by dsimp only [rmD]; omega, by dsimp only [rmD]; omega⟩) hK hP hD hS hA mIs [] rfl (wr := []) rfl rfl rfl (fun i h => by cases h) 0 12 rfl rfl rfl hl.1 rfl (Nat.le_of_ble_eq_true rfl) dX12_bothOf_9 ⟨Nat.le_refl _, Nat.le_refl _⟩ (fun v24 u25 H locs hw23 hP hD hS => ?_)
        have hP : va_P D vwCl (mW K o r u25 a g) H := hP
        have hD : va_D A (mW K o r u25 a g) := hD
        have hI : mI u25 a := hw23.2.1
        have eE26 : fE [22] F8 u25 := hw23.2.2.1
        have hE : fE [22, 24] f u25 := fE_tr hE (fE_w (by decide) eE26)
        have hz27 := pass_y hw23.2.2.2 h1
        refine k_top (z := 1) hz27.1 ?_
        obtain ⟨gv28, egv28⟩ : ∃ z : Int32, z = u25 22 := ⟨_, rfl⟩
        have hg29 : gv28.toInt = 400 * (t : Int) + ((i9 + 1 : Nat) : Int) := by rw [egv28]; exact hz27.2
        refine lv_if_eq (tgt := 50) hx hb dX12_bothOf_12 (by decide) (fun c30 => ?_) (fun c30 => ?_)
        · exact kb_dj c30 kc_1 kc_0 (by decide)
        · refine lv_aload_n hx hb dX12_bothOf_15 rfl (lv_at hl 1 rfl) ?_
          refine lv_iload_n hx hb dX12_bothOf_16 rfl (lv_at hl 2 rfl) ?_
          have jn58 : ∀ (H : Heap) (locs : List Loc) (ls : Array Slot), va_P D vwCl (mW K o r u25 a g) H → va_D A (mW K o r u25 a g) → va_S A s.heap H locs → lv_has ls 4 [(2, .int y7), (0, .ref o), (1, .int lv)] → W p l e (rmD (4 * d + 14) 0 0) s m ([.ref o, .int lv] : List Value).toArray below meth c H locs 0 0 (kQi D (tysK K) (fun v (u : Nat → Int32) => kb 0 v 1 ∧ mI u a ∧ fE [22, 24] f u ∧ (u 22).toInt = 400 * (t : Int) + (j : Int)) (fun u => mW K o r u a g) A below ([.ref o, .int lv] : List Value).toArray s 0 0) (F0 m 28 ls [.ref o]) := by
            intro  H locs ls   hP hD hS hl
            refine lv_iconst (v := 0) hx hb dX12_bothOf_28 (by decide) ?_
            refine kI.callV (As := [.int 0]) (rest := []) ⟨hx, hb, hml, hown, hg⟩ (hplain l o r u25 a g hI 0 (kb_w kc_0 (by decide) (by decide)) t (i9 + 1) (mm) ob (eS_fE hE hp0 (by decide) (by decide)) (by rw [egv28.symm]; exact hg29) (gG_of ht)) (cwV 1 hg (kgV wt7_88 wt7_90 wp6_1 wt1_14 wt7_91) rfl rfl rfl (by decide +kernel) ⟨by dsimp only [rmD]; omega, by dsimp only [rmD]; omega⟩) hK hP hD hS hA mIs [] rfl (wr := []) rfl rfl rfl (fun i h => by cases h) 0 12 rfl rfl rfl hl.1 rfl (Nat.le_of_ble_eq_true rfl) dX12_bothOf_29 ⟨Nat.le_refl _, Nat.le_refl _⟩ (fun v60 u61 H locs hw59 hP hD hS => ?_)
            have hP : va_P D vwCl (mW K o r u61 a g) H := hP
            have hD : va_D A (mW K o r u61 a g) := hD
            have hI : mI u61 a := hw59.2.1
            have eE62 : fE [22, 24] u25 u61 := hw59.2.2.1
            have hE : fE [22, 24] f u61 := fE_tr hE eE62
            obtain ⟨gv63, egv63⟩ : ∃ z : Int32, z = u61 22 := ⟨_, rfl⟩
            have hg64 : gv63.toInt = 400 * (t : Int) + ((mm : Nat) : Int) := by rw [egv63]; exact hw59.2.2.2
            refine lv_istore_n (lv' := [(3, .int v60), (2, .int y7), (0, .ref o), (1, .int lv)]) hx hb dX12_bothOf_32 rfl hl (by decide) rfl (fun ls hl => ?_)
            refine lv_iload_n hx hb dX12_bothOf_33 rfl (lv_at hl 1 rfl) ?_
            have jn72 : ∀ (H : Heap) (locs : List Loc) (ls : Array Slot), va_P D vwCl (mW K o r u61 a g) H → va_D A (mW K o r u61 a g) → va_S A s.heap H locs → lv_has ls 4 [(3, .int v60), (2, .int y7), (0, .ref o), (1, .int lv)] → W p l e (rmD (4 * d + 14) 0 0) s m ([.ref o, .int lv] : List Value).toArray below meth c H locs 0 0 (kQi D (tysK K) (fun v (u : Nat → Int32) => kb 0 v 1 ∧ mI u a ∧ fE [22, 24] f u ∧ (u 22).toInt = 400 * (t : Int) + (j : Int)) (fun u => mW K o r u a g) A below ([.ref o, .int lv] : List Value).toArray s 0 0) (F0 m 45 ls []) := by
              intro  H locs ls   hP hD hS hl
              refine lv_iconst (v := 0) hx hb dX12_bothOf_45 (by decide) ?_
              refine lv_istore_n (lv' := [(2, .int 0), (3, .int v60), (0, .ref o), (1, .int lv)]) hx hb dX12_bothOf_46 rfl hl (by decide) rfl (fun ls hl => ?_)
              refine lv_goto (tgt := 6) hx hb dX12_bothOf_47 (by decide) ?_
              exact ihlp9 (mm) u61 _ _ _ 0 (h6) hI hE (kb_w kc_0 (by decide) (by decide)) (by rw [egv63.symm]; exact hg64) hP hD hS (lv_sub hl [0, 2, 3] rfl)
            refine lv_if_eq (tgt := 45) hx hb dX12_bothOf_34 (by decide) (fun c73 => ?_) (fun c73 => ?_)
            · have b74 : kb 0 y7 0 := kb_eq c73 kc_0
              exact jn72 _ _ _   hP hD hS (lv_sub hl [0, 1, 2, 3] rfl)
            · have b75 : kb 1 y7 1 := kr_nel c73 b11 kc_0 (by decide)
              refine lv_iload_n hx hb dX12_bothOf_37 rfl (lv_at hl 0 rfl) ?_
              refine lv_if_eq (tgt := 45) hx hb dX12_bothOf_38 (by decide) (fun c78 => ?_) (fun c78 => ?_)
              · have b79 : kb 0 v60 0 := kb_eq c78 kc_0
                exact jn72 _ _ _   hP hD hS (lv_sub hl [0, 1, 2, 3] rfl)
              · have b80 : kb 1 v60 1 := kr_nel c78 hw59.1 kc_0 (by decide)
                refine lv_iconst (v := 1) hx hb dX12_bothOf_41 (by decide) ?_
                refine lv_goto (tgt := 46) hx hb dX12_bothOf_42 (by decide) ?_
                refine lv_istore_n (lv' := [(2, .int 1), (3, .int v60), (0, .ref o), (1, .int lv)]) hx hb dX12_bothOf_46 rfl hl (by decide) rfl (fun ls hl => ?_)
                refine lv_goto (tgt := 6) hx hb dX12_bothOf_47 (by decide) ?_
                exact ihlp9 (mm) u61 _ _ _ 1 (h6) hI hE (kb_w kc_1 (by decide) (by decide)) (by rw [egv63.symm]; exact hg64) hP hD hS (lv_sub hl [0, 2, 3] rfl)
          refine lv_if_eq (tgt := 28) hx hb dX12_bothOf_17 (by decide) (fun c81 => ?_) (fun c81 => ?_)
          · have b82 : kb 0 lv 0 := kb_eq c81 kc_0
            exact jn58 _ _ _   hP hD hS (lv_sub hl [0, 1, 2] rfl)
          · have b83 : kb 1 lv 1 := kr_nel c81 blv kc_0 (by decide)
            refine lv_iload_n hx hb dX12_bothOf_20 rfl (lv_at hl 0 rfl) ?_
            refine lv_if_eq (tgt := 28) hx hb dX12_bothOf_21 (by decide) (fun c86 => ?_) (fun c86 => ?_)
            · have b87 : kb 0 y7 0 := kb_eq c86 kc_0
              exact jn58 _ _ _   hP hD hS (lv_sub hl [0, 1, 2] rfl)
            · have b88 : kb 1 y7 1 := kr_nel c86 b11 kc_0 (by decide)
              refine lv_iconst (v := 1) hx hb dX12_bothOf_24 (by decide) ?_
              refine lv_goto (tgt := 29) hx hb dX12_bothOf_25 (by decide) ?_
              refine kI.callV (As := [.int 1]) (rest := []) ⟨hx, hb, hml, hown, hg⟩ (hplain l o r u25 a g hI 1 (kb_w kc_1 (by decide) (by decide)) t (i9 + 1) (mm) ob (eS_fE hE hp0 (by decide) (by decide)) (by rw [egv28.symm]; exact hg29) (gG_of ht)) (cwV 1 hg (kgV wt7_88 wt7_90 wp6_1 wt1_14 wt7_91) rfl rfl rfl (by decide +kernel) ⟨by dsimp only [rmD]; omega, by dsimp only [rmD]; omega⟩) hK hP hD hS hA mIs [] rfl (wr := []) rfl rfl rfl (fun i h => by cases h) 0 12 rfl rfl rfl hl.1 rfl (Nat.le_of_ble_eq_true rfl) dX12_bothOf_29 ⟨Nat.le_refl _, Nat.le_refl _⟩ (fun v90 u91 H locs hw89 hP hD hS => ?_)
              have hP : va_P D vwCl (mW K o r u91 a g) H := hP
              have hD : va_D A (mW K o r u91 a g) := hD
              have hI : mI u91 a := hw89.2.1
              have eE92 : fE [22, 24] u25 u91 := hw89.2.2.1
              have hE : fE [22, 24] f u91 := fE_tr hE eE92
              obtain ⟨gv93, egv93⟩ : ∃ z : Int32, z = u91 22 := ⟨_, rfl⟩
              have hg94 : gv93.toInt = 400 * (t : Int) + ((mm : Nat) : Int) := by rw [egv93]; exact hw89.2.2.2
              refine lv_istore_n (lv' := [(3, .int v90), (2, .int y7), (0, .ref o), (1, .int lv)]) hx hb dX12_bothOf_32 rfl hl (by decide) rfl (fun ls hl => ?_)
              refine lv_iload_n hx hb dX12_bothOf_33 rfl (lv_at hl 1 rfl) ?_
              refine lv_if_eq (tgt := 45) hx hb dX12_bothOf_34 (by decide) (fun c100 => ?_) (fun c100 => ?_)
              · exact kb_dj c100 b88 kc_0 (by decide)
              · refine lv_iload_n hx hb dX12_bothOf_37 rfl (lv_at hl 0 rfl) ?_
                have jn104 : ∀ (H : Heap) (locs : List Loc) (ls : Array Slot) (z103 : Int32), (kb 0 z103 1) → va_P D vwCl (mW K o r u91 a g) H → va_D A (mW K o r u91 a g) → va_S A s.heap H locs → lv_has ls 4 [(3, .int v90), (2, .int y7), (0, .ref o), (1, .int lv)] → W p l e (rmD (4 * d + 14) 0 0) s m ([.ref o, .int lv] : List Value).toArray below meth c H locs 0 0 (kQi D (tysK K) (fun v (u : Nat → Int32) => kb 0 v 1 ∧ mI u a ∧ fE [22, 24] f u ∧ (u 22).toInt = 400 * (t : Int) + (j : Int)) (fun u => mW K o r u a g) A below ([.ref o, .int lv] : List Value).toArray s 0 0) (F0 m 46 ls [.int z103]) := by
                  intro  H locs ls z103 b105 hP hD hS hl
                  refine lv_istore_n (lv' := [(2, .int z103), (3, .int v90), (0, .ref o), (1, .int lv)]) hx hb dX12_bothOf_46 rfl hl (by decide) rfl (fun ls hl => ?_)
                  refine lv_goto (tgt := 6) hx hb dX12_bothOf_47 (by decide) ?_
                  exact ihlp9 (mm) u91 _ _ _ z103 (h6) hI hE b105 (by rw [egv93.symm]; exact hg94) hP hD hS (lv_sub hl [0, 2, 3] rfl)
                refine lv_if_eq (tgt := 45) hx hb dX12_bothOf_38 (by decide) (fun c106 => ?_) (fun c106 => ?_)
                · have b107 : kb 0 v90 0 := kb_eq c106 kc_0
                  refine lv_iconst (v := 0) hx hb dX12_bothOf_45 (by decide) ?_
                  exact jn104 _ _ _ 0 (kb_w kc_0 (by decide) (by decide)) hP hD hS (lv_sub hl [0, 1, 2, 3] rfl)
                · have b108 : kb 1 v90 1 := kr_nel c106 hw89.1 kc_0 (by decide)
                  refine lv_iconst (v := 1) hx hb dX12_bothOf_41 (by decide) ?_
                  refine lv_goto (tgt := 46) hx hb dX12_bothOf_42 (by decide) ?_
                  exact jn104 _ _ _ 1 (kb_w kc_1 (by decide) (by decide)) hP hD hS (lv_sub hl [0, 1, 2, 3] rfl)
  exact lp9 (n0) (m0) u3 _ _ _ v2 (hn0) hI hE hw1.1 (by rw [egv5.symm]; exact hg6) hP hD hS (lv_sub hl [0, 1, 2] rfl)
set_option maxHeartbeats 4000000 in
set_option maxRecDepth 100000 in
theorem m_testOf (d : Nat) (hboth : cBoth d) (l : Launch) {D : va_G} {K : Nat → ClassId} (o : Nat) (r : Nat → Nat) (f : Nat → Int32) (a : Nat → Nat → Int32) (g : Nat → Int64) (hI : mI f a) (lv : Int32) (blv : kb 0 lv 1) (t i j : Nat) (ob : Bool) (hp0 : eS f a t ob) (hp1 : (f 22).toInt = 400 * (t : Int) + (i : Int)) (hp2 : gG ob (mC (a 2) t) d 3 i j) : kI l yX12_testOf (Cond.code yX12_testOf cX12_testOf 4 (some .boolean) :: kG) (rmD (4 * d + 15) 0 0) D (tysK K) [.ref o, .int lv] (mW K o r f a g) (fun v (u : Nat → Int32) => kb 0 v 1 ∧ mI u a ∧ fE [22, 24] f u ∧ (u 22).toInt = 400 * (t : Int) + (j : Int)) (fun u => mW K o r u a g) 0 0 := by
  refine kI.of (cc := cX12_testOf) (maxL := 4) (ret := (some .boolean)) (by decide) rfl (Nat.le_of_ble_eq_true rfl) ?_
  intro p e s m below meth c A hx hb hr hml hown hts hlocks hnm hK hP hD hS hA ls hl
  have hE : fE [22, 24] f f := fE_rf
  have hg : ∀ w ∈ kG, w.before _ s = true := fun w h => hts w (List.mem_cons_of_mem _ h)
  have hown : s.vm.findClass RX12 = some m.cls := hown
  have hl : lv_has ls 4 [(0, .ref o), (1, .int lv)] := hl
  obtain ⟨c22, ec22⟩ : ∃ z : Int32, z = f 22 := ⟨_, rfl⟩
  have hg0 : c22.toInt = 400 * (t : Int) + (i : Int) := by rw [ec22]; exact hp1
  obtain ⟨m0, hm1, hm2⟩ := gG_out hp2
  obtain ⟨n0, hn0⟩ := hm2
  refine lv_aload_n hx hb dX12_testOf_0 rfl (lv_at hl 0 rfl) ?_
  refine lv_iload_n hx hb dX12_testOf_1 rfl (lv_at hl 1 rfl) ?_
  refine kI.callV (As := [.int lv]) (rest := []) ⟨hx, hb, hml, hown, hg⟩ (hboth l o r f a g hI lv blv t (i) (m0) ob (eS_fE hE hp0 (by decide) (by decide)) (by rw [ec22.symm]; exact hg0) hm1) (cwV 1 hg (kgV wt7_84 wt7_86 wp6_0 wt1_14 wt7_87) rfl rfl rfl (by decide +kernel) ⟨by dsimp only [rmD]; omega, by dsimp only [rmD]; omega⟩) hK hP hD hS hA mIs [] rfl (wr := []) rfl rfl rfl (fun i h => by cases h) 0 12 rfl rfl rfl hl.1 rfl (Nat.le_of_ble_eq_true rfl) dX12_testOf_2 ⟨Nat.le_refl _, Nat.le_refl _⟩ (fun v2 u3 H locs hw1 hP hD hS => ?_)
  have hP : va_P D vwCl (mW K o r u3 a g) H := hP
  have hD : va_D A (mW K o r u3 a g) := hD
  have hI : mI u3 a := hw1.2.1
  have eE4 : fE [22, 24] f u3 := hw1.2.2.1
  have hE : fE [22, 24] f u3 := fE_tr hE eE4
  obtain ⟨gv5, egv5⟩ : ∃ z : Int32, z = u3 22 := ⟨_, rfl⟩
  have hg6 : gv5.toInt = 400 * (t : Int) + ((m0 : Nat) : Int) := by rw [egv5]; exact hw1.2.2.2
  refine lv_istore_n (lv' := [(2, .int v2), (0, .ref o), (1, .int lv)]) hx hb dX12_testOf_5 rfl hl (by decide) rfl (fun ls hl => ?_)
  have lp9 : ∀ (n10 : Nat) (i8 : Nat) (F8 : Nat → Int32) (H : Heap) (locs : List Loc) (ls : Array Slot) (y7 : Int32), (gg ob (mC (a 2) t) n10 d 8 i8 j) → (mI F8 a) → (fE [22, 24] f F8) → (kb 0 y7 1) → ((F8 22).toInt = 400 * (t : Int) + (i8 : Int)) → va_P D vwCl (mW K o r F8 a g) H → va_D A (mW K o r F8 a g) → va_S A s.heap H locs → lv_has ls 4 [(2, .int y7), (0, .ref o), (1, .int lv)] → W p l e (rmD (4 * d + 15) 0 0) s m ([.ref o, .int lv] : List Value).toArray below meth c H locs 0 0 (kQi D (tysK K) (fun v (u : Nat → Int32) => kb 0 v 1 ∧ mI u a ∧ fE [22, 24] f u ∧ (u 22).toInt = 400 * (t : Int) + (j : Int)) (fun u => mW K o r u a g) A below ([.ref o, .int lv] : List Value).toArray s 0 0) (F0 m 6 ls []) := by
    intro n10
    induction n10 with
    | zero =>
      intro i8 F8  H locs ls y7 hmlp9 hI hE b11 hvlp9_0 hP hD hS hl
      exact (hmlp9 : False).elim
    | succ n10 ihlp9 =>
      intro i8 F8  H locs ls y7 hmlp9 hI hE b11 hvlp9_0 hP hD hS hl
      obtain ⟨gv12, egv12⟩ : ∃ z : Int32, z = F8 22 := ⟨_, rfl⟩
      have hg13 : gv12.toInt = 400 * (t : Int) + ((i8 : Nat) : Int) := by rw [egv12]; exact hvlp9_0
      rcases gg_out hmlp9 with ⟨h1, hj⟩ | ⟨h1, mm, ht, h6⟩
      · refine lv_aload_n hx hb dX12_testOf_6 rfl (lv_at hl 1 rfl) ?_
        refine lv_bipush (v := 6) hx hb dX12_testOf_7 (by decide) ?_
        refine kI.callV (As := [.int 6]) (rest := []) ⟨hx, hb, hml, hown, hg⟩ (m_passes0 l o r F8 a g hI 6 (kb_w kc_6 (by decide) (by decide)) t (i8) ob (eS_fE hE hp0 (by decide) (by decide)) (by rw [egv12.symm]; exact hg13)) (cwV 1 hg (kgV wt7_63 wt7_65 wp5_12 wt1_14 wt7_66) rfl rfl rfl (by decide +kernel) ⟨by dsimp only [rmD]; omega, by dsimp only [rmD]; omega⟩) hK hP hD hS hA mIs [] rfl (wr := []) rfl rfl rfl (fun i h => by cases h) 0 12 rfl rfl rfl hl.1 rfl (Nat.le_of_ble_eq_true rfl) dX12_testOf_9 ⟨Nat.le_refl _, Nat.le_refl _⟩ (fun v15 u16 H locs hw14 hP hD hS => ?_)
        have hP : va_P D vwCl (mW K o r u16 a g) H := hP
        have hD : va_D A (mW K o r u16 a g) := hD
        have hI : mI u16 a := hw14.2.1
        have eE17 : fE [22] F8 u16 := hw14.2.2.1
        have hE : fE [22, 24] f u16 := fE_tr hE (fE_w (by decide) eE17)
        have hz18 := pass_n hw14.2.2.2 h1
        refine k_top (z := 0) hz18.1 ?_
        obtain ⟨gv19, egv19⟩ : ∃ z : Int32, z = u16 22 := ⟨_, rfl⟩
        have hg20 : gv19.toInt = 400 * (t : Int) + ((i8 : Nat) : Int) := by rw [egv19]; exact hz18.2
        refine lv_if_eq (tgt := 50) hx hb dX12_testOf_12 (by decide) (fun c21 => ?_) (fun c21 => ?_)
        · refine lv_iload_n hx hb dX12_testOf_50 rfl (lv_at hl 0 rfl) ?_
          exact kI_ret (v := y7) hx hb hr hlocks (kb_bo b11) hK hS dX12_testOf_51 u16 hP hD ⟨b11, hI, hE, (by rw [egv19.symm, hg20]; omega)⟩
        · exact kb_nsame c21 kc_0 kc_0
      · have b22 : kb 0 gv12 2799 := kb_go (eS_fE hE hp0 (by decide) (by decide)) (mC_lt (eS_fE hE hp0 (by decide) (by decide)) (ne_0 h1 (by decide +kernel))) hg13
        refine lv_aload_n hx hb dX12_testOf_6 rfl (lv_at hl 1 rfl) ?_
        refine lv_bipush (v := 6) hx hb dX12_testOf_7 (by decide) ?_
        refine kI.callV (As := [.int 6]) (rest := []) ⟨hx, hb, hml, hown, hg⟩ (m_passes0 l o r F8 a g hI 6 (kb_w kc_6 (by decide) (by decide)) t (i8) ob (eS_fE hE hp0 (by decide) (by decide)) (by rw [egv12.symm]; exact hg13)) (cwV 1 hg (kgV wt7_63 wt7_65 wp5_12 wt1_14 wt7_66) rfl rfl rfl (by decide +kernel) ⟨by dsimp only [rmD]; omega, by dsimp only [rmD]; omega⟩) hK hP hD hS hA mIs [] rfl (wr := []) rfl rfl rfl (fun i h => by cases h) 0 12 rfl rfl rfl hl.1 rfl (Nat.le_of_ble_eq_true rfl) dX12_testOf_9 ⟨Nat.le_refl _, Nat.le_refl _⟩ (fun v24 u25 H locs hw23 hP hD hS => ?_)
        have hP : va_P D vwCl (mW K o r u25 a g) H := hP
        have hD : va_D A (mW K o r u25 a g) := hD
        have hI : mI u25 a := hw23.2.1
        have eE26 : fE [22] F8 u25 := hw23.2.2.1
        have hE : fE [22, 24] f u25 := fE_tr hE (fE_w (by decide) eE26)
        have hz27 := pass_y hw23.2.2.2 h1
        refine k_top (z := 1) hz27.1 ?_
        obtain ⟨gv28, egv28⟩ : ∃ z : Int32, z = u25 22 := ⟨_, rfl⟩
        have hg29 : gv28.toInt = 400 * (t : Int) + ((i8 + 1 : Nat) : Int) := by rw [egv28]; exact hz27.2
        refine lv_if_eq (tgt := 50) hx hb dX12_testOf_12 (by decide) (fun c30 => ?_) (fun c30 => ?_)
        · exact kb_dj c30 kc_1 kc_0 (by decide)
        · refine lv_aload_n hx hb dX12_testOf_15 rfl (lv_at hl 1 rfl) ?_
          refine lv_iload_n hx hb dX12_testOf_16 rfl (lv_at hl 2 rfl) ?_
          have jn58 : ∀ (H : Heap) (locs : List Loc) (ls : Array Slot), va_P D vwCl (mW K o r u25 a g) H → va_D A (mW K o r u25 a g) → va_S A s.heap H locs → lv_has ls 4 [(2, .int y7), (0, .ref o), (1, .int lv)] → W p l e (rmD (4 * d + 15) 0 0) s m ([.ref o, .int lv] : List Value).toArray below meth c H locs 0 0 (kQi D (tysK K) (fun v (u : Nat → Int32) => kb 0 v 1 ∧ mI u a ∧ fE [22, 24] f u ∧ (u 22).toInt = 400 * (t : Int) + (j : Int)) (fun u => mW K o r u a g) A below ([.ref o, .int lv] : List Value).toArray s 0 0) (F0 m 28 ls [.ref o]) := by
            intro  H locs ls   hP hD hS hl
            refine lv_iconst (v := 0) hx hb dX12_testOf_28 (by decide) ?_
            refine kI.callV (As := [.int 0]) (rest := []) ⟨hx, hb, hml, hown, hg⟩ (hboth l o r u25 a g hI 0 (kb_w kc_0 (by decide) (by decide)) t (i8 + 1) (mm) ob (eS_fE hE hp0 (by decide) (by decide)) (by rw [egv28.symm]; exact hg29) (gG_of ht)) (cwV 1 hg (kgV wt7_84 wt7_86 wp6_0 wt1_14 wt7_87) rfl rfl rfl (by decide +kernel) ⟨by dsimp only [rmD]; omega, by dsimp only [rmD]; omega⟩) hK hP hD hS hA mIs [] rfl (wr := []) rfl rfl rfl (fun i h => by cases h) 0 12 rfl rfl rfl hl.1 rfl (Nat.le_of_ble_eq_true rfl) dX12_testOf_29 ⟨Nat.le_refl _, Nat.le_refl _⟩ (fun v60 u61 H locs hw59 hP hD hS => ?_)
            have hP : va_P D vwCl (mW K o r u61 a g) H := hP
            have hD : va_D A (mW K o r u61 a g) := hD
            have hI : mI u61 a := hw59.2.1
            have eE62 : fE [22, 24] u25 u61 := hw59.2.2.1
            have hE : fE [22, 24] f u61 := fE_tr hE eE62
            obtain ⟨gv63, egv63⟩ : ∃ z : Int32, z = u61 22 := ⟨_, rfl⟩
            have hg64 : gv63.toInt = 400 * (t : Int) + ((mm : Nat) : Int) := by rw [egv63]; exact hw59.2.2.2
            refine lv_istore_n (lv' := [(3, .int v60), (2, .int y7), (0, .ref o), (1, .int lv)]) hx hb dX12_testOf_32 rfl hl (by decide) rfl (fun ls hl => ?_)
            refine lv_iload_n hx hb dX12_testOf_33 rfl (lv_at hl 1 rfl) ?_
            have jn72 : ∀ (H : Heap) (locs : List Loc) (ls : Array Slot), va_P D vwCl (mW K o r u61 a g) H → va_D A (mW K o r u61 a g) → va_S A s.heap H locs → lv_has ls 4 [(3, .int v60), (2, .int y7), (0, .ref o), (1, .int lv)] → W p l e (rmD (4 * d + 15) 0 0) s m ([.ref o, .int lv] : List Value).toArray below meth c H locs 0 0 (kQi D (tysK K) (fun v (u : Nat → Int32) => kb 0 v 1 ∧ mI u a ∧ fE [22, 24] f u ∧ (u 22).toInt = 400 * (t : Int) + (j : Int)) (fun u => mW K o r u a g) A below ([.ref o, .int lv] : List Value).toArray s 0 0) (F0 m 41 ls []) := by
              intro  H locs ls   hP hD hS hl
              refine lv_iconst (v := 1) hx hb dX12_testOf_41 (by decide) ?_
              refine lv_goto (tgt := 46) hx hb dX12_testOf_42 (by decide) ?_
              refine lv_istore_n (lv' := [(2, .int 1), (3, .int v60), (0, .ref o), (1, .int lv)]) hx hb dX12_testOf_46 rfl hl (by decide) rfl (fun ls hl => ?_)
              refine lv_goto (tgt := 6) hx hb dX12_testOf_47 (by decide) ?_
              exact ihlp9 (mm) u61 _ _ _ 1 (h6) hI hE (kb_w kc_1 (by decide) (by decide)) (by rw [egv63.symm]; exact hg64) hP hD hS (lv_sub hl [0, 2, 3] rfl)
            refine lv_if_ne (tgt := 41) hx hb dX12_testOf_34 (by decide) (fun c73 => ?_) (fun c73 => ?_)
            · have b74 : kb 1 y7 1 := kr_nel c73 b11 kc_0 (by decide)
              exact jn72 _ _ _   hP hD hS (lv_sub hl [0, 1, 2, 3] rfl)
            · have b75 : kb 0 y7 0 := kb_eq c73 kc_0
              refine lv_iload_n hx hb dX12_testOf_37 rfl (lv_at hl 0 rfl) ?_
              refine lv_if_eq (tgt := 45) hx hb dX12_testOf_38 (by decide) (fun c78 => ?_) (fun c78 => ?_)
              · have b79 : kb 0 v60 0 := kb_eq c78 kc_0
                refine lv_iconst (v := 0) hx hb dX12_testOf_45 (by decide) ?_
                refine lv_istore_n (lv' := [(2, .int 0), (3, .int v60), (0, .ref o), (1, .int lv)]) hx hb dX12_testOf_46 rfl hl (by decide) rfl (fun ls hl => ?_)
                refine lv_goto (tgt := 6) hx hb dX12_testOf_47 (by decide) ?_
                exact ihlp9 (mm) u61 _ _ _ 0 (h6) hI hE (kb_w kc_0 (by decide) (by decide)) (by rw [egv63.symm]; exact hg64) hP hD hS (lv_sub hl [0, 2, 3] rfl)
              · have b80 : kb 1 v60 1 := kr_nel c78 hw59.1 kc_0 (by decide)
                exact jn72 _ _ _   hP hD hS (lv_sub hl [0, 1, 2, 3] rfl)
          refine lv_if_eq (tgt := 28) hx hb dX12_testOf_17 (by decide) (fun c81 => ?_) (fun c81 => ?_)
          · have b82 : kb 0 lv 0 := kb_eq c81 kc_0
            exact jn58 _ _ _   hP hD hS (lv_sub hl [0, 1, 2] rfl)
          · have b83 : kb 1 lv 1 := kr_nel c81 blv kc_0 (by decide)
            refine lv_iload_n hx hb dX12_testOf_20 rfl (lv_at hl 0 rfl) ?_
            refine lv_if_ne (tgt := 28) hx hb dX12_testOf_21 (by decide) (fun c86 => ?_) (fun c86 => ?_)
            · have b87 : kb 1 y7 1 := kr_nel c86 b11 kc_0 (by decide)
              exact jn58 _ _ _   hP hD hS (lv_sub hl [0, 1, 2] rfl)
            · have b88 : kb 0 y7 0 := kb_eq c86 kc_0
              refine lv_iconst (v := 1) hx hb dX12_testOf_24 (by decide) ?_
              refine lv_goto (tgt := 29) hx hb dX12_testOf_25 (by decide) ?_
              refine kI.callV (As := [.int 1]) (rest := []) ⟨hx, hb, hml, hown, hg⟩ (hboth l o r u25 a g hI 1 (kb_w kc_1 (by decide) (by decide)) t (i8 + 1) (mm) ob (eS_fE hE hp0 (by decide) (by decide)) (by rw [egv28.symm]; exact hg29) (gG_of ht)) (cwV 1 hg (kgV wt7_84 wt7_86 wp6_0 wt1_14 wt7_87) rfl rfl rfl (by decide +kernel) ⟨by dsimp only [rmD]; omega, by dsimp only [rmD]; omega⟩) hK hP hD hS hA mIs [] rfl (wr := []) rfl rfl rfl (fun i h => by cases h) 0 12 rfl rfl rfl hl.1 rfl (Nat.le_of_ble_eq_true rfl) dX12_testOf_29 ⟨Nat.le_refl _, Nat.le_refl _⟩ (fun v90 u91 H locs hw89 hP hD hS => ?_)
              have hP : va_P D vwCl (mW K o r u91 a g) H := hP
              have hD : va_D A (mW K o r u91 a g) := hD
              have hI : mI u91 a := hw89.2.1
              have eE92 : fE [22, 24] u25 u91 := hw89.2.2.1
              have hE : fE [22, 24] f u91 := fE_tr hE eE92
              obtain ⟨gv93, egv93⟩ : ∃ z : Int32, z = u91 22 := ⟨_, rfl⟩
              have hg94 : gv93.toInt = 400 * (t : Int) + ((mm : Nat) : Int) := by rw [egv93]; exact hw89.2.2.2
              refine lv_istore_n (lv' := [(3, .int v90), (2, .int y7), (0, .ref o), (1, .int lv)]) hx hb dX12_testOf_32 rfl hl (by decide) rfl (fun ls hl => ?_)
              refine lv_iload_n hx hb dX12_testOf_33 rfl (lv_at hl 1 rfl) ?_
              refine lv_if_ne (tgt := 41) hx hb dX12_testOf_34 (by decide) (fun c100 => ?_) (fun c100 => ?_)
              · exact kb_nsame c100 b88 kc_0
              · refine lv_iload_n hx hb dX12_testOf_37 rfl (lv_at hl 0 rfl) ?_
                have jn104 : ∀ (H : Heap) (locs : List Loc) (ls : Array Slot) (z103 : Int32), (kb 0 z103 1) → va_P D vwCl (mW K o r u91 a g) H → va_D A (mW K o r u91 a g) → va_S A s.heap H locs → lv_has ls 4 [(3, .int v90), (2, .int y7), (0, .ref o), (1, .int lv)] → W p l e (rmD (4 * d + 15) 0 0) s m ([.ref o, .int lv] : List Value).toArray below meth c H locs 0 0 (kQi D (tysK K) (fun v (u : Nat → Int32) => kb 0 v 1 ∧ mI u a ∧ fE [22, 24] f u ∧ (u 22).toInt = 400 * (t : Int) + (j : Int)) (fun u => mW K o r u a g) A below ([.ref o, .int lv] : List Value).toArray s 0 0) (F0 m 46 ls [.int z103]) := by
                  intro  H locs ls z103 b105 hP hD hS hl
                  refine lv_istore_n (lv' := [(2, .int z103), (3, .int v90), (0, .ref o), (1, .int lv)]) hx hb dX12_testOf_46 rfl hl (by decide) rfl (fun ls hl => ?_)
                  refine lv_goto (tgt := 6) hx hb dX12_testOf_47 (by decide) ?_
                  exact ihlp9 (mm) u91 _ _ _ z103 (h6) hI hE b105 (by rw [egv93.symm]; exact hg94) hP hD hS (lv_sub hl [0, 2, 3] rfl)
                refine lv_if_eq (tgt := 45) hx hb dX12_testOf_38 (by decide) (fun c106 => ?_) (fun c106 => ?_)
                · have b107 : kb 0 v90 0 := kb_eq c106 kc_0
                  refine lv_iconst (v := 0) hx hb dX12_testOf_45 (by decide) ?_
                  exact jn104 _ _ _ 0 (kb_w kc_0 (by decide) (by decide)) hP hD hS (lv_sub hl [0, 1, 2, 3] rfl)
                · have b108 : kb 1 v90 1 := kr_nel c106 hw89.1 kc_0 (by decide)
                  refine lv_iconst (v := 1) hx hb dX12_testOf_41 (by decide) ?_
                  refine lv_goto (tgt := 46) hx hb dX12_testOf_42 (by decide) ?_
                  exact jn104 _ _ _ 1 (kb_w kc_1 (by decide) (by decide)) hP hD hS (lv_sub hl [0, 1, 2, 3] rfl)
  exact lp9 (n0) (m0) u3 _ _ _ v2 (hn0) hI hE hw1.1 (by rw [egv5.symm]; exact hg6) hP hD hS (lv_sub hl [0, 1, 2] rfl)
set_option maxHeartbeats 4000000 in
theorem m_allSum : ∀ d, cSum d := by
  intro d
  induction d with
  | zero => exact m_sumOf 0 (m_termOf 0 (m_partOf 0 (fun e h => absurd h (by omega))))
  | succ d ih => exact m_sumOf _ (m_termOf _ (m_partOf _ (fun e h => (Nat.succ.inj h) ▸ ih)))
set_option maxHeartbeats 4000000 in
theorem m_allTest : ∀ d, cTest d := by
  intro d
  induction d with
  | zero => exact m_testOf 0 (m_bothOf 0 (m_plainOf 0 (m_positiveOf 0 (fun e h => absurd h (by omega)) (m_allSum 0))))
  | succ d ih => exact m_testOf _ (m_bothOf _ (m_plainOf _ (m_positiveOf _ (fun e h => (Nat.succ.inj h) ▸ ih) (m_allSum _))))
