theorem dX7_reckonChains_0 : decode cX7_reckonChains 0 = .ok (.iconst 0, 1) := by decide +kernel
theorem dX7_reckonChains_1 : decode cX7_reckonChains 1 = .ok (.istore_n 1, 1) := by decide +kernel
theorem dX7_reckonChains_2 : decode cX7_reckonChains 2 = .ok (.aload_n 0, 1) := by decide +kernel
theorem dX7_reckonChains_3 : decode cX7_reckonChains 3 = .ok (.getfield 9, 3) := by decide +kernel
theorem dX7_reckonChains_6 : decode cX7_reckonChains 6 = .ok (.bipush 10, 2) := by decide +kernel
theorem dX7_reckonChains_8 : decode cX7_reckonChains 8 = .ok (.invokestatic 98, 3) := by decide +kernel
theorem dX7_reckonChains_11 : decode cX7_reckonChains 11 = .ok (.iconst 1, 1) := by decide +kernel
theorem dX7_reckonChains_12 : decode cX7_reckonChains 12 = .ok (.isub, 1) := by decide +kernel
theorem dX7_reckonChains_13 : decode cX7_reckonChains 13 = .ok (.istore_n 2, 1) := by decide +kernel
theorem dX7_reckonChains_14 : decode cX7_reckonChains 14 = .ok (.iload_n 2, 1) := by decide +kernel
theorem dX7_reckonChains_15 : decode cX7_reckonChains 15 = .ok (.ifCond .lt 119, 3) := by decide +kernel
theorem dX7_reckonChains_18 : decode cX7_reckonChains 18 = .ok (.iconst 0, 1) := by decide +kernel
theorem dX7_reckonChains_19 : decode cX7_reckonChains 19 = .ok (.istore_n 3, 1) := by decide +kernel
theorem dX7_reckonChains_20 : decode cX7_reckonChains 20 = .ok (.iload_n 2, 1) := by decide +kernel
theorem dX7_reckonChains_21 : decode cX7_reckonChains 21 = .ok (.iconst 1, 1) := by decide +kernel
theorem dX7_reckonChains_22 : decode cX7_reckonChains 22 = .ok (.iadd, 1) := by decide +kernel
theorem dX7_reckonChains_23 : decode cX7_reckonChains 23 = .ok (.istore 4, 2) := by decide +kernel
theorem dX7_reckonChains_25 : decode cX7_reckonChains 25 = .ok (.iload 4, 2) := by decide +kernel
theorem dX7_reckonChains_27 : decode cX7_reckonChains 27 = .ok (.aload_n 0, 1) := by decide +kernel
theorem dX7_reckonChains_28 : decode cX7_reckonChains 28 = .ok (.getfield 9, 3) := by decide +kernel
theorem dX7_reckonChains_31 : decode cX7_reckonChains 31 = .ok (.if_icmp .ge 66, 3) := by decide +kernel
theorem dX7_reckonChains_34 : decode cX7_reckonChains 34 = .ok (.iload 4, 2) := by decide +kernel
theorem dX7_reckonChains_36 : decode cX7_reckonChains 36 = .ok (.bipush 10, 2) := by decide +kernel
theorem dX7_reckonChains_38 : decode cX7_reckonChains 38 = .ok (.if_icmp .ge 59, 3) := by decide +kernel
theorem dX7_reckonChains_41 : decode cX7_reckonChains 41 = .ok (.aload_n 0, 1) := by decide +kernel
theorem dX7_reckonChains_42 : decode cX7_reckonChains 42 = .ok (.getfield 19, 3) := by decide +kernel
theorem dX7_reckonChains_45 : decode cX7_reckonChains 45 = .ok (.iload 4, 2) := by decide +kernel
theorem dX7_reckonChains_47 : decode cX7_reckonChains 47 = .ok (.iaload, 1) := by decide +kernel
theorem dX7_reckonChains_48 : decode cX7_reckonChains 48 = .ok (.iload_n 2, 1) := by decide +kernel
theorem dX7_reckonChains_49 : decode cX7_reckonChains 49 = .ok (.ishr, 1) := by decide +kernel
theorem dX7_reckonChains_50 : decode cX7_reckonChains 50 = .ok (.iconst 1, 1) := by decide +kernel
theorem dX7_reckonChains_51 : decode cX7_reckonChains 51 = .ok (.iand, 1) := by decide +kernel
theorem dX7_reckonChains_52 : decode cX7_reckonChains 52 = .ok (.iconst 1, 1) := by decide +kernel
theorem dX7_reckonChains_53 : decode cX7_reckonChains 53 = .ok (.if_icmp .ne 38, 3) := by decide +kernel
theorem dX7_reckonChains_56 : decode cX7_reckonChains 56 = .ok (.aload_n 0, 1) := by decide +kernel
theorem dX7_reckonChains_57 : decode cX7_reckonChains 57 = .ok (.getfield 28, 3) := by decide +kernel
theorem dX7_reckonChains_60 : decode cX7_reckonChains 60 = .ok (.iload 4, 2) := by decide +kernel
theorem dX7_reckonChains_62 : decode cX7_reckonChains 62 = .ok (.iaload, 1) := by decide +kernel
theorem dX7_reckonChains_63 : decode cX7_reckonChains 63 = .ok (.ifCond .eq 28, 3) := by decide +kernel
theorem dX7_reckonChains_66 : decode cX7_reckonChains 66 = .ok (.aload_n 0, 1) := by decide +kernel
theorem dX7_reckonChains_67 : decode cX7_reckonChains 67 = .ok (.getfield 84, 3) := by decide +kernel
theorem dX7_reckonChains_70 : decode cX7_reckonChains 70 = .ok (.getfield 104, 3) := by decide +kernel
theorem dX7_reckonChains_73 : decode cX7_reckonChains 73 = .ok (.iload 4, 2) := by decide +kernel
theorem dX7_reckonChains_75 : decode cX7_reckonChains 75 = .ok (.iaload, 1) := by decide +kernel
theorem dX7_reckonChains_76 : decode cX7_reckonChains 76 = .ok (.iload_n 3, 1) := by decide +kernel
theorem dX7_reckonChains_77 : decode cX7_reckonChains 77 = .ok (.if_icmp .le 14, 3) := by decide +kernel
theorem dX7_reckonChains_80 : decode cX7_reckonChains 80 = .ok (.aload_n 0, 1) := by decide +kernel
theorem dX7_reckonChains_81 : decode cX7_reckonChains 81 = .ok (.getfield 84, 3) := by decide +kernel
theorem dX7_reckonChains_84 : decode cX7_reckonChains 84 = .ok (.getfield 104, 3) := by decide +kernel
theorem dX7_reckonChains_87 : decode cX7_reckonChains 87 = .ok (.iload 4, 2) := by decide +kernel
theorem dX7_reckonChains_89 : decode cX7_reckonChains 89 = .ok (.iaload, 1) := by decide +kernel
theorem dX7_reckonChains_90 : decode cX7_reckonChains 90 = .ok (.istore_n 3, 1) := by decide +kernel
theorem dX7_reckonChains_91 : decode cX7_reckonChains 91 = .ok (.iinc 4 1, 3) := by decide +kernel
theorem dX7_reckonChains_94 : decode cX7_reckonChains 94 = .ok (.goto (-69), 3) := by decide +kernel
theorem dX7_reckonChains_97 : decode cX7_reckonChains 97 = .ok (.aload_n 0, 1) := by decide +kernel
theorem dX7_reckonChains_98 : decode cX7_reckonChains 98 = .ok (.getfield 84, 3) := by decide +kernel
theorem dX7_reckonChains_101 : decode cX7_reckonChains 101 = .ok (.getfield 104, 3) := by decide +kernel
theorem dX7_reckonChains_104 : decode cX7_reckonChains 104 = .ok (.iload_n 2, 1) := by decide +kernel
theorem dX7_reckonChains_105 : decode cX7_reckonChains 105 = .ok (.aload_n 0, 1) := by decide +kernel
theorem dX7_reckonChains_106 : decode cX7_reckonChains 106 = .ok (.getfield 28, 3) := by decide +kernel
theorem dX7_reckonChains_109 : decode cX7_reckonChains 109 = .ok (.iload_n 2, 1) := by decide +kernel
theorem dX7_reckonChains_110 : decode cX7_reckonChains 110 = .ok (.iaload, 1) := by decide +kernel
theorem dX7_reckonChains_111 : decode cX7_reckonChains 111 = .ok (.iload_n 3, 1) := by decide +kernel
theorem dX7_reckonChains_112 : decode cX7_reckonChains 112 = .ok (.iadd, 1) := by decide +kernel
theorem dX7_reckonChains_113 : decode cX7_reckonChains 113 = .ok (.iastore, 1) := by decide +kernel
theorem dX7_reckonChains_114 : decode cX7_reckonChains 114 = .ok (.iload_n 1, 1) := by decide +kernel
theorem dX7_reckonChains_115 : decode cX7_reckonChains 115 = .ok (.aload_n 0, 1) := by decide +kernel
theorem dX7_reckonChains_116 : decode cX7_reckonChains 116 = .ok (.getfield 84, 3) := by decide +kernel
theorem dX7_reckonChains_119 : decode cX7_reckonChains 119 = .ok (.getfield 104, 3) := by decide +kernel
theorem dX7_reckonChains_122 : decode cX7_reckonChains 122 = .ok (.iload_n 2, 1) := by decide +kernel
theorem dX7_reckonChains_123 : decode cX7_reckonChains 123 = .ok (.iaload, 1) := by decide +kernel
theorem dX7_reckonChains_124 : decode cX7_reckonChains 124 = .ok (.invokestatic 107, 3) := by decide +kernel
theorem dX7_reckonChains_127 : decode cX7_reckonChains 127 = .ok (.istore_n 1, 1) := by decide +kernel
theorem dX7_reckonChains_128 : decode cX7_reckonChains 128 = .ok (.iinc 2 (-1), 3) := by decide +kernel
theorem dX7_reckonChains_131 : decode cX7_reckonChains 131 = .ok (.goto (-117), 3) := by decide +kernel
theorem dX7_reckonChains_134 : decode cX7_reckonChains 134 = .ok (.iload_n 1, 1) := by decide +kernel
theorem dX7_reckonChains_135 : decode cX7_reckonChains 135 = .ok (.ireturn, 1) := by decide +kernel
theorem dX7_asked_0 : decode cX7_asked 0 = .ok (.iload_n 1, 1) := by decide +kernel
theorem dX7_asked_1 : decode cX7_asked 1 = .ok (.ifCond .lt 27, 3) := by decide +kernel
theorem dX7_asked_4 : decode cX7_asked 4 = .ok (.iload_n 1, 1) := by decide +kernel
theorem dX7_asked_5 : decode cX7_asked 5 = .ok (.getstatic 110, 3) := by decide +kernel
theorem dX7_asked_8 : decode cX7_asked 8 = .ok (.arraylength, 1) := by decide +kernel
theorem dX7_asked_9 : decode cX7_asked 9 = .ok (.if_icmp .ge 19, 3) := by decide +kernel
theorem dX7_asked_12 : decode cX7_asked 12 = .ok (.aload_n 0, 1) := by decide +kernel
theorem dX7_asked_13 : decode cX7_asked 13 = .ok (.iload_n 2, 1) := by decide +kernel
theorem dX7_asked_14 : decode cX7_asked 14 = .ok (.invokevirtual 113, 3) := by decide +kernel
theorem dX7_asked_17 : decode cX7_asked 17 = .ok (.ifCond .eq 11, 3) := by decide +kernel
theorem dX7_asked_20 : decode cX7_asked 20 = .ok (.aload_n 0, 1) := by decide +kernel
theorem dX7_asked_21 : decode cX7_asked 21 = .ok (.iload_n 3, 1) := by decide +kernel
theorem dX7_asked_22 : decode cX7_asked 22 = .ok (.invokevirtual 117, 3) := by decide +kernel
theorem dX7_asked_25 : decode cX7_asked 25 = .ok (.ifCond .ne 5, 3) := by decide +kernel
theorem dX7_asked_28 : decode cX7_asked 28 = .ok (.iconst 0, 1) := by decide +kernel
theorem dX7_asked_29 : decode cX7_asked 29 = .ok (.ireturn, 1) := by decide +kernel
theorem dX7_asked_30 : decode cX7_asked 30 = .ok (.aload_n 0, 1) := by decide +kernel
theorem dX7_asked_31 : decode cX7_asked 31 = .ok (.getfield 78, 3) := by decide +kernel
theorem dX7_asked_34 : decode cX7_asked 34 = .ok (.ifCond .lt 24, 3) := by decide +kernel
theorem dX7_asked_37 : decode cX7_asked 37 = .ok (.aload_n 0, 1) := by decide +kernel
theorem dX7_asked_38 : decode cX7_asked 38 = .ok (.getfield 78, 3) := by decide +kernel
theorem dX7_asked_41 : decode cX7_asked 41 = .ok (.bipush 6, 2) := by decide +kernel
theorem dX7_asked_43 : decode cX7_asked 43 = .ok (.if_icmp .ge 15, 3) := by decide +kernel
theorem dX7_asked_46 : decode cX7_asked 46 = .ok (.aload_n 0, 1) := by decide +kernel
theorem dX7_asked_47 : decode cX7_asked 47 = .ok (.getfield 71, 3) := by decide +kernel
theorem dX7_asked_50 : decode cX7_asked 50 = .ok (.aload_n 0, 1) := by decide +kernel
theorem dX7_asked_51 : decode cX7_asked 51 = .ok (.getfield 78, 3) := by decide +kernel
theorem dX7_asked_54 : decode cX7_asked 54 = .ok (.aaload, 1) := by decide +kernel
theorem dX7_asked_55 : decode cX7_asked 55 = .ok (.goto 4, 3) := by decide +kernel
theorem dX7_asked_58 : decode cX7_asked 58 = .ok (.aconst_null, 1) := by decide +kernel
theorem dX7_asked_59 : decode cX7_asked 59 = .ok (.astore 4, 2) := by decide +kernel
theorem dX7_asked_61 : decode cX7_asked 61 = .ok (.aload 4, 2) := by decide +kernel
theorem dX7_asked_63 : decode cX7_asked 63 = .ok (.ifnonnull 11, 3) := by decide +kernel
theorem dX7_asked_66 : decode cX7_asked 66 = .ok (.aload_n 0, 1) := by decide +kernel
theorem dX7_asked_67 : decode cX7_asked 67 = .ok (.iload_n 1, 1) := by decide +kernel
theorem dX7_asked_68 : decode cX7_asked 68 = .ok (.iload_n 2, 1) := by decide +kernel
theorem dX7_asked_69 : decode cX7_asked 69 = .ok (.iload_n 3, 1) := by decide +kernel
theorem dX7_asked_70 : decode cX7_asked 70 = .ok (.invokevirtual 120, 3) := by decide +kernel
theorem dX7_asked_73 : decode cX7_asked 73 = .ok (.ireturn, 1) := by decide +kernel
theorem dX7_asked_74 : decode cX7_asked 74 = .ok (.iconst 0, 1) := by decide +kernel
theorem dX7_asked_75 : decode cX7_asked 75 = .ok (.istore 5, 2) := by decide +kernel
theorem dX7_asked_77 : decode cX7_asked 77 = .ok (.aload 4, 2) := by decide +kernel
theorem dX7_asked_79 : decode cX7_asked 79 = .ok (.getfield 124, 3) := by decide +kernel
theorem dX7_asked_82 : decode cX7_asked 82 = .ok (.bipush 12, 2) := by decide +kernel
theorem dX7_asked_84 : decode cX7_asked 84 = .ok (.invokestatic 98, 3) := by decide +kernel
theorem dX7_asked_87 : decode cX7_asked 87 = .ok (.iconst 1, 1) := by decide +kernel
theorem dX7_asked_88 : decode cX7_asked 88 = .ok (.isub, 1) := by decide +kernel
theorem dX7_asked_89 : decode cX7_asked 89 = .ok (.istore 6, 2) := by decide +kernel
theorem dX7_asked_91 : decode cX7_asked 91 = .ok (.iload 6, 2) := by decide +kernel
theorem dX7_asked_93 : decode cX7_asked 93 = .ok (.ifCond .lt 115, 3) := by decide +kernel
theorem dX7_asked_96 : decode cX7_asked 96 = .ok (.aload 4, 2) := by decide +kernel
theorem dX7_asked_98 : decode cX7_asked 98 = .ok (.getfield 127, 3) := by decide +kernel
theorem dX7_asked_101 : decode cX7_asked 101 = .ok (.iload 6, 2) := by decide +kernel
theorem dX7_asked_103 : decode cX7_asked 103 = .ok (.iaload, 1) := by decide +kernel
theorem dX7_asked_104 : decode cX7_asked 104 = .ok (.iload_n 1, 1) := by decide +kernel
theorem dX7_asked_105 : decode cX7_asked 105 = .ok (.if_icmp .eq 6, 3) := by decide +kernel
theorem dX7_asked_108 : decode cX7_asked 108 = .ok (.goto 94, 3) := by decide +kernel
theorem dX7_asked_111 : decode cX7_asked 111 = .ok (.iload 5, 2) := by decide +kernel
theorem dX7_asked_113 : decode cX7_asked 113 = .ok (.ifCond .ne 12, 3) := by decide +kernel
theorem dX7_asked_116 : decode cX7_asked 116 = .ok (.aload_n 0, 1) := by decide +kernel
theorem dX7_asked_117 : decode cX7_asked 117 = .ok (.iload_n 2, 1) := by decide +kernel
theorem dX7_asked_118 : decode cX7_asked 118 = .ok (.iload_n 3, 1) := by decide +kernel
theorem dX7_asked_119 : decode cX7_asked 119 = .ok (.invokevirtual 130, 3) := by decide +kernel
theorem dX7_asked_122 : decode cX7_asked 122 = .ok (.iconst 1, 1) := by decide +kernel
theorem dX7_asked_123 : decode cX7_asked 123 = .ok (.istore 5, 2) := by decide +kernel
theorem dX7_asked_125 : decode cX7_asked 125 = .ok (.aload 4, 2) := by decide +kernel
theorem dX7_asked_127 : decode cX7_asked 127 = .ok (.iload 6, 2) := by decide +kernel
theorem dX7_asked_129 : decode cX7_asked 129 = .ok (.iconst 2, 1) := by decide +kernel
theorem dX7_asked_130 : decode cX7_asked 130 = .ok (.aload_n 0, 1) := by decide +kernel
theorem dX7_asked_131 : decode cX7_asked 131 = .ok (.getfield 84, 3) := by decide +kernel
theorem dX7_asked_134 : decode cX7_asked 134 = .ok (.getfield 134, 3) := by decide +kernel
theorem dX7_asked_137 : decode cX7_asked 137 = .ok (.aload_n 0, 1) := by decide +kernel
theorem dX7_asked_138 : decode cX7_asked 138 = .ok (.getfield 84, 3) := by decide +kernel
theorem dX7_asked_141 : decode cX7_asked 141 = .ok (.getfield 138, 3) := by decide +kernel
theorem dX7_asked_144 : decode cX7_asked 144 = .ok (.invokevirtual 141, 3) := by decide +kernel
theorem dX7_asked_147 : decode cX7_asked 147 = .ok (.lconst 1, 1) := by decide +kernel
theorem dX7_asked_148 : decode cX7_asked 148 = .ok (.lcmp, 1) := by decide +kernel
theorem dX7_asked_149 : decode cX7_asked 149 = .ok (.ifCond .ne 53, 3) := by decide +kernel
theorem dX7_asked_152 : decode cX7_asked 152 = .ok (.aload 4, 2) := by decide +kernel
theorem dX7_asked_154 : decode cX7_asked 154 = .ok (.iload 6, 2) := by decide +kernel
theorem dX7_asked_156 : decode cX7_asked 156 = .ok (.iconst 0, 1) := by decide +kernel
theorem dX7_asked_157 : decode cX7_asked 157 = .ok (.aload_n 0, 1) := by decide +kernel
theorem dX7_asked_158 : decode cX7_asked 158 = .ok (.getfield 84, 3) := by decide +kernel
theorem dX7_asked_161 : decode cX7_asked 161 = .ok (.getfield 134, 3) := by decide +kernel
theorem dX7_asked_164 : decode cX7_asked 164 = .ok (.aload_n 0, 1) := by decide +kernel
theorem dX7_asked_165 : decode cX7_asked 165 = .ok (.getfield 84, 3) := by decide +kernel
theorem dX7_asked_168 : decode cX7_asked 168 = .ok (.getfield 138, 3) := by decide +kernel
theorem dX7_asked_171 : decode cX7_asked 171 = .ok (.invokevirtual 141, 3) := by decide +kernel
theorem dX7_asked_174 : decode cX7_asked 174 = .ok (.lstore 7, 2) := by decide +kernel
theorem dX7_asked_176 : decode cX7_asked 176 = .ok (.lload 7, 2) := by decide +kernel
theorem dX7_asked_178 : decode cX7_asked 178 = .ok (.ldc2_w 145, 3) := by decide +kernel
theorem dX7_asked_181 : decode cX7_asked 181 = .ok (.lcmp, 1) := by decide +kernel
theorem dX7_asked_182 : decode cX7_asked 182 = .ok (.ifCond .eq 20, 3) := by decide +kernel
theorem dX7_asked_185 : decode cX7_asked 185 = .ok (.lconst 0, 1) := by decide +kernel
theorem dX7_asked_186 : decode cX7_asked 186 = .ok (.getstatic 110, 3) := by decide +kernel
theorem dX7_asked_189 : decode cX7_asked 189 = .ok (.iload_n 1, 1) := by decide +kernel
theorem dX7_asked_190 : decode cX7_asked 190 = .ok (.iaload, 1) := by decide +kernel
theorem dX7_asked_191 : decode cX7_asked 191 = .ok (.i2l, 1) := by decide +kernel
theorem dX7_asked_192 : decode cX7_asked 192 = .ok (.lload 7, 2) := by decide +kernel
theorem dX7_asked_194 : decode cX7_asked 194 = .ok (.invokestatic 147, 3) := by decide +kernel
theorem dX7_asked_197 : decode cX7_asked 197 = .ok (.invokestatic 150, 3) := by decide +kernel
theorem dX7_asked_200 : decode cX7_asked 200 = .ok (.l2i, 1) := by decide +kernel
theorem dX7_asked_201 : decode cX7_asked 201 = .ok (.ireturn, 1) := by decide +kernel
theorem dX7_asked_202 : decode cX7_asked 202 = .ok (.iinc 6 (-1), 3) := by decide +kernel
theorem dX7_asked_205 : decode cX7_asked 205 = .ok (.goto (-114), 3) := by decide +kernel
theorem dX7_asked_208 : decode cX7_asked 208 = .ok (.aload_n 0, 1) := by decide +kernel
theorem dX7_asked_209 : decode cX7_asked 209 = .ok (.iload_n 1, 1) := by decide +kernel
theorem dX7_asked_210 : decode cX7_asked 210 = .ok (.iload_n 2, 1) := by decide +kernel
theorem dX7_asked_211 : decode cX7_asked 211 = .ok (.iload_n 3, 1) := by decide +kernel
theorem dX7_asked_212 : decode cX7_asked 212 = .ok (.invokevirtual 120, 3) := by decide +kernel
theorem dX7_asked_215 : decode cX7_asked 215 = .ok (.ireturn, 1) := by decide +kernel
theorem dX7_workOneTick_0 : decode cX7_workOneTick 0 = .ok (.iconst 0, 1) := by decide +kernel
theorem dX7_workOneTick_1 : decode cX7_workOneTick 1 = .ok (.istore_n 1, 1) := by decide +kernel
theorem dX7_workOneTick_2 : decode cX7_workOneTick 2 = .ok (.iload_n 1, 1) := by decide +kernel
theorem dX7_workOneTick_3 : decode cX7_workOneTick 3 = .ok (.aload_n 0, 1) := by decide +kernel
theorem dX7_workOneTick_4 : decode cX7_workOneTick 4 = .ok (.getfield 31, 3) := by decide +kernel
theorem dX7_workOneTick_7 : decode cX7_workOneTick 7 = .ok (.if_icmp .ge 70, 3) := by decide +kernel
theorem dX7_workOneTick_10 : decode cX7_workOneTick 10 = .ok (.iload_n 1, 1) := by decide +kernel
theorem dX7_workOneTick_11 : decode cX7_workOneTick 11 = .ok (.bipush 6, 2) := by decide +kernel
theorem dX7_workOneTick_13 : decode cX7_workOneTick 13 = .ok (.if_icmp .ge 64, 3) := by decide +kernel
theorem dX7_workOneTick_16 : decode cX7_workOneTick 16 = .ok (.aload_n 0, 1) := by decide +kernel
theorem dX7_workOneTick_17 : decode cX7_workOneTick 17 = .ok (.aload_n 0, 1) := by decide +kernel
theorem dX7_workOneTick_18 : decode cX7_workOneTick 18 = .ok (.getfield 43, 3) := by decide +kernel
theorem dX7_workOneTick_21 : decode cX7_workOneTick 21 = .ok (.iload_n 1, 1) := by decide +kernel
theorem dX7_workOneTick_22 : decode cX7_workOneTick 22 = .ok (.iaload, 1) := by decide +kernel
theorem dX7_workOneTick_23 : decode cX7_workOneTick 23 = .ok (.invokevirtual 117, 3) := by decide +kernel
theorem dX7_workOneTick_26 : decode cX7_workOneTick 26 = .ok (.ifCond .eq 45, 3) := by decide +kernel
theorem dX7_workOneTick_29 : decode cX7_workOneTick 29 = .ok (.aload_n 0, 1) := by decide +kernel
theorem dX7_workOneTick_30 : decode cX7_workOneTick 30 = .ok (.getfield 84, 3) := by decide +kernel
theorem dX7_workOneTick_33 : decode cX7_workOneTick 33 = .ok (.getfield 156, 3) := by decide +kernel
theorem dX7_workOneTick_36 : decode cX7_workOneTick 36 = .ok (.iload_n 1, 1) := by decide +kernel
theorem dX7_workOneTick_37 : decode cX7_workOneTick 37 = .ok (.aload_n 0, 1) := by decide +kernel
theorem dX7_workOneTick_38 : decode cX7_workOneTick 38 = .ok (.iconst 0, 1) := by decide +kernel
theorem dX7_workOneTick_39 : decode cX7_workOneTick 39 = .ok (.iload_n 1, 1) := by decide +kernel
theorem dX7_workOneTick_40 : decode cX7_workOneTick 40 = .ok (.aload_n 0, 1) := by decide +kernel
theorem dX7_workOneTick_41 : decode cX7_workOneTick 41 = .ok (.getfield 43, 3) := by decide +kernel
theorem dX7_workOneTick_44 : decode cX7_workOneTick 44 = .ok (.iload_n 1, 1) := by decide +kernel
theorem dX7_workOneTick_45 : decode cX7_workOneTick 45 = .ok (.iaload, 1) := by decide +kernel
theorem dX7_workOneTick_46 : decode cX7_workOneTick 46 = .ok (.invokevirtual 159, 3) := by decide +kernel
theorem dX7_workOneTick_49 : decode cX7_workOneTick 49 = .ok (.iastore, 1) := by decide +kernel
theorem dX7_workOneTick_50 : decode cX7_workOneTick 50 = .ok (.aload_n 0, 1) := by decide +kernel
theorem dX7_workOneTick_51 : decode cX7_workOneTick 51 = .ok (.getfield 84, 3) := by decide +kernel
theorem dX7_workOneTick_54 : decode cX7_workOneTick 54 = .ok (.getfield 162, 3) := by decide +kernel
theorem dX7_workOneTick_57 : decode cX7_workOneTick 57 = .ok (.iload_n 1, 1) := by decide +kernel
theorem dX7_workOneTick_58 : decode cX7_workOneTick 58 = .ok (.aload_n 0, 1) := by decide +kernel
theorem dX7_workOneTick_59 : decode cX7_workOneTick 59 = .ok (.iconst 1, 1) := by decide +kernel
theorem dX7_workOneTick_60 : decode cX7_workOneTick 60 = .ok (.iload_n 1, 1) := by decide +kernel
theorem dX7_workOneTick_61 : decode cX7_workOneTick 61 = .ok (.aload_n 0, 1) := by decide +kernel
theorem dX7_workOneTick_62 : decode cX7_workOneTick 62 = .ok (.getfield 43, 3) := by decide +kernel
theorem dX7_workOneTick_65 : decode cX7_workOneTick 65 = .ok (.iload_n 1, 1) := by decide +kernel
theorem dX7_workOneTick_66 : decode cX7_workOneTick 66 = .ok (.iaload, 1) := by decide +kernel
theorem dX7_workOneTick_67 : decode cX7_workOneTick 67 = .ok (.invokevirtual 159, 3) := by decide +kernel
theorem dX7_workOneTick_70 : decode cX7_workOneTick 70 = .ok (.iastore, 1) := by decide +kernel
theorem dX7_workOneTick_71 : decode cX7_workOneTick 71 = .ok (.iinc 1 1, 3) := by decide +kernel
theorem dX7_workOneTick_74 : decode cX7_workOneTick 74 = .ok (.goto (-72), 3) := by decide +kernel
theorem dX7_workOneTick_77 : decode cX7_workOneTick 77 = .ok (.aload_n 0, 1) := by decide +kernel
theorem dX7_workOneTick_78 : decode cX7_workOneTick 78 = .ok (.invokevirtual 94, 3) := by decide +kernel
theorem dX7_workOneTick_81 : decode cX7_workOneTick 81 = .ok (.istore_n 1, 1) := by decide +kernel
theorem dX7_workOneTick_82 : decode cX7_workOneTick 82 = .ok (.iconst 0, 1) := by decide +kernel
theorem dX7_workOneTick_83 : decode cX7_workOneTick 83 = .ok (.istore_n 2, 1) := by decide +kernel
theorem dX7_workOneTick_84 : decode cX7_workOneTick 84 = .ok (.iload_n 2, 1) := by decide +kernel
theorem dX7_workOneTick_85 : decode cX7_workOneTick 85 = .ok (.aload_n 0, 1) := by decide +kernel
theorem dX7_workOneTick_86 : decode cX7_workOneTick 86 = .ok (.getfield 31, 3) := by decide +kernel
theorem dX7_workOneTick_89 : decode cX7_workOneTick 89 = .ok (.if_icmp .ge 104, 3) := by decide +kernel
theorem dX7_workOneTick_92 : decode cX7_workOneTick 92 = .ok (.iload_n 2, 1) := by decide +kernel
theorem dX7_workOneTick_93 : decode cX7_workOneTick 93 = .ok (.bipush 6, 2) := by decide +kernel
theorem dX7_workOneTick_95 : decode cX7_workOneTick 95 = .ok (.if_icmp .ge 98, 3) := by decide +kernel
theorem dX7_workOneTick_98 : decode cX7_workOneTick 98 = .ok (.aload_n 0, 1) := by decide +kernel
theorem dX7_workOneTick_99 : decode cX7_workOneTick 99 = .ok (.getfield 43, 3) := by decide +kernel
theorem dX7_workOneTick_102 : decode cX7_workOneTick 102 = .ok (.iload_n 2, 1) := by decide +kernel
theorem dX7_workOneTick_103 : decode cX7_workOneTick 103 = .ok (.iaload, 1) := by decide +kernel
theorem dX7_workOneTick_104 : decode cX7_workOneTick 104 = .ok (.istore_n 3, 1) := by decide +kernel
theorem dX7_workOneTick_105 : decode cX7_workOneTick 105 = .ok (.aload_n 0, 1) := by decide +kernel
theorem dX7_workOneTick_106 : decode cX7_workOneTick 106 = .ok (.iload_n 3, 1) := by decide +kernel
theorem dX7_workOneTick_107 : decode cX7_workOneTick 107 = .ok (.invokevirtual 117, 3) := by decide +kernel
theorem dX7_workOneTick_110 : decode cX7_workOneTick 110 = .ok (.ifCond .eq 59, 3) := by decide +kernel
theorem dX7_workOneTick_113 : decode cX7_workOneTick 113 = .ok (.aload_n 0, 1) := by decide +kernel
theorem dX7_workOneTick_114 : decode cX7_workOneTick 114 = .ok (.getfield 28, 3) := by decide +kernel
theorem dX7_workOneTick_117 : decode cX7_workOneTick 117 = .ok (.iload_n 3, 1) := by decide +kernel
theorem dX7_workOneTick_118 : decode cX7_workOneTick 118 = .ok (.iconst 0, 1) := by decide +kernel
theorem dX7_workOneTick_119 : decode cX7_workOneTick 119 = .ok (.aload_n 0, 1) := by decide +kernel
theorem dX7_workOneTick_120 : decode cX7_workOneTick 120 = .ok (.getfield 28, 3) := by decide +kernel
theorem dX7_workOneTick_123 : decode cX7_workOneTick 123 = .ok (.iload_n 3, 1) := by decide +kernel
theorem dX7_workOneTick_124 : decode cX7_workOneTick 124 = .ok (.iaload, 1) := by decide +kernel
theorem dX7_workOneTick_125 : decode cX7_workOneTick 125 = .ok (.aload_n 0, 1) := by decide +kernel
theorem dX7_workOneTick_126 : decode cX7_workOneTick 126 = .ok (.getfield 84, 3) := by decide +kernel
theorem dX7_workOneTick_129 : decode cX7_workOneTick 129 = .ok (.getfield 156, 3) := by decide +kernel
theorem dX7_workOneTick_132 : decode cX7_workOneTick 132 = .ok (.iload_n 2, 1) := by decide +kernel
theorem dX7_workOneTick_133 : decode cX7_workOneTick 133 = .ok (.iaload, 1) := by decide +kernel
theorem dX7_workOneTick_134 : decode cX7_workOneTick 134 = .ok (.isub, 1) := by decide +kernel
theorem dX7_workOneTick_135 : decode cX7_workOneTick 135 = .ok (.invokestatic 107, 3) := by decide +kernel
theorem dX7_workOneTick_138 : decode cX7_workOneTick 138 = .ok (.iastore, 1) := by decide +kernel
theorem dX7_workOneTick_139 : decode cX7_workOneTick 139 = .ok (.aload_n 0, 1) := by decide +kernel
theorem dX7_workOneTick_140 : decode cX7_workOneTick 140 = .ok (.getfield 40, 3) := by decide +kernel
theorem dX7_workOneTick_143 : decode cX7_workOneTick 143 = .ok (.iload_n 2, 1) := by decide +kernel
theorem dX7_workOneTick_144 : decode cX7_workOneTick 144 = .ok (.bipush 99, 2) := by decide +kernel
theorem dX7_workOneTick_146 : decode cX7_workOneTick 146 = .ok (.aload_n 0, 1) := by decide +kernel
theorem dX7_workOneTick_147 : decode cX7_workOneTick 147 = .ok (.getfield 40, 3) := by decide +kernel
theorem dX7_workOneTick_150 : decode cX7_workOneTick 150 = .ok (.iload_n 2, 1) := by decide +kernel
theorem dX7_workOneTick_151 : decode cX7_workOneTick 151 = .ok (.iaload, 1) := by decide +kernel
theorem dX7_workOneTick_152 : decode cX7_workOneTick 152 = .ok (.aload_n 0, 1) := by decide +kernel
theorem dX7_workOneTick_153 : decode cX7_workOneTick 153 = .ok (.getfield 84, 3) := by decide +kernel
theorem dX7_workOneTick_156 : decode cX7_workOneTick 156 = .ok (.getfield 162, 3) := by decide +kernel
theorem dX7_workOneTick_159 : decode cX7_workOneTick 159 = .ok (.iload_n 2, 1) := by decide +kernel
theorem dX7_workOneTick_160 : decode cX7_workOneTick 160 = .ok (.iaload, 1) := by decide +kernel
theorem dX7_workOneTick_161 : decode cX7_workOneTick 161 = .ok (.iadd, 1) := by decide +kernel
theorem dX7_workOneTick_162 : decode cX7_workOneTick 162 = .ok (.invokestatic 98, 3) := by decide +kernel
theorem dX7_workOneTick_165 : decode cX7_workOneTick 165 = .ok (.iastore, 1) := by decide +kernel
theorem dX7_workOneTick_166 : decode cX7_workOneTick 166 = .ok (.goto 21, 3) := by decide +kernel
theorem dX7_workOneTick_169 : decode cX7_workOneTick 169 = .ok (.aload_n 0, 1) := by decide +kernel
theorem dX7_workOneTick_170 : decode cX7_workOneTick 170 = .ok (.getfield 40, 3) := by decide +kernel
theorem dX7_workOneTick_173 : decode cX7_workOneTick 173 = .ok (.iload_n 2, 1) := by decide +kernel
theorem dX7_workOneTick_174 : decode cX7_workOneTick 174 = .ok (.iconst 0, 1) := by decide +kernel
theorem dX7_workOneTick_175 : decode cX7_workOneTick 175 = .ok (.aload_n 0, 1) := by decide +kernel
theorem dX7_workOneTick_176 : decode cX7_workOneTick 176 = .ok (.getfield 40, 3) := by decide +kernel
theorem dX7_workOneTick_179 : decode cX7_workOneTick 179 = .ok (.iload_n 2, 1) := by decide +kernel
theorem dX7_workOneTick_180 : decode cX7_workOneTick 180 = .ok (.iaload, 1) := by decide +kernel
theorem dX7_workOneTick_181 : decode cX7_workOneTick 181 = .ok (.iconst 2, 1) := by decide +kernel
theorem dX7_workOneTick_182 : decode cX7_workOneTick 182 = .ok (.isub, 1) := by decide +kernel
theorem dX7_workOneTick_183 : decode cX7_workOneTick 183 = .ok (.invokestatic 107, 3) := by decide +kernel
theorem dX7_workOneTick_186 : decode cX7_workOneTick 186 = .ok (.iastore, 1) := by decide +kernel
theorem dX7_workOneTick_187 : decode cX7_workOneTick 187 = .ok (.iinc 2 1, 3) := by decide +kernel
theorem dX7_workOneTick_190 : decode cX7_workOneTick 190 = .ok (.goto (-106), 3) := by decide +kernel
theorem dX7_workOneTick_193 : decode cX7_workOneTick 193 = .ok (.iconst 0, 1) := by decide +kernel
theorem dX7_workOneTick_194 : decode cX7_workOneTick 194 = .ok (.istore_n 2, 1) := by decide +kernel
theorem dX7_workOneTick_195 : decode cX7_workOneTick 195 = .ok (.iload_n 2, 1) := by decide +kernel
theorem dX7_workOneTick_196 : decode cX7_workOneTick 196 = .ok (.aload_n 0, 1) := by decide +kernel
theorem dX7_workOneTick_197 : decode cX7_workOneTick 197 = .ok (.getfield 31, 3) := by decide +kernel
theorem dX7_workOneTick_200 : decode cX7_workOneTick 200 = .ok (.if_icmp .ge 49, 3) := by decide +kernel
theorem dX7_workOneTick_203 : decode cX7_workOneTick 203 = .ok (.iload_n 2, 1) := by decide +kernel
theorem dX7_workOneTick_204 : decode cX7_workOneTick 204 = .ok (.bipush 6, 2) := by decide +kernel
theorem dX7_workOneTick_206 : decode cX7_workOneTick 206 = .ok (.if_icmp .ge 43, 3) := by decide +kernel
theorem dX7_workOneTick_209 : decode cX7_workOneTick 209 = .ok (.aload_n 0, 1) := by decide +kernel
theorem dX7_workOneTick_210 : decode cX7_workOneTick 210 = .ok (.aload_n 0, 1) := by decide +kernel
theorem dX7_workOneTick_211 : decode cX7_workOneTick 211 = .ok (.getfield 43, 3) := by decide +kernel
theorem dX7_workOneTick_214 : decode cX7_workOneTick 214 = .ok (.iload_n 2, 1) := by decide +kernel
theorem dX7_workOneTick_215 : decode cX7_workOneTick 215 = .ok (.iaload, 1) := by decide +kernel
theorem dX7_workOneTick_216 : decode cX7_workOneTick 216 = .ok (.invokevirtual 117, 3) := by decide +kernel
theorem dX7_workOneTick_219 : decode cX7_workOneTick 219 = .ok (.ifCond .eq 24, 3) := by decide +kernel
theorem dX7_workOneTick_222 : decode cX7_workOneTick 222 = .ok (.aload_n 0, 1) := by decide +kernel
theorem dX7_workOneTick_223 : decode cX7_workOneTick 223 = .ok (.getfield 28, 3) := by decide +kernel
theorem dX7_workOneTick_226 : decode cX7_workOneTick 226 = .ok (.aload_n 0, 1) := by decide +kernel
theorem dX7_workOneTick_227 : decode cX7_workOneTick 227 = .ok (.getfield 43, 3) := by decide +kernel
theorem dX7_workOneTick_230 : decode cX7_workOneTick 230 = .ok (.iload_n 2, 1) := by decide +kernel
theorem dX7_workOneTick_231 : decode cX7_workOneTick 231 = .ok (.iaload, 1) := by decide +kernel
theorem dX7_workOneTick_232 : decode cX7_workOneTick 232 = .ok (.iaload, 1) := by decide +kernel
theorem dX7_workOneTick_233 : decode cX7_workOneTick 233 = .ok (.ifCond .ne 10, 3) := by decide +kernel
theorem dX7_workOneTick_236 : decode cX7_workOneTick 236 = .ok (.aload_n 0, 1) := by decide +kernel
theorem dX7_workOneTick_237 : decode cX7_workOneTick 237 = .ok (.getfield 43, 3) := by decide +kernel
theorem dX7_workOneTick_240 : decode cX7_workOneTick 240 = .ok (.iload_n 2, 1) := by decide +kernel
theorem dX7_workOneTick_241 : decode cX7_workOneTick 241 = .ok (.iconst (-1), 1) := by decide +kernel
theorem dX7_workOneTick_242 : decode cX7_workOneTick 242 = .ok (.iastore, 1) := by decide +kernel
theorem dX7_workOneTick_243 : decode cX7_workOneTick 243 = .ok (.iinc 2 1, 3) := by decide +kernel
theorem dX7_workOneTick_246 : decode cX7_workOneTick 246 = .ok (.goto (-51), 3) := by decide +kernel
theorem dX7_workOneTick_249 : decode cX7_workOneTick 249 = .ok (.aload_n 0, 1) := by decide +kernel
theorem dX7_workOneTick_250 : decode cX7_workOneTick 250 = .ok (.getfield 54, 3) := by decide +kernel
theorem dX7_workOneTick_253 : decode cX7_workOneTick 253 = .ok (.iconst 0, 1) := by decide +kernel
theorem dX7_workOneTick_254 : decode cX7_workOneTick 254 = .ok (.dup2, 1) := by decide +kernel
theorem dX7_workOneTick_255 : decode cX7_workOneTick 255 = .ok (.iaload, 1) := by decide +kernel
theorem dX7_workOneTick_256 : decode cX7_workOneTick 256 = .ok (.iconst 1, 1) := by decide +kernel
theorem dX7_workOneTick_257 : decode cX7_workOneTick 257 = .ok (.iadd, 1) := by decide +kernel
theorem dX7_workOneTick_258 : decode cX7_workOneTick 258 = .ok (.iastore, 1) := by decide +kernel
theorem dX7_workOneTick_259 : decode cX7_workOneTick 259 = .ok (.aload_n 0, 1) := by decide +kernel
theorem dX7_workOneTick_260 : decode cX7_workOneTick 260 = .ok (.invokevirtual 94, 3) := by decide +kernel
theorem dX7_workOneTick_263 : decode cX7_workOneTick 263 = .ok (.iload_n 1, 1) := by decide +kernel
theorem dX7_workOneTick_264 : decode cX7_workOneTick 264 = .ok (.iconst (-1), 1) := by decide +kernel
theorem dX7_workOneTick_265 : decode cX7_workOneTick 265 = .ok (.ixor, 1) := by decide +kernel
theorem dX7_workOneTick_266 : decode cX7_workOneTick 266 = .ok (.iand, 1) := by decide +kernel
theorem dX7_workOneTick_267 : decode cX7_workOneTick 267 = .ok (.invokestatic 165, 3) := by decide +kernel
theorem dX7_workOneTick_270 : decode cX7_workOneTick 270 = .ok (.ireturn, 1) := by decide +kernel
theorem dX10_reckon_0 : decode cX10_reckon 0 = .ok (.iload_n 1, 1) := by decide +kernel
theorem dX10_reckon_1 : decode cX10_reckon 1 = .ok (.iconst 3, 1) := by decide +kernel
theorem dX10_reckon_2 : decode cX10_reckon 2 = .ok (.imul, 1) := by decide +kernel
theorem dX10_reckon_3 : decode cX10_reckon 3 = .ok (.iload_n 2, 1) := by decide +kernel
theorem dX10_reckon_4 : decode cX10_reckon 4 = .ok (.iadd, 1) := by decide +kernel
theorem dX10_reckon_5 : decode cX10_reckon 5 = .ok (.istore 5, 2) := by decide +kernel
theorem dX10_reckon_7 : decode cX10_reckon 7 = .ok (.iload 5, 2) := by decide +kernel
theorem dX10_reckon_9 : decode cX10_reckon 9 = .ok (.ifCond .lt 42, 3) := by decide +kernel
theorem dX10_reckon_12 : decode cX10_reckon 12 = .ok (.iload 5, 2) := by decide +kernel
theorem dX10_reckon_14 : decode cX10_reckon 14 = .ok (.iconst 1, 1) := by decide +kernel
theorem dX10_reckon_15 : decode cX10_reckon 15 = .ok (.iadd, 1) := by decide +kernel
theorem dX10_reckon_16 : decode cX10_reckon 16 = .ok (.aload_n 0, 1) := by decide +kernel
theorem dX10_reckon_17 : decode cX10_reckon 17 = .ok (.getfield 22, 3) := by decide +kernel
theorem dX10_reckon_20 : decode cX10_reckon 20 = .ok (.arraylength, 1) := by decide +kernel
theorem dX10_reckon_21 : decode cX10_reckon 21 = .ok (.if_icmp .ge 30, 3) := by decide +kernel
theorem dX10_reckon_24 : decode cX10_reckon 24 = .ok (.aload_n 0, 1) := by decide +kernel
theorem dX10_reckon_25 : decode cX10_reckon 25 = .ok (.getfield 22, 3) := by decide +kernel
theorem dX10_reckon_28 : decode cX10_reckon 28 = .ok (.iload 5, 2) := by decide +kernel
theorem dX10_reckon_30 : decode cX10_reckon 30 = .ok (.iaload, 1) := by decide +kernel
theorem dX10_reckon_31 : decode cX10_reckon 31 = .ok (.ifCond .lt 20, 3) := by decide +kernel
theorem dX10_reckon_34 : decode cX10_reckon 34 = .ok (.aload_n 0, 1) := by decide +kernel
theorem dX10_reckon_35 : decode cX10_reckon 35 = .ok (.getfield 22, 3) := by decide +kernel
theorem dX10_reckon_38 : decode cX10_reckon 38 = .ok (.iload 5, 2) := by decide +kernel
theorem dX10_reckon_40 : decode cX10_reckon 40 = .ok (.iconst 1, 1) := by decide +kernel
theorem dX10_reckon_41 : decode cX10_reckon 41 = .ok (.iadd, 1) := by decide +kernel
theorem dX10_reckon_42 : decode cX10_reckon 42 = .ok (.iaload, 1) := by decide +kernel
theorem dX10_reckon_43 : decode cX10_reckon 43 = .ok (.aload_n 0, 1) := by decide +kernel
theorem dX10_reckon_44 : decode cX10_reckon 44 = .ok (.getfield 34, 3) := by decide +kernel
theorem dX10_reckon_47 : decode cX10_reckon 47 = .ok (.arraylength, 1) := by decide +kernel
theorem dX10_reckon_48 : decode cX10_reckon 48 = .ok (.if_icmp .le 7, 3) := by decide +kernel
theorem dX10_reckon_51 : decode cX10_reckon 51 = .ok (.ldc2_w 52, 3) := by decide +kernel
theorem dX10_reckon_54 : decode cX10_reckon 54 = .ok (.lreturn, 1) := by decide +kernel
theorem dX10_reckon_55 : decode cX10_reckon 55 = .ok (.aload_n 0, 1) := by decide +kernel
theorem dX10_reckon_56 : decode cX10_reckon 56 = .ok (.getfield 22, 3) := by decide +kernel
theorem dX10_reckon_59 : decode cX10_reckon 59 = .ok (.iload 5, 2) := by decide +kernel
theorem dX10_reckon_61 : decode cX10_reckon 61 = .ok (.iconst 1, 1) := by decide +kernel
theorem dX10_reckon_62 : decode cX10_reckon 62 = .ok (.iadd, 1) := by decide +kernel
theorem dX10_reckon_63 : decode cX10_reckon 63 = .ok (.iaload, 1) := by decide +kernel
theorem dX10_reckon_64 : decode cX10_reckon 64 = .ok (.istore 6, 2) := by decide +kernel
theorem dX10_reckon_66 : decode cX10_reckon 66 = .ok (.aload_n 0, 1) := by decide +kernel
theorem dX10_reckon_67 : decode cX10_reckon 67 = .ok (.getfield 22, 3) := by decide +kernel
theorem dX10_reckon_70 : decode cX10_reckon 70 = .ok (.iload 5, 2) := by decide +kernel
theorem dX10_reckon_72 : decode cX10_reckon 72 = .ok (.iaload, 1) := by decide +kernel
theorem dX10_reckon_73 : decode cX10_reckon 73 = .ok (.iload 6, 2) := by decide +kernel
theorem dX10_reckon_75 : decode cX10_reckon 75 = .ok (.if_icmp .lt 5, 3) := by decide +kernel
theorem dX10_reckon_78 : decode cX10_reckon 78 = .ok (.lconst 1, 1) := by decide +kernel
theorem dX10_reckon_79 : decode cX10_reckon 79 = .ok (.lreturn, 1) := by decide +kernel
theorem dX10_reckon_80 : decode cX10_reckon 80 = .ok (.iconst 0, 1) := by decide +kernel
theorem dX10_reckon_81 : decode cX10_reckon 81 = .ok (.istore 7, 2) := by decide +kernel
theorem dX10_reckon_83 : decode cX10_reckon 83 = .ok (.aload_n 0, 1) := by decide +kernel
theorem dX10_reckon_84 : decode cX10_reckon 84 = .ok (.getfield 22, 3) := by decide +kernel
theorem dX10_reckon_87 : decode cX10_reckon 87 = .ok (.iload 5, 2) := by decide +kernel
theorem dX10_reckon_89 : decode cX10_reckon 89 = .ok (.iaload, 1) := by decide +kernel
theorem dX10_reckon_90 : decode cX10_reckon 90 = .ok (.istore 8, 2) := by decide +kernel
theorem dX10_reckon_92 : decode cX10_reckon 92 = .ok (.iload 8, 2) := by decide +kernel
theorem dX10_reckon_94 : decode cX10_reckon 94 = .ok (.iload 6, 2) := by decide +kernel
theorem dX10_reckon_96 : decode cX10_reckon 96 = .ok (.if_icmp .ge 246, 3) := by decide +kernel
theorem dX10_reckon_99 : decode cX10_reckon 99 = .ok (.aload_n 0, 1) := by decide +kernel
theorem dX10_reckon_100 : decode cX10_reckon 100 = .ok (.getfield 34, 3) := by decide +kernel
theorem dX10_reckon_103 : decode cX10_reckon 103 = .ok (.iload 8, 2) := by decide +kernel
theorem dX10_reckon_105 : decode cX10_reckon 105 = .ok (.iaload, 1) := by decide +kernel
theorem dX10_reckon_106 : decode cX10_reckon 106 = .ok (.bipush 12, 2) := by decide +kernel
theorem dX10_reckon_108 : decode cX10_reckon 108 = .ok (.ishr, 1) := by decide +kernel
theorem dX10_reckon_109 : decode cX10_reckon 109 = .ok (.istore 9, 2) := by decide +kernel
theorem dX10_reckon_111 : decode cX10_reckon 111 = .ok (.aload_n 0, 1) := by decide +kernel
theorem dX10_reckon_112 : decode cX10_reckon 112 = .ok (.getfield 34, 3) := by decide +kernel
theorem dX10_reckon_115 : decode cX10_reckon 115 = .ok (.iload 8, 2) := by decide +kernel
theorem dX10_reckon_117 : decode cX10_reckon 117 = .ok (.iaload, 1) := by decide +kernel
theorem dX10_reckon_118 : decode cX10_reckon 118 = .ok (.sipush 4095, 3) := by decide +kernel
theorem dX10_reckon_121 : decode cX10_reckon 121 = .ok (.iand, 1) := by decide +kernel
theorem dX10_reckon_122 : decode cX10_reckon 122 = .ok (.istore 10, 2) := by decide +kernel
theorem dX10_reckon_124 : decode cX10_reckon 124 = .ok (.iload 9, 2) := by decide +kernel
theorem dX10_reckon_126 : decode cX10_reckon 126 = .ok (.iconst 1, 1) := by decide +kernel
theorem dX10_reckon_127 : decode cX10_reckon 127 = .ok (.if_icmp .gt 54, 3) := by decide +kernel
theorem dX10_reckon_130 : decode cX10_reckon 130 = .ok (.iload 7, 2) := by decide +kernel
theorem dX10_reckon_132 : decode cX10_reckon 132 = .ok (.aload 4, 2) := by decide +kernel
theorem dX10_reckon_134 : decode cX10_reckon 134 = .ok (.arraylength, 1) := by decide +kernel
theorem dX10_reckon_135 : decode cX10_reckon 135 = .ok (.if_icmp .ge 16, 3) := by decide +kernel
theorem dX10_reckon_138 : decode cX10_reckon 138 = .ok (.iload 9, 2) := by decide +kernel
theorem dX10_reckon_140 : decode cX10_reckon 140 = .ok (.iconst 1, 1) := by decide +kernel
theorem dX10_reckon_141 : decode cX10_reckon 141 = .ok (.if_icmp .ne 14, 3) := by decide +kernel
theorem dX10_reckon_144 : decode cX10_reckon 144 = .ok (.iload 10, 2) := by decide +kernel
theorem dX10_reckon_146 : decode cX10_reckon 146 = .ok (.aload_n 3, 1) := by decide +kernel
theorem dX10_reckon_147 : decode cX10_reckon 147 = .ok (.arraylength, 1) := by decide +kernel
theorem dX10_reckon_148 : decode cX10_reckon 148 = .ok (.if_icmp .lt 7, 3) := by decide +kernel
theorem dX10_reckon_151 : decode cX10_reckon 151 = .ok (.ldc2_w 52, 3) := by decide +kernel
theorem dX10_reckon_154 : decode cX10_reckon 154 = .ok (.lreturn, 1) := by decide +kernel
theorem dX10_reckon_155 : decode cX10_reckon 155 = .ok (.aload 4, 2) := by decide +kernel
theorem dX10_reckon_157 : decode cX10_reckon 157 = .ok (.iload 7, 2) := by decide +kernel
theorem dX10_reckon_159 : decode cX10_reckon 159 = .ok (.iload 9, 2) := by decide +kernel
theorem dX10_reckon_161 : decode cX10_reckon 161 = .ok (.ifCond .ne 9, 3) := by decide +kernel
theorem dX10_reckon_164 : decode cX10_reckon 164 = .ok (.iload 10, 2) := by decide +kernel
theorem dX10_reckon_166 : decode cX10_reckon 166 = .ok (.i2l, 1) := by decide +kernel
theorem dX10_reckon_167 : decode cX10_reckon 167 = .ok (.goto 7, 3) := by decide +kernel
theorem dX10_reckon_170 : decode cX10_reckon 170 = .ok (.aload_n 3, 1) := by decide +kernel
theorem dX10_reckon_171 : decode cX10_reckon 171 = .ok (.iload 10, 2) := by decide +kernel
theorem dX10_reckon_173 : decode cX10_reckon 173 = .ok (.laload, 1) := by decide +kernel
theorem dX10_reckon_174 : decode cX10_reckon 174 = .ok (.lastore, 1) := by decide +kernel
theorem dX10_reckon_175 : decode cX10_reckon 175 = .ok (.iinc 7 1, 3) := by decide +kernel
theorem dX10_reckon_178 : decode cX10_reckon 178 = .ok (.goto 158, 3) := by decide +kernel
theorem dX10_reckon_181 : decode cX10_reckon 181 = .ok (.iload 7, 2) := by decide +kernel
theorem dX10_reckon_183 : decode cX10_reckon 183 = .ok (.iconst 1, 1) := by decide +kernel
theorem dX10_reckon_184 : decode cX10_reckon 184 = .ok (.if_icmp .ge 7, 3) := by decide +kernel
theorem dX10_reckon_187 : decode cX10_reckon 187 = .ok (.ldc2_w 52, 3) := by decide +kernel
theorem dX10_reckon_190 : decode cX10_reckon 190 = .ok (.lreturn, 1) := by decide +kernel
theorem dX10_reckon_191 : decode cX10_reckon 191 = .ok (.iload 9, 2) := by decide +kernel
theorem dX10_reckon_193 : decode cX10_reckon 193 = .ok (.iconst 2, 1) := by decide +kernel
theorem dX10_reckon_194 : decode cX10_reckon 194 = .ok (.if_icmp .ne 22, 3) := by decide +kernel
theorem dX10_reckon_197 : decode cX10_reckon 197 = .ok (.aload 4, 2) := by decide +kernel
theorem dX10_reckon_199 : decode cX10_reckon 199 = .ok (.iload 7, 2) := by decide +kernel
theorem dX10_reckon_201 : decode cX10_reckon 201 = .ok (.iconst 1, 1) := by decide +kernel
theorem dX10_reckon_202 : decode cX10_reckon 202 = .ok (.isub, 1) := by decide +kernel
theorem dX10_reckon_203 : decode cX10_reckon 203 = .ok (.lconst 1, 1) := by decide +kernel
theorem dX10_reckon_204 : decode cX10_reckon 204 = .ok (.aload 4, 2) := by decide +kernel
theorem dX10_reckon_206 : decode cX10_reckon 206 = .ok (.iload 7, 2) := by decide +kernel
theorem dX10_reckon_208 : decode cX10_reckon 208 = .ok (.iconst 1, 1) := by decide +kernel
theorem dX10_reckon_209 : decode cX10_reckon 209 = .ok (.isub, 1) := by decide +kernel
theorem dX10_reckon_210 : decode cX10_reckon 210 = .ok (.laload, 1) := by decide +kernel
theorem dX10_reckon_211 : decode cX10_reckon 211 = .ok (.lsub, 1) := by decide +kernel
theorem dX10_reckon_212 : decode cX10_reckon 212 = .ok (.lastore, 1) := by decide +kernel
theorem dX10_reckon_213 : decode cX10_reckon 213 = .ok (.goto 123, 3) := by decide +kernel
theorem dX10_reckon_216 : decode cX10_reckon 216 = .ok (.iload 9, 2) := by decide +kernel
theorem dX10_reckon_218 : decode cX10_reckon 218 = .ok (.iconst 4, 1) := by decide +kernel
theorem dX10_reckon_219 : decode cX10_reckon 219 = .ok (.if_icmp .gt 61, 3) := by decide +kernel
theorem dX10_reckon_222 : decode cX10_reckon 222 = .ok (.aload 4, 2) := by decide +kernel
theorem dX10_reckon_224 : decode cX10_reckon 224 = .ok (.iload 7, 2) := by decide +kernel
theorem dX10_reckon_226 : decode cX10_reckon 226 = .ok (.iconst 1, 1) := by decide +kernel
theorem dX10_reckon_227 : decode cX10_reckon 227 = .ok (.isub, 1) := by decide +kernel
theorem dX10_reckon_228 : decode cX10_reckon 228 = .ok (.laload, 1) := by decide +kernel
theorem dX10_reckon_229 : decode cX10_reckon 229 = .ok (.lconst 0, 1) := by decide +kernel
theorem dX10_reckon_230 : decode cX10_reckon 230 = .ok (.lcmp, 1) := by decide +kernel
theorem dX10_reckon_231 : decode cX10_reckon 231 = .ok (.ifCond .eq 7, 3) := by decide +kernel
theorem dX10_reckon_234 : decode cX10_reckon 234 = .ok (.iconst 1, 1) := by decide +kernel
theorem dX10_reckon_235 : decode cX10_reckon 235 = .ok (.goto 4, 3) := by decide +kernel
theorem dX10_reckon_238 : decode cX10_reckon 238 = .ok (.iconst 0, 1) := by decide +kernel
theorem dX10_reckon_239 : decode cX10_reckon 239 = .ok (.iload 9, 2) := by decide +kernel
theorem dX10_reckon_241 : decode cX10_reckon 241 = .ok (.iconst 3, 1) := by decide +kernel
theorem dX10_reckon_242 : decode cX10_reckon 242 = .ok (.if_icmp .ne 7, 3) := by decide +kernel
theorem dX10_reckon_245 : decode cX10_reckon 245 = .ok (.iconst 1, 1) := by decide +kernel
theorem dX10_reckon_246 : decode cX10_reckon 246 = .ok (.goto 4, 3) := by decide +kernel
theorem dX10_reckon_249 : decode cX10_reckon 249 = .ok (.iconst 0, 1) := by decide +kernel
theorem dX10_reckon_250 : decode cX10_reckon 250 = .ok (.if_icmp .ne 24, 3) := by decide +kernel
theorem dX10_reckon_253 : decode cX10_reckon 253 = .ok (.iload 10, 2) := by decide +kernel
theorem dX10_reckon_255 : decode cX10_reckon 255 = .ok (.iload 8, 2) := by decide +kernel
theorem dX10_reckon_257 : decode cX10_reckon 257 = .ok (.if_icmp .le 10, 3) := by decide +kernel
theorem dX10_reckon_260 : decode cX10_reckon 260 = .ok (.iload 10, 2) := by decide +kernel
theorem dX10_reckon_262 : decode cX10_reckon 262 = .ok (.iconst 1, 1) := by decide +kernel
theorem dX10_reckon_263 : decode cX10_reckon 263 = .ok (.isub, 1) := by decide +kernel
theorem dX10_reckon_264 : decode cX10_reckon 264 = .ok (.goto 5, 3) := by decide +kernel
theorem dX10_reckon_267 : decode cX10_reckon 267 = .ok (.iload 6, 2) := by decide +kernel
theorem dX10_reckon_269 : decode cX10_reckon 269 = .ok (.istore 8, 2) := by decide +kernel
theorem dX10_reckon_271 : decode cX10_reckon 271 = .ok (.goto 65, 3) := by decide +kernel
theorem dX10_reckon_274 : decode cX10_reckon 274 = .ok (.iinc 7 (-1), 3) := by decide +kernel
theorem dX10_reckon_277 : decode cX10_reckon 277 = .ok (.goto 59, 3) := by decide +kernel
theorem dX10_reckon_280 : decode cX10_reckon 280 = .ok (.iload 7, 2) := by decide +kernel
theorem dX10_reckon_282 : decode cX10_reckon 282 = .ok (.iconst 2, 1) := by decide +kernel
theorem dX10_reckon_283 : decode cX10_reckon 283 = .ok (.if_icmp .ge 7, 3) := by decide +kernel
theorem dX10_reckon_286 : decode cX10_reckon 286 = .ok (.ldc2_w 52, 3) := by decide +kernel
theorem dX10_reckon_289 : decode cX10_reckon 289 = .ok (.lreturn, 1) := by decide +kernel
theorem dX10_reckon_290 : decode cX10_reckon 290 = .ok (.iload 9, 2) := by decide +kernel
theorem dX10_reckon_292 : decode cX10_reckon 292 = .ok (.aload 4, 2) := by decide +kernel
theorem dX10_reckon_294 : decode cX10_reckon 294 = .ok (.iload 7, 2) := by decide +kernel
theorem dX10_reckon_296 : decode cX10_reckon 296 = .ok (.iconst 2, 1) := by decide +kernel
theorem dX10_reckon_297 : decode cX10_reckon 297 = .ok (.isub, 1) := by decide +kernel
theorem dX10_reckon_298 : decode cX10_reckon 298 = .ok (.laload, 1) := by decide +kernel
theorem dX10_reckon_299 : decode cX10_reckon 299 = .ok (.aload 4, 2) := by decide +kernel
theorem dX10_reckon_301 : decode cX10_reckon 301 = .ok (.iload 7, 2) := by decide +kernel
theorem dX10_reckon_303 : decode cX10_reckon 303 = .ok (.iconst 1, 1) := by decide +kernel
theorem dX10_reckon_304 : decode cX10_reckon 304 = .ok (.isub, 1) := by decide +kernel
theorem dX10_reckon_305 : decode cX10_reckon 305 = .ok (.laload, 1) := by decide +kernel
theorem dX10_reckon_306 : decode cX10_reckon 306 = .ok (.invokestatic 54, 3) := by decide +kernel
theorem dX10_reckon_309 : decode cX10_reckon 309 = .ok (.lstore 11, 2) := by decide +kernel
theorem dX10_reckon_311 : decode cX10_reckon 311 = .ok (.lload 11, 2) := by decide +kernel
theorem dX10_reckon_313 : decode cX10_reckon 313 = .ok (.ldc2_w 52, 3) := by decide +kernel
theorem dX10_reckon_316 : decode cX10_reckon 316 = .ok (.lcmp, 1) := by decide +kernel
theorem dX10_reckon_317 : decode cX10_reckon 317 = .ok (.ifCond .ne 7, 3) := by decide +kernel
theorem dX10_reckon_320 : decode cX10_reckon 320 = .ok (.ldc2_w 52, 3) := by decide +kernel
theorem dX10_reckon_323 : decode cX10_reckon 323 = .ok (.lreturn, 1) := by decide +kernel
theorem dX10_reckon_324 : decode cX10_reckon 324 = .ok (.iinc 7 (-1), 3) := by decide +kernel
theorem dX10_reckon_327 : decode cX10_reckon 327 = .ok (.aload 4, 2) := by decide +kernel
theorem dX10_reckon_329 : decode cX10_reckon 329 = .ok (.iload 7, 2) := by decide +kernel
theorem dX10_reckon_331 : decode cX10_reckon 331 = .ok (.iconst 1, 1) := by decide +kernel
theorem dX10_reckon_332 : decode cX10_reckon 332 = .ok (.isub, 1) := by decide +kernel
theorem dX10_reckon_333 : decode cX10_reckon 333 = .ok (.lload 11, 2) := by decide +kernel
theorem dX10_reckon_335 : decode cX10_reckon 335 = .ok (.lastore, 1) := by decide +kernel
theorem dX10_reckon_336 : decode cX10_reckon 336 = .ok (.iinc 8 1, 3) := by decide +kernel
theorem dX10_reckon_339 : decode cX10_reckon 339 = .ok (.goto (-247), 3) := by decide +kernel
theorem dX10_reckon_342 : decode cX10_reckon 342 = .ok (.iload 7, 2) := by decide +kernel
theorem dX10_reckon_344 : decode cX10_reckon 344 = .ok (.iconst 1, 1) := by decide +kernel
theorem dX10_reckon_345 : decode cX10_reckon 345 = .ok (.if_icmp .ne 10, 3) := by decide +kernel
theorem dX10_reckon_348 : decode cX10_reckon 348 = .ok (.aload 4, 2) := by decide +kernel
theorem dX10_reckon_350 : decode cX10_reckon 350 = .ok (.iconst 0, 1) := by decide +kernel
theorem dX10_reckon_351 : decode cX10_reckon 351 = .ok (.laload, 1) := by decide +kernel
theorem dX10_reckon_352 : decode cX10_reckon 352 = .ok (.goto 6, 3) := by decide +kernel
theorem dX10_reckon_355 : decode cX10_reckon 355 = .ok (.ldc2_w 52, 3) := by decide +kernel
theorem dX10_reckon_358 : decode cX10_reckon 358 = .ok (.lreturn, 1) := by decide +kernel
theorem wt3_103 : Cond.code yX10_joined cX10_joined 7 (some .long) ∈ kG := kt3 103 rfl rfl
theorem wt3_38 : Cond.code yX7_hasPart cX7_hasPart 2 (some .boolean) ∈ kG := kt3 38 rfl rfl
theorem wt3_70 : Cond.code yX7_hasBuilder cX7_hasBuilder 2 (some .boolean) ∈ kG := kt3 70 rfl rfl
theorem wt3_87 : Cond.code yX7_withoutLaw cX7_withoutLaw 4 (some .int) ∈ kG := kt3 87 rfl rfl
theorem wt3_95 : Cond.code yX7_writeWords cX7_writeWords 5 none ∈ kG := kt3 95 rfl rfl
theorem wt3_101 : Cond.methodLink RX10 54 yX10_joined ∈ kG := kt3 101 rfl rfl
theorem wt3_102 : Cond.static yX10_joined ∈ kG := kt3 102 rfl rfl
theorem wt3_99 : Cond.code yX10_reckon cX10_reckon 13 (some .long) ∈ kG := kt3 99 rfl rfl
theorem wt3_51 : Cond.methodLink RX7 98 Lib.Math.min.name ∈ kG := kt3 51 rfl rfl
theorem wt3_52 : Cond.static Lib.Math.min.name ∈ kG := kt3 52 rfl rfl
theorem wt3_53 : Cond.code Lib.Math.min.name Lib.Math.min.code 2 (some .int) ∈ kG := kt3 53 rfl rfl
theorem wt1_65 : Cond.fieldLink RX7 104 "SunriseRoof$Slate" "chain" "[I" ∈ kG := kt1 65 rfl rfl
theorem wt3_54 : Cond.methodLink RX7 107 Lib.Math.max.name ∈ kG := kt3 54 rfl rfl
theorem wt3_82 : Cond.methodLink RX7 113 yX7_hasBuilder ∈ kG := kt3 82 rfl rfl
theorem wt3_68 : Cond.instanceMethod yX7_hasBuilder ∈ kG := kt3 68 rfl rfl
theorem wt3_69 : Cond.selects RX7 yX7_hasBuilder yX7_hasBuilder ∈ kG := kt3 69 rfl rfl
theorem wt3_83 : Cond.methodLink RX7 117 yX7_hasPart ∈ kG := kt3 83 rfl rfl
theorem wt3_36 : Cond.instanceMethod yX7_hasPart ∈ kG := kt3 36 rfl rfl
theorem wt3_37 : Cond.selects RX7 yX7_hasPart yX7_hasPart ∈ kG := kt3 37 rfl rfl
theorem wt3_84 : Cond.methodLink RX7 120 yX7_withoutLaw ∈ kG := kt3 84 rfl rfl
theorem wt3_86 : Cond.instanceMethod yX7_withoutLaw ∈ kG := kt3 86 rfl rfl
theorem wp1_3 : Cond.selects RX7 yX7_withoutLaw yX7_withoutLaw ∈ kG := kp1 3 rfl rfl
theorem wt2_42 : Cond.fieldLink RX7 124 "SunriseRoof$Text" "clauses" "I" ∈ kG := kt2 42 rfl rfl
theorem wt2_45 : Cond.fieldLink RX7 127 "SunriseRoof$Text" "kinds" "[I" ∈ kG := kt2 45 rfl rfl
theorem wt1_57 : Cond.fieldLink RX7 138 "SunriseRoof$Slate" "stack" "[J" ∈ kG := kt1 57 rfl rfl
theorem wt3_96 : Cond.methodLink RX7 141 yX10_reckon ∈ kG := kt3 96 rfl rfl
theorem wt3_97 : Cond.instanceMethod yX10_reckon ∈ kG := kt3 97 rfl rfl
theorem wt3_98 : Cond.selects RX10 yX10_reckon yX10_reckon ∈ kG := kt3 98 rfl rfl
theorem wt3_106 : Cond.constantLong RX7 145 (-1000000000000) ∈ kG := kt3 106 rfl rfl
theorem wt3_107 : Cond.methodLink RX7 147 Lib.MathLoose.min_long.x ∈ kG := kt3 107 rfl rfl
theorem wt3_108 : Cond.static Lib.MathLoose.min_long.x ∈ kG := kt3 108 rfl rfl
theorem wt3_109 : Cond.code Lib.MathLoose.min_long.x Lib.MathLoose.min_long.code 4 (some .long) ∈ kG := kt3 109 rfl rfl
theorem wt3_110 : Cond.methodLink RX7 150 Lib.MathLoose.max_long.x ∈ kG := kt3 110 rfl rfl
theorem wt3_111 : Cond.static Lib.MathLoose.max_long.x ∈ kG := kt3 111 rfl rfl
theorem wt3_112 : Cond.code Lib.MathLoose.max_long.x Lib.MathLoose.max_long.code 4 (some .long) ∈ kG := kt3 112 rfl rfl
theorem wt3_92 : Cond.methodLink RX7 130 yX7_writeWords ∈ kG := kt3 92 rfl rfl
theorem wt3_94 : Cond.instanceMethod yX7_writeWords ∈ kG := kt3 94 rfl rfl
theorem wp1_5 : Cond.selects RX7 yX7_writeWords yX7_writeWords ∈ kG := kp1 5 rfl rfl
theorem wt3_80 : Cond.code yX7_asked cX7_asked 9 (some .int) ∈ kG := kt3 80 rfl rfl
theorem wt1_59 : Cond.fieldLink RX7 156 "SunriseRoof$Slate" "works" "[I" ∈ kG := kt1 59 rfl rfl
theorem wt4_146 : Cond.methodLink RX7 159 yX7_asked ∈ kG := kt4 146 rfl rfl
theorem wt3_78 : Cond.instanceMethod yX7_asked ∈ kG := kt3 78 rfl rfl
theorem wt3_79 : Cond.selects RX7 yX7_asked yX7_asked ∈ kG := kt3 79 rfl rfl
theorem wt1_61 : Cond.fieldLink RX7 162 "SunriseRoof$Slate" "tires" "[I" ∈ kG := kt1 61 rfl rfl
theorem wt1_21 : Cond.initialized "java/lang/Integer" ∈ kG := kt1 21 rfl rfl
theorem wt4_147 : Cond.methodLink RX7 165 yJ6_bitCount_0f7a4 ∈ kG := kt4 147 rfl rfl
theorem wt4_99 : Cond.static yJ6_bitCount_0f7a4 ∈ kG := kt4 99 rfl rfl
theorem wt4_100 : Cond.code yJ6_bitCount_0f7a4 cJ6_bitCount_0f7a4 1 (some .int) ∈ kG := kt4 100 rfl rfl
set_option maxHeartbeats 4000000 in
set_option maxRecDepth 100000 in
theorem x_10_reckonP  (l : Launch) {D : va_G} {K : Nat → ClassId} (r : Nat → Nat) (f : Nat → Int32) (a : Nat → Nat → Int32) (g : xG) (tx tt : va_W) (hT : ∀ c ∈ tt, c ∈ tx) (hI : xI f a) (hG : gOK K g.2 tt) (cl : Int32) (pc_ : Int32) (bcl : kb 0 cl 11) (bpc_ : kb 0 pc_ 2) (t : tX) (ht : tIn K tt t)  : kLG l yX10_reckon (Cond.code yX10_reckon cX10_reckon 13 (some .long) :: kG) (rmD 2 0 0) D K [.ref (t.1 0), .int cl, .int pc_, .ref (r 75), .ref (r 76)] (xX K r f a g tx) (fun v (u : xS) => kbl (-9223372036854775808) v 9223372036854775807 ∧ xI u.1 u.2.1 ∧ gOK K u.2.2.2 tt ∧ xEk ([], [], []) f a g u.1 u.2.1 u.2.2) (fun u => xX K r u.1 u.2.1 u.2.2 tx) 0 0 := by
  refine kLG.of (cc := cX10_reckon) (maxL := 13) (ret := (some .long)) (by decide) rfl (Nat.le_of_ble_eq_true rfl) ?_
  intro p e s m below meth c A hx hb hr hml hown hts hlocks hnm hK hP hD hS hA hV ls hl
  have hE : xEk ([], [], []) f a g f a g := xEk_rf
  have hg : ∀ w ∈ kG, w.before _ s = true := fun w h => hts w (List.mem_cons_of_mem _ h)
  have hown : s.vm.findClass RX10 = some m.cls := hown
  have hl : lv_has ls 13 [(0, .ref (t.1 0)), (1, .int cl), (2, .int pc_), (3, .ref (r 75)), (4, .ref (r 76))] := hl
  obtain ⟨jt_0, hjt_0⟩ := tIn_at (tIn_w hT ht) (k := 0) rfl
  obtain ⟨jt_1, hjt_1⟩ := tIn_at (tIn_w hT ht) (k := 1) rfl
  obtain ⟨jt_2, hjt_2⟩ := tIn_at (tIn_w hT ht) (k := 2) rfl
  obtain ⟨jt_3, hjt_3⟩ := tIn_at (tIn_w hT ht) (k := 3) rfl
  obtain ⟨jt_4, hjt_4⟩ := tIn_at (tIn_w hT ht) (k := 4) rfl
  have hnt : (nI t.2.2.2).toInt = (t.2.2.2 : Int) := kn_to (by have w1 := ht.1; omega)
  refine lv_iload_n hx hb dX10_reckon_0 rfl (lv_at hl 1 rfl) ?_
  refine lv_iconst (v := 3) hx hb dX10_reckon_1 (by decide) ?_
  refine lv_imul hx hb dX10_reckon_2 ?_
  refine lv_topi (fun t1 et1 => ?_)
  have b2 : kb 0 t1 33 := kb_eq et1 (kb_mul bcl kc_3 (by decide) (by decide) (by decide))
  have qt1 : t1.toInt = cl.toInt * 3 := by rw [et1]; exact kt_mulc bcl kc_3 (by decide) (by decide) (by decide)
  refine lv_iload_n hx hb dX10_reckon_3 rfl (lv_at hl 2 rfl) ?_
  refine lv_iadd hx hb dX10_reckon_4 ?_
  refine lv_topi (fun t3 et3 => ?_)
  have b4 : kb 0 t3 35 := kb_eq et3 (kb_add b2 bpc_ (by decide) (by decide))
  have qt3 : t3.toInt = t1.toInt + pc_.toInt := by rw [et3]; exact kt_add b2 bpc_ (by decide) (by decide)
  refine lv_istore (lv' := [(5, .int t3), (0, .ref (t.1 0)), (1, .int cl), (2, .int pc_), (3, .ref (r 75)), (4, .ref (r 76))]) hx hb dX10_reckon_5 hl (by decide) rfl (fun ls hl => ?_)
  refine lv_iload hx hb dX10_reckon_7 (lv_at hl 0 rfl) ?_
  refine lv_if_lt (tgt := 51) hx hb dX10_reckon_9 (by decide) (fun c5 => ?_) (fun c5 => ?_)
  · have h6 := (kc_lt c5)
    exact kb_no (kr_lt1 h6 b4 kc_0 (H := (-1)) (by decide)) (by decide)
  · have h7 := (kc_nlt c5)
    refine lv_iload hx hb dX10_reckon_12 (lv_at hl 0 rfl) ?_
    refine lv_iconst (v := 1) hx hb dX10_reckon_14 (by decide) ?_
    refine lv_iadd hx hb dX10_reckon_15 ?_
    refine lv_topi (fun t8 et8 => ?_)
    have b9 : kb 1 t8 36 := kb_eq et8 (kb_add b4 kc_1 (by decide) (by decide))
    have qt8 : t8.toInt = t3.toInt + 1 := by rw [et8]; exact kt_addc b4 kc_1 (by decide) (by decide)
    refine lv_aload_n hx hb dX10_reckon_16 rfl (lv_at hl 1 rfl) ?_
    refine va_get (D := D) (ci := 10) (v := .ref (t.1 3)) (C := RX10) (T := TX10) (N := 6) hx hb hg inC10 hown hK hP (jt_0 + 95) hjt_0 rfl 3 (by decide) (hg _ wt2_48) (fun _ h9 => h9) rfl dX10_reckon_17 ?_
    refine va_alen (v := 37) hx hb hK hP (jt_3 + 95) 0 hjt_3 rfl rfl dX10_reckon_20 ?_
    refine lv_icmp_ge (tgt := 51) hx hb dX10_reckon_21 (by decide) (fun c10 => ?_) (fun c10 => ?_)
    · have h11 := (kc_le c10)
      exact kb_no (kr_le1 h11 kc_37 b9) (by decide)
    · have h12 := (kc_nle c10)
      refine lv_aload_n hx hb dX10_reckon_24 rfl (lv_at hl 1 rfl) ?_
      refine va_get (D := D) (ci := 10) (v := .ref (t.1 3)) (C := RX10) (T := TX10) (N := 6) hx hb hg inC10 hown hK hP (jt_0 + 95) hjt_0 rfl 3 (by decide) (hg _ wt2_48) (fun _ h9 => h9) rfl dX10_reckon_25 ?_
      refine lv_iload hx hb dX10_reckon_28 (lv_at hl 0 rfl) ?_
      refine va_iald hx hb hK hP (jt_3 + 95) 0 hjt_3 rfl (kb_in b4 (by decide) (by decide)) dX10_reckon_30 ?_
      refine lv_topi (fun t13 et13 => ?_)
      refine lv_if_lt (tgt := 51) hx hb dX10_reckon_31 (by decide) (fun c14 => ?_) (fun c14 => ?_)
      · have h15 := (kc_lt c14)
        have b16 : kb (-2147483648) t13 (-1) := kr_lt1 h15 (kb_any t13) kc_0 (by decide)
        refine lv_ldc2 (v := (-1000000000000)) hx hb hown (hg _ wt3_100) dX10_reckon_51 ?_
        exact kL_ret (v := (-1000000000000)) hx hb hr hlocks hK hS dX10_reckon_54 (f, a, g) hP hD ⟨(kbl_w kcl_m1000000000000 (by decide) (by decide)), hI, hG, hE⟩
      · have h17 := (kc_nlt c14)
        have b18 : kb 0 t13 2147483647 := kr_le2 h17 kc_0 (kb_any t13)
        refine lv_aload_n hx hb dX10_reckon_34 rfl (lv_at hl 1 rfl) ?_
        refine va_get (D := D) (ci := 10) (v := .ref (t.1 3)) (C := RX10) (T := TX10) (N := 6) hx hb hg inC10 hown hK hP (jt_0 + 95) hjt_0 rfl 3 (by decide) (hg _ wt2_48) (fun _ h9 => h9) rfl dX10_reckon_35 ?_
        refine lv_iload hx hb dX10_reckon_38 (lv_at hl 0 rfl) ?_
        refine lv_iconst (v := 1) hx hb dX10_reckon_40 (by decide) ?_
        refine lv_iadd hx hb dX10_reckon_41 ?_
        refine k_top (z := t8) et8.symm ?_
        refine va_iald hx hb hK hP (jt_3 + 95) 0 hjt_3 rfl (kb_in b9 (by decide) (by decide)) dX10_reckon_42 ?_
        refine lv_topi (fun t19 et19 => ?_)
        refine lv_aload_n hx hb dX10_reckon_43 rfl (lv_at hl 1 rfl) ?_
        refine va_get (D := D) (ci := 10) (v := .ref (t.1 4)) (C := RX10) (T := TX10) (N := 6) hx hb hg inC10 hown hK hP (jt_0 + 95) hjt_0 rfl 4 (by decide) (hg _ wt2_49) (fun _ h9 => h9) rfl dX10_reckon_44 ?_
        refine va_alen (v := nI t.2.2.2) hx hb hK hP (jt_4 + 95) 0 hjt_4 rfl rfl dX10_reckon_47 ?_
        have b20 : kb 0 (nI t.2.2.2) 400 := kb_nI ht.1 (by decide)
        refine lv_icmp_le (tgt := 55) hx hb dX10_reckon_48 (by decide) (fun c21 => ?_) (fun c21 => ?_)
        · have h22 := (kc_le c21)
          have b23 : kb (-2147483648) t19 400 := kr_le1 h22 (kb_any t19) b20
          refine lv_aload_n hx hb dX10_reckon_55 rfl (lv_at hl 1 rfl) ?_
          refine va_get (D := D) (ci := 10) (v := .ref (t.1 3)) (C := RX10) (T := TX10) (N := 6) hx hb hg inC10 hown hK hP (jt_0 + 95) hjt_0 rfl 3 (by decide) (hg _ wt2_48) (fun _ h9 => h9) rfl dX10_reckon_56 ?_
          refine lv_iload hx hb dX10_reckon_59 (lv_at hl 0 rfl) ?_
          refine lv_iconst (v := 1) hx hb dX10_reckon_61 (by decide) ?_
          refine lv_iadd hx hb dX10_reckon_62 ?_
          refine k_top (z := t8) et8.symm ?_
          refine va_iald hx hb hK hP (jt_3 + 95) 0 hjt_3 rfl (kb_in b9 (by decide) (by decide)) dX10_reckon_63 ?_
          refine k_top (z := t19) et19.symm ?_
          refine lv_istore (lv' := [(6, .int t19), (5, .int t3), (0, .ref (t.1 0)), (1, .int cl), (2, .int pc_), (3, .ref (r 75)), (4, .ref (r 76))]) hx hb dX10_reckon_64 hl (by decide) rfl (fun ls hl => ?_)
          refine lv_aload_n hx hb dX10_reckon_66 rfl (lv_at hl 2 rfl) ?_
          refine va_get (D := D) (ci := 10) (v := .ref (t.1 3)) (C := RX10) (T := TX10) (N := 6) hx hb hg inC10 hown hK hP (jt_0 + 95) hjt_0 rfl 3 (by decide) (hg _ wt2_48) (fun _ h9 => h9) rfl dX10_reckon_67 ?_
          refine lv_iload hx hb dX10_reckon_70 (lv_at hl 1 rfl) ?_
          refine va_iald hx hb hK hP (jt_3 + 95) 0 hjt_3 rfl (kb_in b4 (by decide) (by decide)) dX10_reckon_72 ?_
          refine k_top (z := t13) et13.symm ?_
          refine lv_iload hx hb dX10_reckon_73 (lv_at hl 0 rfl) ?_
          refine lv_icmp_lt (tgt := 80) hx hb dX10_reckon_75 (by decide) (fun c24 => ?_) (fun c24 => ?_)
          · have h25 := (kc_lt c24)
            have b26 : kb 0 t13 399 := kr_lt1 h25 b18 b23 (by decide)
            have b27 : kb 1 t19 400 := kr_lt2 h25 b18 b23 (by decide)
            refine lv_iconst (v := 0) hx hb dX10_reckon_80 (by decide) ?_
            refine lv_istore (lv' := [(7, .int 0), (6, .int t19), (5, .int t3), (0, .ref (t.1 0)), (1, .int cl), (2, .int pc_), (3, .ref (r 75)), (4, .ref (r 76))]) hx hb dX10_reckon_81 hl (by decide) rfl (fun ls hl => ?_)
            refine lv_aload_n hx hb dX10_reckon_83 rfl (lv_at hl 3 rfl) ?_
            refine va_get (D := D) (ci := 10) (v := .ref (t.1 3)) (C := RX10) (T := TX10) (N := 6) hx hb hg inC10 hown hK hP (jt_0 + 95) hjt_0 rfl 3 (by decide) (hg _ wt2_48) (fun _ h9 => h9) rfl dX10_reckon_84 ?_
            refine lv_iload hx hb dX10_reckon_87 (lv_at hl 2 rfl) ?_
            refine va_iald hx hb hK hP (jt_3 + 95) 0 hjt_3 rfl (kb_in b4 (by decide) (by decide)) dX10_reckon_89 ?_
            refine k_top (z := t13) et13.symm ?_
            refine lv_istore (lv' := [(8, .int t13), (7, .int 0), (6, .int t19), (5, .int t3), (0, .ref (t.1 0)), (1, .int cl), (2, .int pc_), (3, .ref (r 75)), (4, .ref (r 76))]) hx hb dX10_reckon_90 hl (by decide) rfl (fun ls hl => ?_)
            have lp31 : ∀ (n32 : Nat) (G30 : xG) (H : Heap) (locs : List Loc) (ls : Array Slot) (y28 : Int32) (y29 : Int32), ((4096 : Int) < y28.toInt + (n32 : Int)) → (xI f a) → (gOK K G30.2 tt) → (xEk ([], [], []) f a g f a G30) → (kb 0 y28 4096) → (kb 0 y29 32) → va_P D vwCl (xX K r f a G30 tx) H → va_D A (xX K r f a G30 tx) → va_S A s.heap H locs → lv_has ls 13 [(8, .int y28), (7, .int y29), (6, .int t19), (5, .int t3), (0, .ref (t.1 0)), (1, .int cl), (2, .int pc_), (3, .ref (r 75)), (4, .ref (r 76))] → W p l e (rmD 2 0 0) s m ([.ref (t.1 0), .int cl, .int pc_, .ref (r 75), .ref (r 76)] : List Value).toArray below meth c H locs 0 0 (kQl D (tysK K) (fun v (u : xS) => kbl (-9223372036854775808) v 9223372036854775807 ∧ xI u.1 u.2.1 ∧ gOK K u.2.2.2 tt ∧ xEk ([], [], []) f a g u.1 u.2.1 u.2.2) (fun u => xX K r u.1 u.2.1 u.2.2 tx) A below ([.ref (t.1 0), .int cl, .int pc_, .ref (r 75), .ref (r 76)] : List Value).toArray s 0 0) (F0 m 92 ls []) := by
              intro n32
              induction n32 with
              | zero =>
                intro  G30  H locs ls y28 y29 hmlp31 hI hG hE b33 b34 hP hD hS hl
                exact (by have w1b33 := b33.1; have w2b33 := b33.2; have w1b34 := b34.1; have w2b34 := b34.2; have h2 := hmlp31; omega : False).elim
              | succ n32 ihlp31 =>
                intro  G30  H locs ls y28 y29 hmlp31 hI hG hE b33 b34 hP hD hS hl
                refine lv_iload hx hb dX10_reckon_92 (lv_at hl 0 rfl) ?_
                refine lv_iload hx hb dX10_reckon_94 (lv_at hl 2 rfl) ?_
                refine lv_icmp_ge (tgt := 342) hx hb dX10_reckon_96 (by decide) (fun c35 => ?_) (fun c35 => ?_)
                · have h36 := (kc_le c35)
                  have b37 : kb 1 y28 4096 := kr_le2 h36 b27 b33
                  refine lv_iload hx hb dX10_reckon_342 (lv_at hl 1 rfl) ?_
                  refine lv_iconst (v := 1) hx hb dX10_reckon_344 (by decide) ?_
                  refine lv_icmp_ne (tgt := 355) hx hb dX10_reckon_345 (by decide) (fun c38 => ?_) (fun c38 => ?_)
                  · refine lv_ldc2 (v := (-1000000000000)) hx hb hown (hg _ wt3_100) dX10_reckon_355 ?_
                    exact kL_ret (v := (-1000000000000)) hx hb hr hlocks hK hS dX10_reckon_358 (f, a, G30) hP hD ⟨(kbl_w kcl_m1000000000000 (by decide) (by decide)), hI, hG, hE⟩
                  · have b39 : kb 1 y29 1 := kb_eq c38 kc_1
                    refine lv_aload hx hb dX10_reckon_348 (lv_at hl 8 rfl) ?_
                    refine lv_iconst (v := 0) hx hb dX10_reckon_350 (by decide) ?_
                    refine va_lald hx hb hK hP 76 3 rfl rfl (kb_in kc_0 (by decide) (by decide)) dX10_reckon_351 ?_
                    refine lv_topl (fun t40 et40 => ?_)
                    refine lv_goto (tgt := 358) hx hb dX10_reckon_352 (by decide) ?_
                    exact kL_ret (v := t40) hx hb hr hlocks hK hS dX10_reckon_358 (f, a, G30) hP hD ⟨(kbl_any t40), hI, hG, hE⟩
                · have h41 := (kc_nle c35)
                  have b42 : kb 0 y28 399 := kr_lt1 h41 b33 b27 (by decide)
                  refine lv_aload_n hx hb dX10_reckon_99 rfl (lv_at hl 4 rfl) ?_
                  refine va_get (D := D) (ci := 10) (v := .ref (t.1 4)) (C := RX10) (T := TX10) (N := 6) hx hb hg inC10 hown hK hP (jt_0 + 95) hjt_0 rfl 4 (by decide) (hg _ wt2_49) (fun _ h9 => h9) rfl dX10_reckon_100 ?_
                  refine lv_iload hx hb dX10_reckon_103 (lv_at hl 0 rfl) ?_
                  refine va_iald hx hb hK hP (jt_4 + 95) 0 hjt_4 rfl (kb_inn (by have w1 := (b42).1; omega) (by omega)) dX10_reckon_105 ?_
                  refine lv_topi (fun t43 et43 => ?_)
                  have b44 : kb 0 t43 65535 := kb_eq et43 (ht.2.2.2 _)
                  refine lv_bipush (v := 12) hx hb dX10_reckon_106 (by decide) ?_
                  refine lv_ishr hx hb dX10_reckon_108 ?_
                  refine lv_topi (fun t45 et45 => ?_)
                  have b46 : kb 0 t45 15 := kb_eq et45 (kb_shr12 b44 (by decide))
                  refine lv_istore (lv' := [(9, .int t45), (8, .int y28), (7, .int y29), (6, .int t19), (5, .int t3), (0, .ref (t.1 0)), (1, .int cl), (2, .int pc_), (3, .ref (r 75)), (4, .ref (r 76))]) hx hb dX10_reckon_109 hl (by decide) rfl (fun ls hl => ?_)
                  refine lv_aload_n hx hb dX10_reckon_111 rfl (lv_at hl 5 rfl) ?_
                  refine va_get (D := D) (ci := 10) (v := .ref (t.1 4)) (C := RX10) (T := TX10) (N := 6) hx hb hg inC10 hown hK hP (jt_0 + 95) hjt_0 rfl 4 (by decide) (hg _ wt2_49) (fun _ h9 => h9) rfl dX10_reckon_112 ?_
                  refine lv_iload hx hb dX10_reckon_115 (lv_at hl 1 rfl) ?_
                  refine va_iald hx hb hK hP (jt_4 + 95) 0 hjt_4 rfl (kb_inn (by have w1 := (b42).1; omega) (by omega)) dX10_reckon_117 ?_
                  refine k_top (z := t43) et43.symm ?_
                  refine lv_sipush (v := 4095) hx hb dX10_reckon_118 (by decide) ?_
                  refine lv_iand hx hb dX10_reckon_121 ?_
                  refine lv_topi (fun t47 et47 => ?_)
                  have b48 : kb 0 t47 4095 := kb_eq et47 (kb_and 12 (by decide) (by decide))
                  refine lv_istore (lv' := [(10, .int t47), (9, .int t45), (8, .int y28), (7, .int y29), (6, .int t19), (5, .int t3), (0, .ref (t.1 0)), (1, .int cl), (2, .int pc_), (3, .ref (r 75)), (4, .ref (r 76))]) hx hb dX10_reckon_122 hl (by decide) rfl (fun ls hl => ?_)
                  refine lv_iload hx hb dX10_reckon_124 (lv_at hl 1 rfl) ?_
                  refine lv_iconst (v := 1) hx hb dX10_reckon_126 (by decide) ?_
                  refine lv_icmp_gt (tgt := 181) hx hb dX10_reckon_127 (by decide) (fun c49 => ?_) (fun c49 => ?_)
                  · have h50 := (kc_lt c49)
                    have b51 : kb 2 t45 15 := kr_lt2 h50 kc_1 b46 (by decide)
                    refine lv_iload hx hb dX10_reckon_181 (lv_at hl 3 rfl) ?_
                    refine lv_iconst (v := 1) hx hb dX10_reckon_183 (by decide) ?_
                    refine lv_icmp_ge (tgt := 191) hx hb dX10_reckon_184 (by decide) (fun c52 => ?_) (fun c52 => ?_)
                    · have h53 := (kc_le c52)
                      have b54 : kb 1 y29 32 := kr_le2 h53 kc_1 b34
                      refine lv_iload hx hb dX10_reckon_191 (lv_at hl 1 rfl) ?_
                      refine lv_iconst (v := 2) hx hb dX10_reckon_193 (by decide) ?_
                      refine lv_icmp_ne (tgt := 216) hx hb dX10_reckon_194 (by decide) (fun c55 => ?_) (fun c55 => ?_)
                      · have b56 : kb 3 t45 15 := kr_nel c55 b51 kc_2 (by decide)
                        refine lv_iload hx hb dX10_reckon_216 (lv_at hl 1 rfl) ?_
                        refine lv_iconst (v := 4) hx hb dX10_reckon_218 (by decide) ?_
                        refine lv_icmp_gt (tgt := 280) hx hb dX10_reckon_219 (by decide) (fun c57 => ?_) (fun c57 => ?_)
                        · have h58 := (kc_lt c57)
                          have b59 : kb 5 t45 15 := kr_lt2 h58 kc_4 b56 (by decide)
                          refine lv_iload hx hb dX10_reckon_280 (lv_at hl 3 rfl) ?_
                          refine lv_iconst (v := 2) hx hb dX10_reckon_282 (by decide) ?_
                          refine lv_icmp_ge (tgt := 290) hx hb dX10_reckon_283 (by decide) (fun c60 => ?_) (fun c60 => ?_)
                          · have h61 := (kc_le c60)
                            have b62 : kb 2 y29 32 := kr_le2 h61 kc_2 b54
                            refine lv_iload hx hb dX10_reckon_290 (lv_at hl 1 rfl) ?_
                            refine lv_aload hx hb dX10_reckon_292 (lv_at hl 10 rfl) ?_
                            refine lv_iload hx hb dX10_reckon_294 (lv_at hl 3 rfl) ?_
                            refine lv_iconst (v := 2) hx hb dX10_reckon_296 (by decide) ?_
                            refine lv_isub hx hb dX10_reckon_297 ?_
                            refine lv_topi (fun t63 et63 => ?_)
                            have b64 : kb 0 t63 30 := kb_eq et63 (kb_sub b62 kc_2 (by decide) (by decide))
                            have qt63 : t63.toInt = y29.toInt - 2 := by rw [et63]; exact kt_subc b62 kc_2 (by decide) (by decide)
                            refine va_lald hx hb hK hP 76 3 rfl rfl (kb_in b64 (by decide) (by decide)) dX10_reckon_298 ?_
                            refine lv_topl (fun t65 et65 => ?_)
                            refine lv_aload hx hb dX10_reckon_299 (lv_at hl 10 rfl) ?_
                            refine lv_iload hx hb dX10_reckon_301 (lv_at hl 3 rfl) ?_
                            refine lv_iconst (v := 1) hx hb dX10_reckon_303 (by decide) ?_
                            refine lv_isub hx hb dX10_reckon_304 ?_
                            refine lv_topi (fun t66 et66 => ?_)
                            have b67 : kb 1 t66 31 := kb_eq et66 (kb_sub b62 kc_1 (by decide) (by decide))
                            have qt66 : t66.toInt = y29.toInt - 1 := by rw [et66]; exact kt_subc b62 kc_1 (by decide) (by decide)
                            refine va_lald hx hb hK hP 76 3 rfl rfl (kb_in b67 (by decide) (by decide)) dX10_reckon_305 ?_
                            refine lv_topl (fun t68 et68 => ?_)
                            refine kNL.callS (As := [.int t45, .long t65, .long t68]) (rest := []) ⟨hx, hb, hml, hown, hg⟩ (x_10_joined l t45 t65 t68 ) (va_cwS 3 hg (kgS wt3_101 wt3_102 wt1_8 wt3_103) rfl rfl rfl (by decide +kernel) ⟨by decide, by decide⟩) hP hS rfl hl.1 rfl (Nat.le_of_ble_eq_true rfl) dX10_reckon_306 ⟨Nat.le_refl _, Nat.le_refl _⟩ (fun v70 H locs hw69 hP hS => ?_)
                            have hP : va_P D vwCl (xX K r f a G30 tx) H := hP
                            refine lv_lstore (lv' := [(11, .long v70), (10, .int t47), (9, .int t45), (8, .int y28), (7, .int y29), (6, .int t19), (5, .int t3), (0, .ref (t.1 0)), (1, .int cl), (2, .int pc_), (3, .ref (r 75)), (4, .ref (r 76))]) hx hb dX10_reckon_309 hl (by decide) rfl (fun ls hl => ?_)
                            refine lv_lload hx hb dX10_reckon_311 (lv_at hl 0 rfl) ?_
                            refine lv_ldc2 (v := (-1000000000000)) hx hb hown (hg _ wt3_100) dX10_reckon_313 ?_
                            refine W.lcmp hx hb dX10_reckon_316 ?_
                            refine lv_topi (fun t71 et71 => ?_)
                            refine lv_if_ne (tgt := 324) hx hb dX10_reckon_317 (by decide) (fun c72 => ?_) (fun c72 => ?_)
                            · have h73 := klc_ne (et71 ▸ c72)
                              obtain ⟨t74, et74⟩ : ∃ z : Int32, z = y29 + Int32.ofInt (-1) := ⟨_, rfl⟩
                              have qt74 : t74.toInt = y29.toInt - 1 := by rw [et74]; exact km_dec b62 (by decide)
                              have b75 : kb 1 t74 31 := kb_inc (k := (-1)) qt74 b62
                              refine lv_iinc (v := t74) (lv' := [(7, .int t74), (11, .long v70), (10, .int t47), (9, .int t45), (8, .int y28), (6, .int t19), (5, .int t3), (0, .ref (t.1 0)), (1, .int cl), (2, .int pc_), (3, .ref (r 75)), (4, .ref (r 76))]) hx hb dX10_reckon_324 hl (k := 4) rfl et74.symm (by decide) rfl (fun ls hl => ?_)
                              refine lv_aload hx hb dX10_reckon_327 (lv_at hl 11 rfl) ?_
                              refine lv_iload hx hb dX10_reckon_329 (lv_at hl 0 rfl) ?_
                              refine lv_iconst (v := 1) hx hb dX10_reckon_331 (by decide) ?_
                              refine lv_isub hx hb dX10_reckon_332 ?_
                              refine lv_topi (fun t76 et76 => ?_)
                              have b77 : kb 0 t76 30 := kb_eq et76 (kb_sub b75 kc_1 (by decide) (by decide))
                              have qt76 : t76.toInt = t74.toInt - 1 := by rw [et76]; exact kt_subc b75 kc_1 (by decide) (by decide)
                              refine lv_lload hx hb dX10_reckon_333 (lv_at hl 1 rfl) ?_
                              refine va_last hx hb hK hP hD hS 76 3 rfl rfl (kb_in b77 (by decide) (by decide)) dX10_reckon_335 (fun H locs hP hD hS => ?_)
                              have hP : va_P D vwCl (xX K r f a (va_up G30.1 76 (va_up (G30.1 76) t76.toNatClampNeg v70), G30.2) tx) H := hP
                              have hD : va_D A (xX K r f a (va_up G30.1 76 (va_up (G30.1 76) t76.toNatClampNeg v70), G30.2) tx) := hD
                              refine k_gen (P := fun z => va_P D vwCl (xX K r f a z tx) H ∧ va_D A (xX K r f a z tx) ∧ (xI f a) ∧ (gOK K z.2 tt) ∧ (xEk ([], [], []) f a g f a z)) ((va_up G30.1 76 (va_up (G30.1 76) t76.toNatClampNeg v70), G30.2)) ⟨hP, hD, hI, hG, (xEk_g hE)⟩ (fun g_78 eg_78 hq => ?_)
                              obtain ⟨hP, hD, hI, hG, hE⟩ := hq
                              obtain ⟨t79, et79⟩ : ∃ z : Int32, z = y28 + Int32.ofInt 1 := ⟨_, rfl⟩
                              have qt79 : t79.toInt = y28.toInt + 1 := by rw [et79]; exact km_inc b42 (by decide) (by decide)
                              have b80 : kb 1 t79 400 := kb_inc (k := 1) qt79 b42
                              refine lv_iinc (v := t79) (lv' := [(8, .int t79), (7, .int t74), (11, .long v70), (10, .int t47), (9, .int t45), (6, .int t19), (5, .int t3), (0, .ref (t.1 0)), (1, .int cl), (2, .int pc_), (3, .ref (r 75)), (4, .ref (r 76))]) hx hb dX10_reckon_336 hl (k := 4) rfl et79.symm (by decide) rfl (fun ls hl => ?_)
                              refine lv_goto (tgt := 92) hx hb dX10_reckon_339 (by decide) ?_
                              exact ihlp31  g_78 _ _ _ t79 t74 (by omega) hI hG hE (kb_w b80 (by decide) (by decide)) (kb_w b75 (by decide) (by decide)) hP hD hS (lv_sub hl [0, 1, 5, 6, 7, 8, 9, 10, 11] rfl)
                            · have h81 := klc_eq (et71 ▸ c72)
                              refine lv_ldc2 (v := (-1000000000000)) hx hb hown (hg _ wt3_100) dX10_reckon_320 ?_
                              exact kL_ret (v := (-1000000000000)) hx hb hr hlocks hK hS dX10_reckon_323 (f, a, G30) hP hD ⟨(kbl_w kcl_m1000000000000 (by decide) (by decide)), hI, hG, hE⟩
                          · have h82 := (kc_nle c60)
                            have b83 : kb 1 y29 1 := kr_lt1 h82 b54 kc_2 (by decide)
                            refine lv_ldc2 (v := (-1000000000000)) hx hb hown (hg _ wt3_100) dX10_reckon_286 ?_
                            exact kL_ret (v := (-1000000000000)) hx hb hr hlocks hK hS dX10_reckon_289 (f, a, G30) hP hD ⟨(kbl_w kcl_m1000000000000 (by decide) (by decide)), hI, hG, hE⟩
                        · have h84 := (kc_nlt c57)
                          have b85 : kb 3 t45 4 := kr_le1 h84 b56 kc_4
                          refine lv_aload hx hb dX10_reckon_222 (lv_at hl 10 rfl) ?_
                          refine lv_iload hx hb dX10_reckon_224 (lv_at hl 3 rfl) ?_
                          refine lv_iconst (v := 1) hx hb dX10_reckon_226 (by decide) ?_
                          refine lv_isub hx hb dX10_reckon_227 ?_
                          refine lv_topi (fun t86 et86 => ?_)
                          have b87 : kb 0 t86 31 := kb_eq et86 (kb_sub b54 kc_1 (by decide) (by decide))
                          have qt86 : t86.toInt = y29.toInt - 1 := by rw [et86]; exact kt_subc b54 kc_1 (by decide) (by decide)
                          refine va_lald hx hb hK hP 76 3 rfl rfl (kb_in b87 (by decide) (by decide)) dX10_reckon_228 ?_
                          refine lv_topl (fun t88 et88 => ?_)
                          refine lv_lconst (v := 0) hx hb dX10_reckon_229 (by decide) ?_
                          refine W.lcmp hx hb dX10_reckon_230 ?_
                          refine lv_topi (fun t89 et89 => ?_)
                          refine lv_if_eq (tgt := 238) hx hb dX10_reckon_231 (by decide) (fun c90 => ?_) (fun c90 => ?_)
                          · have h91 := klc_eq (et89 ▸ c90)
                            refine lv_iconst (v := 0) hx hb dX10_reckon_238 (by decide) ?_
                            refine lv_iload hx hb dX10_reckon_239 (lv_at hl 1 rfl) ?_
                            refine lv_iconst (v := 3) hx hb dX10_reckon_241 (by decide) ?_
                            refine lv_icmp_ne (tgt := 249) hx hb dX10_reckon_242 (by decide) (fun c92 => ?_) (fun c92 => ?_)
                            · have b93 : kb 4 t45 4 := kr_nel c92 b85 kc_3 (by decide)
                              refine lv_iconst (v := 0) hx hb dX10_reckon_249 (by decide) ?_
                              refine lv_icmp_ne (tgt := 274) hx hb dX10_reckon_250 (by decide) (fun c94 => ?_) (fun c94 => ?_)
                              · exact kb_nsame c94 kc_0 kc_0
                              · refine lv_iload hx hb dX10_reckon_253 (lv_at hl 0 rfl) ?_
                                refine lv_iload hx hb dX10_reckon_255 (lv_at hl 2 rfl) ?_
                                refine lv_icmp_le (tgt := 267) hx hb dX10_reckon_257 (by decide) (fun c95 => ?_) (fun c95 => ?_)
                                · have h96 := (kc_le c95)
                                  have b97 : kb 0 t47 399 := kr_le1 h96 b48 b42
                                  refine lv_iload hx hb dX10_reckon_267 (lv_at hl 4 rfl) ?_
                                  refine lv_istore (lv' := [(8, .int t19), (10, .int t47), (9, .int t45), (7, .int y29), (6, .int t19), (5, .int t3), (0, .ref (t.1 0)), (1, .int cl), (2, .int pc_), (3, .ref (r 75)), (4, .ref (r 76))]) hx hb dX10_reckon_269 hl (by decide) rfl (fun ls hl => ?_)
                                  refine lv_goto (tgt := 336) hx hb dX10_reckon_271 (by decide) ?_
                                  obtain ⟨t98, et98⟩ : ∃ z : Int32, z = t19 + Int32.ofInt 1 := ⟨_, rfl⟩
                                  have qt98 : t98.toInt = t19.toInt + 1 := by rw [et98]; exact km_inc b27 (by decide) (by decide)
                                  have b99 : kb 2 t98 401 := kb_inc (k := 1) qt98 b27
                                  refine lv_iinc (v := t98) (lv' := [(8, .int t98), (10, .int t47), (9, .int t45), (7, .int y29), (6, .int t19), (5, .int t3), (0, .ref (t.1 0)), (1, .int cl), (2, .int pc_), (3, .ref (r 75)), (4, .ref (r 76))]) hx hb dX10_reckon_336 hl (k := 0) rfl et98.symm (by decide) rfl (fun ls hl => ?_)
                                  refine lv_goto (tgt := 92) hx hb dX10_reckon_339 (by decide) ?_
                                  exact ihlp31  G30 _ _ _ t98 y29 (by omega) hI hG hE (kb_w b99 (by decide) (by decide)) (kb_w b54 (by decide) (by decide)) hP hD hS (lv_sub hl [0, 3, 4, 5, 6, 7, 8, 9, 10] rfl)
                                · have h100 := (kc_nle c95)
                                  have b101 : kb 1 t47 4095 := kr_lt2 h100 b42 b48 (by decide)
                                  refine lv_iload hx hb dX10_reckon_260 (lv_at hl 0 rfl) ?_
                                  refine lv_iconst (v := 1) hx hb dX10_reckon_262 (by decide) ?_
                                  refine lv_isub hx hb dX10_reckon_263 ?_
                                  refine lv_topi (fun t102 et102 => ?_)
                                  have b103 : kb 0 t102 4094 := kb_eq et102 (kb_sub b101 kc_1 (by decide) (by decide))
                                  have qt102 : t102.toInt = t47.toInt - 1 := by rw [et102]; exact kt_subc b101 kc_1 (by decide) (by decide)
                                  refine lv_goto (tgt := 269) hx hb dX10_reckon_264 (by decide) ?_
                                  refine lv_istore (lv' := [(8, .int t102), (10, .int t47), (9, .int t45), (7, .int y29), (6, .int t19), (5, .int t3), (0, .ref (t.1 0)), (1, .int cl), (2, .int pc_), (3, .ref (r 75)), (4, .ref (r 76))]) hx hb dX10_reckon_269 hl (by decide) rfl (fun ls hl => ?_)
                                  refine lv_goto (tgt := 336) hx hb dX10_reckon_271 (by decide) ?_
                                  obtain ⟨t104, et104⟩ : ∃ z : Int32, z = t102 + Int32.ofInt 1 := ⟨_, rfl⟩
                                  have qt104 : t104.toInt = t102.toInt + 1 := by rw [et104]; exact km_inc b103 (by decide) (by decide)
                                  have b105 : kb 1 t104 4095 := kb_inc (k := 1) qt104 b103
                                  refine lv_iinc (v := t104) (lv' := [(8, .int t104), (10, .int t47), (9, .int t45), (7, .int y29), (6, .int t19), (5, .int t3), (0, .ref (t.1 0)), (1, .int cl), (2, .int pc_), (3, .ref (r 75)), (4, .ref (r 76))]) hx hb dX10_reckon_336 hl (k := 0) rfl et104.symm (by decide) rfl (fun ls hl => ?_)
                                  refine lv_goto (tgt := 92) hx hb dX10_reckon_339 (by decide) ?_
                                  exact ihlp31  G30 _ _ _ t104 y29 (by omega) hI hG hE (kb_w b105 (by decide) (by decide)) (kb_w b54 (by decide) (by decide)) hP hD hS (lv_sub hl [0, 3, 4, 5, 6, 7, 8, 9, 10] rfl)
                            · have b106 : kb 3 t45 3 := kb_eq c92 kc_3
                              refine lv_iconst (v := 1) hx hb dX10_reckon_245 (by decide) ?_
                              refine lv_goto (tgt := 250) hx hb dX10_reckon_246 (by decide) ?_
                              refine lv_icmp_ne (tgt := 274) hx hb dX10_reckon_250 (by decide) (fun c107 => ?_) (fun c107 => ?_)
                              · obtain ⟨t108, et108⟩ : ∃ z : Int32, z = y29 + Int32.ofInt (-1) := ⟨_, rfl⟩
                                have qt108 : t108.toInt = y29.toInt - 1 := by rw [et108]; exact km_dec b54 (by decide)
                                have b109 : kb 0 t108 31 := kb_inc (k := (-1)) qt108 b54
                                refine lv_iinc (v := t108) (lv' := [(7, .int t108), (10, .int t47), (9, .int t45), (8, .int y28), (6, .int t19), (5, .int t3), (0, .ref (t.1 0)), (1, .int cl), (2, .int pc_), (3, .ref (r 75)), (4, .ref (r 76))]) hx hb dX10_reckon_274 hl (k := 3) rfl et108.symm (by decide) rfl (fun ls hl => ?_)
                                refine lv_goto (tgt := 336) hx hb dX10_reckon_277 (by decide) ?_
                                obtain ⟨t110, et110⟩ : ∃ z : Int32, z = y28 + Int32.ofInt 1 := ⟨_, rfl⟩
                                have qt110 : t110.toInt = y28.toInt + 1 := by rw [et110]; exact km_inc b42 (by decide) (by decide)
                                have b111 : kb 1 t110 400 := kb_inc (k := 1) qt110 b42
                                refine lv_iinc (v := t110) (lv' := [(8, .int t110), (7, .int t108), (10, .int t47), (9, .int t45), (6, .int t19), (5, .int t3), (0, .ref (t.1 0)), (1, .int cl), (2, .int pc_), (3, .ref (r 75)), (4, .ref (r 76))]) hx hb dX10_reckon_336 hl (k := 3) rfl et110.symm (by decide) rfl (fun ls hl => ?_)
                                refine lv_goto (tgt := 92) hx hb dX10_reckon_339 (by decide) ?_
                                exact ihlp31  G30 _ _ _ t110 t108 (by omega) hI hG hE (kb_w b111 (by decide) (by decide)) (kb_w b109 (by decide) (by decide)) hP hD hS (lv_sub hl [0, 1, 4, 5, 6, 7, 8, 9, 10] rfl)
                              · exact kb_dj c107 kc_0 kc_1 (by decide)
                          · have h112 := klc_ne (et89 ▸ c90)
                            refine lv_iconst (v := 1) hx hb dX10_reckon_234 (by decide) ?_
                            refine lv_goto (tgt := 239) hx hb dX10_reckon_235 (by decide) ?_
                            refine lv_iload hx hb dX10_reckon_239 (lv_at hl 1 rfl) ?_
                            refine lv_iconst (v := 3) hx hb dX10_reckon_241 (by decide) ?_
                            refine lv_icmp_ne (tgt := 249) hx hb dX10_reckon_242 (by decide) (fun c113 => ?_) (fun c113 => ?_)
                            · have b114 : kb 4 t45 4 := kr_nel c113 b85 kc_3 (by decide)
                              refine lv_iconst (v := 0) hx hb dX10_reckon_249 (by decide) ?_
                              refine lv_icmp_ne (tgt := 274) hx hb dX10_reckon_250 (by decide) (fun c115 => ?_) (fun c115 => ?_)
                              · obtain ⟨t116, et116⟩ : ∃ z : Int32, z = y29 + Int32.ofInt (-1) := ⟨_, rfl⟩
                                have qt116 : t116.toInt = y29.toInt - 1 := by rw [et116]; exact km_dec b54 (by decide)
                                have b117 : kb 0 t116 31 := kb_inc (k := (-1)) qt116 b54
                                refine lv_iinc (v := t116) (lv' := [(7, .int t116), (10, .int t47), (9, .int t45), (8, .int y28), (6, .int t19), (5, .int t3), (0, .ref (t.1 0)), (1, .int cl), (2, .int pc_), (3, .ref (r 75)), (4, .ref (r 76))]) hx hb dX10_reckon_274 hl (k := 3) rfl et116.symm (by decide) rfl (fun ls hl => ?_)
                                refine lv_goto (tgt := 336) hx hb dX10_reckon_277 (by decide) ?_
                                obtain ⟨t118, et118⟩ : ∃ z : Int32, z = y28 + Int32.ofInt 1 := ⟨_, rfl⟩
                                have qt118 : t118.toInt = y28.toInt + 1 := by rw [et118]; exact km_inc b42 (by decide) (by decide)
                                have b119 : kb 1 t118 400 := kb_inc (k := 1) qt118 b42
                                refine lv_iinc (v := t118) (lv' := [(8, .int t118), (7, .int t116), (10, .int t47), (9, .int t45), (6, .int t19), (5, .int t3), (0, .ref (t.1 0)), (1, .int cl), (2, .int pc_), (3, .ref (r 75)), (4, .ref (r 76))]) hx hb dX10_reckon_336 hl (k := 3) rfl et118.symm (by decide) rfl (fun ls hl => ?_)
                                refine lv_goto (tgt := 92) hx hb dX10_reckon_339 (by decide) ?_
                                exact ihlp31  G30 _ _ _ t118 t116 (by omega) hI hG hE (kb_w b119 (by decide) (by decide)) (kb_w b117 (by decide) (by decide)) hP hD hS (lv_sub hl [0, 1, 4, 5, 6, 7, 8, 9, 10] rfl)
                              · exact kb_dj c115 kc_1 kc_0 (by decide)
                            · have b120 : kb 3 t45 3 := kb_eq c113 kc_3
                              refine lv_iconst (v := 1) hx hb dX10_reckon_245 (by decide) ?_
                              refine lv_goto (tgt := 250) hx hb dX10_reckon_246 (by decide) ?_
                              refine lv_icmp_ne (tgt := 274) hx hb dX10_reckon_250 (by decide) (fun c121 => ?_) (fun c121 => ?_)
                              · exact kb_nsame c121 kc_1 kc_1
                              · refine lv_iload hx hb dX10_reckon_253 (lv_at hl 0 rfl) ?_
                                refine lv_iload hx hb dX10_reckon_255 (lv_at hl 2 rfl) ?_
                                refine lv_icmp_le (tgt := 267) hx hb dX10_reckon_257 (by decide) (fun c122 => ?_) (fun c122 => ?_)
                                · have h123 := (kc_le c122)
                                  have b124 : kb 0 t47 399 := kr_le1 h123 b48 b42
                                  refine lv_iload hx hb dX10_reckon_267 (lv_at hl 4 rfl) ?_
                                  refine lv_istore (lv' := [(8, .int t19), (10, .int t47), (9, .int t45), (7, .int y29), (6, .int t19), (5, .int t3), (0, .ref (t.1 0)), (1, .int cl), (2, .int pc_), (3, .ref (r 75)), (4, .ref (r 76))]) hx hb dX10_reckon_269 hl (by decide) rfl (fun ls hl => ?_)
                                  refine lv_goto (tgt := 336) hx hb dX10_reckon_271 (by decide) ?_
                                  obtain ⟨t125, et125⟩ : ∃ z : Int32, z = t19 + Int32.ofInt 1 := ⟨_, rfl⟩
                                  have qt125 : t125.toInt = t19.toInt + 1 := by rw [et125]; exact km_inc b27 (by decide) (by decide)
                                  have b126 : kb 2 t125 401 := kb_inc (k := 1) qt125 b27
                                  refine lv_iinc (v := t125) (lv' := [(8, .int t125), (10, .int t47), (9, .int t45), (7, .int y29), (6, .int t19), (5, .int t3), (0, .ref (t.1 0)), (1, .int cl), (2, .int pc_), (3, .ref (r 75)), (4, .ref (r 76))]) hx hb dX10_reckon_336 hl (k := 0) rfl et125.symm (by decide) rfl (fun ls hl => ?_)
                                  refine lv_goto (tgt := 92) hx hb dX10_reckon_339 (by decide) ?_
                                  exact ihlp31  G30 _ _ _ t125 y29 (by omega) hI hG hE (kb_w b126 (by decide) (by decide)) (kb_w b54 (by decide) (by decide)) hP hD hS (lv_sub hl [0, 3, 4, 5, 6, 7, 8, 9, 10] rfl)
                                · have h127 := (kc_nle c122)
                                  have b128 : kb 1 t47 4095 := kr_lt2 h127 b42 b48 (by decide)
                                  refine lv_iload hx hb dX10_reckon_260 (lv_at hl 0 rfl) ?_
                                  refine lv_iconst (v := 1) hx hb dX10_reckon_262 (by decide) ?_
                                  refine lv_isub hx hb dX10_reckon_263 ?_
                                  refine lv_topi (fun t129 et129 => ?_)
                                  have b130 : kb 0 t129 4094 := kb_eq et129 (kb_sub b128 kc_1 (by decide) (by decide))
                                  have qt129 : t129.toInt = t47.toInt - 1 := by rw [et129]; exact kt_subc b128 kc_1 (by decide) (by decide)
                                  refine lv_goto (tgt := 269) hx hb dX10_reckon_264 (by decide) ?_
                                  refine lv_istore (lv' := [(8, .int t129), (10, .int t47), (9, .int t45), (7, .int y29), (6, .int t19), (5, .int t3), (0, .ref (t.1 0)), (1, .int cl), (2, .int pc_), (3, .ref (r 75)), (4, .ref (r 76))]) hx hb dX10_reckon_269 hl (by decide) rfl (fun ls hl => ?_)
                                  refine lv_goto (tgt := 336) hx hb dX10_reckon_271 (by decide) ?_
                                  obtain ⟨t131, et131⟩ : ∃ z : Int32, z = t129 + Int32.ofInt 1 := ⟨_, rfl⟩
                                  have qt131 : t131.toInt = t129.toInt + 1 := by rw [et131]; exact km_inc b130 (by decide) (by decide)
                                  have b132 : kb 1 t131 4095 := kb_inc (k := 1) qt131 b130
                                  refine lv_iinc (v := t131) (lv' := [(8, .int t131), (10, .int t47), (9, .int t45), (7, .int y29), (6, .int t19), (5, .int t3), (0, .ref (t.1 0)), (1, .int cl), (2, .int pc_), (3, .ref (r 75)), (4, .ref (r 76))]) hx hb dX10_reckon_336 hl (k := 0) rfl et131.symm (by decide) rfl (fun ls hl => ?_)
                                  refine lv_goto (tgt := 92) hx hb dX10_reckon_339 (by decide) ?_
                                  exact ihlp31  G30 _ _ _ t131 y29 (by omega) hI hG hE (kb_w b132 (by decide) (by decide)) (kb_w b54 (by decide) (by decide)) hP hD hS (lv_sub hl [0, 3, 4, 5, 6, 7, 8, 9, 10] rfl)
                      · have b133 : kb 2 t45 2 := kb_eq c55 kc_2
                        refine lv_aload hx hb dX10_reckon_197 (lv_at hl 10 rfl) ?_
                        refine lv_iload hx hb dX10_reckon_199 (lv_at hl 3 rfl) ?_
                        refine lv_iconst (v := 1) hx hb dX10_reckon_201 (by decide) ?_
                        refine lv_isub hx hb dX10_reckon_202 ?_
                        refine lv_topi (fun t134 et134 => ?_)
                        have b135 : kb 0 t134 31 := kb_eq et134 (kb_sub b54 kc_1 (by decide) (by decide))
                        have qt134 : t134.toInt = y29.toInt - 1 := by rw [et134]; exact kt_subc b54 kc_1 (by decide) (by decide)
                        refine lv_lconst (v := 1) hx hb dX10_reckon_203 (by decide) ?_
                        refine lv_aload hx hb dX10_reckon_204 (lv_at hl 10 rfl) ?_
                        refine lv_iload hx hb dX10_reckon_206 (lv_at hl 3 rfl) ?_
                        refine lv_iconst (v := 1) hx hb dX10_reckon_208 (by decide) ?_
                        refine lv_isub hx hb dX10_reckon_209 ?_
                        refine k_top (z := t134) et134.symm ?_
                        refine va_lald hx hb hK hP 76 3 rfl rfl (kb_in b135 (by decide) (by decide)) dX10_reckon_210 ?_
                        refine lv_topl (fun t136 et136 => ?_)
                        refine lv_lsub hx hb dX10_reckon_211 ?_
                        refine lv_topl (fun t137 et137 => ?_)
                        refine va_last hx hb hK hP hD hS 76 3 rfl rfl (kb_in b135 (by decide) (by decide)) dX10_reckon_212 (fun H locs hP hD hS => ?_)
                        have hP : va_P D vwCl (xX K r f a (va_up G30.1 76 (va_up (G30.1 76) t134.toNatClampNeg t137), G30.2) tx) H := hP
                        have hD : va_D A (xX K r f a (va_up G30.1 76 (va_up (G30.1 76) t134.toNatClampNeg t137), G30.2) tx) := hD
                        refine k_gen (P := fun z => va_P D vwCl (xX K r f a z tx) H ∧ va_D A (xX K r f a z tx) ∧ (xI f a) ∧ (gOK K z.2 tt) ∧ (xEk ([], [], []) f a g f a z)) ((va_up G30.1 76 (va_up (G30.1 76) t134.toNatClampNeg t137), G30.2)) ⟨hP, hD, hI, hG, (xEk_g hE)⟩ (fun g_138 eg_138 hq => ?_)
                        obtain ⟨hP, hD, hI, hG, hE⟩ := hq
                        refine lv_goto (tgt := 336) hx hb dX10_reckon_213 (by decide) ?_
                        obtain ⟨t139, et139⟩ : ∃ z : Int32, z = y28 + Int32.ofInt 1 := ⟨_, rfl⟩
                        have qt139 : t139.toInt = y28.toInt + 1 := by rw [et139]; exact km_inc b42 (by decide) (by decide)
                        have b140 : kb 1 t139 400 := kb_inc (k := 1) qt139 b42
                        refine lv_iinc (v := t139) (lv' := [(8, .int t139), (10, .int t47), (9, .int t45), (7, .int y29), (6, .int t19), (5, .int t3), (0, .ref (t.1 0)), (1, .int cl), (2, .int pc_), (3, .ref (r 75)), (4, .ref (r 76))]) hx hb dX10_reckon_336 hl (k := 2) rfl et139.symm (by decide) rfl (fun ls hl => ?_)
                        refine lv_goto (tgt := 92) hx hb dX10_reckon_339 (by decide) ?_
                        exact ihlp31  g_138 _ _ _ t139 y29 (by omega) hI hG hE (kb_w b140 (by decide) (by decide)) (kb_w b54 (by decide) (by decide)) hP hD hS (lv_sub hl [0, 3, 4, 5, 6, 7, 8, 9, 10] rfl)
                    · have h141 := (kc_nle c52)
                      have b142 : kb 0 y29 0 := kr_lt1 h141 b34 kc_1 (by decide)
                      refine lv_ldc2 (v := (-1000000000000)) hx hb hown (hg _ wt3_100) dX10_reckon_187 ?_
                      exact kL_ret (v := (-1000000000000)) hx hb hr hlocks hK hS dX10_reckon_190 (f, a, G30) hP hD ⟨(kbl_w kcl_m1000000000000 (by decide) (by decide)), hI, hG, hE⟩
                  · have h143 := (kc_nlt c49)
                    have b144 : kb 0 t45 1 := kr_le1 h143 b46 kc_1
                    refine lv_iload hx hb dX10_reckon_130 (lv_at hl 3 rfl) ?_
                    refine lv_aload hx hb dX10_reckon_132 (lv_at hl 10 rfl) ?_
                    refine va_alen (v := 32) hx hb hK hP 76 3 rfl rfl rfl dX10_reckon_134 ?_
                    refine lv_icmp_ge (tgt := 151) hx hb dX10_reckon_135 (by decide) (fun c145 => ?_) (fun c145 => ?_)
                    · have h146 := (kc_le c145)
                      have b147 : kb 32 y29 32 := kr_le2 h146 kc_32 b34
                      refine lv_ldc2 (v := (-1000000000000)) hx hb hown (hg _ wt3_100) dX10_reckon_151 ?_
                      exact kL_ret (v := (-1000000000000)) hx hb hr hlocks hK hS dX10_reckon_154 (f, a, G30) hP hD ⟨(kbl_w kcl_m1000000000000 (by decide) (by decide)), hI, hG, hE⟩
                    · have h148 := (kc_nle c145)
                      have b149 : kb 0 y29 31 := kr_lt1 h148 b34 kc_32 (by decide)
                      refine lv_iload hx hb dX10_reckon_138 (lv_at hl 1 rfl) ?_
                      refine lv_iconst (v := 1) hx hb dX10_reckon_140 (by decide) ?_
                      refine lv_icmp_ne (tgt := 155) hx hb dX10_reckon_141 (by decide) (fun c150 => ?_) (fun c150 => ?_)
                      · have b151 : kb 0 t45 0 := kr_neh c150 b144 kc_1 (by decide)
                        refine lv_aload hx hb dX10_reckon_155 (lv_at hl 10 rfl) ?_
                        refine lv_iload hx hb dX10_reckon_157 (lv_at hl 3 rfl) ?_
                        refine lv_iload hx hb dX10_reckon_159 (lv_at hl 1 rfl) ?_
                        refine lv_if_ne (tgt := 170) hx hb dX10_reckon_161 (by decide) (fun c152 => ?_) (fun c152 => ?_)
                        · exact kb_nsame c152 b151 kc_0
                        · refine lv_iload hx hb dX10_reckon_164 (lv_at hl 0 rfl) ?_
                          refine lv_i2l hx hb dX10_reckon_166 rfl ?_
                          refine lv_topl (fun t153 et153 => ?_)
                          have b154 : kbl 0 t153 4095 := kbl_eq et153 (kbl_i2l b48)
                          refine lv_goto (tgt := 174) hx hb dX10_reckon_167 (by decide) ?_
                          refine va_last hx hb hK hP hD hS 76 3 rfl rfl (kb_in b149 (by decide) (by decide)) dX10_reckon_174 (fun H locs hP hD hS => ?_)
                          have hP : va_P D vwCl (xX K r f a (va_up G30.1 76 (va_up (G30.1 76) y29.toNatClampNeg t153), G30.2) tx) H := hP
                          have hD : va_D A (xX K r f a (va_up G30.1 76 (va_up (G30.1 76) y29.toNatClampNeg t153), G30.2) tx) := hD
                          refine k_gen (P := fun z => va_P D vwCl (xX K r f a z tx) H ∧ va_D A (xX K r f a z tx) ∧ (xI f a) ∧ (gOK K z.2 tt) ∧ (xEk ([], [], []) f a g f a z)) ((va_up G30.1 76 (va_up (G30.1 76) y29.toNatClampNeg t153), G30.2)) ⟨hP, hD, hI, hG, (xEk_g hE)⟩ (fun g_155 eg_155 hq => ?_)
                          obtain ⟨hP, hD, hI, hG, hE⟩ := hq
                          obtain ⟨t156, et156⟩ : ∃ z : Int32, z = y29 + Int32.ofInt 1 := ⟨_, rfl⟩
                          have qt156 : t156.toInt = y29.toInt + 1 := by rw [et156]; exact km_inc b149 (by decide) (by decide)
                          have b157 : kb 1 t156 32 := kb_inc (k := 1) qt156 b149
                          refine lv_iinc (v := t156) (lv' := [(7, .int t156), (10, .int t47), (9, .int t45), (8, .int y28), (6, .int t19), (5, .int t3), (0, .ref (t.1 0)), (1, .int cl), (2, .int pc_), (3, .ref (r 75)), (4, .ref (r 76))]) hx hb dX10_reckon_175 hl (k := 3) rfl et156.symm (by decide) rfl (fun ls hl => ?_)
                          refine lv_goto (tgt := 336) hx hb dX10_reckon_178 (by decide) ?_
                          obtain ⟨t158, et158⟩ : ∃ z : Int32, z = y28 + Int32.ofInt 1 := ⟨_, rfl⟩
                          have qt158 : t158.toInt = y28.toInt + 1 := by rw [et158]; exact km_inc b42 (by decide) (by decide)
                          have b159 : kb 1 t158 400 := kb_inc (k := 1) qt158 b42
                          refine lv_iinc (v := t158) (lv' := [(8, .int t158), (7, .int t156), (10, .int t47), (9, .int t45), (6, .int t19), (5, .int t3), (0, .ref (t.1 0)), (1, .int cl), (2, .int pc_), (3, .ref (r 75)), (4, .ref (r 76))]) hx hb dX10_reckon_336 hl (k := 3) rfl et158.symm (by decide) rfl (fun ls hl => ?_)
                          refine lv_goto (tgt := 92) hx hb dX10_reckon_339 (by decide) ?_
                          exact ihlp31  g_155 _ _ _ t158 t156 (by omega) hI hG hE (kb_w b159 (by decide) (by decide)) (kb_w b157 (by decide) (by decide)) hP hD hS (lv_sub hl [0, 1, 4, 5, 6, 7, 8, 9, 10] rfl)
                      · have b160 : kb 1 t45 1 := kb_eq c150 kc_1
                        refine lv_iload hx hb dX10_reckon_144 (lv_at hl 0 rfl) ?_
                        refine lv_aload_n hx hb dX10_reckon_146 rfl (lv_at hl 9 rfl) ?_
                        refine va_alen (v := 10) hx hb hK hP 75 3 rfl rfl rfl dX10_reckon_147 ?_
                        refine lv_icmp_lt (tgt := 155) hx hb dX10_reckon_148 (by decide) (fun c161 => ?_) (fun c161 => ?_)
                        · have h162 := (kc_lt c161)
                          have b163 : kb 0 t47 9 := kr_lt1 h162 b48 kc_10 (by decide)
                          refine lv_aload hx hb dX10_reckon_155 (lv_at hl 10 rfl) ?_
                          refine lv_iload hx hb dX10_reckon_157 (lv_at hl 3 rfl) ?_
                          refine lv_iload hx hb dX10_reckon_159 (lv_at hl 1 rfl) ?_
                          refine lv_if_ne (tgt := 170) hx hb dX10_reckon_161 (by decide) (fun c164 => ?_) (fun c164 => ?_)
                          · refine lv_aload_n hx hb dX10_reckon_170 rfl (lv_at hl 9 rfl) ?_
                            refine lv_iload hx hb dX10_reckon_171 (lv_at hl 0 rfl) ?_
                            refine va_lald hx hb hK hP 75 3 rfl rfl (kb_in b163 (by decide) (by decide)) dX10_reckon_173 ?_
                            refine lv_topl (fun t165 et165 => ?_)
                            refine va_last hx hb hK hP hD hS 76 3 rfl rfl (kb_in b149 (by decide) (by decide)) dX10_reckon_174 (fun H locs hP hD hS => ?_)
                            have hP : va_P D vwCl (xX K r f a (va_up G30.1 76 (va_up (G30.1 76) y29.toNatClampNeg t165), G30.2) tx) H := hP
                            have hD : va_D A (xX K r f a (va_up G30.1 76 (va_up (G30.1 76) y29.toNatClampNeg t165), G30.2) tx) := hD
                            refine k_gen (P := fun z => va_P D vwCl (xX K r f a z tx) H ∧ va_D A (xX K r f a z tx) ∧ (xI f a) ∧ (gOK K z.2 tt) ∧ (xEk ([], [], []) f a g f a z)) ((va_up G30.1 76 (va_up (G30.1 76) y29.toNatClampNeg t165), G30.2)) ⟨hP, hD, hI, hG, (xEk_g hE)⟩ (fun g_166 eg_166 hq => ?_)
                            obtain ⟨hP, hD, hI, hG, hE⟩ := hq
                            obtain ⟨t167, et167⟩ : ∃ z : Int32, z = y29 + Int32.ofInt 1 := ⟨_, rfl⟩
                            have qt167 : t167.toInt = y29.toInt + 1 := by rw [et167]; exact km_inc b149 (by decide) (by decide)
                            have b168 : kb 1 t167 32 := kb_inc (k := 1) qt167 b149
                            refine lv_iinc (v := t167) (lv' := [(7, .int t167), (10, .int t47), (9, .int t45), (8, .int y28), (6, .int t19), (5, .int t3), (0, .ref (t.1 0)), (1, .int cl), (2, .int pc_), (3, .ref (r 75)), (4, .ref (r 76))]) hx hb dX10_reckon_175 hl (k := 3) rfl et167.symm (by decide) rfl (fun ls hl => ?_)
                            refine lv_goto (tgt := 336) hx hb dX10_reckon_178 (by decide) ?_
                            obtain ⟨t169, et169⟩ : ∃ z : Int32, z = y28 + Int32.ofInt 1 := ⟨_, rfl⟩
                            have qt169 : t169.toInt = y28.toInt + 1 := by rw [et169]; exact km_inc b42 (by decide) (by decide)
                            have b170 : kb 1 t169 400 := kb_inc (k := 1) qt169 b42
                            refine lv_iinc (v := t169) (lv' := [(8, .int t169), (7, .int t167), (10, .int t47), (9, .int t45), (6, .int t19), (5, .int t3), (0, .ref (t.1 0)), (1, .int cl), (2, .int pc_), (3, .ref (r 75)), (4, .ref (r 76))]) hx hb dX10_reckon_336 hl (k := 3) rfl et169.symm (by decide) rfl (fun ls hl => ?_)
                            refine lv_goto (tgt := 92) hx hb dX10_reckon_339 (by decide) ?_
                            exact ihlp31  g_166 _ _ _ t169 t167 (by omega) hI hG hE (kb_w b170 (by decide) (by decide)) (kb_w b168 (by decide) (by decide)) hP hD hS (lv_sub hl [0, 1, 4, 5, 6, 7, 8, 9, 10] rfl)
                          · exact kb_dj c164 b160 kc_0 (by decide)
                        · have h171 := (kc_nlt c161)
                          have b172 : kb 10 t47 4095 := kr_le2 h171 kc_10 b48
                          refine lv_ldc2 (v := (-1000000000000)) hx hb hown (hg _ wt3_100) dX10_reckon_151 ?_
                          exact kL_ret (v := (-1000000000000)) hx hb hr hlocks hK hS dX10_reckon_154 (f, a, G30) hP hD ⟨(kbl_w kcl_m1000000000000 (by decide) (by decide)), hI, hG, hE⟩
            exact lp31 (4097)  g _ _ _ t13 0 (by have w1 := (b26).1; omega) hI hG hE (kb_w b26 (by decide) (by decide)) (kb_w kc_0 (by decide) (by decide)) hP hD hS (lv_sub hl [0, 1, 2, 3, 4, 5, 6, 7, 8] rfl)
          · have h173 := (kc_nlt c24)
            refine lv_lconst (v := 1) hx hb dX10_reckon_78 (by decide) ?_
            exact kL_ret (v := 1) hx hb hr hlocks hK hS dX10_reckon_79 (f, a, g) hP hD ⟨(kbl_w kcl_1 (by decide) (by decide)), hI, hG, hE⟩
        · have h174 := (kc_nle c21)
          have b175 : kb 1 t19 2147483647 := kr_lt2 h174 b20 (kb_any t19) (by decide)
          refine lv_ldc2 (v := (-1000000000000)) hx hb hown (hg _ wt3_100) dX10_reckon_51 ?_
          exact kL_ret (v := (-1000000000000)) hx hb hr hlocks hK hS dX10_reckon_54 (f, a, g) hP hD ⟨(kbl_w kcl_m1000000000000 (by decide) (by decide)), hI, hG, hE⟩
set_option maxHeartbeats 4000000 in
set_option maxRecDepth 100000 in
theorem x_7_reckonChainsP  (l : Launch) {D : va_G} {K : Nat → ClassId} (r : Nat → Nat) (f : Nat → Int32) (a : Nat → Nat → Int32) (g : xG) (tx tt : va_W) (hT : ∀ c ∈ tt, c ∈ tx) (hI : xI f a) (hG : gOK K g.2 tt)     : kIG l yX7_reckonChains (Cond.code yX7_reckonChains cX7_reckonChains 5 (some .int) :: kG) (rmD 2 0 0) D K [.ref (r 59)] (xX K r f a g tx) (fun v (u : xS) => kb (-2147483648) v 2147483647 ∧ xI u.1 u.2.1 ∧ gOK K u.2.2.2 tt ∧ xEk ([], [79], []) f a g u.1 u.2.1 u.2.2) (fun u => xX K r u.1 u.2.1 u.2.2 tx) 0 0 := by
  refine kIE.of (cc := cX7_reckonChains) (maxL := 5) (ret := (some .int)) (by decide) rfl (Nat.le_of_ble_eq_true rfl) ?_
  intro p e s m below meth c A hx hb hr hml hown hts hlocks hnm hK hP hD hS hA hV ls hl
  have hE : xEk ([], [79], []) f a g f a g := xEk_rf
  have hg : ∀ w ∈ kG, w.before _ s = true := fun w h => hts w (List.mem_cons_of_mem _ h)
  have hown : s.vm.findClass RX7 = some m.cls := hown
  have hl : lv_has ls 5 [(0, .ref (r 59))] := hl
  refine lv_iconst (v := 0) hx hb dX7_reckonChains_0 (by decide) ?_
  refine lv_istore_n (lv' := [(1, .int 0), (0, .ref (r 59))]) hx hb dX7_reckonChains_1 rfl hl (by decide) rfl (fun ls hl => ?_)
  refine lv_aload_n hx hb dX7_reckonChains_2 rfl (lv_at hl 1 rfl) ?_
  refine va_get (D := D) (ci := 7) (v := .int (f 1888)) (C := RX7) (T := TX7) (N := 20) hx hb hg inC7 hown hK hP 59 rfl rfl 0 (by decide) (hg _ wt1_79) (fun _ h9 => h9) rfl dX7_reckonChains_3 ?_
  refine lv_topi (fun t1 et1 => ?_)
  have b2 : kb 0 t1 10 := kb_eq et1 (fI_at hI.1 1888 (by decide) (by decide))
  refine lv_bipush (v := 10) hx hb dX7_reckonChains_6 (by decide) ?_
  refine va_mmin hx hb (hml.trans hl.1.symm) hown (hg _ wt3_51) (hg _ wt3_52) (hg _ wt1_9) (hg _ wt3_53) (by decide) (Nat.le_of_ble_eq_true rfl) (by decide) (by decide) dX7_reckonChains_8 ?_
  refine lv_topi (fun t3 et3 => ?_)
  have b4 : kb 0 t3 10 := kb_eq et3 (kb_mn b2 kc_10 (by decide) (by decide) (by decide) (by decide))
  refine lv_iconst (v := 1) hx hb dX7_reckonChains_11 (by decide) ?_
  refine lv_isub hx hb dX7_reckonChains_12 ?_
  refine lv_topi (fun t5 et5 => ?_)
  have b6 : kb (-1) t5 9 := kb_eq et5 (kb_sub b4 kc_1 (by decide) (by decide))
  have qt5 : t5.toInt = t3.toInt - 1 := by rw [et5]; exact kt_subc b4 kc_1 (by decide) (by decide)
  refine lv_istore_n (lv' := [(2, .int t5), (1, .int 0), (0, .ref (r 59))]) hx hb dX7_reckonChains_13 rfl hl (by decide) rfl (fun ls hl => ?_)
  have lp10 : ∀ (n11 : Nat) (B9 : Nat → Nat → Int32) (H : Heap) (locs : List Loc) (ls : Array Slot) (y7 : Int32) (y8 : Int32), (y7.toInt + 1 < (n11 : Int)) → (xI f B9) → (gOK K g.2 tt) → (xEk ([], [79], []) f a g f B9 g) → (kb (-1) y7 9) → va_P D vwCl (xX K r f B9 g tx) H → va_D A (xX K r f B9 g tx) → va_S A s.heap H locs → lv_has ls 5 [(2, .int y7), (1, .int y8), (0, .ref (r 59))] → W p l e (rmD 2 0 0) s m ([.ref (r 59)] : List Value).toArray below meth c H locs 0 0 (kQi D (tysK K) (fun v (u : xS) => kb (-2147483648) v 2147483647 ∧ xI u.1 u.2.1 ∧ gOK K u.2.2.2 tt ∧ xEk ([], [79], []) f a g u.1 u.2.1 u.2.2) (fun u => xX K r u.1 u.2.1 u.2.2 tx) A below ([.ref (r 59)] : List Value).toArray s 0 0) (F0 m 14 ls []) := by
    intro n11
    induction n11 with
    | zero =>
      intro  B9  H locs ls y7 y8 hmlp10 hI hG hE b12 hP hD hS hl
      exact (by have h1 := b12.1; have h2 := hmlp10; omega : False).elim
    | succ n11 ihlp10 =>
      intro  B9  H locs ls y7 y8 hmlp10 hI hG hE b12 hP hD hS hl
      refine lv_iload_n hx hb dX7_reckonChains_14 rfl (lv_at hl 0 rfl) ?_
      refine lv_if_lt (tgt := 134) hx hb dX7_reckonChains_15 (by decide) (fun c13 => ?_) (fun c13 => ?_)
      · have h14 := (kc_lt c13)
        have b15 : kb (-1) y7 (-1) := kr_lt1 h14 b12 kc_0 (by decide)
        refine lv_iload_n hx hb dX7_reckonChains_134 rfl (lv_at hl 1 rfl) ?_
        exact kI_ret (v := y8) hx hb hr hlocks rfl hK hS dX7_reckonChains_135 (f, B9, g) hP hD ⟨(kb_any y8), hI, hG, hE⟩
      · have h16 := (kc_nlt c13)
        have b17 : kb 0 y7 9 := kr_le2 h16 kc_0 b12
        refine lv_iconst (v := 0) hx hb dX7_reckonChains_18 (by decide) ?_
        refine lv_istore_n (lv' := [(3, .int 0), (2, .int y7), (1, .int y8), (0, .ref (r 59))]) hx hb dX7_reckonChains_19 rfl hl (by decide) rfl (fun ls hl => ?_)
        refine lv_iload_n hx hb dX7_reckonChains_20 rfl (lv_at hl 1 rfl) ?_
        refine lv_iconst (v := 1) hx hb dX7_reckonChains_21 (by decide) ?_
        refine lv_iadd hx hb dX7_reckonChains_22 ?_
        refine lv_topi (fun t18 et18 => ?_)
        have b19 : kb 1 t18 10 := kb_eq et18 (kb_add b17 kc_1 (by decide) (by decide))
        have qt18 : t18.toInt = y7.toInt + 1 := by rw [et18]; exact kt_addc b17 kc_1 (by decide) (by decide)
        refine lv_istore (lv' := [(4, .int t18), (3, .int 0), (2, .int y7), (1, .int y8), (0, .ref (r 59))]) hx hb dX7_reckonChains_23 hl (by decide) rfl (fun ls hl => ?_)
        have lp22 : ∀ (n23 : Nat) (H : Heap) (locs : List Loc) (ls : Array Slot) (y20 : Int32) (y21 : Int32), (10 < y20.toInt + (n23 : Int)) → (kb 1 y20 10) → va_P D vwCl (xX K r f B9 g tx) H → va_D A (xX K r f B9 g tx) → va_S A s.heap H locs → lv_has ls 5 [(4, .int y20), (3, .int y21), (2, .int y7), (1, .int y8), (0, .ref (r 59))] → W p l e (rmD 2 0 0) s m ([.ref (r 59)] : List Value).toArray below meth c H locs 0 0 (kQi D (tysK K) (fun v (u : xS) => kb (-2147483648) v 2147483647 ∧ xI u.1 u.2.1 ∧ gOK K u.2.2.2 tt ∧ xEk ([], [79], []) f a g u.1 u.2.1 u.2.2) (fun u => xX K r u.1 u.2.1 u.2.2 tx) A below ([.ref (r 59)] : List Value).toArray s 0 0) (F0 m 25 ls []) := by
          intro n23
          induction n23 with
          | zero =>
            intro   H locs ls y20 y21 hmlp22 b24 hP hD hS hl
            exact (by have h1 := b24.2; have h2 := hmlp22; omega : False).elim
          | succ n23 ihlp22 =>
            intro   H locs ls y20 y21 hmlp22 b24 hP hD hS hl
            refine lv_iload hx hb dX7_reckonChains_25 (lv_at hl 0 rfl) ?_
            refine lv_aload_n hx hb dX7_reckonChains_27 rfl (lv_at hl 4 rfl) ?_
            refine va_get (D := D) (ci := 7) (v := .int (f 1888)) (C := RX7) (T := TX7) (N := 20) hx hb hg inC7 hown hK hP 59 rfl rfl 0 (by decide) (hg _ wt1_79) (fun _ h9 => h9) rfl dX7_reckonChains_28 ?_
            refine k_top (z := t1) et1.symm ?_
            refine lv_icmp_ge (tgt := 97) hx hb dX7_reckonChains_31 (by decide) (fun c63 => ?_) (fun c63 => ?_)
            · have h64 := (kc_le c63)
              refine lv_aload_n hx hb dX7_reckonChains_97 rfl (lv_at hl 4 rfl) ?_
              refine va_get (D := D) (ci := 7) (v := .ref (r 74)) (C := RX7) (T := TX7) (N := 20) hx hb hg inC7 hown hK hP 59 rfl rfl 19 (by decide) (hg _ wt1_154) (fun _ h9 => h9) rfl dX7_reckonChains_98 ?_
              refine va_get (D := D) (ci := 8) (v := .ref (r 79)) (C := RX8) (T := TX8) (N := 5) hx hb hg inC8 hown hK hP 74 rfl rfl 4 (by decide) (hg _ wt1_65) (fun _ h9 => h9) rfl dX7_reckonChains_101 ?_
              refine lv_iload_n hx hb dX7_reckonChains_104 rfl (lv_at hl 2 rfl) ?_
              refine lv_aload_n hx hb dX7_reckonChains_105 rfl (lv_at hl 4 rfl) ?_
              refine va_get (D := D) (ci := 7) (v := .ref (r 64)) (C := RX7) (T := TX7) (N := 20) hx hb hg inC7 hown hK hP 59 rfl rfl 5 (by decide) (hg _ wt1_97) (fun _ h9 => h9) rfl dX7_reckonChains_106 ?_
              refine lv_iload_n hx hb dX7_reckonChains_109 rfl (lv_at hl 2 rfl) ?_
              refine va_iald hx hb hK hP 64 0 rfl rfl (kb_in b17 (by decide) (by decide)) dX7_reckonChains_110 ?_
              refine lv_topi (fun t65 et65 => ?_)
              refine lv_iload_n hx hb dX7_reckonChains_111 rfl (lv_at hl 1 rfl) ?_
              refine lv_iadd hx hb dX7_reckonChains_112 ?_
              refine lv_topi (fun t66 et66 => ?_)
              refine va_iast hx hb hK hP hD hS 79 0 rfl rfl (kb_in b17 (by decide) (by decide)) dX7_reckonChains_113 (fun H locs hP hD hS => ?_)
              have hP : va_P D vwCl (xX K r f (va_up B9 79 (upd (B9 79) y7.toNatClampNeg t66)) g tx) H := hP
              have hD : va_D A (xX K r f (va_up B9 79 (upd (B9 79) y7.toNatClampNeg t66)) g tx) := hD
              refine k_gen (P := fun z => va_P D vwCl (xX K r f z g tx) H ∧ va_D A (xX K r f z g tx) ∧ (xI f z) ∧ (gOK K g.2 tt) ∧ (xEk ([], [79], []) f a g f z g)) (va_up B9 79 (upd (B9 79) y7.toNatClampNeg t66)) ⟨hP, hD, (xI_a hI (by decide)), hG, (xEk_a hE rfl)⟩ (fun a_67 ea_67 hq => ?_)
              obtain ⟨hP, hD, hI, hG, hE⟩ := hq
              refine lv_iload_n hx hb dX7_reckonChains_114 rfl (lv_at hl 3 rfl) ?_
              refine lv_aload_n hx hb dX7_reckonChains_115 rfl (lv_at hl 4 rfl) ?_
              refine va_get (D := D) (ci := 7) (v := .ref (r 74)) (C := RX7) (T := TX7) (N := 20) hx hb hg inC7 hown hK hP 59 rfl rfl 19 (by decide) (hg _ wt1_154) (fun _ h9 => h9) rfl dX7_reckonChains_116 ?_
              refine va_get (D := D) (ci := 8) (v := .ref (r 79)) (C := RX8) (T := TX8) (N := 5) hx hb hg inC8 hown hK hP 74 rfl rfl 4 (by decide) (hg _ wt1_65) (fun _ h9 => h9) rfl dX7_reckonChains_119 ?_
              refine lv_iload_n hx hb dX7_reckonChains_122 rfl (lv_at hl 2 rfl) ?_
              refine va_iald hx hb hK hP 79 0 rfl rfl (kb_in b17 (by decide) (by decide)) dX7_reckonChains_123 ?_
              refine k_top (z := t66) (show a_67 79 y7.toNatClampNeg = t66 from by rw [← ea_67]; exact (pk_us (f := B9 79) (k := y7.toNatClampNeg) (x := t66))) ?_
              refine va_mmax hx hb (hml.trans hl.1.symm) hown (hg _ wt3_54) (hg _ wt2_38) (hg _ wt1_9) (hg _ wt2_39) (by decide) (Nat.le_of_ble_eq_true rfl) (by decide) (by decide) dX7_reckonChains_124 ?_
              refine lv_topi (fun t68 et68 => ?_)
              refine lv_istore_n (lv' := [(1, .int t68), (4, .int y20), (3, .int y21), (2, .int y7), (0, .ref (r 59))]) hx hb dX7_reckonChains_127 rfl hl (by decide) rfl (fun ls hl => ?_)
              obtain ⟨t69, et69⟩ : ∃ z : Int32, z = y7 + Int32.ofInt (-1) := ⟨_, rfl⟩
              have qt69 : t69.toInt = y7.toInt - 1 := by rw [et69]; exact km_dec b17 (by decide)
              have b70 : kb (-1) t69 8 := kb_inc (k := (-1)) qt69 b17
              refine lv_iinc (v := t69) (lv' := [(2, .int t69), (1, .int t68), (4, .int y20), (3, .int y21), (0, .ref (r 59))]) hx hb dX7_reckonChains_128 hl (k := 3) rfl et69.symm (by decide) rfl (fun ls hl => ?_)
              refine lv_goto (tgt := 14) hx hb dX7_reckonChains_131 (by decide) ?_
              exact ihlp10  a_67 _ _ _ t69 t68 (km_dn hmlp10 qt69) hI hG hE (kb_w b70 (by decide) (by decide)) hP hD hS (lv_sub hl [0, 1, 4] rfl)
            · have h71 := (kc_nle c63)
              have b72 : kb 1 y20 9 := kr_lt1 h71 b24 b2 (by decide)
              have b73 : kb 2 t1 10 := kr_lt2 h71 b24 b2 (by decide)
              refine lv_iload hx hb dX7_reckonChains_34 (lv_at hl 0 rfl) ?_
              refine lv_bipush (v := 10) hx hb dX7_reckonChains_36 (by decide) ?_
              refine lv_icmp_ge (tgt := 97) hx hb dX7_reckonChains_38 (by decide) (fun c74 => ?_) (fun c74 => ?_)
              · have h75 := (kc_le c74)
                exact kb_no (kr_le1 h75 kc_10 b72) (by decide)
              · have h76 := (kc_nle c74)
                refine lv_aload_n hx hb dX7_reckonChains_41 rfl (lv_at hl 4 rfl) ?_
                refine va_get (D := D) (ci := 7) (v := .ref (r 61)) (C := RX7) (T := TX7) (N := 20) hx hb hg inC7 hown hK hP 59 rfl rfl 2 (by decide) (hg _ wt1_89) (fun _ h9 => h9) rfl dX7_reckonChains_42 ?_
                refine lv_iload hx hb dX7_reckonChains_45 (lv_at hl 0 rfl) ?_
                refine va_iald hx hb hK hP 61 0 rfl rfl (kb_in b72 (by decide) (by decide)) dX7_reckonChains_47 ?_
                refine lv_topi (fun t77 et77 => ?_)
                refine lv_iload_n hx hb dX7_reckonChains_48 rfl (lv_at hl 2 rfl) ?_
                refine lv_ishr hx hb dX7_reckonChains_49 ?_
                refine lv_topi (fun t78 et78 => ?_)
                refine lv_iconst (v := 1) hx hb dX7_reckonChains_50 (by decide) ?_
                refine lv_iand hx hb dX7_reckonChains_51 ?_
                refine lv_topi (fun t79 et79 => ?_)
                have b80 : kb 0 t79 1 := kb_eq et79 (kb_and 1 (by decide) (by decide))
                refine lv_iconst (v := 1) hx hb dX7_reckonChains_52 (by decide) ?_
                have jn93 : ∀ (H : Heap) (locs : List Loc) (ls : Array Slot) (y92 : Int32), va_P D vwCl (xX K r f B9 g tx) H → va_D A (xX K r f B9 g tx) → va_S A s.heap H locs → lv_has ls 5 [(4, .int y20), (3, .int y92), (2, .int y7), (1, .int y8), (0, .ref (r 59))] → W p l e (rmD 2 0 0) s m ([.ref (r 59)] : List Value).toArray below meth c H locs 0 0 (kQi D (tysK K) (fun v (u : xS) => kb (-2147483648) v 2147483647 ∧ xI u.1 u.2.1 ∧ gOK K u.2.2.2 tt ∧ xEk ([], [79], []) f a g u.1 u.2.1 u.2.2) (fun u => xX K r u.1 u.2.1 u.2.2 tx) A below ([.ref (r 59)] : List Value).toArray s 0 0) (F0 m 91 ls []) := by
                  intro  H locs ls y92  hP hD hS hl
                  obtain ⟨t94, et94⟩ : ∃ z : Int32, z = y20 + Int32.ofInt 1 := ⟨_, rfl⟩
                  have qt94 : t94.toInt = y20.toInt + 1 := by rw [et94]; exact km_inc b72 (by decide) (by decide)
                  have b95 : kb 2 t94 10 := kb_inc (k := 1) qt94 b72
                  refine lv_iinc (v := t94) (lv' := [(4, .int t94), (3, .int y92), (2, .int y7), (1, .int y8), (0, .ref (r 59))]) hx hb dX7_reckonChains_91 hl (k := 0) rfl et94.symm (by decide) rfl (fun ls hl => ?_)
                  refine lv_goto (tgt := 25) hx hb dX7_reckonChains_94 (by decide) ?_
                  exact ihlp22  _ _ _ t94 y92 (km_up hmlp22 qt94) (kb_w b95 (by decide) (by decide)) hP hD hS (lv_sub hl [0, 1, 2, 3, 4] rfl)
                refine lv_icmp_ne (tgt := 91) hx hb dX7_reckonChains_53 (by decide) (fun c96 => ?_) (fun c96 => ?_)
                · have b97 : kb 0 t79 0 := kr_neh c96 b80 kc_1 (by decide)
                  exact jn93 _ _ _ y21  hP hD hS (lv_sub hl [0, 1, 2, 3, 4] rfl)
                · have b98 : kb 1 t79 1 := kb_eq c96 kc_1
                  refine lv_aload_n hx hb dX7_reckonChains_56 rfl (lv_at hl 4 rfl) ?_
                  refine va_get (D := D) (ci := 7) (v := .ref (r 64)) (C := RX7) (T := TX7) (N := 20) hx hb hg inC7 hown hK hP 59 rfl rfl 5 (by decide) (hg _ wt1_97) (fun _ h9 => h9) rfl dX7_reckonChains_57 ?_
                  refine lv_iload hx hb dX7_reckonChains_60 (lv_at hl 0 rfl) ?_
                  refine va_iald hx hb hK hP 64 0 rfl rfl (kb_in b72 (by decide) (by decide)) dX7_reckonChains_62 ?_
                  refine lv_topi (fun t99 et99 => ?_)
                  refine lv_if_eq (tgt := 91) hx hb dX7_reckonChains_63 (by decide) (fun c100 => ?_) (fun c100 => ?_)
                  · have b101 : kb 0 t99 0 := kb_eq c100 kc_0
                    exact jn93 _ _ _ y21  hP hD hS (lv_sub hl [0, 1, 2, 3, 4] rfl)
                  · refine lv_aload_n hx hb dX7_reckonChains_66 rfl (lv_at hl 4 rfl) ?_
                    refine va_get (D := D) (ci := 7) (v := .ref (r 74)) (C := RX7) (T := TX7) (N := 20) hx hb hg inC7 hown hK hP 59 rfl rfl 19 (by decide) (hg _ wt1_154) (fun _ h9 => h9) rfl dX7_reckonChains_67 ?_
                    refine va_get (D := D) (ci := 8) (v := .ref (r 79)) (C := RX8) (T := TX8) (N := 5) hx hb hg inC8 hown hK hP 74 rfl rfl 4 (by decide) (hg _ wt1_65) (fun _ h9 => h9) rfl dX7_reckonChains_70 ?_
                    refine lv_iload hx hb dX7_reckonChains_73 (lv_at hl 0 rfl) ?_
                    refine va_iald hx hb hK hP 79 0 rfl rfl (kb_in b72 (by decide) (by decide)) dX7_reckonChains_75 ?_
                    refine lv_topi (fun t102 et102 => ?_)
                    refine lv_iload_n hx hb dX7_reckonChains_76 rfl (lv_at hl 1 rfl) ?_
                    refine lv_icmp_le (tgt := 91) hx hb dX7_reckonChains_77 (by decide) (fun c103 => ?_) (fun c103 => ?_)
                    · have h104 := (kc_le c103)
                      exact jn93 _ _ _ y21  hP hD hS (lv_sub hl [0, 1, 2, 3, 4] rfl)
                    · have h105 := (kc_nle c103)
                      have b106 : kb (-2147483648) y21 2147483646 := kr_lt1 h105 (kb_any y21) (kb_any t102) (by decide)
                      have b107 : kb (-2147483647) t102 2147483647 := kr_lt2 h105 (kb_any y21) (kb_any t102) (by decide)
                      refine lv_aload_n hx hb dX7_reckonChains_80 rfl (lv_at hl 4 rfl) ?_
                      refine va_get (D := D) (ci := 7) (v := .ref (r 74)) (C := RX7) (T := TX7) (N := 20) hx hb hg inC7 hown hK hP 59 rfl rfl 19 (by decide) (hg _ wt1_154) (fun _ h9 => h9) rfl dX7_reckonChains_81 ?_
                      refine va_get (D := D) (ci := 8) (v := .ref (r 79)) (C := RX8) (T := TX8) (N := 5) hx hb hg inC8 hown hK hP 74 rfl rfl 4 (by decide) (hg _ wt1_65) (fun _ h9 => h9) rfl dX7_reckonChains_84 ?_
                      refine lv_iload hx hb dX7_reckonChains_87 (lv_at hl 0 rfl) ?_
                      refine va_iald hx hb hK hP 79 0 rfl rfl (kb_in b72 (by decide) (by decide)) dX7_reckonChains_89 ?_
                      refine k_top (z := t102) et102.symm ?_
                      refine lv_istore_n (lv' := [(3, .int t102), (4, .int y20), (2, .int y7), (1, .int y8), (0, .ref (r 59))]) hx hb dX7_reckonChains_90 rfl hl (by decide) rfl (fun ls hl => ?_)
                      exact jn93 _ _ _ t102  hP hD hS (lv_sub hl [1, 0, 2, 3, 4] rfl)
        exact lp22 (10)  _ _ _ t18 0 (by have h1 := (b19); unfold kb at h1; omega) b19 hP hD hS (lv_sub hl [0, 1, 2, 3, 4] rfl)
  exact lp10 (11)  a _ _ _ t5 0 (by have h1 := (b6); unfold kb at h1; omega) hI hG hE b6 hP hD hS (lv_sub hl [0, 1, 2] rfl)
set_option maxHeartbeats 4000000 in
set_option maxRecDepth 100000 in
theorem x_7_askedP  (l : Launch) {D : va_G} {K : Nat → ClassId} (r : Nat → Nat) (f : Nat → Int32) (a : Nat → Nat → Int32) (g : xG) (tx tt : va_W) (hT : ∀ c ∈ tt, c ∈ tx) (hI : xI f a) (hG : gOK K g.2 tt) (kd : Int32) (x : Int32) (y : Int32)    : kIG l yX7_asked (Cond.code yX7_asked cX7_asked 9 (some .int) :: kG) (rmD 3 0 0) D K [.ref (r 59), .int kd, .int x, .int y] (xX K r f a g tx) (fun v (u : xS) => kb (-2147483648) v 2147483647 ∧ xI u.1 u.2.1 ∧ gOK K u.2.2.2 tt ∧ xEk ([], [], []) f a g u.1 u.2.1 u.2.2) (fun u => xX K r u.1 u.2.1 u.2.2 tx) 0 0 := by
  refine kIE.of (cc := cX7_asked) (maxL := 9) (ret := (some .int)) (by decide) rfl (Nat.le_of_ble_eq_true rfl) ?_
  intro p e s m below meth c A hx hb hr hml hown hts hlocks hnm hK hP hD hS hA hV ls hl
  have hE : xEk ([], [], []) f a g f a g := xEk_rf
  have hg : ∀ w ∈ kG, w.before _ s = true := fun w h => hts w (List.mem_cons_of_mem _ h)
  have hown : s.vm.findClass RX7 = some m.cls := hown
  have hl : lv_has ls 9 [(0, .ref (r 59)), (1, .int kd), (2, .int x), (3, .int y)] := hl
  refine lv_iload_n hx hb dX7_asked_0 rfl (lv_at hl 1 rfl) ?_
  refine lv_if_lt (tgt := 28) hx hb dX7_asked_1 (by decide) (fun c1 => ?_) (fun c1 => ?_)
  · have h2 := (kc_lt c1)
    have b3 : kb (-2147483648) kd (-1) := kr_lt1 h2 (kb_any kd) kc_0 (by decide)
    refine lv_iconst (v := 0) hx hb dX7_asked_28 (by decide) ?_
    exact kI_ret (v := 0) hx hb hr hlocks rfl hK hS dX7_asked_29 (f, a, g) hP hD ⟨(kb_w kc_0 (by decide) (by decide)), hI, hG, hE⟩
  · have h4 := (kc_nlt c1)
    have b5 : kb 0 kd 2147483647 := kr_le2 h4 kc_0 (kb_any kd)
    refine lv_iload_n hx hb dX7_asked_4 rfl (lv_at hl 1 rfl) ?_
    obtain ⟨tt1, tt2, hz1, hT1, hz2, hT2⟩ := hV.2.1
    obtain ⟨tt3, hz3, hT3, hN3⟩ := hV.2.2.1
    refine va_getsN hx hb hz3 hS hown (va_Nw.use rfl hN3) (fun _ h => h) dX7_asked_5 ?_
    refine va_tlen (v := 4) hx hb hT3 hS (by decide +kernel) dX7_asked_8 ?_
    refine lv_icmp_ge (tgt := 28) hx hb dX7_asked_9 (by decide) (fun c6 => ?_) (fun c6 => ?_)
    · have h7 := (kc_le c6)
      have b8 : kb 4 kd 2147483647 := kr_le2 h7 kc_4 b5
      refine lv_iconst (v := 0) hx hb dX7_asked_28 (by decide) ?_
      exact kI_ret (v := 0) hx hb hr hlocks rfl hK hS dX7_asked_29 (f, a, g) hP hD ⟨(kb_w kc_0 (by decide) (by decide)), hI, hG, hE⟩
    · have h9 := (kc_nle c6)
      have b10 : kb 0 kd 3 := kr_lt1 h9 b5 kc_4 (by decide)
      refine lv_aload_n hx hb dX7_asked_12 rfl (lv_at hl 0 rfl) ?_
      refine lv_iload_n hx hb dX7_asked_13 rfl (lv_at hl 2 rfl) ?_
      refine kIG.callW (As := [.int x]) (rest := []) ⟨hx, hb, hml, hown, hg⟩ (x_7_hasBuilderP l r f a g tx tt hT hI hG x  ) (cwV 1 hg (kgV wt3_82 wt3_68 wt3_69 wt1_2 wt3_70) rfl rfl rfl (by decide +kernel) ⟨by decide, by decide⟩) hV hK hP hD hS hA (59) 7 rfl rfl rfl hl.1 rfl (Nat.le_of_ble_eq_true rfl) dX7_asked_14 ⟨Nat.le_refl _, Nat.le_refl _⟩ (fun v12 u13 H locs hw11 hP hD hS => ?_)
      have hP : va_P D vwCl (xX K r f a g tx) H := hP
      have hD : va_D A (xX K r f a g tx) := hD
      refine lv_if_eq (tgt := 28) hx hb dX7_asked_17 (by decide) (fun c14 => ?_) (fun c14 => ?_)
      · have b15 : kb 0 v12 0 := kb_eq c14 kc_0
        refine lv_iconst (v := 0) hx hb dX7_asked_28 (by decide) ?_
        exact kI_ret (v := 0) hx hb hr hlocks rfl hK hS dX7_asked_29 (f, a, g) hP hD ⟨(kb_w kc_0 (by decide) (by decide)), hI, hG, hE⟩
      · have b16 : kb 1 v12 1 := kr_nel c14 hw11.1 kc_0 (by decide)
        have h17 := hw11.2 c14
        have b18 : kb 0 x 5 := ⟨h17.1, h17.2⟩
        refine lv_aload_n hx hb dX7_asked_20 rfl (lv_at hl 0 rfl) ?_
        refine lv_iload_n hx hb dX7_asked_21 rfl (lv_at hl 3 rfl) ?_
        refine kIG.callW (As := [.int y]) (rest := []) ⟨hx, hb, hml, hown, hg⟩ (x_7_hasPartP l r f a g tx tt hT hI hG y  ) (cwV 1 hg (kgV wt3_83 wt3_36 wt3_37 wt1_2 wt3_38) rfl rfl rfl (by decide +kernel) ⟨by decide, by decide⟩) hV hK hP hD hS hA (59) 7 rfl rfl rfl hl.1 rfl (Nat.le_of_ble_eq_true rfl) dX7_asked_22 ⟨Nat.le_refl _, Nat.le_refl _⟩ (fun v20 u21 H locs hw19 hP hD hS => ?_)
        have hP : va_P D vwCl (xX K r f a g tx) H := hP
        have hD : va_D A (xX K r f a g tx) := hD
        refine lv_if_ne (tgt := 30) hx hb dX7_asked_25 (by decide) (fun c22 => ?_) (fun c22 => ?_)
        · have b23 : kb 1 v20 1 := kr_nel c22 hw19.1 kc_0 (by decide)
          have h24 := hw19.2.1 c22
          have b25 : kb 0 y 9 := ⟨h24.1, h24.2⟩
          refine lv_aload_n hx hb dX7_asked_30 rfl (lv_at hl 0 rfl) ?_
          refine va_get (D := D) (ci := 7) (v := .int (f 1906)) (C := RX7) (T := TX7) (N := 20) hx hb hg inC7 hown hK hP 59 rfl rfl 18 (by decide) (hg _ wt1_151) (fun _ h9 => h9) rfl dX7_asked_31 ?_
          refine lv_topi (fun t26 et26 => ?_)
          refine lv_if_lt (tgt := 58) hx hb dX7_asked_34 (by decide) (fun c27 => ?_) (fun c27 => ?_)
          · have h28 := (kc_lt c27)
            have b29 : kb (-2147483648) t26 (-1) := kr_lt1 h28 (kb_any t26) kc_0 (by decide)
            refine lv_null hx hb dX7_asked_58 ?_
            refine lv_astoreN (lv' := [(4, .null), (0, .ref (r 59)), (1, .int kd), (2, .int x), (3, .int y)]) hx hb dX7_asked_59 hl (by decide) rfl (fun ls hl => ?_)
            refine lv_aloadN hx hb dX7_asked_61 (lv_at hl 0 rfl) ?_
            refine lv_ifnonnullN hx hb dX7_asked_63 ?_
            refine lv_aload_n hx hb dX7_asked_66 rfl (lv_at hl 1 rfl) ?_
            refine lv_iload_n hx hb dX7_asked_67 rfl (lv_at hl 2 rfl) ?_
            refine lv_iload_n hx hb dX7_asked_68 rfl (lv_at hl 3 rfl) ?_
            refine lv_iload_n hx hb dX7_asked_69 rfl (lv_at hl 4 rfl) ?_
            refine kIG.callW (As := [.int kd, .int x, .int y]) (rest := []) ⟨hx, hb, hml, hown, hg⟩ (x_7_withoutLawP l r f a g tx tt hT hI hG kd x y b18 b25 ) (cwV 3 hg (kgV wt3_84 wt3_86 wp1_3 wt1_2 wt3_87) rfl rfl rfl (by decide +kernel) ⟨by decide, by decide⟩) hV hK hP hD hS hA (59) 7 rfl rfl rfl hl.1 rfl (Nat.le_of_ble_eq_true rfl) dX7_asked_70 ⟨Nat.le_refl _, Nat.le_refl _⟩ (fun v31 u32 H locs hw30 hP hD hS => ?_)
            have hP : va_P D vwCl (xX K r f a g tx) H := hP
            have hD : va_D A (xX K r f a g tx) := hD
            exact kI_ret (v := v31) hx hb hr hlocks rfl hK hS dX7_asked_73 (f, a, g) hP hD ⟨(kb_any v31), hI, hG, hE⟩
          · have h33 := (kc_nlt c27)
            have b34 : kb 0 t26 2147483647 := kr_le2 h33 kc_0 (kb_any t26)
            refine lv_aload_n hx hb dX7_asked_37 rfl (lv_at hl 0 rfl) ?_
            refine va_get (D := D) (ci := 7) (v := .int (f 1906)) (C := RX7) (T := TX7) (N := 20) hx hb hg inC7 hown hK hP 59 rfl rfl 18 (by decide) (hg _ wt1_151) (fun _ h9 => h9) rfl dX7_asked_38 ?_
            refine k_top (z := t26) et26.symm ?_
            refine lv_bipush (v := 6) hx hb dX7_asked_41 (by decide) ?_
            refine lv_icmp_ge (tgt := 58) hx hb dX7_asked_43 (by decide) (fun c35 => ?_) (fun c35 => ?_)
            · have h36 := (kc_le c35)
              have b37 : kb 6 t26 2147483647 := kr_le2 h36 kc_6 b34
              refine lv_null hx hb dX7_asked_58 ?_
              refine lv_astoreN (lv' := [(4, .null), (0, .ref (r 59)), (1, .int kd), (2, .int x), (3, .int y)]) hx hb dX7_asked_59 hl (by decide) rfl (fun ls hl => ?_)
              refine lv_aloadN hx hb dX7_asked_61 (lv_at hl 0 rfl) ?_
              refine lv_ifnonnullN hx hb dX7_asked_63 ?_
              refine lv_aload_n hx hb dX7_asked_66 rfl (lv_at hl 1 rfl) ?_
              refine lv_iload_n hx hb dX7_asked_67 rfl (lv_at hl 2 rfl) ?_
              refine lv_iload_n hx hb dX7_asked_68 rfl (lv_at hl 3 rfl) ?_
              refine lv_iload_n hx hb dX7_asked_69 rfl (lv_at hl 4 rfl) ?_
              refine kIG.callW (As := [.int kd, .int x, .int y]) (rest := []) ⟨hx, hb, hml, hown, hg⟩ (x_7_withoutLawP l r f a g tx tt hT hI hG kd x y b18 b25 ) (cwV 3 hg (kgV wt3_84 wt3_86 wp1_3 wt1_2 wt3_87) rfl rfl rfl (by decide +kernel) ⟨by decide, by decide⟩) hV hK hP hD hS hA (59) 7 rfl rfl rfl hl.1 rfl (Nat.le_of_ble_eq_true rfl) dX7_asked_70 ⟨Nat.le_refl _, Nat.le_refl _⟩ (fun v39 u40 H locs hw38 hP hD hS => ?_)
              have hP : va_P D vwCl (xX K r f a g tx) H := hP
              have hD : va_D A (xX K r f a g tx) := hD
              exact kI_ret (v := v39) hx hb hr hlocks rfl hK hS dX7_asked_73 (f, a, g) hP hD ⟨(kb_any v39), hI, hG, hE⟩
            · have h41 := (kc_nle c35)
              have b42 : kb 0 t26 5 := kr_lt1 h41 b34 kc_6 (by decide)
              refine lv_aload_n hx hb dX7_asked_46 rfl (lv_at hl 0 rfl) ?_
              refine va_get (D := D) (ci := 7) (v := .ref (r 73)) (C := RX7) (T := TX7) (N := 20) hx hb hg inC7 hown hK hP 59 rfl rfl 16 (by decide) (hg _ wt1_147) (fun _ h9 => h9) rfl dX7_asked_47 ?_
              refine lv_aload_n hx hb dX7_asked_50 rfl (lv_at hl 0 rfl) ?_
              refine va_get (D := D) (ci := 7) (v := .int (f 1906)) (C := RX7) (T := TX7) (N := 20) hx hb hg inC7 hown hK hP 59 rfl rfl 18 (by decide) (hg _ wt1_151) (fun _ h9 => h9) rfl dX7_asked_51 ?_
              refine k_top (z := t26) et26.symm ?_
              refine va_aldq hx hb hK hP 73 5 rfl rfl (kb_in b42 (by decide) (by decide)) dX7_asked_54 ?_
              rcases hG 73 (t26.toNatClampNeg) (by decide) with hn44 | hn44
              · refine k_topn hn44 ?_
                refine lv_goto (tgt := 59) hx hb dX7_asked_55 (by decide) ?_
                refine lv_astoreN (lv' := [(4, .null), (0, .ref (r 59)), (1, .int kd), (2, .int x), (3, .int y)]) hx hb dX7_asked_59 hl (by decide) rfl (fun ls hl => ?_)
                refine lv_aloadN hx hb dX7_asked_61 (lv_at hl 0 rfl) ?_
                refine lv_ifnonnullN hx hb dX7_asked_63 ?_
                refine lv_aload_n hx hb dX7_asked_66 rfl (lv_at hl 1 rfl) ?_
                refine lv_iload_n hx hb dX7_asked_67 rfl (lv_at hl 2 rfl) ?_
                refine lv_iload_n hx hb dX7_asked_68 rfl (lv_at hl 3 rfl) ?_
                refine lv_iload_n hx hb dX7_asked_69 rfl (lv_at hl 4 rfl) ?_
                refine kIG.callW (As := [.int kd, .int x, .int y]) (rest := []) ⟨hx, hb, hml, hown, hg⟩ (x_7_withoutLawP l r f a g tx tt hT hI hG kd x y b18 b25 ) (cwV 3 hg (kgV wt3_84 wt3_86 wp1_3 wt1_2 wt3_87) rfl rfl rfl (by decide +kernel) ⟨by decide, by decide⟩) hV hK hP hD hS hA (59) 7 rfl rfl rfl hl.1 rfl (Nat.le_of_ble_eq_true rfl) dX7_asked_70 ⟨Nat.le_refl _, Nat.le_refl _⟩ (fun v46 u47 H locs hw45 hP hD hS => ?_)
                have hP : va_P D vwCl (xX K r f a g tx) H := hP
                have hD : va_D A (xX K r f a g tx) := hD
                exact kI_ret (v := v46) hx hb hr hlocks rfl hK hS dX7_asked_73 (f, a, g) hP hD ⟨(kb_any v46), hI, hG, hE⟩
              · obtain ⟨t43, ht43, hn44⟩ := hn44
                refine k_tops hn44 ?_
                obtain ⟨jt43_0, hjt43_0⟩ := tIn_at (tIn_w hT ht43) (k := 0) rfl
                obtain ⟨jt43_1, hjt43_1⟩ := tIn_at (tIn_w hT ht43) (k := 1) rfl
                obtain ⟨jt43_2, hjt43_2⟩ := tIn_at (tIn_w hT ht43) (k := 2) rfl
                obtain ⟨jt43_3, hjt43_3⟩ := tIn_at (tIn_w hT ht43) (k := 3) rfl
                obtain ⟨jt43_4, hjt43_4⟩ := tIn_at (tIn_w hT ht43) (k := 4) rfl
                have hnt43 : (nI t43.2.2.2).toInt = (t43.2.2.2 : Int) := kn_to (by have w1 := ht43.1; omega)
                refine lv_goto (tgt := 59) hx hb dX7_asked_55 (by decide) ?_
                refine lv_astore (lv' := [(4, .ref (t43.1 0)), (0, .ref (r 59)), (1, .int kd), (2, .int x), (3, .int y)]) hx hb dX7_asked_59 hl (by decide) rfl (fun ls hl => ?_)
                refine lv_aload hx hb dX7_asked_61 (lv_at hl 0 rfl) ?_
                refine lv_ifnonnull (tgt := 74) hx hb dX7_asked_63 (by decide) ?_
                refine lv_iconst (v := 0) hx hb dX7_asked_74 (by decide) ?_
                refine lv_istore (lv' := [(5, .int 0), (4, .ref (t43.1 0)), (0, .ref (r 59)), (1, .int kd), (2, .int x), (3, .int y)]) hx hb dX7_asked_75 hl (by decide) rfl (fun ls hl => ?_)
                refine lv_aload hx hb dX7_asked_77 (lv_at hl 1 rfl) ?_
                refine va_get (D := D) (ci := 10) (v := .int (t43.2.1 0)) (C := RX10) (T := TX10) (N := 6) hx hb hg inC10 hown hK hP (jt43_0 + 95) hjt43_0 rfl 0 (by decide) (hg _ wt2_42) (fun _ h9 => h9) rfl dX7_asked_79 ?_
                refine lv_topi (fun t48 et48 => ?_)
                have b49 : kb 0 t48 12 := kb_eq et48 ht43.2.2.1
                refine lv_bipush (v := 12) hx hb dX7_asked_82 (by decide) ?_
                refine va_mmin hx hb (hml.trans hl.1.symm) hown (hg _ wt3_51) (hg _ wt3_52) (hg _ wt1_9) (hg _ wt3_53) (by decide) (Nat.le_of_ble_eq_true rfl) (by decide) (by decide) dX7_asked_84 ?_
                refine lv_topi (fun t50 et50 => ?_)
                have b51 : kb 0 t50 12 := kb_eq et50 (kb_mn b49 kc_12 (by decide) (by decide) (by decide) (by decide))
                refine lv_iconst (v := 1) hx hb dX7_asked_87 (by decide) ?_
                refine lv_isub hx hb dX7_asked_88 ?_
                refine lv_topi (fun t52 et52 => ?_)
                have b53 : kb (-1) t52 11 := kb_eq et52 (kb_sub b51 kc_1 (by decide) (by decide))
                have qt52 : t52.toInt = t50.toInt - 1 := by rw [et52]; exact kt_subc b51 kc_1 (by decide) (by decide)
                refine lv_istore (lv' := [(6, .int t52), (5, .int 0), (4, .ref (t43.1 0)), (0, .ref (r 59)), (1, .int kd), (2, .int x), (3, .int y)]) hx hb dX7_asked_89 hl (by decide) rfl (fun ls hl => ?_)
                have lp59 : ∀ (n60 : Nat) (F56 : Nat → Int32) (B57 : Nat → Nat → Int32) (G58 : xG) (H : Heap) (locs : List Loc) (ls : Array Slot) (y54 : Int32) (y55 : Int32), (y54.toInt + 1 < (n60 : Int)) → (xI F56 B57) → (gOK K G58.2 tt) → (xEk ([], [], []) f a g F56 B57 G58) → (kb (-1) y54 11) → (kb 0 y55 1) → va_P D vwCl (xX K r F56 B57 G58 tx) H → va_D A (xX K r F56 B57 G58 tx) → va_S A s.heap H locs → lv_has ls 9 [(6, .int y54), (5, .int y55), (4, .ref (t43.1 0)), (0, .ref (r 59)), (1, .int kd), (2, .int x), (3, .int y)] → W p l e (rmD 3 0 0) s m ([.ref (r 59), .int kd, .int x, .int y] : List Value).toArray below meth c H locs 0 0 (kQi D (tysK K) (fun v (u : xS) => kb (-2147483648) v 2147483647 ∧ xI u.1 u.2.1 ∧ gOK K u.2.2.2 tt ∧ xEk ([], [], []) f a g u.1 u.2.1 u.2.2) (fun u => xX K r u.1 u.2.1 u.2.2 tx) A below ([.ref (r 59), .int kd, .int x, .int y] : List Value).toArray s 0 0) (F0 m 91 ls []) := by
                  intro n60
                  induction n60 with
                  | zero =>
                    intro  F56 B57 G58  H locs ls y54 y55 hmlp59 hI hG hE b61 b62 hP hD hS hl
                    exact (by have h1 := b61.1; have h2 := hmlp59; omega : False).elim
                  | succ n60 ihlp59 =>
                    intro  F56 B57 G58  H locs ls y54 y55 hmlp59 hI hG hE b61 b62 hP hD hS hl
                    refine lv_iload hx hb dX7_asked_91 (lv_at hl 0 rfl) ?_
                    refine lv_if_lt (tgt := 208) hx hb dX7_asked_93 (by decide) (fun c63 => ?_) (fun c63 => ?_)
                    · have h64 := (kc_lt c63)
                      have b65 : kb (-1) y54 (-1) := kr_lt1 h64 b61 kc_0 (by decide)
                      refine lv_aload_n hx hb dX7_asked_208 rfl (lv_at hl 3 rfl) ?_
                      refine lv_iload_n hx hb dX7_asked_209 rfl (lv_at hl 4 rfl) ?_
                      refine lv_iload_n hx hb dX7_asked_210 rfl (lv_at hl 5 rfl) ?_
                      refine lv_iload_n hx hb dX7_asked_211 rfl (lv_at hl 6 rfl) ?_
                      refine kIG.callW (As := [.int kd, .int x, .int y]) (rest := []) ⟨hx, hb, hml, hown, hg⟩ (x_7_withoutLawP l r F56 B57 G58 tx tt hT hI hG kd x y b18 b25 ) (cwV 3 hg (kgV wt3_84 wt3_86 wp1_3 wt1_2 wt3_87) rfl rfl rfl (by decide +kernel) ⟨by decide, by decide⟩) hV hK hP hD hS hA (59) 7 rfl rfl rfl hl.1 rfl (Nat.le_of_ble_eq_true rfl) dX7_asked_212 ⟨Nat.le_refl _, Nat.le_refl _⟩ (fun v67 u68 H locs hw66 hP hD hS => ?_)
                      have hP : va_P D vwCl (xX K r F56 B57 G58 tx) H := hP
                      have hD : va_D A (xX K r F56 B57 G58 tx) := hD
                      exact kI_ret (v := v67) hx hb hr hlocks rfl hK hS dX7_asked_215 (F56, B57, G58) hP hD ⟨(kb_any v67), hI, hG, hE⟩
                    · have h69 := (kc_nlt c63)
                      have b70 : kb 0 y54 11 := kr_le2 h69 kc_0 b61
                      refine lv_aload hx hb dX7_asked_96 (lv_at hl 2 rfl) ?_
                      refine va_get (D := D) (ci := 10) (v := .ref (t43.1 1)) (C := RX10) (T := TX10) (N := 6) hx hb hg inC10 hown hK hP (jt43_0 + 95) hjt43_0 rfl 1 (by decide) (hg _ wt2_45) (fun _ h9 => h9) rfl dX7_asked_98 ?_
                      refine lv_iload hx hb dX7_asked_101 (lv_at hl 0 rfl) ?_
                      refine va_iald hx hb hK hP (jt43_1 + 95) 0 hjt43_1 rfl (kb_in b70 (by decide) (by decide)) dX7_asked_103 ?_
                      refine lv_topi (fun t71 et71 => ?_)
                      refine lv_iload_n hx hb dX7_asked_104 rfl (lv_at hl 4 rfl) ?_
                      refine lv_icmp_eq (tgt := 111) hx hb dX7_asked_105 (by decide) (fun c72 => ?_) (fun c72 => ?_)
                      · have b73 : kb 0 t71 3 := kb_eq c72 b10
                        refine lv_iload hx hb dX7_asked_111 (lv_at hl 1 rfl) ?_
                        refine lv_if_ne (tgt := 125) hx hb dX7_asked_113 (by decide) (fun c74 => ?_) (fun c74 => ?_)
                        · have b75 : kb 1 y55 1 := kr_nel c74 b62 kc_0 (by decide)
                          refine lv_aload hx hb dX7_asked_125 (lv_at hl 2 rfl) ?_
                          refine lv_iload hx hb dX7_asked_127 (lv_at hl 0 rfl) ?_
                          refine lv_iconst (v := 2) hx hb dX7_asked_129 (by decide) ?_
                          refine lv_aload_n hx hb dX7_asked_130 rfl (lv_at hl 3 rfl) ?_
                          refine va_get (D := D) (ci := 7) (v := .ref (r 74)) (C := RX7) (T := TX7) (N := 20) hx hb hg inC7 hown hK hP 59 rfl rfl 19 (by decide) (hg _ wt1_154) (fun _ h9 => h9) rfl dX7_asked_131 ?_
                          refine va_get (D := D) (ci := 8) (v := .ref (r 75)) (C := RX8) (T := TX8) (N := 5) hx hb hg inC8 hown hK hP 74 rfl rfl 0 (by decide) (hg _ wt1_54) (fun _ h9 => h9) rfl dX7_asked_134 ?_
                          refine lv_aload_n hx hb dX7_asked_137 rfl (lv_at hl 3 rfl) ?_
                          refine va_get (D := D) (ci := 7) (v := .ref (r 74)) (C := RX7) (T := TX7) (N := 20) hx hb hg inC7 hown hK hP 59 rfl rfl 19 (by decide) (hg _ wt1_154) (fun _ h9 => h9) rfl dX7_asked_138 ?_
                          refine va_get (D := D) (ci := 8) (v := .ref (r 76)) (C := RX8) (T := TX8) (N := 5) hx hb hg inC8 hown hK hP 74 rfl rfl 1 (by decide) (hg _ wt1_57) (fun _ h9 => h9) rfl dX7_asked_141 ?_
                          refine kLG.callW (As := [.int y54, .int 2, .ref (r 75), .ref (r 76)]) (rest := []) ⟨hx, hb, hml, hown, hg⟩ (x_10_reckonP l r F56 B57 G58 tx tt hT hI hG y54 2 b70 (kb_w kc_2 (by decide) (by decide)) t43 ht43) (cwV 4 hg (kgV wt3_96 wt3_97 wt3_98 wt1_8 wt3_99) rfl rfl rfl (by decide +kernel) ⟨by decide, by decide⟩) hV hK hP hD hS hA (jt43_0 + 95) 10 rfl hjt43_0 rfl hl.1 rfl (Nat.le_of_ble_eq_true rfl) dX7_asked_144 ⟨Nat.le_refl _, Nat.le_refl _⟩ (fun v77 u78 H locs hw76 hP hD hS => ?_)
                          obtain ⟨f79, a80, g81⟩ := u78
                          have hP : va_P D vwCl (xX K r f79 a80 g81 tx) H := hP
                          have hD : va_D A (xX K r f79 a80 g81 tx) := hD
                          have hI : xI f79 a80 := hw76.2.1
                          have hG : gOK K g81.2 tt := hw76.2.2.1
                          have eE82 : xEk ([], [], []) F56 B57 G58 f79 a80 g81 := hw76.2.2.2
                          have hE : xEk ([], [], []) f a g f79 a80 g81 := xEk_tr hE eE82
                          refine lv_lconst (v := 1) hx hb dX7_asked_147 (by decide) ?_
                          refine W.lcmp hx hb dX7_asked_148 ?_
                          refine lv_topi (fun t83 et83 => ?_)
                          refine lv_if_ne (tgt := 202) hx hb dX7_asked_149 (by decide) (fun c84 => ?_) (fun c84 => ?_)
                          · have h85 := klc_ne (et83 ▸ c84)
                            obtain ⟨t86, et86⟩ : ∃ z : Int32, z = y54 + Int32.ofInt (-1) := ⟨_, rfl⟩
                            have qt86 : t86.toInt = y54.toInt - 1 := by rw [et86]; exact km_dec b70 (by decide)
                            have b87 : kb (-1) t86 10 := kb_inc (k := (-1)) qt86 b70
                            refine lv_iinc (v := t86) (lv' := [(6, .int t86), (5, .int y55), (4, .ref (t43.1 0)), (0, .ref (r 59)), (1, .int kd), (2, .int x), (3, .int y)]) hx hb dX7_asked_202 hl (k := 0) rfl et86.symm (by decide) rfl (fun ls hl => ?_)
                            refine lv_goto (tgt := 91) hx hb dX7_asked_205 (by decide) ?_
                            exact ihlp59  f79 a80 g81 _ _ _ t86 y55 (km_dn hmlp59 qt86) hI hG hE (kb_w b87 (by decide) (by decide)) (kb_w b75 (by decide) (by decide)) hP hD hS (lv_sub hl [0, 1, 2, 3, 4, 5, 6] rfl)
                          · have h88 := klc_eq (et83 ▸ c84)
                            refine lv_aload hx hb dX7_asked_152 (lv_at hl 2 rfl) ?_
                            refine lv_iload hx hb dX7_asked_154 (lv_at hl 0 rfl) ?_
                            refine lv_iconst (v := 0) hx hb dX7_asked_156 (by decide) ?_
                            refine lv_aload_n hx hb dX7_asked_157 rfl (lv_at hl 3 rfl) ?_
                            refine va_get (D := D) (ci := 7) (v := .ref (r 74)) (C := RX7) (T := TX7) (N := 20) hx hb hg inC7 hown hK hP 59 rfl rfl 19 (by decide) (hg _ wt1_154) (fun _ h9 => h9) rfl dX7_asked_158 ?_
                            refine va_get (D := D) (ci := 8) (v := .ref (r 75)) (C := RX8) (T := TX8) (N := 5) hx hb hg inC8 hown hK hP 74 rfl rfl 0 (by decide) (hg _ wt1_54) (fun _ h9 => h9) rfl dX7_asked_161 ?_
                            refine lv_aload_n hx hb dX7_asked_164 rfl (lv_at hl 3 rfl) ?_
                            refine va_get (D := D) (ci := 7) (v := .ref (r 74)) (C := RX7) (T := TX7) (N := 20) hx hb hg inC7 hown hK hP 59 rfl rfl 19 (by decide) (hg _ wt1_154) (fun _ h9 => h9) rfl dX7_asked_165 ?_
                            refine va_get (D := D) (ci := 8) (v := .ref (r 76)) (C := RX8) (T := TX8) (N := 5) hx hb hg inC8 hown hK hP 74 rfl rfl 1 (by decide) (hg _ wt1_57) (fun _ h9 => h9) rfl dX7_asked_168 ?_
                            refine kLG.callW (As := [.int y54, .int 0, .ref (r 75), .ref (r 76)]) (rest := []) ⟨hx, hb, hml, hown, hg⟩ (x_10_reckonP l r f79 a80 g81 tx tt hT hI hG y54 0 b70 (kb_w kc_0 (by decide) (by decide)) t43 ht43) (cwV 4 hg (kgV wt3_96 wt3_97 wt3_98 wt1_8 wt3_99) rfl rfl rfl (by decide +kernel) ⟨by decide, by decide⟩) hV hK hP hD hS hA (jt43_0 + 95) 10 rfl hjt43_0 rfl hl.1 rfl (Nat.le_of_ble_eq_true rfl) dX7_asked_171 ⟨Nat.le_refl _, Nat.le_refl _⟩ (fun v90 u91 H locs hw89 hP hD hS => ?_)
                            obtain ⟨f92, a93, g94⟩ := u91
                            have hP : va_P D vwCl (xX K r f92 a93 g94 tx) H := hP
                            have hD : va_D A (xX K r f92 a93 g94 tx) := hD
                            have hI : xI f92 a93 := hw89.2.1
                            have hG : gOK K g94.2 tt := hw89.2.2.1
                            have eE95 : xEk ([], [], []) f79 a80 g81 f92 a93 g94 := hw89.2.2.2
                            have hE : xEk ([], [], []) f a g f92 a93 g94 := xEk_tr hE eE95
                            refine lv_lstore (lv' := [(7, .long v90), (6, .int y54), (5, .int y55), (4, .ref (t43.1 0)), (0, .ref (r 59)), (1, .int kd), (2, .int x), (3, .int y)]) hx hb dX7_asked_174 hl (by decide) rfl (fun ls hl => ?_)
                            refine lv_lload hx hb dX7_asked_176 (lv_at hl 0 rfl) ?_
                            refine lv_ldc2 (v := (-1000000000000)) hx hb hown (hg _ wt3_106) dX7_asked_178 ?_
                            refine W.lcmp hx hb dX7_asked_181 ?_
                            refine lv_topi (fun t96 et96 => ?_)
                            refine lv_if_eq (tgt := 202) hx hb dX7_asked_182 (by decide) (fun c97 => ?_) (fun c97 => ?_)
                            · have h98 := klc_eq (et96 ▸ c97)
                              obtain ⟨t99, et99⟩ : ∃ z : Int32, z = y54 + Int32.ofInt (-1) := ⟨_, rfl⟩
                              have qt99 : t99.toInt = y54.toInt - 1 := by rw [et99]; exact km_dec b70 (by decide)
                              have b100 : kb (-1) t99 10 := kb_inc (k := (-1)) qt99 b70
                              refine lv_iinc (v := t99) (lv' := [(6, .int t99), (7, .long v90), (5, .int y55), (4, .ref (t43.1 0)), (0, .ref (r 59)), (1, .int kd), (2, .int x), (3, .int y)]) hx hb dX7_asked_202 hl (k := 1) rfl et99.symm (by decide) rfl (fun ls hl => ?_)
                              refine lv_goto (tgt := 91) hx hb dX7_asked_205 (by decide) ?_
                              exact ihlp59  f92 a93 g94 _ _ _ t99 y55 (km_dn hmlp59 qt99) hI hG hE (kb_w b100 (by decide) (by decide)) (kb_w b75 (by decide) (by decide)) hP hD hS (lv_sub hl [0, 2, 3, 4, 5, 6, 7] rfl)
                            · have h101 := klc_ne (et96 ▸ c97)
                              refine lv_lconst (v := 0) hx hb dX7_asked_185 (by decide) ?_
                              refine va_getsN hx hb hz3 hS hown (va_Nw.use rfl hN3) (fun _ h => h) dX7_asked_186 ?_
                              refine lv_iload_n hx hb dX7_asked_189 rfl (lv_at hl 5 rfl) ?_
                              refine va_ti (v := .int (mt0 kd.toNatClampNeg)) hx hb hT3 hS (kb_in b10 (by decide) (by decide)) rfl dX7_asked_190 ?_
                              refine lv_topi (fun t102 et102 => ?_)
                              refine lv_i2l hx hb dX7_asked_191 rfl ?_
                              refine lv_topl (fun t103 et103 => ?_)
                              refine lv_lload hx hb dX7_asked_192 (lv_at hl 0 rfl) ?_
                              refine va_mmin_long hx hb (hml.trans hl.1.symm) hown (hg _ wt3_107) (hg _ wt3_108) (hg _ wt1_9) (hg _ wt3_109) (by decide) (Nat.le_of_ble_eq_true rfl) (by decide) (by decide) dX7_asked_194 ?_
                              refine lv_topl (fun t104 et104 => ?_)
                              refine va_mmax_long hx hb (hml.trans hl.1.symm) hown (hg _ wt3_110) (hg _ wt3_111) (hg _ wt1_9) (hg _ wt3_112) (by decide) (Nat.le_of_ble_eq_true rfl) (by decide) (by decide) dX7_asked_197 ?_
                              refine lv_topl (fun t105 et105 => ?_)
                              refine lv_l2i hx hb dX7_asked_200 rfl ?_
                              refine lv_topi (fun t106 et106 => ?_)
                              exact kI_ret (v := t106) hx hb hr hlocks rfl hK hS dX7_asked_201 (f92, a93, g94) hP hD ⟨(kb_any t106), hI, hG, hE⟩
                        · have b107 : kb 0 y55 0 := kb_eq c74 kc_0
                          refine lv_aload_n hx hb dX7_asked_116 rfl (lv_at hl 3 rfl) ?_
                          refine lv_iload_n hx hb dX7_asked_117 rfl (lv_at hl 5 rfl) ?_
                          refine lv_iload_n hx hb dX7_asked_118 rfl (lv_at hl 6 rfl) ?_
                          refine kVG.callW (As := [.int x, .int y]) (rest := []) ⟨hx, hb, hml, hown, hg⟩ (x_7_writeWordsP l r F56 B57 G58 tx tt hT hI hG x y b18 b25 ) (cwV 2 hg (kgV wt3_92 wt3_94 wp1_5 wt1_2 wt3_95) rfl rfl rfl (by decide +kernel) ⟨by decide, by decide⟩) hV hK hP hD hS hA (59) 7 rfl rfl rfl hl.1 rfl (Nat.le_of_ble_eq_true rfl) dX7_asked_119 ⟨Nat.le_refl _, Nat.le_refl _⟩ (fun u110 H locs hw108 hP hD hS => ?_)
                          obtain ⟨f111, a112, g113⟩ := u110
                          have hP : va_P D vwCl (xX K r f111 a112 g113 tx) H := hP
                          have hD : va_D A (xX K r f111 a112 g113 tx) := hD
                          have hI : xI f111 a112 := hw108.1
                          have hG : gOK K g113.2 tt := hw108.2.1
                          have eE114 : xEk ([], [], []) F56 B57 G58 f111 a112 g113 := hw108.2.2
                          have hE : xEk ([], [], []) f a g f111 a112 g113 := xEk_tr hE eE114
                          refine lv_iconst (v := 1) hx hb dX7_asked_122 (by decide) ?_
                          refine lv_istore (lv' := [(5, .int 1), (6, .int y54), (4, .ref (t43.1 0)), (0, .ref (r 59)), (1, .int kd), (2, .int x), (3, .int y)]) hx hb dX7_asked_123 hl (by decide) rfl (fun ls hl => ?_)
                          refine lv_aload hx hb dX7_asked_125 (lv_at hl 2 rfl) ?_
                          refine lv_iload hx hb dX7_asked_127 (lv_at hl 1 rfl) ?_
                          refine lv_iconst (v := 2) hx hb dX7_asked_129 (by decide) ?_
                          refine lv_aload_n hx hb dX7_asked_130 rfl (lv_at hl 3 rfl) ?_
                          refine va_get (D := D) (ci := 7) (v := .ref (r 74)) (C := RX7) (T := TX7) (N := 20) hx hb hg inC7 hown hK hP 59 rfl rfl 19 (by decide) (hg _ wt1_154) (fun _ h9 => h9) rfl dX7_asked_131 ?_
                          refine va_get (D := D) (ci := 8) (v := .ref (r 75)) (C := RX8) (T := TX8) (N := 5) hx hb hg inC8 hown hK hP 74 rfl rfl 0 (by decide) (hg _ wt1_54) (fun _ h9 => h9) rfl dX7_asked_134 ?_
                          refine lv_aload_n hx hb dX7_asked_137 rfl (lv_at hl 3 rfl) ?_
                          refine va_get (D := D) (ci := 7) (v := .ref (r 74)) (C := RX7) (T := TX7) (N := 20) hx hb hg inC7 hown hK hP 59 rfl rfl 19 (by decide) (hg _ wt1_154) (fun _ h9 => h9) rfl dX7_asked_138 ?_
                          refine va_get (D := D) (ci := 8) (v := .ref (r 76)) (C := RX8) (T := TX8) (N := 5) hx hb hg inC8 hown hK hP 74 rfl rfl 1 (by decide) (hg _ wt1_57) (fun _ h9 => h9) rfl dX7_asked_141 ?_
                          refine kLG.callW (As := [.int y54, .int 2, .ref (r 75), .ref (r 76)]) (rest := []) ⟨hx, hb, hml, hown, hg⟩ (x_10_reckonP l r f111 a112 g113 tx tt hT hI hG y54 2 b70 (kb_w kc_2 (by decide) (by decide)) t43 ht43) (cwV 4 hg (kgV wt3_96 wt3_97 wt3_98 wt1_8 wt3_99) rfl rfl rfl (by decide +kernel) ⟨by decide, by decide⟩) hV hK hP hD hS hA (jt43_0 + 95) 10 rfl hjt43_0 rfl hl.1 rfl (Nat.le_of_ble_eq_true rfl) dX7_asked_144 ⟨Nat.le_refl _, Nat.le_refl _⟩ (fun v116 u117 H locs hw115 hP hD hS => ?_)
                          obtain ⟨f118, a119, g120⟩ := u117
                          have hP : va_P D vwCl (xX K r f118 a119 g120 tx) H := hP
                          have hD : va_D A (xX K r f118 a119 g120 tx) := hD
                          have hI : xI f118 a119 := hw115.2.1
                          have hG : gOK K g120.2 tt := hw115.2.2.1
                          have eE121 : xEk ([], [], []) f111 a112 g113 f118 a119 g120 := hw115.2.2.2
                          have hE : xEk ([], [], []) f a g f118 a119 g120 := xEk_tr hE eE121
                          refine lv_lconst (v := 1) hx hb dX7_asked_147 (by decide) ?_
                          refine W.lcmp hx hb dX7_asked_148 ?_
                          refine lv_topi (fun t122 et122 => ?_)
                          refine lv_if_ne (tgt := 202) hx hb dX7_asked_149 (by decide) (fun c123 => ?_) (fun c123 => ?_)
                          · have h124 := klc_ne (et122 ▸ c123)
                            obtain ⟨t125, et125⟩ : ∃ z : Int32, z = y54 + Int32.ofInt (-1) := ⟨_, rfl⟩
                            have qt125 : t125.toInt = y54.toInt - 1 := by rw [et125]; exact km_dec b70 (by decide)
                            have b126 : kb (-1) t125 10 := kb_inc (k := (-1)) qt125 b70
                            refine lv_iinc (v := t125) (lv' := [(6, .int t125), (5, .int 1), (4, .ref (t43.1 0)), (0, .ref (r 59)), (1, .int kd), (2, .int x), (3, .int y)]) hx hb dX7_asked_202 hl (k := 1) rfl et125.symm (by decide) rfl (fun ls hl => ?_)
                            refine lv_goto (tgt := 91) hx hb dX7_asked_205 (by decide) ?_
                            exact ihlp59  f118 a119 g120 _ _ _ t125 1 (km_dn hmlp59 qt125) hI hG hE (kb_w b126 (by decide) (by decide)) (kb_w kc_1 (by decide) (by decide)) hP hD hS (lv_sub hl [0, 1, 2, 3, 4, 5, 6] rfl)
                          · have h127 := klc_eq (et122 ▸ c123)
                            refine lv_aload hx hb dX7_asked_152 (lv_at hl 2 rfl) ?_
                            refine lv_iload hx hb dX7_asked_154 (lv_at hl 1 rfl) ?_
                            refine lv_iconst (v := 0) hx hb dX7_asked_156 (by decide) ?_
                            refine lv_aload_n hx hb dX7_asked_157 rfl (lv_at hl 3 rfl) ?_
                            refine va_get (D := D) (ci := 7) (v := .ref (r 74)) (C := RX7) (T := TX7) (N := 20) hx hb hg inC7 hown hK hP 59 rfl rfl 19 (by decide) (hg _ wt1_154) (fun _ h9 => h9) rfl dX7_asked_158 ?_
                            refine va_get (D := D) (ci := 8) (v := .ref (r 75)) (C := RX8) (T := TX8) (N := 5) hx hb hg inC8 hown hK hP 74 rfl rfl 0 (by decide) (hg _ wt1_54) (fun _ h9 => h9) rfl dX7_asked_161 ?_
                            refine lv_aload_n hx hb dX7_asked_164 rfl (lv_at hl 3 rfl) ?_
                            refine va_get (D := D) (ci := 7) (v := .ref (r 74)) (C := RX7) (T := TX7) (N := 20) hx hb hg inC7 hown hK hP 59 rfl rfl 19 (by decide) (hg _ wt1_154) (fun _ h9 => h9) rfl dX7_asked_165 ?_
                            refine va_get (D := D) (ci := 8) (v := .ref (r 76)) (C := RX8) (T := TX8) (N := 5) hx hb hg inC8 hown hK hP 74 rfl rfl 1 (by decide) (hg _ wt1_57) (fun _ h9 => h9) rfl dX7_asked_168 ?_
                            refine kLG.callW (As := [.int y54, .int 0, .ref (r 75), .ref (r 76)]) (rest := []) ⟨hx, hb, hml, hown, hg⟩ (x_10_reckonP l r f118 a119 g120 tx tt hT hI hG y54 0 b70 (kb_w kc_0 (by decide) (by decide)) t43 ht43) (cwV 4 hg (kgV wt3_96 wt3_97 wt3_98 wt1_8 wt3_99) rfl rfl rfl (by decide +kernel) ⟨by decide, by decide⟩) hV hK hP hD hS hA (jt43_0 + 95) 10 rfl hjt43_0 rfl hl.1 rfl (Nat.le_of_ble_eq_true rfl) dX7_asked_171 ⟨Nat.le_refl _, Nat.le_refl _⟩ (fun v129 u130 H locs hw128 hP hD hS => ?_)
                            obtain ⟨f131, a132, g133⟩ := u130
                            have hP : va_P D vwCl (xX K r f131 a132 g133 tx) H := hP
                            have hD : va_D A (xX K r f131 a132 g133 tx) := hD
                            have hI : xI f131 a132 := hw128.2.1
                            have hG : gOK K g133.2 tt := hw128.2.2.1
                            have eE134 : xEk ([], [], []) f118 a119 g120 f131 a132 g133 := hw128.2.2.2
                            have hE : xEk ([], [], []) f a g f131 a132 g133 := xEk_tr hE eE134
                            refine lv_lstore (lv' := [(7, .long v129), (5, .int 1), (6, .int y54), (4, .ref (t43.1 0)), (0, .ref (r 59)), (1, .int kd), (2, .int x), (3, .int y)]) hx hb dX7_asked_174 hl (by decide) rfl (fun ls hl => ?_)
                            refine lv_lload hx hb dX7_asked_176 (lv_at hl 0 rfl) ?_
                            refine lv_ldc2 (v := (-1000000000000)) hx hb hown (hg _ wt3_106) dX7_asked_178 ?_
                            refine W.lcmp hx hb dX7_asked_181 ?_
                            refine lv_topi (fun t135 et135 => ?_)
                            refine lv_if_eq (tgt := 202) hx hb dX7_asked_182 (by decide) (fun c136 => ?_) (fun c136 => ?_)
                            · have h137 := klc_eq (et135 ▸ c136)
                              obtain ⟨t138, et138⟩ : ∃ z : Int32, z = y54 + Int32.ofInt (-1) := ⟨_, rfl⟩
                              have qt138 : t138.toInt = y54.toInt - 1 := by rw [et138]; exact km_dec b70 (by decide)
                              have b139 : kb (-1) t138 10 := kb_inc (k := (-1)) qt138 b70
                              refine lv_iinc (v := t138) (lv' := [(6, .int t138), (7, .long v129), (5, .int 1), (4, .ref (t43.1 0)), (0, .ref (r 59)), (1, .int kd), (2, .int x), (3, .int y)]) hx hb dX7_asked_202 hl (k := 2) rfl et138.symm (by decide) rfl (fun ls hl => ?_)
                              refine lv_goto (tgt := 91) hx hb dX7_asked_205 (by decide) ?_
                              exact ihlp59  f131 a132 g133 _ _ _ t138 1 (km_dn hmlp59 qt138) hI hG hE (kb_w b139 (by decide) (by decide)) (kb_w kc_1 (by decide) (by decide)) hP hD hS (lv_sub hl [0, 2, 3, 4, 5, 6, 7] rfl)
                            · have h140 := klc_ne (et135 ▸ c136)
                              refine lv_lconst (v := 0) hx hb dX7_asked_185 (by decide) ?_
                              refine va_getsN hx hb hz3 hS hown (va_Nw.use rfl hN3) (fun _ h => h) dX7_asked_186 ?_
                              refine lv_iload_n hx hb dX7_asked_189 rfl (lv_at hl 5 rfl) ?_
                              refine va_ti (v := .int (mt0 kd.toNatClampNeg)) hx hb hT3 hS (kb_in b10 (by decide) (by decide)) rfl dX7_asked_190 ?_
                              refine lv_topi (fun t141 et141 => ?_)
                              refine lv_i2l hx hb dX7_asked_191 rfl ?_
                              refine lv_topl (fun t142 et142 => ?_)
                              refine lv_lload hx hb dX7_asked_192 (lv_at hl 0 rfl) ?_
                              refine va_mmin_long hx hb (hml.trans hl.1.symm) hown (hg _ wt3_107) (hg _ wt3_108) (hg _ wt1_9) (hg _ wt3_109) (by decide) (Nat.le_of_ble_eq_true rfl) (by decide) (by decide) dX7_asked_194 ?_
                              refine lv_topl (fun t143 et143 => ?_)
                              refine va_mmax_long hx hb (hml.trans hl.1.symm) hown (hg _ wt3_110) (hg _ wt3_111) (hg _ wt1_9) (hg _ wt3_112) (by decide) (Nat.le_of_ble_eq_true rfl) (by decide) (by decide) dX7_asked_197 ?_
                              refine lv_topl (fun t144 et144 => ?_)
                              refine lv_l2i hx hb dX7_asked_200 rfl ?_
                              refine lv_topi (fun t145 et145 => ?_)
                              exact kI_ret (v := t145) hx hb hr hlocks rfl hK hS dX7_asked_201 (f131, a132, g133) hP hD ⟨(kb_any t145), hI, hG, hE⟩
                      · refine lv_goto (tgt := 202) hx hb dX7_asked_108 (by decide) ?_
                        obtain ⟨t146, et146⟩ : ∃ z : Int32, z = y54 + Int32.ofInt (-1) := ⟨_, rfl⟩
                        have qt146 : t146.toInt = y54.toInt - 1 := by rw [et146]; exact km_dec b70 (by decide)
                        have b147 : kb (-1) t146 10 := kb_inc (k := (-1)) qt146 b70
                        refine lv_iinc (v := t146) (lv' := [(6, .int t146), (5, .int y55), (4, .ref (t43.1 0)), (0, .ref (r 59)), (1, .int kd), (2, .int x), (3, .int y)]) hx hb dX7_asked_202 hl (k := 0) rfl et146.symm (by decide) rfl (fun ls hl => ?_)
                        refine lv_goto (tgt := 91) hx hb dX7_asked_205 (by decide) ?_
                        exact ihlp59  F56 B57 G58 _ _ _ t146 y55 (km_dn hmlp59 qt146) hI hG hE (kb_w b147 (by decide) (by decide)) b62 hP hD hS (lv_sub hl [0, 1, 2, 3, 4, 5, 6] rfl)
                exact lp59 (13)  f a g _ _ _ t52 0 (by have h1 := (b53); unfold kb at h1; omega) hI hG hE b53 (kb_w kc_0 (by decide) (by decide)) hP hD hS (lv_sub hl [0, 1, 2, 3, 4, 5, 6] rfl)
        · have b148 : kb 0 v20 0 := kb_eq c22 kc_0
          refine lv_iconst (v := 0) hx hb dX7_asked_28 (by decide) ?_
          exact kI_ret (v := 0) hx hb hr hlocks rfl hK hS dX7_asked_29 (f, a, g) hP hD ⟨(kb_w kc_0 (by decide) (by decide)), hI, hG, hE⟩
set_option maxHeartbeats 4000000 in
set_option maxRecDepth 100000 in
theorem x_7_workOneTickP  (l : Launch) {D : va_G} {K : Nat → ClassId} (r : Nat → Nat) (f : Nat → Int32) (a : Nat → Nat → Int32) (g : xG) (tx tt : va_W) (hT : ∀ c ∈ tt, c ∈ tx) (hI : xI f a) (hG : gOK K g.2 tt)     : kIG l yX7_workOneTick (Cond.code yX7_workOneTick cX7_workOneTick 4 (some .int) :: kG) (rmD 4 0 0) D K [.ref (r 59)] (xX K r f a g tx) (fun v (u : xS) => kb (-2147483648) v 2147483647 ∧ xI u.1 u.2.1 ∧ gOK K u.2.2.2 tt ∧ xEk ([], [64, 67, 68, 69, 77, 78], []) f a g u.1 u.2.1 u.2.2) (fun u => xX K r u.1 u.2.1 u.2.2 tx) 0 0 := by
  refine kIE.of (cc := cX7_workOneTick) (maxL := 4) (ret := (some .int)) (by decide) rfl (Nat.le_of_ble_eq_true rfl) ?_
  intro p e s m below meth c A hx hb hr hml hown hts hlocks hnm hK hP hD hS hA hV ls hl
  have hE : xEk ([], [64, 67, 68, 69, 77, 78], []) f a g f a g := xEk_rf
  have hg : ∀ w ∈ kG, w.before _ s = true := fun w h => hts w (List.mem_cons_of_mem _ h)
  have hown : s.vm.findClass RX7 = some m.cls := hown
  have hl : lv_has ls 4 [(0, .ref (r 59))] := hl
  refine lv_iconst (v := 0) hx hb dX7_workOneTick_0 (by decide) ?_
  refine lv_istore_n (lv' := [(1, .int 0), (0, .ref (r 59))]) hx hb dX7_workOneTick_1 rfl hl (by decide) rfl (fun ls hl => ?_)
  have lp5 : ∀ (n6 : Nat) (F2 : Nat → Int32) (B3 : Nat → Nat → Int32) (G4 : xG) (H : Heap) (locs : List Loc) (ls : Array Slot) (y1 : Int32), (6 < y1.toInt + (n6 : Int)) → (xI F2 B3) → (gOK K G4.2 tt) → (xEk ([], [64, 67, 68, 69, 77, 78], []) f a g F2 B3 G4) → (kb 0 y1 6) → va_P D vwCl (xX K r F2 B3 G4 tx) H → va_D A (xX K r F2 B3 G4 tx) → va_S A s.heap H locs → lv_has ls 4 [(1, .int y1), (0, .ref (r 59))] → W p l e (rmD 4 0 0) s m ([.ref (r 59)] : List Value).toArray below meth c H locs 0 0 (kQi D (tysK K) (fun v (u : xS) => kb (-2147483648) v 2147483647 ∧ xI u.1 u.2.1 ∧ gOK K u.2.2.2 tt ∧ xEk ([], [64, 67, 68, 69, 77, 78], []) f a g u.1 u.2.1 u.2.2) (fun u => xX K r u.1 u.2.1 u.2.2 tx) A below ([.ref (r 59)] : List Value).toArray s 0 0) (F0 m 2 ls []) := by
    intro n6
    induction n6 with
    | zero =>
      intro  F2 B3 G4  H locs ls y1 hmlp5 hI hG hE b7 hP hD hS hl
      exact (by have h1 := b7.2; have h2 := hmlp5; omega : False).elim
    | succ n6 ihlp5 =>
      intro  F2 B3 G4  H locs ls y1 hmlp5 hI hG hE b7 hP hD hS hl
      refine lv_iload_n hx hb dX7_workOneTick_2 rfl (lv_at hl 0 rfl) ?_
      refine lv_aload_n hx hb dX7_workOneTick_3 rfl (lv_at hl 1 rfl) ?_
      refine va_get (D := D) (ci := 7) (v := .int (F2 1894)) (C := RX7) (T := TX7) (N := 20) hx hb hg inC7 hown hK hP 59 rfl rfl 6 (by decide) (hg _ wt1_104) (fun _ h9 => h9) rfl dX7_workOneTick_4 ?_
      refine lv_topi (fun t8 et8 => ?_)
      have jn69 : ∀ (H : Heap) (locs : List Loc) (ls : Array Slot), va_P D vwCl (xX K r F2 B3 G4 tx) H → va_D A (xX K r F2 B3 G4 tx) → va_S A s.heap H locs → lv_has ls 4 [(1, .int y1), (0, .ref (r 59))] → W p l e (rmD 4 0 0) s m ([.ref (r 59)] : List Value).toArray below meth c H locs 0 0 (kQi D (tysK K) (fun v (u : xS) => kb (-2147483648) v 2147483647 ∧ xI u.1 u.2.1 ∧ gOK K u.2.2.2 tt ∧ xEk ([], [64, 67, 68, 69, 77, 78], []) f a g u.1 u.2.1 u.2.2) (fun u => xX K r u.1 u.2.1 u.2.2 tx) A below ([.ref (r 59)] : List Value).toArray s 0 0) (F0 m 77 ls []) := by
        intro  H locs ls   hP hD hS hl
        refine lv_aload_n hx hb dX7_workOneTick_77 rfl (lv_at hl 1 rfl) ?_
        refine kIG.callW (As := []) (rest := []) ⟨hx, hb, hml, hown, hg⟩ (x_7_upMaskP l r F2 B3 G4 tx tt hT hI hG   ) (cwV 0 hg (kgV wt3_43 wt3_44 wt3_45 wt1_2 wt3_46) rfl rfl rfl (by decide +kernel) ⟨by decide, by decide⟩) hV hK hP hD hS hA (59) 7 rfl rfl rfl hl.1 rfl (Nat.le_of_ble_eq_true rfl) dX7_workOneTick_78 ⟨Nat.le_refl _, Nat.le_refl _⟩ (fun v71 u72 H locs hw70 hP hD hS => ?_)
        have hP : va_P D vwCl (xX K r F2 B3 G4 tx) H := hP
        have hD : va_D A (xX K r F2 B3 G4 tx) := hD
        refine lv_istore_n (lv' := [(1, .int v71), (0, .ref (r 59))]) hx hb dX7_workOneTick_81 rfl hl (by decide) rfl (fun ls hl => ?_)
        refine lv_iconst (v := 0) hx hb dX7_workOneTick_82 (by decide) ?_
        refine lv_istore_n (lv' := [(2, .int 0), (1, .int v71), (0, .ref (r 59))]) hx hb dX7_workOneTick_83 rfl hl (by decide) rfl (fun ls hl => ?_)
        have lp75 : ∀ (n76 : Nat) (B74 : Nat → Nat → Int32) (H : Heap) (locs : List Loc) (ls : Array Slot) (y73 : Int32), (6 < y73.toInt + (n76 : Int)) → (xI F2 B74) → (gOK K G4.2 tt) → (xEk ([], [64, 67, 68, 69, 77, 78], []) f a g F2 B74 G4) → (kb 0 y73 6) → va_P D vwCl (xX K r F2 B74 G4 tx) H → va_D A (xX K r F2 B74 G4 tx) → va_S A s.heap H locs → lv_has ls 4 [(2, .int y73), (1, .int v71), (0, .ref (r 59))] → W p l e (rmD 4 0 0) s m ([.ref (r 59)] : List Value).toArray below meth c H locs 0 0 (kQi D (tysK K) (fun v (u : xS) => kb (-2147483648) v 2147483647 ∧ xI u.1 u.2.1 ∧ gOK K u.2.2.2 tt ∧ xEk ([], [64, 67, 68, 69, 77, 78], []) f a g u.1 u.2.1 u.2.2) (fun u => xX K r u.1 u.2.1 u.2.2 tx) A below ([.ref (r 59)] : List Value).toArray s 0 0) (F0 m 84 ls []) := by
          intro n76
          induction n76 with
          | zero =>
            intro  B74  H locs ls y73 hmlp75 hI hG hE b77 hP hD hS hl
            exact (by have h1 := b77.2; have h2 := hmlp75; omega : False).elim
          | succ n76 ihlp75 =>
            intro  B74  H locs ls y73 hmlp75 hI hG hE b77 hP hD hS hl
            refine lv_iload_n hx hb dX7_workOneTick_84 rfl (lv_at hl 0 rfl) ?_
            refine lv_aload_n hx hb dX7_workOneTick_85 rfl (lv_at hl 2 rfl) ?_
            refine va_get (D := D) (ci := 7) (v := .int (F2 1894)) (C := RX7) (T := TX7) (N := 20) hx hb hg inC7 hown hK hP 59 rfl rfl 6 (by decide) (hg _ wt1_104) (fun _ h9 => h9) rfl dX7_workOneTick_86 ?_
            refine k_top (z := t8) et8.symm ?_
            have jn138 : ∀ (H : Heap) (locs : List Loc) (ls : Array Slot), va_P D vwCl (xX K r F2 B74 G4 tx) H → va_D A (xX K r F2 B74 G4 tx) → va_S A s.heap H locs → lv_has ls 4 [(2, .int y73), (1, .int v71), (0, .ref (r 59))] → W p l e (rmD 4 0 0) s m ([.ref (r 59)] : List Value).toArray below meth c H locs 0 0 (kQi D (tysK K) (fun v (u : xS) => kb (-2147483648) v 2147483647 ∧ xI u.1 u.2.1 ∧ gOK K u.2.2.2 tt ∧ xEk ([], [64, 67, 68, 69, 77, 78], []) f a g u.1 u.2.1 u.2.2) (fun u => xX K r u.1 u.2.1 u.2.2 tx) A below ([.ref (r 59)] : List Value).toArray s 0 0) (F0 m 193 ls []) := by
              intro  H locs ls   hP hD hS hl
              refine lv_iconst (v := 0) hx hb dX7_workOneTick_193 (by decide) ?_
              refine lv_istore_n (lv' := [(2, .int 0), (1, .int v71), (0, .ref (r 59))]) hx hb dX7_workOneTick_194 rfl hl (by decide) rfl (fun ls hl => ?_)
              have lp141 : ∀ (n142 : Nat) (B140 : Nat → Nat → Int32) (H : Heap) (locs : List Loc) (ls : Array Slot) (y139 : Int32), (6 < y139.toInt + (n142 : Int)) → (xI F2 B140) → (gOK K G4.2 tt) → (xEk ([], [64, 67, 68, 69, 77, 78], []) f a g F2 B140 G4) → (kb 0 y139 6) → va_P D vwCl (xX K r F2 B140 G4 tx) H → va_D A (xX K r F2 B140 G4 tx) → va_S A s.heap H locs → lv_has ls 4 [(2, .int y139), (1, .int v71), (0, .ref (r 59))] → W p l e (rmD 4 0 0) s m ([.ref (r 59)] : List Value).toArray below meth c H locs 0 0 (kQi D (tysK K) (fun v (u : xS) => kb (-2147483648) v 2147483647 ∧ xI u.1 u.2.1 ∧ gOK K u.2.2.2 tt ∧ xEk ([], [64, 67, 68, 69, 77, 78], []) f a g u.1 u.2.1 u.2.2) (fun u => xX K r u.1 u.2.1 u.2.2 tx) A below ([.ref (r 59)] : List Value).toArray s 0 0) (F0 m 195 ls []) := by
                intro n142
                induction n142 with
                | zero =>
                  intro  B140  H locs ls y139 hmlp141 hI hG hE b143 hP hD hS hl
                  exact (by have h1 := b143.2; have h2 := hmlp141; omega : False).elim
                | succ n142 ihlp141 =>
                  intro  B140  H locs ls y139 hmlp141 hI hG hE b143 hP hD hS hl
                  refine lv_iload_n hx hb dX7_workOneTick_195 rfl (lv_at hl 0 rfl) ?_
                  refine lv_aload_n hx hb dX7_workOneTick_196 rfl (lv_at hl 2 rfl) ?_
                  refine va_get (D := D) (ci := 7) (v := .int (F2 1894)) (C := RX7) (T := TX7) (N := 20) hx hb hg inC7 hown hK hP 59 rfl rfl 6 (by decide) (hg _ wt1_104) (fun _ h9 => h9) rfl dX7_workOneTick_197 ?_
                  refine k_top (z := t8) et8.symm ?_
                  have jn178 : ∀ (H : Heap) (locs : List Loc) (ls : Array Slot), va_P D vwCl (xX K r F2 B140 G4 tx) H → va_D A (xX K r F2 B140 G4 tx) → va_S A s.heap H locs → lv_has ls 4 [(2, .int y139), (1, .int v71), (0, .ref (r 59))] → W p l e (rmD 4 0 0) s m ([.ref (r 59)] : List Value).toArray below meth c H locs 0 0 (kQi D (tysK K) (fun v (u : xS) => kb (-2147483648) v 2147483647 ∧ xI u.1 u.2.1 ∧ gOK K u.2.2.2 tt ∧ xEk ([], [64, 67, 68, 69, 77, 78], []) f a g u.1 u.2.1 u.2.2) (fun u => xX K r u.1 u.2.1 u.2.2 tx) A below ([.ref (r 59)] : List Value).toArray s 0 0) (F0 m 249 ls []) := by
                    intro  H locs ls   hP hD hS hl
                    refine lv_aload_n hx hb dX7_workOneTick_249 rfl (lv_at hl 2 rfl) ?_
                    refine va_get (D := D) (ci := 7) (v := .ref (r 69)) (C := RX7) (T := TX7) (N := 20) hx hb hg inC7 hown hK hP 59 rfl rfl 11 (by decide) (hg _ wt1_127) (fun _ h9 => h9) rfl dX7_workOneTick_250 ?_
                    refine lv_iconst (v := 0) hx hb dX7_workOneTick_253 (by decide) ?_
                    refine lv_dup2_11 hx hb dX7_workOneTick_254 rfl rfl ?_
                    refine va_iald hx hb hK hP 69 0 rfl rfl (kb_in kc_0 (by decide) (by decide)) dX7_workOneTick_255 ?_
                    refine lv_topi (fun t179 et179 => ?_)
                    rw [cl_0] at et179
                    refine lv_iconst (v := 1) hx hb dX7_workOneTick_256 (by decide) ?_
                    refine lv_iadd hx hb dX7_workOneTick_257 ?_
                    refine lv_topi (fun t180 et180 => ?_)
                    refine va_iast hx hb hK hP hD hS 69 0 rfl rfl (kb_in kc_0 (by decide) (by decide)) dX7_workOneTick_258 (fun H locs hP hD hS => ?_)
                    rw [cl_0] at hP hD
                    have hP : va_P D vwCl (xX K r F2 (va_up B140 69 (upd (B140 69) 0 t180)) G4 tx) H := hP
                    have hD : va_D A (xX K r F2 (va_up B140 69 (upd (B140 69) 0 t180)) G4 tx) := hD
                    refine k_gen (P := fun z => va_P D vwCl (xX K r F2 z G4 tx) H ∧ va_D A (xX K r F2 z G4 tx) ∧ (xI F2 z) ∧ (gOK K G4.2 tt) ∧ (xEk ([], [64, 67, 68, 69, 77, 78], []) f a g F2 z G4)) (va_up B140 69 (upd (B140 69) 0 t180)) ⟨hP, hD, (xI_a hI (by decide)), hG, (xEk_a hE rfl)⟩ (fun a_181 ea_181 hq => ?_)
                    obtain ⟨hP, hD, hI, hG, hE⟩ := hq
                    refine lv_aload_n hx hb dX7_workOneTick_259 rfl (lv_at hl 2 rfl) ?_
                    refine kIG.callW (As := []) (rest := []) ⟨hx, hb, hml, hown, hg⟩ (x_7_upMaskP l r F2 a_181 G4 tx tt hT hI hG   ) (cwV 0 hg (kgV wt3_43 wt3_44 wt3_45 wt1_2 wt3_46) rfl rfl rfl (by decide +kernel) ⟨by decide, by decide⟩) hV hK hP hD hS hA (59) 7 rfl rfl rfl hl.1 rfl (Nat.le_of_ble_eq_true rfl) dX7_workOneTick_260 ⟨Nat.le_refl _, Nat.le_refl _⟩ (fun v183 u184 H locs hw182 hP hD hS => ?_)
                    have hP : va_P D vwCl (xX K r F2 a_181 G4 tx) H := hP
                    have hD : va_D A (xX K r F2 a_181 G4 tx) := hD
                    refine lv_iload_n hx hb dX7_workOneTick_263 rfl (lv_at hl 1 rfl) ?_
                    refine lv_iconst (v := (-1)) hx hb dX7_workOneTick_264 (by decide) ?_
                    refine lv_ixor hx hb dX7_workOneTick_265 ?_
                    refine lv_topi (fun t185 et185 => ?_)
                    refine lv_iand hx hb dX7_workOneTick_266 ?_
                    refine lv_topi (fun t186 et186 => ?_)
                    refine kN.callS (As := [.int t186]) (rest := []) ⟨hx, hb, hml, hown, hg⟩ (x_bitCount l t186 ) (va_cwS 1 hg (kgS wt4_147 wt4_99 wt1_21 wt4_100) rfl rfl rfl (by decide +kernel) ⟨by decide, by decide⟩) hP hS rfl hl.1 rfl (Nat.le_of_ble_eq_true rfl) dX7_workOneTick_267 ⟨Nat.le_refl _, Nat.le_refl _⟩ (fun v188 H locs hw187 hP hS => ?_)
                    have hP : va_P D vwCl (xX K r F2 a_181 G4 tx) H := hP
                    exact kI_ret (v := v188) hx hb hr hlocks rfl hK hS dX7_workOneTick_270 (F2, a_181, G4) hP hD ⟨(kb_w hw187 (by decide) (by decide)), hI, hG, hE⟩
                  refine lv_icmp_ge (tgt := 249) hx hb dX7_workOneTick_200 (by decide) (fun c189 => ?_) (fun c189 => ?_)
                  · have h190 := (kc_le c189)
                    have b191 : kb (-2147483648) t8 6 := kr_le1 h190 (kb_any t8) b143
                    exact jn178 _ _ _   hP hD hS (lv_sub hl [0, 1, 2] rfl)
                  · have h192 := (kc_nle c189)
                    have b193 : kb 1 t8 2147483647 := kr_lt2 h192 b143 (kb_any t8) (by decide)
                    refine lv_iload_n hx hb dX7_workOneTick_203 rfl (lv_at hl 0 rfl) ?_
                    refine lv_bipush (v := 6) hx hb dX7_workOneTick_204 (by decide) ?_
                    refine lv_icmp_ge (tgt := 249) hx hb dX7_workOneTick_206 (by decide) (fun c194 => ?_) (fun c194 => ?_)
                    · have h195 := (kc_le c194)
                      have b196 : kb 6 y139 6 := kr_le2 h195 kc_6 b143
                      exact jn178 _ _ _   hP hD hS (lv_sub hl [0, 1, 2] rfl)
                    · have h197 := (kc_nle c194)
                      have b198 : kb 0 y139 5 := kr_lt1 h197 b143 kc_6 (by decide)
                      refine lv_aload_n hx hb dX7_workOneTick_209 rfl (lv_at hl 2 rfl) ?_
                      refine lv_aload_n hx hb dX7_workOneTick_210 rfl (lv_at hl 2 rfl) ?_
                      refine va_get (D := D) (ci := 7) (v := .ref (r 68)) (C := RX7) (T := TX7) (N := 20) hx hb hg inC7 hown hK hP 59 rfl rfl 10 (by decide) (hg _ wt1_121) (fun _ h9 => h9) rfl dX7_workOneTick_211 ?_
                      refine lv_iload_n hx hb dX7_workOneTick_214 rfl (lv_at hl 0 rfl) ?_
                      refine va_iald hx hb hK hP 68 0 rfl rfl (kb_in b198 (by decide) (by decide)) dX7_workOneTick_215 ?_
                      refine lv_topi (fun t199 et199 => ?_)
                      refine kIG.callW (As := [.int t199]) (rest := []) ⟨hx, hb, hml, hown, hg⟩ (x_7_hasPartP l r F2 B140 G4 tx tt hT hI hG t199  ) (cwV 1 hg (kgV wt3_83 wt3_36 wt3_37 wt1_2 wt3_38) rfl rfl rfl (by decide +kernel) ⟨by decide, by decide⟩) hV hK hP hD hS hA (59) 7 rfl rfl rfl hl.1 rfl (Nat.le_of_ble_eq_true rfl) dX7_workOneTick_216 ⟨Nat.le_refl _, Nat.le_refl _⟩ (fun v201 u202 H locs hw200 hP hD hS => ?_)
                      have hP : va_P D vwCl (xX K r F2 B140 G4 tx) H := hP
                      have hD : va_D A (xX K r F2 B140 G4 tx) := hD
                      have jn212 : ∀ (B211 : Nat → Nat → Int32) (H : Heap) (locs : List Loc) (ls : Array Slot), (xI F2 B211) → (gOK K G4.2 tt) → (xEk ([], [64, 67, 68, 69, 77, 78], []) f a g F2 B211 G4) → va_P D vwCl (xX K r F2 B211 G4 tx) H → va_D A (xX K r F2 B211 G4 tx) → va_S A s.heap H locs → lv_has ls 4 [(2, .int y139), (1, .int v71), (0, .ref (r 59))] → W p l e (rmD 4 0 0) s m ([.ref (r 59)] : List Value).toArray below meth c H locs 0 0 (kQi D (tysK K) (fun v (u : xS) => kb (-2147483648) v 2147483647 ∧ xI u.1 u.2.1 ∧ gOK K u.2.2.2 tt ∧ xEk ([], [64, 67, 68, 69, 77, 78], []) f a g u.1 u.2.1 u.2.2) (fun u => xX K r u.1 u.2.1 u.2.2 tx) A below ([.ref (r 59)] : List Value).toArray s 0 0) (F0 m 243 ls []) := by
                        intro B211  H locs ls  hI hG hE hP hD hS hl
                        obtain ⟨t213, et213⟩ : ∃ z : Int32, z = y139 + Int32.ofInt 1 := ⟨_, rfl⟩
                        have qt213 : t213.toInt = y139.toInt + 1 := by rw [et213]; exact km_inc b198 (by decide) (by decide)
                        have b214 : kb 1 t213 6 := kb_inc (k := 1) qt213 b198
                        refine lv_iinc (v := t213) (lv' := [(2, .int t213), (1, .int v71), (0, .ref (r 59))]) hx hb dX7_workOneTick_243 hl (k := 0) rfl et213.symm (by decide) rfl (fun ls hl => ?_)
                        refine lv_goto (tgt := 195) hx hb dX7_workOneTick_246 (by decide) ?_
                        exact ihlp141  B211 _ _ _ t213 (km_up hmlp141 qt213) hI hG hE (kb_w b214 (by decide) (by decide)) hP hD hS (lv_sub hl [0, 1, 2] rfl)
                      refine lv_if_eq (tgt := 243) hx hb dX7_workOneTick_219 (by decide) (fun c215 => ?_) (fun c215 => ?_)
                      · have b216 : kb 0 v201 0 := kb_eq c215 kc_0
                        exact jn212 B140 _ _ _  hI hG hE hP hD hS (lv_sub hl [0, 1, 2] rfl)
                      · have b217 : kb 1 v201 1 := kr_nel c215 hw200.1 kc_0 (by decide)
                        have h218 := hw200.2.1 c215
                        have b219 : kb 0 t199 9 := ⟨h218.1, h218.2⟩
                        refine lv_aload_n hx hb dX7_workOneTick_222 rfl (lv_at hl 2 rfl) ?_
                        refine va_get (D := D) (ci := 7) (v := .ref (r 64)) (C := RX7) (T := TX7) (N := 20) hx hb hg inC7 hown hK hP 59 rfl rfl 5 (by decide) (hg _ wt1_97) (fun _ h9 => h9) rfl dX7_workOneTick_223 ?_
                        refine lv_aload_n hx hb dX7_workOneTick_226 rfl (lv_at hl 2 rfl) ?_
                        refine va_get (D := D) (ci := 7) (v := .ref (r 68)) (C := RX7) (T := TX7) (N := 20) hx hb hg inC7 hown hK hP 59 rfl rfl 10 (by decide) (hg _ wt1_121) (fun _ h9 => h9) rfl dX7_workOneTick_227 ?_
                        refine lv_iload_n hx hb dX7_workOneTick_230 rfl (lv_at hl 0 rfl) ?_
                        refine va_iald hx hb hK hP 68 0 rfl rfl (kb_in b198 (by decide) (by decide)) dX7_workOneTick_231 ?_
                        refine k_top (z := t199) et199.symm ?_
                        refine va_iald hx hb hK hP 64 0 rfl rfl (kb_in b219 (by decide) (by decide)) dX7_workOneTick_232 ?_
                        refine lv_topi (fun t220 et220 => ?_)
                        refine lv_if_ne (tgt := 243) hx hb dX7_workOneTick_233 (by decide) (fun c221 => ?_) (fun c221 => ?_)
                        · exact jn212 B140 _ _ _  hI hG hE hP hD hS (lv_sub hl [0, 1, 2] rfl)
                        · have b222 : kb 0 t220 0 := kb_eq c221 kc_0
                          refine lv_aload_n hx hb dX7_workOneTick_236 rfl (lv_at hl 2 rfl) ?_
                          refine va_get (D := D) (ci := 7) (v := .ref (r 68)) (C := RX7) (T := TX7) (N := 20) hx hb hg inC7 hown hK hP 59 rfl rfl 10 (by decide) (hg _ wt1_121) (fun _ h9 => h9) rfl dX7_workOneTick_237 ?_
                          refine lv_iload_n hx hb dX7_workOneTick_240 rfl (lv_at hl 0 rfl) ?_
                          refine lv_iconst (v := (-1)) hx hb dX7_workOneTick_241 (by decide) ?_
                          refine va_iast hx hb hK hP hD hS 68 0 rfl rfl (kb_in b198 (by decide) (by decide)) dX7_workOneTick_242 (fun H locs hP hD hS => ?_)
                          have hP : va_P D vwCl (xX K r F2 (va_up B140 68 (upd (B140 68) y139.toNatClampNeg (-1))) G4 tx) H := hP
                          have hD : va_D A (xX K r F2 (va_up B140 68 (upd (B140 68) y139.toNatClampNeg (-1))) G4 tx) := hD
                          refine k_gen (P := fun z => va_P D vwCl (xX K r F2 z G4 tx) H ∧ va_D A (xX K r F2 z G4 tx) ∧ (xI F2 z) ∧ (gOK K G4.2 tt) ∧ (xEk ([], [64, 67, 68, 69, 77, 78], []) f a g F2 z G4)) (va_up B140 68 (upd (B140 68) y139.toNatClampNeg (-1))) ⟨hP, hD, (xI_a hI (by decide)), hG, (xEk_a hE rfl)⟩ (fun a_223 ea_223 hq => ?_)
                          obtain ⟨hP, hD, hI, hG, hE⟩ := hq
                          exact jn212 a_223 _ _ _  hI hG hE hP hD hS (lv_sub hl [0, 1, 2] rfl)
              exact lp141 (7)  B74 _ _ _ 0 (by have h1 := (kc_0); unfold kb at h1; omega) hI hG hE (kb_w kc_0 (by decide) (by decide)) hP hD hS (lv_sub hl [0, 1, 2] rfl)
            refine lv_icmp_ge (tgt := 193) hx hb dX7_workOneTick_89 (by decide) (fun c224 => ?_) (fun c224 => ?_)
            · have h225 := (kc_le c224)
              have b226 : kb (-2147483648) t8 6 := kr_le1 h225 (kb_any t8) b77
              exact jn138 _ _ _   hP hD hS (lv_sub hl [0, 1, 2] rfl)
            · have h227 := (kc_nle c224)
              have b228 : kb 1 t8 2147483647 := kr_lt2 h227 b77 (kb_any t8) (by decide)
              refine lv_iload_n hx hb dX7_workOneTick_92 rfl (lv_at hl 0 rfl) ?_
              refine lv_bipush (v := 6) hx hb dX7_workOneTick_93 (by decide) ?_
              refine lv_icmp_ge (tgt := 193) hx hb dX7_workOneTick_95 (by decide) (fun c229 => ?_) (fun c229 => ?_)
              · have h230 := (kc_le c229)
                have b231 : kb 6 y73 6 := kr_le2 h230 kc_6 b77
                exact jn138 _ _ _   hP hD hS (lv_sub hl [0, 1, 2] rfl)
              · have h232 := (kc_nle c229)
                have b233 : kb 0 y73 5 := kr_lt1 h232 b77 kc_6 (by decide)
                refine lv_aload_n hx hb dX7_workOneTick_98 rfl (lv_at hl 2 rfl) ?_
                refine va_get (D := D) (ci := 7) (v := .ref (r 68)) (C := RX7) (T := TX7) (N := 20) hx hb hg inC7 hown hK hP 59 rfl rfl 10 (by decide) (hg _ wt1_121) (fun _ h9 => h9) rfl dX7_workOneTick_99 ?_
                refine lv_iload_n hx hb dX7_workOneTick_102 rfl (lv_at hl 0 rfl) ?_
                refine va_iald hx hb hK hP 68 0 rfl rfl (kb_in b233 (by decide) (by decide)) dX7_workOneTick_103 ?_
                refine lv_topi (fun t234 et234 => ?_)
                refine lv_istore_n (lv' := [(3, .int t234), (2, .int y73), (1, .int v71), (0, .ref (r 59))]) hx hb dX7_workOneTick_104 rfl hl (by decide) rfl (fun ls hl => ?_)
                refine lv_aload_n hx hb dX7_workOneTick_105 rfl (lv_at hl 3 rfl) ?_
                refine lv_iload_n hx hb dX7_workOneTick_106 rfl (lv_at hl 0 rfl) ?_
                refine kIG.callW (As := [.int t234]) (rest := []) ⟨hx, hb, hml, hown, hg⟩ (x_7_hasPartP l r F2 B74 G4 tx tt hT hI hG t234  ) (cwV 1 hg (kgV wt3_83 wt3_36 wt3_37 wt1_2 wt3_38) rfl rfl rfl (by decide +kernel) ⟨by decide, by decide⟩) hV hK hP hD hS hA (59) 7 rfl rfl rfl hl.1 rfl (Nat.le_of_ble_eq_true rfl) dX7_workOneTick_107 ⟨Nat.le_refl _, Nat.le_refl _⟩ (fun v236 u237 H locs hw235 hP hD hS => ?_)
                have hP : va_P D vwCl (xX K r F2 B74 G4 tx) H := hP
                have hD : va_D A (xX K r F2 B74 G4 tx) := hD
                have jn260 : ∀ (B259 : Nat → Nat → Int32) (H : Heap) (locs : List Loc) (ls : Array Slot), (xI F2 B259) → (gOK K G4.2 tt) → (xEk ([], [64, 67, 68, 69, 77, 78], []) f a g F2 B259 G4) → va_P D vwCl (xX K r F2 B259 G4 tx) H → va_D A (xX K r F2 B259 G4 tx) → va_S A s.heap H locs → lv_has ls 4 [(3, .int t234), (2, .int y73), (1, .int v71), (0, .ref (r 59))] → W p l e (rmD 4 0 0) s m ([.ref (r 59)] : List Value).toArray below meth c H locs 0 0 (kQi D (tysK K) (fun v (u : xS) => kb (-2147483648) v 2147483647 ∧ xI u.1 u.2.1 ∧ gOK K u.2.2.2 tt ∧ xEk ([], [64, 67, 68, 69, 77, 78], []) f a g u.1 u.2.1 u.2.2) (fun u => xX K r u.1 u.2.1 u.2.2 tx) A below ([.ref (r 59)] : List Value).toArray s 0 0) (F0 m 187 ls []) := by
                  intro B259  H locs ls  hI hG hE hP hD hS hl
                  obtain ⟨t261, et261⟩ : ∃ z : Int32, z = y73 + Int32.ofInt 1 := ⟨_, rfl⟩
                  have qt261 : t261.toInt = y73.toInt + 1 := by rw [et261]; exact km_inc b233 (by decide) (by decide)
                  have b262 : kb 1 t261 6 := kb_inc (k := 1) qt261 b233
                  refine lv_iinc (v := t261) (lv' := [(2, .int t261), (3, .int t234), (1, .int v71), (0, .ref (r 59))]) hx hb dX7_workOneTick_187 hl (k := 1) rfl et261.symm (by decide) rfl (fun ls hl => ?_)
                  refine lv_goto (tgt := 84) hx hb dX7_workOneTick_190 (by decide) ?_
                  exact ihlp75  B259 _ _ _ t261 (km_up hmlp75 qt261) hI hG hE (kb_w b262 (by decide) (by decide)) hP hD hS (lv_sub hl [0, 2, 3] rfl)
                refine lv_if_eq (tgt := 169) hx hb dX7_workOneTick_110 (by decide) (fun c263 => ?_) (fun c263 => ?_)
                · have b264 : kb 0 v236 0 := kb_eq c263 kc_0
                  refine lv_aload_n hx hb dX7_workOneTick_169 rfl (lv_at hl 3 rfl) ?_
                  refine va_get (D := D) (ci := 7) (v := .ref (r 67)) (C := RX7) (T := TX7) (N := 20) hx hb hg inC7 hown hK hP 59 rfl rfl 9 (by decide) (hg _ wt1_116) (fun _ h9 => h9) rfl dX7_workOneTick_170 ?_
                  refine lv_iload_n hx hb dX7_workOneTick_173 rfl (lv_at hl 1 rfl) ?_
                  refine lv_iconst (v := 0) hx hb dX7_workOneTick_174 (by decide) ?_
                  refine lv_aload_n hx hb dX7_workOneTick_175 rfl (lv_at hl 3 rfl) ?_
                  refine va_get (D := D) (ci := 7) (v := .ref (r 67)) (C := RX7) (T := TX7) (N := 20) hx hb hg inC7 hown hK hP 59 rfl rfl 9 (by decide) (hg _ wt1_116) (fun _ h9 => h9) rfl dX7_workOneTick_176 ?_
                  refine lv_iload_n hx hb dX7_workOneTick_179 rfl (lv_at hl 1 rfl) ?_
                  refine va_iald hx hb hK hP 67 0 rfl rfl (kb_in b233 (by decide) (by decide)) dX7_workOneTick_180 ?_
                  refine lv_topi (fun t265 et265 => ?_)
                  refine lv_iconst (v := 2) hx hb dX7_workOneTick_181 (by decide) ?_
                  refine lv_isub hx hb dX7_workOneTick_182 ?_
                  refine lv_topi (fun t266 et266 => ?_)
                  refine va_mmax hx hb (hml.trans hl.1.symm) hown (hg _ wt3_54) (hg _ wt2_38) (hg _ wt1_9) (hg _ wt2_39) (by decide) (Nat.le_of_ble_eq_true rfl) (by decide) (by decide) dX7_workOneTick_183 ?_
                  refine lv_topi (fun t267 et267 => ?_)
                  have b268 : kb 0 t267 2147483647 := kb_eq et267 (kb_mx kc_0 (kb_any t266) (by decide) (by decide) (by decide) (by decide))
                  refine va_iast hx hb hK hP hD hS 67 0 rfl rfl (kb_in b233 (by decide) (by decide)) dX7_workOneTick_186 (fun H locs hP hD hS => ?_)
                  have hP : va_P D vwCl (xX K r F2 (va_up B74 67 (upd (B74 67) y73.toNatClampNeg t267)) G4 tx) H := hP
                  have hD : va_D A (xX K r F2 (va_up B74 67 (upd (B74 67) y73.toNatClampNeg t267)) G4 tx) := hD
                  refine k_gen (P := fun z => va_P D vwCl (xX K r F2 z G4 tx) H ∧ va_D A (xX K r F2 z G4 tx) ∧ (xI F2 z) ∧ (gOK K G4.2 tt) ∧ (xEk ([], [64, 67, 68, 69, 77, 78], []) f a g F2 z G4)) (va_up B74 67 (upd (B74 67) y73.toNatClampNeg t267)) ⟨hP, hD, (xI_a hI (by decide)), hG, (xEk_a hE rfl)⟩ (fun a_269 ea_269 hq => ?_)
                  obtain ⟨hP, hD, hI, hG, hE⟩ := hq
                  exact jn260 a_269 _ _ _  hI hG hE hP hD hS (lv_sub hl [0, 1, 2, 3] rfl)
                · have b270 : kb 1 v236 1 := kr_nel c263 hw235.1 kc_0 (by decide)
                  have h271 := hw235.2.1 c263
                  have b272 : kb 0 t234 9 := ⟨h271.1, h271.2⟩
                  refine lv_aload_n hx hb dX7_workOneTick_113 rfl (lv_at hl 3 rfl) ?_
                  refine va_get (D := D) (ci := 7) (v := .ref (r 64)) (C := RX7) (T := TX7) (N := 20) hx hb hg inC7 hown hK hP 59 rfl rfl 5 (by decide) (hg _ wt1_97) (fun _ h9 => h9) rfl dX7_workOneTick_114 ?_
                  refine lv_iload_n hx hb dX7_workOneTick_117 rfl (lv_at hl 0 rfl) ?_
                  refine lv_iconst (v := 0) hx hb dX7_workOneTick_118 (by decide) ?_
                  refine lv_aload_n hx hb dX7_workOneTick_119 rfl (lv_at hl 3 rfl) ?_
                  refine va_get (D := D) (ci := 7) (v := .ref (r 64)) (C := RX7) (T := TX7) (N := 20) hx hb hg inC7 hown hK hP 59 rfl rfl 5 (by decide) (hg _ wt1_97) (fun _ h9 => h9) rfl dX7_workOneTick_120 ?_
                  refine lv_iload_n hx hb dX7_workOneTick_123 rfl (lv_at hl 0 rfl) ?_
                  refine va_iald hx hb hK hP 64 0 rfl rfl (kb_in b272 (by decide) (by decide)) dX7_workOneTick_124 ?_
                  refine lv_topi (fun t273 et273 => ?_)
                  refine lv_aload_n hx hb dX7_workOneTick_125 rfl (lv_at hl 3 rfl) ?_
                  refine va_get (D := D) (ci := 7) (v := .ref (r 74)) (C := RX7) (T := TX7) (N := 20) hx hb hg inC7 hown hK hP 59 rfl rfl 19 (by decide) (hg _ wt1_154) (fun _ h9 => h9) rfl dX7_workOneTick_126 ?_
                  refine va_get (D := D) (ci := 8) (v := .ref (r 77)) (C := RX8) (T := TX8) (N := 5) hx hb hg inC8 hown hK hP 74 rfl rfl 2 (by decide) (hg _ wt1_59) (fun _ h9 => h9) rfl dX7_workOneTick_129 ?_
                  refine lv_iload_n hx hb dX7_workOneTick_132 rfl (lv_at hl 1 rfl) ?_
                  refine va_iald hx hb hK hP 77 0 rfl rfl (kb_in b233 (by decide) (by decide)) dX7_workOneTick_133 ?_
                  refine lv_topi (fun t274 et274 => ?_)
                  refine lv_isub hx hb dX7_workOneTick_134 ?_
                  refine lv_topi (fun t275 et275 => ?_)
                  refine va_mmax hx hb (hml.trans hl.1.symm) hown (hg _ wt3_54) (hg _ wt2_38) (hg _ wt1_9) (hg _ wt2_39) (by decide) (Nat.le_of_ble_eq_true rfl) (by decide) (by decide) dX7_workOneTick_135 ?_
                  refine lv_topi (fun t276 et276 => ?_)
                  have b277 : kb 0 t276 2147483647 := kb_eq et276 (kb_mx kc_0 (kb_any t275) (by decide) (by decide) (by decide) (by decide))
                  refine va_iast hx hb hK hP hD hS 64 0 rfl rfl (kb_in b272 (by decide) (by decide)) dX7_workOneTick_138 (fun H locs hP hD hS => ?_)
                  have hP : va_P D vwCl (xX K r F2 (va_up B74 64 (upd (B74 64) t234.toNatClampNeg t276)) G4 tx) H := hP
                  have hD : va_D A (xX K r F2 (va_up B74 64 (upd (B74 64) t234.toNatClampNeg t276)) G4 tx) := hD
                  refine k_gen (P := fun z => va_P D vwCl (xX K r F2 z G4 tx) H ∧ va_D A (xX K r F2 z G4 tx) ∧ (xI F2 z) ∧ (gOK K G4.2 tt) ∧ (xEk ([], [64, 67, 68, 69, 77, 78], []) f a g F2 z G4)) (va_up B74 64 (upd (B74 64) t234.toNatClampNeg t276)) ⟨hP, hD, (xI_a hI (by decide)), hG, (xEk_a hE rfl)⟩ (fun a_278 ea_278 hq => ?_)
                  obtain ⟨hP, hD, hI, hG, hE⟩ := hq
                  refine lv_aload_n hx hb dX7_workOneTick_139 rfl (lv_at hl 3 rfl) ?_
                  refine va_get (D := D) (ci := 7) (v := .ref (r 67)) (C := RX7) (T := TX7) (N := 20) hx hb hg inC7 hown hK hP 59 rfl rfl 9 (by decide) (hg _ wt1_116) (fun _ h9 => h9) rfl dX7_workOneTick_140 ?_
                  refine lv_iload_n hx hb dX7_workOneTick_143 rfl (lv_at hl 1 rfl) ?_
                  refine lv_bipush (v := 99) hx hb dX7_workOneTick_144 (by decide) ?_
                  refine lv_aload_n hx hb dX7_workOneTick_146 rfl (lv_at hl 3 rfl) ?_
                  refine va_get (D := D) (ci := 7) (v := .ref (r 67)) (C := RX7) (T := TX7) (N := 20) hx hb hg inC7 hown hK hP 59 rfl rfl 9 (by decide) (hg _ wt1_116) (fun _ h9 => h9) rfl dX7_workOneTick_147 ?_
                  refine lv_iload_n hx hb dX7_workOneTick_150 rfl (lv_at hl 1 rfl) ?_
                  refine va_iald hx hb hK hP 67 0 rfl rfl (kb_in b233 (by decide) (by decide)) dX7_workOneTick_151 ?_
                  refine lv_topi (fun t279 et279 => ?_)
                  refine lv_aload_n hx hb dX7_workOneTick_152 rfl (lv_at hl 3 rfl) ?_
                  refine va_get (D := D) (ci := 7) (v := .ref (r 74)) (C := RX7) (T := TX7) (N := 20) hx hb hg inC7 hown hK hP 59 rfl rfl 19 (by decide) (hg _ wt1_154) (fun _ h9 => h9) rfl dX7_workOneTick_153 ?_
                  refine va_get (D := D) (ci := 8) (v := .ref (r 78)) (C := RX8) (T := TX8) (N := 5) hx hb hg inC8 hown hK hP 74 rfl rfl 3 (by decide) (hg _ wt1_61) (fun _ h9 => h9) rfl dX7_workOneTick_156 ?_
                  refine lv_iload_n hx hb dX7_workOneTick_159 rfl (lv_at hl 1 rfl) ?_
                  refine va_iald hx hb hK hP 78 0 rfl rfl (kb_in b233 (by decide) (by decide)) dX7_workOneTick_160 ?_
                  refine lv_topi (fun t280 et280 => ?_)
                  refine lv_iadd hx hb dX7_workOneTick_161 ?_
                  refine lv_topi (fun t281 et281 => ?_)
                  refine va_mmin hx hb (hml.trans hl.1.symm) hown (hg _ wt3_51) (hg _ wt3_52) (hg _ wt1_9) (hg _ wt3_53) (by decide) (Nat.le_of_ble_eq_true rfl) (by decide) (by decide) dX7_workOneTick_162 ?_
                  refine lv_topi (fun t282 et282 => ?_)
                  have b283 : kb (-2147483648) t282 99 := kb_eq et282 (kb_mn kc_99 (kb_any t281) (by decide) (by decide) (by decide) (by decide))
                  refine va_iast hx hb hK hP hD hS 67 0 rfl rfl (kb_in b233 (by decide) (by decide)) dX7_workOneTick_165 (fun H locs hP hD hS => ?_)
                  have hP : va_P D vwCl (xX K r F2 (va_up a_278 67 (upd (a_278 67) y73.toNatClampNeg t282)) G4 tx) H := hP
                  have hD : va_D A (xX K r F2 (va_up a_278 67 (upd (a_278 67) y73.toNatClampNeg t282)) G4 tx) := hD
                  refine k_gen (P := fun z => va_P D vwCl (xX K r F2 z G4 tx) H ∧ va_D A (xX K r F2 z G4 tx) ∧ (xI F2 z) ∧ (gOK K G4.2 tt) ∧ (xEk ([], [64, 67, 68, 69, 77, 78], []) f a g F2 z G4)) (va_up a_278 67 (upd (a_278 67) y73.toNatClampNeg t282)) ⟨hP, hD, (xI_a hI (by decide)), hG, (xEk_a hE rfl)⟩ (fun a_284 ea_284 hq => ?_)
                  obtain ⟨hP, hD, hI, hG, hE⟩ := hq
                  refine lv_goto (tgt := 187) hx hb dX7_workOneTick_166 (by decide) ?_
                  exact jn260 a_284 _ _ _  hI hG hE hP hD hS (lv_sub hl [0, 1, 2, 3] rfl)
        exact lp75 (7)  B3 _ _ _ 0 (by have h1 := (kc_0); unfold kb at h1; omega) hI hG hE (kb_w kc_0 (by decide) (by decide)) hP hD hS (lv_sub hl [0, 1, 2] rfl)
      refine lv_icmp_ge (tgt := 77) hx hb dX7_workOneTick_7 (by decide) (fun c285 => ?_) (fun c285 => ?_)
      · have h286 := (kc_le c285)
        have b287 : kb (-2147483648) t8 6 := kr_le1 h286 (kb_any t8) b7
        exact jn69 _ _ _   hP hD hS (lv_sub hl [0, 1] rfl)
      · have h288 := (kc_nle c285)
        have b289 : kb 1 t8 2147483647 := kr_lt2 h288 b7 (kb_any t8) (by decide)
        refine lv_iload_n hx hb dX7_workOneTick_10 rfl (lv_at hl 0 rfl) ?_
        refine lv_bipush (v := 6) hx hb dX7_workOneTick_11 (by decide) ?_
        refine lv_icmp_ge (tgt := 77) hx hb dX7_workOneTick_13 (by decide) (fun c290 => ?_) (fun c290 => ?_)
        · have h291 := (kc_le c290)
          have b292 : kb 6 y1 6 := kr_le2 h291 kc_6 b7
          exact jn69 _ _ _   hP hD hS (lv_sub hl [0, 1] rfl)
        · have h293 := (kc_nle c290)
          have b294 : kb 0 y1 5 := kr_lt1 h293 b7 kc_6 (by decide)
          refine lv_aload_n hx hb dX7_workOneTick_16 rfl (lv_at hl 1 rfl) ?_
          refine lv_aload_n hx hb dX7_workOneTick_17 rfl (lv_at hl 1 rfl) ?_
          refine va_get (D := D) (ci := 7) (v := .ref (r 68)) (C := RX7) (T := TX7) (N := 20) hx hb hg inC7 hown hK hP 59 rfl rfl 10 (by decide) (hg _ wt1_121) (fun _ h9 => h9) rfl dX7_workOneTick_18 ?_
          refine lv_iload_n hx hb dX7_workOneTick_21 rfl (lv_at hl 0 rfl) ?_
          refine va_iald hx hb hK hP 68 0 rfl rfl (kb_in b294 (by decide) (by decide)) dX7_workOneTick_22 ?_
          refine lv_topi (fun t295 et295 => ?_)
          refine kIG.callW (As := [.int t295]) (rest := []) ⟨hx, hb, hml, hown, hg⟩ (x_7_hasPartP l r F2 B3 G4 tx tt hT hI hG t295  ) (cwV 1 hg (kgV wt3_83 wt3_36 wt3_37 wt1_2 wt3_38) rfl rfl rfl (by decide +kernel) ⟨by decide, by decide⟩) hV hK hP hD hS hA (59) 7 rfl rfl rfl hl.1 rfl (Nat.le_of_ble_eq_true rfl) dX7_workOneTick_23 ⟨Nat.le_refl _, Nat.le_refl _⟩ (fun v297 u298 H locs hw296 hP hD hS => ?_)
          have hP : va_P D vwCl (xX K r F2 B3 G4 tx) H := hP
          have hD : va_D A (xX K r F2 B3 G4 tx) := hD
          have jn322 : ∀ (F319 : Nat → Int32) (B320 : Nat → Nat → Int32) (G321 : xG) (H : Heap) (locs : List Loc) (ls : Array Slot), (xI F319 B320) → (gOK K G321.2 tt) → (xEk ([], [64, 67, 68, 69, 77, 78], []) f a g F319 B320 G321) → va_P D vwCl (xX K r F319 B320 G321 tx) H → va_D A (xX K r F319 B320 G321 tx) → va_S A s.heap H locs → lv_has ls 4 [(1, .int y1), (0, .ref (r 59))] → W p l e (rmD 4 0 0) s m ([.ref (r 59)] : List Value).toArray below meth c H locs 0 0 (kQi D (tysK K) (fun v (u : xS) => kb (-2147483648) v 2147483647 ∧ xI u.1 u.2.1 ∧ gOK K u.2.2.2 tt ∧ xEk ([], [64, 67, 68, 69, 77, 78], []) f a g u.1 u.2.1 u.2.2) (fun u => xX K r u.1 u.2.1 u.2.2 tx) A below ([.ref (r 59)] : List Value).toArray s 0 0) (F0 m 71 ls []) := by
            intro F319 B320 G321  H locs ls  hI hG hE hP hD hS hl
            obtain ⟨t323, et323⟩ : ∃ z : Int32, z = y1 + Int32.ofInt 1 := ⟨_, rfl⟩
            have qt323 : t323.toInt = y1.toInt + 1 := by rw [et323]; exact km_inc b294 (by decide) (by decide)
            have b324 : kb 1 t323 6 := kb_inc (k := 1) qt323 b294
            refine lv_iinc (v := t323) (lv' := [(1, .int t323), (0, .ref (r 59))]) hx hb dX7_workOneTick_71 hl (k := 0) rfl et323.symm (by decide) rfl (fun ls hl => ?_)
            refine lv_goto (tgt := 2) hx hb dX7_workOneTick_74 (by decide) ?_
            exact ihlp5  F319 B320 G321 _ _ _ t323 (km_up hmlp5 qt323) hI hG hE (kb_w b324 (by decide) (by decide)) hP hD hS (lv_sub hl [0, 1] rfl)
          refine lv_if_eq (tgt := 71) hx hb dX7_workOneTick_26 (by decide) (fun c325 => ?_) (fun c325 => ?_)
          · have b326 : kb 0 v297 0 := kb_eq c325 kc_0
            exact jn322 F2 B3 G4 _ _ _  hI hG hE hP hD hS (lv_sub hl [0, 1] rfl)
          · have b327 : kb 1 v297 1 := kr_nel c325 hw296.1 kc_0 (by decide)
            have h328 := hw296.2.1 c325
            have b329 : kb 0 t295 9 := ⟨h328.1, h328.2⟩
            refine lv_aload_n hx hb dX7_workOneTick_29 rfl (lv_at hl 1 rfl) ?_
            refine va_get (D := D) (ci := 7) (v := .ref (r 74)) (C := RX7) (T := TX7) (N := 20) hx hb hg inC7 hown hK hP 59 rfl rfl 19 (by decide) (hg _ wt1_154) (fun _ h9 => h9) rfl dX7_workOneTick_30 ?_
            refine va_get (D := D) (ci := 8) (v := .ref (r 77)) (C := RX8) (T := TX8) (N := 5) hx hb hg inC8 hown hK hP 74 rfl rfl 2 (by decide) (hg _ wt1_59) (fun _ h9 => h9) rfl dX7_workOneTick_33 ?_
            refine lv_iload_n hx hb dX7_workOneTick_36 rfl (lv_at hl 0 rfl) ?_
            refine lv_aload_n hx hb dX7_workOneTick_37 rfl (lv_at hl 1 rfl) ?_
            refine lv_iconst (v := 0) hx hb dX7_workOneTick_38 (by decide) ?_
            refine lv_iload_n hx hb dX7_workOneTick_39 rfl (lv_at hl 0 rfl) ?_
            refine lv_aload_n hx hb dX7_workOneTick_40 rfl (lv_at hl 1 rfl) ?_
            refine va_get (D := D) (ci := 7) (v := .ref (r 68)) (C := RX7) (T := TX7) (N := 20) hx hb hg inC7 hown hK hP 59 rfl rfl 10 (by decide) (hg _ wt1_121) (fun _ h9 => h9) rfl dX7_workOneTick_41 ?_
            refine lv_iload_n hx hb dX7_workOneTick_44 rfl (lv_at hl 0 rfl) ?_
            refine va_iald hx hb hK hP 68 0 rfl rfl (kb_in b294 (by decide) (by decide)) dX7_workOneTick_45 ?_
            refine k_top (z := t295) et295.symm ?_
            refine kIG.callW (As := [.int 0, .int y1, .int t295]) (rest := [.int y1, .ref (r 77)]) ⟨hx, hb, hml, hown, hg⟩ (x_7_askedP l r F2 B3 G4 tx tt hT hI hG 0 y1 t295  ) (cwV 3 hg (kgV wt4_146 wt3_78 wt3_79 wt1_2 wt3_80) rfl rfl rfl (by decide +kernel) ⟨by decide, by decide⟩) hV hK hP hD hS hA (59) 7 rfl rfl rfl hl.1 rfl (Nat.le_of_ble_eq_true rfl) dX7_workOneTick_46 ⟨Nat.le_refl _, Nat.le_refl _⟩ (fun v331 u332 H locs hw330 hP hD hS => ?_)
            obtain ⟨f333, a334, g335⟩ := u332
            have hP : va_P D vwCl (xX K r f333 a334 g335 tx) H := hP
            have hD : va_D A (xX K r f333 a334 g335 tx) := hD
            have hI : xI f333 a334 := hw330.2.1
            have hG : gOK K g335.2 tt := hw330.2.2.1
            have eE336 : xEk ([], [], []) F2 B3 G4 f333 a334 g335 := hw330.2.2.2
            have hE : xEk ([], [64, 67, 68, 69, 77, 78], []) f a g f333 a334 g335 := xEk_tr hE (xEk_w (by decide +kernel) eE336)
            refine va_iast hx hb hK hP hD hS 77 0 rfl rfl (kb_in b294 (by decide) (by decide)) dX7_workOneTick_49 (fun H locs hP hD hS => ?_)
            have hP : va_P D vwCl (xX K r f333 (va_up a334 77 (upd (a334 77) y1.toNatClampNeg v331)) g335 tx) H := hP
            have hD : va_D A (xX K r f333 (va_up a334 77 (upd (a334 77) y1.toNatClampNeg v331)) g335 tx) := hD
            refine k_gen (P := fun z => va_P D vwCl (xX K r f333 z g335 tx) H ∧ va_D A (xX K r f333 z g335 tx) ∧ (xI f333 z) ∧ (gOK K g335.2 tt) ∧ (xEk ([], [64, 67, 68, 69, 77, 78], []) f a g f333 z g335)) (va_up a334 77 (upd (a334 77) y1.toNatClampNeg v331)) ⟨hP, hD, (xI_a hI (by decide)), hG, (xEk_a hE rfl)⟩ (fun a_337 ea_337 hq => ?_)
            obtain ⟨hP, hD, hI, hG, hE⟩ := hq
            refine lv_aload_n hx hb dX7_workOneTick_50 rfl (lv_at hl 1 rfl) ?_
            refine va_get (D := D) (ci := 7) (v := .ref (r 74)) (C := RX7) (T := TX7) (N := 20) hx hb hg inC7 hown hK hP 59 rfl rfl 19 (by decide) (hg _ wt1_154) (fun _ h9 => h9) rfl dX7_workOneTick_51 ?_
            refine va_get (D := D) (ci := 8) (v := .ref (r 78)) (C := RX8) (T := TX8) (N := 5) hx hb hg inC8 hown hK hP 74 rfl rfl 3 (by decide) (hg _ wt1_61) (fun _ h9 => h9) rfl dX7_workOneTick_54 ?_
            refine lv_iload_n hx hb dX7_workOneTick_57 rfl (lv_at hl 0 rfl) ?_
            refine lv_aload_n hx hb dX7_workOneTick_58 rfl (lv_at hl 1 rfl) ?_
            refine lv_iconst (v := 1) hx hb dX7_workOneTick_59 (by decide) ?_
            refine lv_iload_n hx hb dX7_workOneTick_60 rfl (lv_at hl 0 rfl) ?_
            refine lv_aload_n hx hb dX7_workOneTick_61 rfl (lv_at hl 1 rfl) ?_
            refine va_get (D := D) (ci := 7) (v := .ref (r 68)) (C := RX7) (T := TX7) (N := 20) hx hb hg inC7 hown hK hP 59 rfl rfl 10 (by decide) (hg _ wt1_121) (fun _ h9 => h9) rfl dX7_workOneTick_62 ?_
            refine lv_iload_n hx hb dX7_workOneTick_65 rfl (lv_at hl 0 rfl) ?_
            refine va_iald hx hb hK hP 68 0 rfl rfl (kb_in b294 (by decide) (by decide)) dX7_workOneTick_66 ?_
            refine k_top (z := t295) ((show a_337 68 y1.toNatClampNeg = a334 68 y1.toNatClampNeg from by rw [← ea_337]; rfl).trans ((congrFun (eE336.2.1 68 rfl) (y1.toNatClampNeg)).trans et295.symm)) ?_
            refine kIG.callW (As := [.int 1, .int y1, .int t295]) (rest := [.int y1, .ref (r 78)]) ⟨hx, hb, hml, hown, hg⟩ (x_7_askedP l r f333 a_337 g335 tx tt hT hI hG 1 y1 t295  ) (cwV 3 hg (kgV wt4_146 wt3_78 wt3_79 wt1_2 wt3_80) rfl rfl rfl (by decide +kernel) ⟨by decide, by decide⟩) hV hK hP hD hS hA (59) 7 rfl rfl rfl hl.1 rfl (Nat.le_of_ble_eq_true rfl) dX7_workOneTick_67 ⟨Nat.le_refl _, Nat.le_refl _⟩ (fun v339 u340 H locs hw338 hP hD hS => ?_)
            obtain ⟨f341, a342, g343⟩ := u340
            have hP : va_P D vwCl (xX K r f341 a342 g343 tx) H := hP
            have hD : va_D A (xX K r f341 a342 g343 tx) := hD
            have hI : xI f341 a342 := hw338.2.1
            have hG : gOK K g343.2 tt := hw338.2.2.1
            have eE344 : xEk ([], [], []) f333 a_337 g335 f341 a342 g343 := hw338.2.2.2
            have hE : xEk ([], [64, 67, 68, 69, 77, 78], []) f a g f341 a342 g343 := xEk_tr hE (xEk_w (by decide +kernel) eE344)
            refine va_iast hx hb hK hP hD hS 78 0 rfl rfl (kb_in b294 (by decide) (by decide)) dX7_workOneTick_70 (fun H locs hP hD hS => ?_)
            have hP : va_P D vwCl (xX K r f341 (va_up a342 78 (upd (a342 78) y1.toNatClampNeg v339)) g343 tx) H := hP
            have hD : va_D A (xX K r f341 (va_up a342 78 (upd (a342 78) y1.toNatClampNeg v339)) g343 tx) := hD
            refine k_gen (P := fun z => va_P D vwCl (xX K r f341 z g343 tx) H ∧ va_D A (xX K r f341 z g343 tx) ∧ (xI f341 z) ∧ (gOK K g343.2 tt) ∧ (xEk ([], [64, 67, 68, 69, 77, 78], []) f a g f341 z g343)) (va_up a342 78 (upd (a342 78) y1.toNatClampNeg v339)) ⟨hP, hD, (xI_a hI (by decide)), hG, (xEk_a hE rfl)⟩ (fun a_345 ea_345 hq => ?_)
            obtain ⟨hP, hD, hI, hG, hE⟩ := hq
            exact jn322 f341 a_345 g343 _ _ _  hI hG hE hP hD hS (lv_sub hl [0, 1] rfl)
  exact lp5 (7)  f a g _ _ _ 0 (by have h1 := (kc_0); unfold kb at h1; omega) hI hG hE (kb_w kc_0 (by decide) (by decide)) hP hD hS (lv_sub hl [0, 1] rfl)
