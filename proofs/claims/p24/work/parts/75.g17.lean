theorem dX12_rows_0 : decode cX12_rows 0 = .ok (.iload_n 1, 1) := by decide +kernel
theorem dX12_rows_1 : decode cX12_rows 1 = .ok (.iconst (-1), 1) := by decide +kernel
theorem dX12_rows_2 : decode cX12_rows 2 = .ok (.if_icmp .ge 5, 3) := by decide +kernel
theorem dX12_rows_5 : decode cX12_rows 5 = .ok (.iconst (-1), 1) := by decide +kernel
theorem dX12_rows_6 : decode cX12_rows 6 = .ok (.ireturn, 1) := by decide +kernel
theorem dX12_rows_7 : decode cX12_rows 7 = .ok (.aload_n 0, 1) := by decide +kernel
theorem dX12_rows_8 : decode cX12_rows 8 = .ok (.invokevirtual 369, 3) := by decide +kernel
theorem dX12_rows_11 : decode cX12_rows 11 = .ok (.aload_n 0, 1) := by decide +kernel
theorem dX12_rows_12 : decode cX12_rows 12 = .ok (.invokevirtual 118, 3) := by decide +kernel
theorem dX12_rows_15 : decode cX12_rows 15 = .ok (.istore_n 3, 1) := by decide +kernel
theorem dX12_rows_16 : decode cX12_rows 16 = .ok (.iload_n 1, 1) := by decide +kernel
theorem dX12_rows_17 : decode cX12_rows 17 = .ok (.iconst (-1), 1) := by decide +kernel
theorem dX12_rows_18 : decode cX12_rows 18 = .ok (.if_icmp .ne 10, 3) := by decide +kernel
theorem dX12_rows_21 : decode cX12_rows 21 = .ok (.aload_n 0, 1) := by decide +kernel
theorem dX12_rows_22 : decode cX12_rows 22 = .ok (.getfield 77, 3) := by decide +kernel
theorem dX12_rows_25 : decode cX12_rows 25 = .ok (.iload_n 3, 1) := by decide +kernel
theorem dX12_rows_26 : decode cX12_rows 26 = .ok (.iaload, 1) := by decide +kernel
theorem dX12_rows_27 : decode cX12_rows 27 = .ok (.ireturn, 1) := by decide +kernel
theorem dX12_rows_28 : decode cX12_rows 28 = .ok (.iload_n 1, 1) := by decide +kernel
theorem dX12_rows_29 : decode cX12_rows 29 = .ok (.istore 4, 2) := by decide +kernel
theorem dX12_rows_31 : decode cX12_rows 31 = .ok (.iload_n 1, 1) := by decide +kernel
theorem dX12_rows_32 : decode cX12_rows 32 = .ok (.aload_n 0, 1) := by decide +kernel
theorem dX12_rows_33 : decode cX12_rows 33 = .ok (.getfield 77, 3) := by decide +kernel
theorem dX12_rows_36 : decode cX12_rows 36 = .ok (.iload_n 3, 1) := by decide +kernel
theorem dX12_rows_37 : decode cX12_rows 37 = .ok (.iaload, 1) := by decide +kernel
theorem dX12_rows_38 : decode cX12_rows 38 = .ok (.if_icmp .ge 25, 3) := by decide +kernel
theorem dX12_rows_41 : decode cX12_rows 41 = .ok (.iload_n 2, 1) := by decide +kernel
theorem dX12_rows_42 : decode cX12_rows 42 = .ok (.iconst 0, 1) := by decide +kernel
theorem dX12_rows_43 : decode cX12_rows 43 = .ok (.aload_n 0, 1) := by decide +kernel
theorem dX12_rows_44 : decode cX12_rows 44 = .ok (.getfield 24, 3) := by decide +kernel
theorem dX12_rows_47 : decode cX12_rows 47 = .ok (.bipush 102, 2) := by decide +kernel
theorem dX12_rows_49 : decode cX12_rows 49 = .ok (.iaload, 1) := by decide +kernel
theorem dX12_rows_50 : decode cX12_rows 50 = .ok (.iload_n 3, 1) := by decide +kernel
theorem dX12_rows_51 : decode cX12_rows 51 = .ok (.invokestatic 287, 3) := by decide +kernel
theorem dX12_rows_54 : decode cX12_rows 54 = .ok (.isub, 1) := by decide +kernel
theorem dX12_rows_55 : decode cX12_rows 55 = .ok (.iconst 1, 1) := by decide +kernel
theorem dX12_rows_56 : decode cX12_rows 56 = .ok (.isub, 1) := by decide +kernel
theorem dX12_rows_57 : decode cX12_rows 57 = .ok (.invokestatic 96, 3) := by decide +kernel
theorem dX12_rows_60 : decode cX12_rows 60 = .ok (.ifCond .ne 5, 3) := by decide +kernel
theorem dX12_rows_63 : decode cX12_rows 63 = .ok (.iconst (-1), 1) := by decide +kernel
theorem dX12_rows_64 : decode cX12_rows 64 = .ok (.ireturn, 1) := by decide +kernel
theorem dX12_rows_65 : decode cX12_rows 65 = .ok (.iconst (-1), 1) := by decide +kernel
theorem dX12_rows_66 : decode cX12_rows 66 = .ok (.istore 5, 2) := by decide +kernel
theorem dX12_rows_68 : decode cX12_rows 68 = .ok (.iconst 0, 1) := by decide +kernel
theorem dX12_rows_69 : decode cX12_rows 69 = .ok (.istore 6, 2) := by decide +kernel
theorem dX12_rows_71 : decode cX12_rows 71 = .ok (.iload 6, 2) := by decide +kernel
theorem dX12_rows_73 : decode cX12_rows 73 = .ok (.iload_n 2, 1) := by decide +kernel
theorem dX12_rows_74 : decode cX12_rows 74 = .ok (.if_icmp .gt 81, 3) := by decide +kernel
theorem dX12_rows_77 : decode cX12_rows 77 = .ok (.iconst 0, 1) := by decide +kernel
theorem dX12_rows_78 : decode cX12_rows 78 = .ok (.istore 5, 2) := by decide +kernel
theorem dX12_rows_80 : decode cX12_rows 80 = .ok (.aload_n 0, 1) := by decide +kernel
theorem dX12_rows_81 : decode cX12_rows 81 = .ok (.iload_n 3, 1) := by decide +kernel
theorem dX12_rows_82 : decode cX12_rows 82 = .ok (.iload 5, 2) := by decide +kernel
theorem dX12_rows_84 : decode cX12_rows 84 = .ok (.invokevirtual 366, 3) := by decide +kernel
theorem dX12_rows_87 : decode cX12_rows 87 = .ok (.ifCond .eq 19, 3) := by decide +kernel
theorem dX12_rows_90 : decode cX12_rows 90 = .ok (.iload 4, 2) := by decide +kernel
theorem dX12_rows_92 : decode cX12_rows 92 = .ok (.aload_n 0, 1) := by decide +kernel
theorem dX12_rows_93 : decode cX12_rows 93 = .ok (.getfield 77, 3) := by decide +kernel
theorem dX12_rows_96 : decode cX12_rows 96 = .ok (.iload_n 3, 1) := by decide +kernel
theorem dX12_rows_97 : decode cX12_rows 97 = .ok (.iconst 1, 1) := by decide +kernel
theorem dX12_rows_98 : decode cX12_rows 98 = .ok (.iload 5, 2) := by decide +kernel
theorem dX12_rows_100 : decode cX12_rows 100 = .ok (.ishl, 1) := by decide +kernel
theorem dX12_rows_101 : decode cX12_rows 101 = .ok (.ior, 1) := by decide +kernel
theorem dX12_rows_102 : decode cX12_rows 102 = .ok (.iaload, 1) := by decide +kernel
theorem dX12_rows_103 : decode cX12_rows 103 = .ok (.if_icmp .lt 39, 3) := by decide +kernel
theorem dX12_rows_106 : decode cX12_rows 106 = .ok (.iload 4, 2) := by decide +kernel
theorem dX12_rows_108 : decode cX12_rows 108 = .ok (.aload_n 0, 1) := by decide +kernel
theorem dX12_rows_109 : decode cX12_rows 109 = .ok (.iload_n 3, 1) := by decide +kernel
theorem dX12_rows_110 : decode cX12_rows 110 = .ok (.iload 5, 2) := by decide +kernel
theorem dX12_rows_112 : decode cX12_rows 112 = .ok (.invokevirtual 366, 3) := by decide +kernel
theorem dX12_rows_115 : decode cX12_rows 115 = .ok (.ifCond .eq 17, 3) := by decide +kernel
theorem dX12_rows_118 : decode cX12_rows 118 = .ok (.aload_n 0, 1) := by decide +kernel
theorem dX12_rows_119 : decode cX12_rows 119 = .ok (.getfield 77, 3) := by decide +kernel
theorem dX12_rows_122 : decode cX12_rows 122 = .ok (.iload_n 3, 1) := by decide +kernel
theorem dX12_rows_123 : decode cX12_rows 123 = .ok (.iconst 1, 1) := by decide +kernel
theorem dX12_rows_124 : decode cX12_rows 124 = .ok (.iload 5, 2) := by decide +kernel
theorem dX12_rows_126 : decode cX12_rows 126 = .ok (.ishl, 1) := by decide +kernel
theorem dX12_rows_127 : decode cX12_rows 127 = .ok (.ior, 1) := by decide +kernel
theorem dX12_rows_128 : decode cX12_rows 128 = .ok (.iaload, 1) := by decide +kernel
theorem dX12_rows_129 : decode cX12_rows 129 = .ok (.goto 4, 3) := by decide +kernel
theorem dX12_rows_132 : decode cX12_rows 132 = .ok (.iconst 0, 1) := by decide +kernel
theorem dX12_rows_133 : decode cX12_rows 133 = .ok (.isub, 1) := by decide +kernel
theorem dX12_rows_134 : decode cX12_rows 134 = .ok (.istore 4, 2) := by decide +kernel
theorem dX12_rows_136 : decode cX12_rows 136 = .ok (.iinc 5 1, 3) := by decide +kernel
theorem dX12_rows_139 : decode cX12_rows 139 = .ok (.goto (-59), 3) := by decide +kernel
theorem dX12_rows_142 : decode cX12_rows 142 = .ok (.iload_n 3, 1) := by decide +kernel
theorem dX12_rows_143 : decode cX12_rows 143 = .ok (.iconst 1, 1) := by decide +kernel
theorem dX12_rows_144 : decode cX12_rows 144 = .ok (.iload 5, 2) := by decide +kernel
theorem dX12_rows_146 : decode cX12_rows 146 = .ok (.ishl, 1) := by decide +kernel
theorem dX12_rows_147 : decode cX12_rows 147 = .ok (.ior, 1) := by decide +kernel
theorem dX12_rows_148 : decode cX12_rows 148 = .ok (.istore_n 3, 1) := by decide +kernel
theorem dX12_rows_149 : decode cX12_rows 149 = .ok (.iinc 6 1, 3) := by decide +kernel
theorem dX12_rows_152 : decode cX12_rows 152 = .ok (.goto (-81), 3) := by decide +kernel
theorem dX12_rows_155 : decode cX12_rows 155 = .ok (.iload 5, 2) := by decide +kernel
theorem dX12_rows_157 : decode cX12_rows 157 = .ok (.ireturn, 1) := by decide +kernel
theorem wt7_183 : Cond.methodLink RX12 369 yX12_laysOrders ∈ kG := kt7 183 rfl rfl
theorem wt7_185 : Cond.instanceMethod yX12_laysOrders ∈ kG := kt7 185 rfl rfl
theorem wp7_0 : Cond.selects RX12 yX12_laysOrders yX12_laysOrders ∈ kG := kp7 0 rfl rfl
theorem wt7_186 : Cond.code yX12_laysOrders cX12_laysOrders 5 none ∈ kG := kt7 186 rfl rfl