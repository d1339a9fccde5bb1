theorem endx_0 {x y : Int32} (h : x < 0 ∨ y < x) : mLies x 0 y = 0 := by
  unfold mLies
  by_cases h0 : x < 0
  · rw [if_pos h0]
  · rcases h with h | h
    · exact absurd h h0
    · rw [if_neg h0, if_pos h]
theorem endx_1 {x y : Int32} (h0 : ¬ x < 0) (h1 : x ≤ y) : ¬ mLies x 0 y = 0 := by
  unfold mLies
  rw [if_neg h0, if_neg (by rw [Int32.lt_iff_toInt_lt]; rw [Int32.le_iff_toInt_le] at h1; omega)]
  decide +kernel
theorem dX7_addPart_0 : decode cX7_addPart 0 = .ok (.iload_n 2, 1) := by decide +kernel
theorem dX7_addPart_1 : decode cX7_addPart 1 = .ok (.iconst (-1), 1) := by decide +kernel
theorem dX7_addPart_2 : decode cX7_addPart 2 = .ok (.aload_n 0, 1) := by decide +kernel
theorem dX7_addPart_3 : decode cX7_addPart 3 = .ok (.getfield 9, 3) := by decide +kernel
theorem dX7_addPart_6 : decode cX7_addPart 6 = .ok (.ishl, 1) := by decide +kernel
theorem dX7_addPart_7 : decode cX7_addPart 7 = .ok (.iand, 1) := by decide +kernel
theorem dX7_addPart_8 : decode cX7_addPart 8 = .ok (.ifCond .ne 7, 3) := by decide +kernel
theorem dX7_addPart_11 : decode cX7_addPart 11 = .ok (.iconst 1, 1) := by decide +kernel
theorem dX7_addPart_12 : decode cX7_addPart 12 = .ok (.goto 4, 3) := by decide +kernel
theorem dX7_addPart_15 : decode cX7_addPart 15 = .ok (.iconst 0, 1) := by decide +kernel
theorem dX7_addPart_16 : decode cX7_addPart 16 = .ok (.istore 5, 2) := by decide +kernel
theorem dX7_addPart_18 : decode cX7_addPart 18 = .ok (.iload_n 1, 1) := by decide +kernel
theorem dX7_addPart_19 : decode cX7_addPart 19 = .ok (.iconst 1, 1) := by decide +kernel
theorem dX7_addPart_20 : decode cX7_addPart 20 = .ok (.if_icmp .lt 35, 3) := by decide +kernel
theorem dX7_addPart_23 : decode cX7_addPart 23 = .ok (.iload_n 1, 1) := by decide +kernel
theorem dX7_addPart_24 : decode cX7_addPart 24 = .ok (.bipush 99, 2) := by decide +kernel
theorem dX7_addPart_26 : decode cX7_addPart 26 = .ok (.if_icmp .gt 29, 3) := by decide +kernel
theorem dX7_addPart_29 : decode cX7_addPart 29 = .ok (.iload 5, 2) := by decide +kernel
theorem dX7_addPart_31 : decode cX7_addPart 31 = .ok (.ifCond .eq 24, 3) := by decide +kernel
theorem dX7_addPart_34 : decode cX7_addPart 34 = .ok (.iload_n 3, 1) := by decide +kernel
theorem dX7_addPart_35 : decode cX7_addPart 35 = .ok (.ifCond .lt 20, 3) := by decide +kernel
theorem dX7_addPart_38 : decode cX7_addPart 38 = .ok (.iload_n 3, 1) := by decide +kernel
theorem dX7_addPart_39 : decode cX7_addPart 39 = .ok (.iconst 4, 1) := by decide +kernel
theorem dX7_addPart_40 : decode cX7_addPart 40 = .ok (.if_icmp .ge 15, 3) := by decide +kernel
theorem dX7_addPart_43 : decode cX7_addPart 43 = .ok (.iload 4, 2) := by decide +kernel
theorem dX7_addPart_45 : decode cX7_addPart 45 = .ok (.ifCond .lt 10, 3) := by decide +kernel
theorem dX7_addPart_48 : decode cX7_addPart 48 = .ok (.iload 4, 2) := by decide +kernel
theorem dX7_addPart_50 : decode cX7_addPart 50 = .ok (.bipush 9, 2) := by decide +kernel
theorem dX7_addPart_52 : decode cX7_addPart 52 = .ok (.if_icmp .le 5, 3) := by decide +kernel
theorem dX7_addPart_55 : decode cX7_addPart 55 = .ok (.iconst (-1), 1) := by decide +kernel
theorem dX7_addPart_56 : decode cX7_addPart 56 = .ok (.ireturn, 1) := by decide +kernel
theorem dX7_addPart_57 : decode cX7_addPart 57 = .ok (.aload_n 0, 1) := by decide +kernel
theorem dX7_addPart_58 : decode cX7_addPart 58 = .ok (.getfield 9, 3) := by decide +kernel
theorem dX7_addPart_61 : decode cX7_addPart 61 = .ok (.ifCond .lt 12, 3) := by decide +kernel
theorem dX7_addPart_64 : decode cX7_addPart 64 = .ok (.aload_n 0, 1) := by decide +kernel
theorem dX7_addPart_65 : decode cX7_addPart 65 = .ok (.getfield 9, 3) := by decide +kernel
theorem dX7_addPart_68 : decode cX7_addPart 68 = .ok (.bipush 10, 2) := by decide +kernel
theorem dX7_addPart_70 : decode cX7_addPart 70 = .ok (.if_icmp .lt 6, 3) := by decide +kernel
theorem dX7_addPart_73 : decode cX7_addPart 73 = .ok (.bipush (-5), 2) := by decide +kernel
theorem dX7_addPart_75 : decode cX7_addPart 75 = .ok (.ireturn, 1) := by decide +kernel
theorem dX7_addPart_76 : decode cX7_addPart 76 = .ok (.aload_n 0, 1) := by decide +kernel
theorem dX7_addPart_77 : decode cX7_addPart 77 = .ok (.getfield 15, 3) := by decide +kernel
theorem dX7_addPart_80 : decode cX7_addPart 80 = .ok (.aload_n 0, 1) := by decide +kernel
theorem dX7_addPart_81 : decode cX7_addPart 81 = .ok (.getfield 9, 3) := by decide +kernel
theorem dX7_addPart_84 : decode cX7_addPart 84 = .ok (.iload_n 1, 1) := by decide +kernel
theorem dX7_addPart_85 : decode cX7_addPart 85 = .ok (.iastore, 1) := by decide +kernel
theorem dX7_addPart_86 : decode cX7_addPart 86 = .ok (.aload_n 0, 1) := by decide +kernel
theorem dX7_addPart_87 : decode cX7_addPart 87 = .ok (.getfield 19, 3) := by decide +kernel
theorem dX7_addPart_90 : decode cX7_addPart 90 = .ok (.aload_n 0, 1) := by decide +kernel
theorem dX7_addPart_91 : decode cX7_addPart 91 = .ok (.getfield 9, 3) := by decide +kernel
theorem dX7_addPart_94 : decode cX7_addPart 94 = .ok (.iload_n 2, 1) := by decide +kernel
theorem dX7_addPart_95 : decode cX7_addPart 95 = .ok (.iastore, 1) := by decide +kernel
theorem dX7_addPart_96 : decode cX7_addPart 96 = .ok (.aload_n 0, 1) := by decide +kernel
theorem dX7_addPart_97 : decode cX7_addPart 97 = .ok (.getfield 22, 3) := by decide +kernel
theorem dX7_addPart_100 : decode cX7_addPart 100 = .ok (.aload_n 0, 1) := by decide +kernel
theorem dX7_addPart_101 : decode cX7_addPart 101 = .ok (.getfield 9, 3) := by decide +kernel
theorem dX7_addPart_104 : decode cX7_addPart 104 = .ok (.iload_n 3, 1) := by decide +kernel
theorem dX7_addPart_105 : decode cX7_addPart 105 = .ok (.iastore, 1) := by decide +kernel
theorem dX7_addPart_106 : decode cX7_addPart 106 = .ok (.aload_n 0, 1) := by decide +kernel
theorem dX7_addPart_107 : decode cX7_addPart 107 = .ok (.getfield 25, 3) := by decide +kernel
theorem dX7_addPart_110 : decode cX7_addPart 110 = .ok (.aload_n 0, 1) := by decide +kernel
theorem dX7_addPart_111 : decode cX7_addPart 111 = .ok (.getfield 9, 3) := by decide +kernel
theorem dX7_addPart_114 : decode cX7_addPart 114 = .ok (.iload 4, 2) := by decide +kernel
theorem dX7_addPart_116 : decode cX7_addPart 116 = .ok (.iastore, 1) := by decide +kernel
theorem dX7_addPart_117 : decode cX7_addPart 117 = .ok (.aload_n 0, 1) := by decide +kernel
theorem dX7_addPart_118 : decode cX7_addPart 118 = .ok (.getfield 28, 3) := by decide +kernel
theorem dX7_addPart_121 : decode cX7_addPart 121 = .ok (.aload_n 0, 1) := by decide +kernel
theorem dX7_addPart_122 : decode cX7_addPart 122 = .ok (.getfield 9, 3) := by decide +kernel
theorem dX7_addPart_125 : decode cX7_addPart 125 = .ok (.iload_n 1, 1) := by decide +kernel
theorem dX7_addPart_126 : decode cX7_addPart 126 = .ok (.iastore, 1) := by decide +kernel
theorem dX7_addPart_127 : decode cX7_addPart 127 = .ok (.aload_n 0, 1) := by decide +kernel
theorem dX7_addPart_128 : decode cX7_addPart 128 = .ok (.dup, 1) := by decide +kernel
theorem dX7_addPart_129 : decode cX7_addPart 129 = .ok (.getfield 9, 3) := by decide +kernel
theorem dX7_addPart_132 : decode cX7_addPart 132 = .ok (.iconst 1, 1) := by decide +kernel
theorem dX7_addPart_133 : decode cX7_addPart 133 = .ok (.iadd, 1) := by decide +kernel
theorem dX7_addPart_134 : decode cX7_addPart 134 = .ok (.putfield 9, 3) := by decide +kernel
theorem dX7_addPart_137 : decode cX7_addPart 137 = .ok (.aload_n 0, 1) := by decide +kernel
theorem dX7_addPart_138 : decode cX7_addPart 138 = .ok (.getfield 9, 3) := by decide +kernel
theorem dX7_addPart_141 : decode cX7_addPart 141 = .ok (.iconst 1, 1) := by decide +kernel
theorem dX7_addPart_142 : decode cX7_addPart 142 = .ok (.isub, 1) := by decide +kernel
theorem dX7_addPart_143 : decode cX7_addPart 143 = .ok (.ireturn, 1) := by decide +kernel
theorem dX7_addBuilder_0 : decode cX7_addBuilder 0 = .ok (.iload_n 1, 1) := by decide +kernel
theorem dX7_addBuilder_1 : decode cX7_addBuilder 1 = .ok (.iconst 1, 1) := by decide +kernel
theorem dX7_addBuilder_2 : decode cX7_addBuilder 2 = .ok (.if_icmp .lt 20, 3) := by decide +kernel
theorem dX7_addBuilder_5 : decode cX7_addBuilder 5 = .ok (.iload_n 1, 1) := by decide +kernel
theorem dX7_addBuilder_6 : decode cX7_addBuilder 6 = .ok (.bipush 15, 2) := by decide +kernel
theorem dX7_addBuilder_8 : decode cX7_addBuilder 8 = .ok (.if_icmp .gt 14, 3) := by decide +kernel
theorem dX7_addBuilder_11 : decode cX7_addBuilder 11 = .ok (.iload_n 2, 1) := by decide +kernel
theorem dX7_addBuilder_12 : decode cX7_addBuilder 12 = .ok (.iconst 1, 1) := by decide +kernel
theorem dX7_addBuilder_13 : decode cX7_addBuilder 13 = .ok (.if_icmp .lt 9, 3) := by decide +kernel
theorem dX7_addBuilder_16 : decode cX7_addBuilder 16 = .ok (.iload_n 2, 1) := by decide +kernel
theorem dX7_addBuilder_17 : decode cX7_addBuilder 17 = .ok (.bipush 9, 2) := by decide +kernel
theorem dX7_addBuilder_19 : decode cX7_addBuilder 19 = .ok (.if_icmp .le 5, 3) := by decide +kernel
theorem dX7_addBuilder_22 : decode cX7_addBuilder 22 = .ok (.iconst (-1), 1) := by decide +kernel
theorem dX7_addBuilder_23 : decode cX7_addBuilder 23 = .ok (.ireturn, 1) := by decide +kernel
theorem dX7_addBuilder_24 : decode cX7_addBuilder 24 = .ok (.aload_n 0, 1) := by decide +kernel
theorem dX7_addBuilder_25 : decode cX7_addBuilder 25 = .ok (.getfield 31, 3) := by decide +kernel
theorem dX7_addBuilder_28 : decode cX7_addBuilder 28 = .ok (.ifCond .lt 12, 3) := by decide +kernel
theorem dX7_addBuilder_31 : decode cX7_addBuilder 31 = .ok (.aload_n 0, 1) := by decide +kernel
theorem dX7_addBuilder_32 : decode cX7_addBuilder 32 = .ok (.getfield 31, 3) := by decide +kernel
theorem dX7_addBuilder_35 : decode cX7_addBuilder 35 = .ok (.bipush 6, 2) := by decide +kernel
theorem dX7_addBuilder_37 : decode cX7_addBuilder 37 = .ok (.if_icmp .lt 6, 3) := by decide +kernel
theorem dX7_addBuilder_40 : decode cX7_addBuilder 40 = .ok (.bipush (-5), 2) := by decide +kernel
theorem dX7_addBuilder_42 : decode cX7_addBuilder 42 = .ok (.ireturn, 1) := by decide +kernel
theorem dX7_addBuilder_43 : decode cX7_addBuilder 43 = .ok (.aload_n 0, 1) := by decide +kernel
theorem dX7_addBuilder_44 : decode cX7_addBuilder 44 = .ok (.getfield 34, 3) := by decide +kernel
theorem dX7_addBuilder_47 : decode cX7_addBuilder 47 = .ok (.aload_n 0, 1) := by decide +kernel
theorem dX7_addBuilder_48 : decode cX7_addBuilder 48 = .ok (.getfield 31, 3) := by decide +kernel
theorem dX7_addBuilder_51 : decode cX7_addBuilder 51 = .ok (.iload_n 1, 1) := by decide +kernel
theorem dX7_addBuilder_52 : decode cX7_addBuilder 52 = .ok (.iastore, 1) := by decide +kernel
theorem dX7_addBuilder_53 : decode cX7_addBuilder 53 = .ok (.aload_n 0, 1) := by decide +kernel
theorem dX7_addBuilder_54 : decode cX7_addBuilder 54 = .ok (.getfield 37, 3) := by decide +kernel
theorem dX7_addBuilder_57 : decode cX7_addBuilder 57 = .ok (.aload_n 0, 1) := by decide +kernel
theorem dX7_addBuilder_58 : decode cX7_addBuilder 58 = .ok (.getfield 31, 3) := by decide +kernel
theorem dX7_addBuilder_61 : decode cX7_addBuilder 61 = .ok (.iload_n 2, 1) := by decide +kernel
theorem dX7_addBuilder_62 : decode cX7_addBuilder 62 = .ok (.iastore, 1) := by decide +kernel
theorem dX7_addBuilder_63 : decode cX7_addBuilder 63 = .ok (.aload_n 0, 1) := by decide +kernel
theorem dX7_addBuilder_64 : decode cX7_addBuilder 64 = .ok (.getfield 40, 3) := by decide +kernel
theorem dX7_addBuilder_67 : decode cX7_addBuilder 67 = .ok (.aload_n 0, 1) := by decide +kernel
theorem dX7_addBuilder_68 : decode cX7_addBuilder 68 = .ok (.getfield 31, 3) := by decide +kernel
theorem dX7_addBuilder_71 : decode cX7_addBuilder 71 = .ok (.iconst 0, 1) := by decide +kernel
theorem dX7_addBuilder_72 : decode cX7_addBuilder 72 = .ok (.iastore, 1) := by decide +kernel
theorem dX7_addBuilder_73 : decode cX7_addBuilder 73 = .ok (.aload_n 0, 1) := by decide +kernel
theorem dX7_addBuilder_74 : decode cX7_addBuilder 74 = .ok (.getfield 43, 3) := by decide +kernel
theorem dX7_addBuilder_77 : decode cX7_addBuilder 77 = .ok (.aload_n 0, 1) := by decide +kernel
theorem dX7_addBuilder_78 : decode cX7_addBuilder 78 = .ok (.getfield 31, 3) := by decide +kernel
theorem dX7_addBuilder_81 : decode cX7_addBuilder 81 = .ok (.iconst (-1), 1) := by decide +kernel
theorem dX7_addBuilder_82 : decode cX7_addBuilder 82 = .ok (.iastore, 1) := by decide +kernel
theorem dX7_addBuilder_83 : decode cX7_addBuilder 83 = .ok (.aload_n 0, 1) := by decide +kernel
theorem dX7_addBuilder_84 : decode cX7_addBuilder 84 = .ok (.dup, 1) := by decide +kernel
theorem dX7_addBuilder_85 : decode cX7_addBuilder 85 = .ok (.getfield 31, 3) := by decide +kernel
theorem dX7_addBuilder_88 : decode cX7_addBuilder 88 = .ok (.iconst 1, 1) := by decide +kernel
theorem dX7_addBuilder_89 : decode cX7_addBuilder 89 = .ok (.iadd, 1) := by decide +kernel
theorem dX7_addBuilder_90 : decode cX7_addBuilder 90 = .ok (.putfield 31, 3) := by decide +kernel
theorem dX7_addBuilder_93 : decode cX7_addBuilder 93 = .ok (.aload_n 0, 1) := by decide +kernel
theorem dX7_addBuilder_94 : decode cX7_addBuilder 94 = .ok (.getfield 31, 3) := by decide +kernel
theorem dX7_addBuilder_97 : decode cX7_addBuilder 97 = .ok (.iconst 1, 1) := by decide +kernel
theorem dX7_addBuilder_98 : decode cX7_addBuilder 98 = .ok (.isub, 1) := by decide +kernel
theorem dX7_addBuilder_99 : decode cX7_addBuilder 99 = .ok (.ireturn, 1) := by decide +kernel
theorem dX11_part_0 : decode cX11_part 0 = .ok (.aload_n 0, 1) := by decide +kernel
theorem dX11_part_1 : decode cX11_part 1 = .ok (.getfield 10, 3) := by decide +kernel
theorem dX11_part_4 : decode cX11_part 4 = .ok (.iload_n 1, 1) := by decide +kernel
theorem dX11_part_5 : decode cX11_part 5 = .ok (.iload_n 2, 1) := by decide +kernel
theorem dX11_part_6 : decode cX11_part 6 = .ok (.iload_n 3, 1) := by decide +kernel
theorem dX11_part_7 : decode cX11_part 7 = .ok (.iload 4, 2) := by decide +kernel
theorem dX11_part_9 : decode cX11_part 9 = .ok (.invokevirtual 110, 3) := by decide +kernel
theorem dX11_part_12 : decode cX11_part 12 = .ok (.istore 5, 2) := by decide +kernel
theorem dX11_part_14 : decode cX11_part 14 = .ok (.iload 5, 2) := by decide +kernel
theorem dX11_part_16 : decode cX11_part 16 = .ok (.ifCond .ge 10, 3) := by decide +kernel
theorem dX11_part_19 : decode cX11_part 19 = .ok (.aload_n 0, 1) := by decide +kernel
theorem dX11_part_20 : decode cX11_part 20 = .ok (.iload 5, 2) := by decide +kernel
theorem dX11_part_22 : decode cX11_part 22 = .ok (.invokevirtual 114, 3) := by decide +kernel
theorem dX11_part_25 : decode cX11_part 25 = .ok (.ireturn, 1) := by decide +kernel
theorem dX11_part_26 : decode cX11_part 26 = .ok (.aload_n 0, 1) := by decide +kernel
theorem dX11_part_27 : decode cX11_part 27 = .ok (.getfield 19, 3) := by decide +kernel
theorem dX11_part_30 : decode cX11_part 30 = .ok (.invokevirtual 118, 3) := by decide +kernel
theorem dX11_part_33 : decode cX11_part 33 = .ok (.aload_n 0, 1) := by decide +kernel
theorem dX11_part_34 : decode cX11_part 34 = .ok (.iload 5, 2) := by decide +kernel
theorem dX11_part_36 : decode cX11_part 36 = .ok (.invokevirtual 121, 3) := by decide +kernel
theorem dX11_part_39 : decode cX11_part 39 = .ok (.ireturn, 1) := by decide +kernel
theorem dX11_of_0 : decode cX11_of 0 = .ok (.aload_n 0, 1) := by decide +kernel
theorem dX11_of_1 : decode cX11_of 1 = .ok (.getfield 10, 3) := by decide +kernel
theorem dX11_of_4 : decode cX11_of 4 = .ok (.iload_n 1, 1) := by decide +kernel
theorem dX11_of_5 : decode cX11_of 5 = .ok (.invokevirtual 124, 3) := by decide +kernel
theorem dX11_of_8 : decode cX11_of 8 = .ok (.ifCond .ne 5, 3) := by decide +kernel
theorem dX11_of_11 : decode cX11_of 11 = .ok (.iconst (-1), 1) := by decide +kernel
theorem dX11_of_12 : decode cX11_of 12 = .ok (.ireturn, 1) := by decide +kernel
theorem dX11_of_13 : decode cX11_of 13 = .ok (.iload_n 2, 1) := by decide +kernel
theorem dX11_of_14 : decode cX11_of 14 = .ok (.tableswitch 125 0 6 #[42, 52, 62, 72, 82, 92, 104], 42) := by decide +kernel
theorem dX11_of_56 : decode cX11_of 56 = .ok (.aload_n 0, 1) := by decide +kernel
theorem dX11_of_57 : decode cX11_of 57 = .ok (.getfield 10, 3) := by decide +kernel
theorem dX11_of_60 : decode cX11_of 60 = .ok (.getfield 128, 3) := by decide +kernel
theorem dX11_of_63 : decode cX11_of 63 = .ok (.iload_n 1, 1) := by decide +kernel
theorem dX11_of_64 : decode cX11_of 64 = .ok (.iaload, 1) := by decide +kernel
theorem dX11_of_65 : decode cX11_of 65 = .ok (.ireturn, 1) := by decide +kernel
theorem dX11_of_66 : decode cX11_of 66 = .ok (.aload_n 0, 1) := by decide +kernel
theorem dX11_of_67 : decode cX11_of 67 = .ok (.getfield 10, 3) := by decide +kernel
theorem dX11_of_70 : decode cX11_of 70 = .ok (.getfield 131, 3) := by decide +kernel
theorem dX11_of_73 : decode cX11_of 73 = .ok (.iload_n 1, 1) := by decide +kernel
theorem dX11_of_74 : decode cX11_of 74 = .ok (.iaload, 1) := by decide +kernel
theorem dX11_of_75 : decode cX11_of 75 = .ok (.ireturn, 1) := by decide +kernel
theorem dX11_of_76 : decode cX11_of 76 = .ok (.aload_n 0, 1) := by decide +kernel
theorem dX11_of_77 : decode cX11_of 77 = .ok (.getfield 10, 3) := by decide +kernel
theorem dX11_of_80 : decode cX11_of 80 = .ok (.getfield 134, 3) := by decide +kernel
theorem dX11_of_83 : decode cX11_of 83 = .ok (.iload_n 1, 1) := by decide +kernel
theorem dX11_of_84 : decode cX11_of 84 = .ok (.iaload, 1) := by decide +kernel
theorem dX11_of_85 : decode cX11_of 85 = .ok (.ireturn, 1) := by decide +kernel
theorem dX11_of_86 : decode cX11_of 86 = .ok (.aload_n 0, 1) := by decide +kernel
theorem dX11_of_87 : decode cX11_of 87 = .ok (.getfield 10, 3) := by decide +kernel
theorem dX11_of_90 : decode cX11_of 90 = .ok (.getfield 137, 3) := by decide +kernel
theorem dX11_of_93 : decode cX11_of 93 = .ok (.iload_n 1, 1) := by decide +kernel
theorem dX11_of_94 : decode cX11_of 94 = .ok (.iaload, 1) := by decide +kernel
theorem dX11_of_95 : decode cX11_of 95 = .ok (.ireturn, 1) := by decide +kernel
theorem dX11_of_96 : decode cX11_of 96 = .ok (.aload_n 0, 1) := by decide +kernel
theorem dX11_of_97 : decode cX11_of 97 = .ok (.getfield 10, 3) := by decide +kernel
theorem dX11_of_100 : decode cX11_of 100 = .ok (.getfield 140, 3) := by decide +kernel
theorem dX11_of_103 : decode cX11_of 103 = .ok (.iload_n 1, 1) := by decide +kernel
theorem dX11_of_104 : decode cX11_of 104 = .ok (.iaload, 1) := by decide +kernel
theorem dX11_of_105 : decode cX11_of 105 = .ok (.ireturn, 1) := by decide +kernel
theorem dX11_of_106 : decode cX11_of 106 = .ok (.aload_n 0, 1) := by decide +kernel
theorem dX11_of_107 : decode cX11_of 107 = .ok (.getfield 10, 3) := by decide +kernel
theorem dX11_of_110 : decode cX11_of 110 = .ok (.invokevirtual 143, 3) := by decide +kernel
theorem dX11_of_113 : decode cX11_of 113 = .ok (.iload_n 1, 1) := by decide +kernel
theorem dX11_of_114 : decode cX11_of 114 = .ok (.ishr, 1) := by decide +kernel
theorem dX11_of_115 : decode cX11_of 115 = .ok (.iconst 1, 1) := by decide +kernel
theorem dX11_of_116 : decode cX11_of 116 = .ok (.iand, 1) := by decide +kernel
theorem dX11_of_117 : decode cX11_of 117 = .ok (.ireturn, 1) := by decide +kernel
theorem dX11_of_118 : decode cX11_of 118 = .ok (.aload_n 0, 1) := by decide +kernel
theorem dX11_of_119 : decode cX11_of 119 = .ok (.getfield 10, 3) := by decide +kernel
theorem dX11_of_122 : decode cX11_of 122 = .ok (.invokevirtual 147, 3) := by decide +kernel
theorem dX11_of_125 : decode cX11_of 125 = .ok (.pop, 1) := by decide +kernel
theorem dX11_of_126 : decode cX11_of 126 = .ok (.aload_n 0, 1) := by decide +kernel
theorem dX11_of_127 : decode cX11_of 127 = .ok (.getfield 10, 3) := by decide +kernel
theorem dX11_of_130 : decode cX11_of 130 = .ok (.getfield 150, 3) := by decide +kernel
theorem dX11_of_133 : decode cX11_of 133 = .ok (.getfield 154, 3) := by decide +kernel
theorem dX11_of_136 : decode cX11_of 136 = .ok (.iload_n 1, 1) := by decide +kernel
theorem dX11_of_137 : decode cX11_of 137 = .ok (.iaload, 1) := by decide +kernel
theorem dX11_of_138 : decode cX11_of 138 = .ok (.ireturn, 1) := by decide +kernel
theorem dX11_of_139 : decode cX11_of 139 = .ok (.iconst (-1), 1) := by decide +kernel
theorem dX11_of_140 : decode cX11_of 140 = .ok (.ireturn, 1) := by decide +kernel
theorem dX11_builder_0 : decode cX11_builder 0 = .ok (.aload_n 0, 1) := by decide +kernel
theorem dX11_builder_1 : decode cX11_builder 1 = .ok (.getfield 10, 3) := by decide +kernel
theorem dX11_builder_4 : decode cX11_builder 4 = .ok (.iload_n 1, 1) := by decide +kernel
theorem dX11_builder_5 : decode cX11_builder 5 = .ok (.iload_n 2, 1) := by decide +kernel
theorem dX11_builder_6 : decode cX11_builder 6 = .ok (.invokevirtual 159, 3) := by decide +kernel
theorem dX11_builder_9 : decode cX11_builder 9 = .ok (.istore_n 3, 1) := by decide +kernel
theorem dX11_builder_10 : decode cX11_builder 10 = .ok (.iload_n 3, 1) := by decide +kernel
theorem dX11_builder_11 : decode cX11_builder 11 = .ok (.ifCond .ge 9, 3) := by decide +kernel
theorem dX11_builder_14 : decode cX11_builder 14 = .ok (.aload_n 0, 1) := by decide +kernel
theorem dX11_builder_15 : decode cX11_builder 15 = .ok (.iload_n 3, 1) := by decide +kernel
theorem dX11_builder_16 : decode cX11_builder 16 = .ok (.invokevirtual 114, 3) := by decide +kernel
theorem dX11_builder_19 : decode cX11_builder 19 = .ok (.ireturn, 1) := by decide +kernel
theorem dX11_builder_20 : decode cX11_builder 20 = .ok (.aload_n 0, 1) := by decide +kernel
theorem dX11_builder_21 : decode cX11_builder 21 = .ok (.getfield 19, 3) := by decide +kernel
theorem dX11_builder_24 : decode cX11_builder 24 = .ok (.invokevirtual 118, 3) := by decide +kernel
theorem dX11_builder_27 : decode cX11_builder 27 = .ok (.aload_n 0, 1) := by decide +kernel
theorem dX11_builder_28 : decode cX11_builder 28 = .ok (.iload_n 3, 1) := by decide +kernel
theorem dX11_builder_29 : decode cX11_builder 29 = .ok (.invokevirtual 121, 3) := by decide +kernel
theorem dX11_builder_32 : decode cX11_builder 32 = .ok (.ireturn, 1) := by decide +kernel
theorem dX11_at_0 : decode cX11_at 0 = .ok (.aload_n 0, 1) := by decide +kernel
theorem dX11_at_1 : decode cX11_at 1 = .ok (.getfield 10, 3) := by decide +kernel
theorem dX11_at_4 : decode cX11_at 4 = .ok (.iload_n 1, 1) := by decide +kernel
theorem dX11_at_5 : decode cX11_at 5 = .ok (.invokevirtual 163, 3) := by decide +kernel
theorem dX11_at_8 : decode cX11_at 8 = .ok (.ifCond .ne 5, 3) := by decide +kernel
theorem dX11_at_11 : decode cX11_at 11 = .ok (.iconst (-1), 1) := by decide +kernel
theorem dX11_at_12 : decode cX11_at 12 = .ok (.ireturn, 1) := by decide +kernel
theorem dX11_at_13 : decode cX11_at 13 = .ok (.iload_n 2, 1) := by decide +kernel
theorem dX11_at_14 : decode cX11_at 14 = .ok (.tableswitch 70 0 3 #[30, 40, 50, 60], 30) := by decide +kernel
theorem dX11_at_44 : decode cX11_at 44 = .ok (.aload_n 0, 1) := by decide +kernel
theorem dX11_at_45 : decode cX11_at 45 = .ok (.getfield 10, 3) := by decide +kernel
theorem dX11_at_48 : decode cX11_at 48 = .ok (.getfield 166, 3) := by decide +kernel
theorem dX11_at_51 : decode cX11_at 51 = .ok (.iload_n 1, 1) := by decide +kernel
theorem dX11_at_52 : decode cX11_at 52 = .ok (.iaload, 1) := by decide +kernel
theorem dX11_at_53 : decode cX11_at 53 = .ok (.ireturn, 1) := by decide +kernel
theorem dX11_at_54 : decode cX11_at 54 = .ok (.aload_n 0, 1) := by decide +kernel
theorem dX11_at_55 : decode cX11_at 55 = .ok (.getfield 10, 3) := by decide +kernel
theorem dX11_at_58 : decode cX11_at 58 = .ok (.getfield 169, 3) := by decide +kernel
theorem dX11_at_61 : decode cX11_at 61 = .ok (.iload_n 1, 1) := by decide +kernel
theorem dX11_at_62 : decode cX11_at 62 = .ok (.iaload, 1) := by decide +kernel
theorem dX11_at_63 : decode cX11_at 63 = .ok (.ireturn, 1) := by decide +kernel
theorem dX11_at_64 : decode cX11_at 64 = .ok (.aload_n 0, 1) := by decide +kernel
theorem dX11_at_65 : decode cX11_at 65 = .ok (.getfield 10, 3) := by decide +kernel
theorem dX11_at_68 : decode cX11_at 68 = .ok (.getfield 172, 3) := by decide +kernel
theorem dX11_at_71 : decode cX11_at 71 = .ok (.iload_n 1, 1) := by decide +kernel
theorem dX11_at_72 : decode cX11_at 72 = .ok (.iaload, 1) := by decide +kernel
theorem dX11_at_73 : decode cX11_at 73 = .ok (.ireturn, 1) := by decide +kernel
theorem dX11_at_74 : decode cX11_at 74 = .ok (.aload_n 0, 1) := by decide +kernel
theorem dX11_at_75 : decode cX11_at 75 = .ok (.getfield 10, 3) := by decide +kernel
theorem dX11_at_78 : decode cX11_at 78 = .ok (.getfield 175, 3) := by decide +kernel
theorem dX11_at_81 : decode cX11_at 81 = .ok (.iload_n 1, 1) := by decide +kernel
theorem dX11_at_82 : decode cX11_at 82 = .ok (.iaload, 1) := by decide +kernel
theorem dX11_at_83 : decode cX11_at 83 = .ok (.ireturn, 1) := by decide +kernel
theorem dX11_at_84 : decode cX11_at 84 = .ok (.iconst (-1), 1) := by decide +kernel
theorem dX11_at_85 : decode cX11_at 85 = .ok (.ireturn, 1) := by decide +kernel
theorem dX11_asks_0 : decode cX11_asks 0 = .ok (.aload_n 0, 1) := by decide +kernel
theorem dX11_asks_1 : decode cX11_asks 1 = .ok (.getfield 10, 3) := by decide +kernel
theorem dX11_asks_4 : decode cX11_asks 4 = .ok (.iload_n 1, 1) := by decide +kernel
theorem dX11_asks_5 : decode cX11_asks 5 = .ok (.invokevirtual 163, 3) := by decide +kernel
theorem dX11_asks_8 : decode cX11_asks 8 = .ok (.ifCond .eq 26, 3) := by decide +kernel
theorem dX11_asks_11 : decode cX11_asks 11 = .ok (.aload_n 0, 1) := by decide +kernel
theorem dX11_asks_12 : decode cX11_asks 12 = .ok (.getfield 10, 3) := by decide +kernel
theorem dX11_asks_15 : decode cX11_asks 15 = .ok (.iload_n 2, 1) := by decide +kernel
theorem dX11_asks_16 : decode cX11_asks 16 = .ok (.invokevirtual 124, 3) := by decide +kernel
theorem dX11_asks_19 : decode cX11_asks 19 = .ok (.ifCond .eq 15, 3) := by decide +kernel
theorem dX11_asks_22 : decode cX11_asks 22 = .ok (.iload_n 3, 1) := by decide +kernel
theorem dX11_asks_23 : decode cX11_asks 23 = .ok (.ifCond .lt 11, 3) := by decide +kernel
theorem dX11_asks_26 : decode cX11_asks 26 = .ok (.iload_n 3, 1) := by decide +kernel
theorem dX11_asks_27 : decode cX11_asks 27 = .ok (.getstatic 178, 3) := by decide +kernel
theorem dX11_asks_30 : decode cX11_asks 30 = .ok (.arraylength, 1) := by decide +kernel
theorem dX11_asks_31 : decode cX11_asks 31 = .ok (.if_icmp .lt 5, 3) := by decide +kernel
theorem dX11_asks_34 : decode cX11_asks 34 = .ok (.iconst (-1), 1) := by decide +kernel
theorem dX11_asks_35 : decode cX11_asks 35 = .ok (.ireturn, 1) := by decide +kernel
theorem dX11_asks_36 : decode cX11_asks 36 = .ok (.aload_n 0, 1) := by decide +kernel
theorem dX11_asks_37 : decode cX11_asks 37 = .ok (.getfield 10, 3) := by decide +kernel
theorem dX11_asks_40 : decode cX11_asks 40 = .ok (.iload_n 3, 1) := by decide +kernel
theorem dX11_asks_41 : decode cX11_asks 41 = .ok (.iload_n 1, 1) := by decide +kernel
theorem dX11_asks_42 : decode cX11_asks 42 = .ok (.iload_n 2, 1) := by decide +kernel
theorem dX11_asks_43 : decode cX11_asks 43 = .ok (.invokevirtual 181, 3) := by decide +kernel
theorem dX11_asks_46 : decode cX11_asks 46 = .ok (.ireturn, 1) := by decide +kernel
theorem dX11_terms_0 : decode cX11_terms 0 = .ok (.iload_n 1, 1) := by decide +kernel
theorem dX11_terms_1 : decode cX11_terms 1 = .ok (.ifCond .lt 26, 3) := by decide +kernel
theorem dX11_terms_4 : decode cX11_terms 4 = .ok (.iload_n 1, 1) := by decide +kernel
theorem dX11_terms_5 : decode cX11_terms 5 = .ok (.iconst 4, 1) := by decide +kernel
theorem dX11_terms_6 : decode cX11_terms 6 = .ok (.if_icmp .ge 21, 3) := by decide +kernel
theorem dX11_terms_9 : decode cX11_terms 9 = .ok (.iload_n 2, 1) := by decide +kernel
theorem dX11_terms_10 : decode cX11_terms 10 = .ok (.getstatic 185, 3) := by decide +kernel
theorem dX11_terms_13 : decode cX11_terms 13 = .ok (.iload_n 1, 1) := by decide +kernel
theorem dX11_terms_14 : decode cX11_terms 14 = .ok (.iaload, 1) := by decide +kernel
theorem dX11_terms_15 : decode cX11_terms 15 = .ok (.if_icmp .lt 12, 3) := by decide +kernel
theorem dX11_terms_18 : decode cX11_terms 18 = .ok (.iload_n 2, 1) := by decide +kernel
theorem dX11_terms_19 : decode cX11_terms 19 = .ok (.getstatic 188, 3) := by decide +kernel
theorem dX11_terms_22 : decode cX11_terms 22 = .ok (.iload_n 1, 1) := by decide +kernel
theorem dX11_terms_23 : decode cX11_terms 23 = .ok (.iaload, 1) := by decide +kernel
theorem dX11_terms_24 : decode cX11_terms 24 = .ok (.if_icmp .le 9, 3) := by decide +kernel
theorem dX11_terms_27 : decode cX11_terms 27 = .ok (.aload_n 0, 1) := by decide +kernel
theorem dX11_terms_28 : decode cX11_terms 28 = .ok (.iconst (-1), 1) := by decide +kernel
theorem dX11_terms_29 : decode cX11_terms 29 = .ok (.invokevirtual 114, 3) := by decide +kernel
theorem dX11_terms_32 : decode cX11_terms 32 = .ok (.ireturn, 1) := by decide +kernel
theorem dX11_terms_33 : decode cX11_terms 33 = .ok (.aload_n 0, 1) := by decide +kernel
theorem dX11_terms_34 : decode cX11_terms 34 = .ok (.getfield 10, 3) := by decide +kernel
theorem dX11_terms_37 : decode cX11_terms 37 = .ok (.getfield 191, 3) := by decide +kernel
theorem dX11_terms_40 : decode cX11_terms 40 = .ok (.iload_n 1, 1) := by decide +kernel
theorem dX11_terms_41 : decode cX11_terms 41 = .ok (.iaload, 1) := by decide +kernel
theorem dX11_terms_42 : decode cX11_terms 42 = .ok (.istore_n 3, 1) := by decide +kernel
theorem dX11_terms_43 : decode cX11_terms 43 = .ok (.aload_n 0, 1) := by decide +kernel
theorem dX11_terms_44 : decode cX11_terms 44 = .ok (.getfield 10, 3) := by decide +kernel
theorem dX11_terms_47 : decode cX11_terms 47 = .ok (.getfield 191, 3) := by decide +kernel
theorem dX11_terms_50 : decode cX11_terms 50 = .ok (.iload_n 1, 1) := by decide +kernel
theorem dX11_terms_51 : decode cX11_terms 51 = .ok (.iload_n 2, 1) := by decide +kernel
theorem dX11_terms_52 : decode cX11_terms 52 = .ok (.iastore, 1) := by decide +kernel
theorem dX11_terms_53 : decode cX11_terms 53 = .ok (.aload_n 0, 1) := by decide +kernel
theorem dX11_terms_54 : decode cX11_terms 54 = .ok (.getfield 19, 3) := by decide +kernel
theorem dX11_terms_57 : decode cX11_terms 57 = .ok (.invokevirtual 118, 3) := by decide +kernel
theorem dX11_terms_60 : decode cX11_terms 60 = .ok (.aload_n 0, 1) := by decide +kernel
theorem dX11_terms_61 : decode cX11_terms 61 = .ok (.iload_n 3, 1) := by decide +kernel
theorem dX11_terms_62 : decode cX11_terms 62 = .ok (.invokevirtual 121, 3) := by decide +kernel
theorem dX11_terms_65 : decode cX11_terms 65 = .ok (.ireturn, 1) := by decide +kernel
theorem dX11_end_0 : decode cX11_end 0 = .ok (.iload_n 1, 1) := by decide +kernel
theorem dX11_end_1 : decode cX11_end 1 = .ok (.ifCond .lt 11, 3) := by decide +kernel
theorem dX11_end_4 : decode cX11_end 4 = .ok (.iload_n 1, 1) := by decide +kernel
theorem dX11_end_5 : decode cX11_end 5 = .ok (.aload_n 0, 1) := by decide +kernel
theorem dX11_end_6 : decode cX11_end 6 = .ok (.getfield 94, 3) := by decide +kernel
theorem dX11_end_9 : decode cX11_end 9 = .ok (.if_icmp .le 5, 3) := by decide +kernel
theorem dX11_end_12 : decode cX11_end 12 = .ok (.iconst (-1), 1) := by decide +kernel
theorem dX11_end_13 : decode cX11_end 13 = .ok (.ireturn, 1) := by decide +kernel
theorem dX11_end_14 : decode cX11_end 14 = .ok (.aload_n 0, 1) := by decide +kernel
theorem dX11_end_15 : decode cX11_end 15 = .ok (.iload_n 1, 1) := by decide +kernel
theorem dX11_end_16 : decode cX11_end 16 = .ok (.putfield 94, 3) := by decide +kernel
theorem dX11_end_19 : decode cX11_end 19 = .ok (.iload_n 1, 1) := by decide +kernel
theorem dX11_end_20 : decode cX11_end 20 = .ok (.ireturn, 1) := by decide +kernel
theorem dX11_chaff_0 : decode cX11_chaff 0 = .ok (.aload_n 0, 1) := by decide +kernel
theorem dX11_chaff_1 : decode cX11_chaff 1 = .ok (.getfield 101, 3) := by decide +kernel
theorem dX11_chaff_4 : decode cX11_chaff 4 = .ok (.ireturn, 1) := by decide +kernel
theorem dX11_fault_0 : decode cX11_fault 0 = .ok (.aload_n 0, 1) := by decide +kernel
theorem dX11_fault_1 : decode cX11_fault 1 = .ok (.getfield 98, 3) := by decide +kernel
theorem dX11_fault_4 : decode cX11_fault 4 = .ok (.ireturn, 1) := by decide +kernel
theorem dX11_stopped_0 : decode cX11_stopped 0 = .ok (.aload_n 0, 1) := by decide +kernel
theorem dX11_stopped_1 : decode cX11_stopped 1 = .ok (.getfield 104, 3) := by decide +kernel
theorem dX11_stopped_4 : decode cX11_stopped 4 = .ok (.ireturn, 1) := by decide +kernel
theorem dX11_force_0 : decode cX11_force 0 = .ok (.iload_n 1, 1) := by decide +kernel
theorem dX11_force_1 : decode cX11_force 1 = .ok (.iconst (-1), 1) := by decide +kernel
theorem dX11_force_2 : decode cX11_force 2 = .ok (.if_icmp .eq 25, 3) := by decide +kernel
theorem dX11_force_5 : decode cX11_force 5 = .ok (.iload_n 1, 1) := by decide +kernel
theorem dX11_force_6 : decode cX11_force 6 = .ok (.ifCond .lt 14, 3) := by decide +kernel
theorem dX11_force_9 : decode cX11_force 9 = .ok (.iload_n 1, 1) := by decide +kernel
theorem dX11_force_10 : decode cX11_force 10 = .ok (.aload_n 0, 1) := by decide +kernel
theorem dX11_force_11 : decode cX11_force 11 = .ok (.getfield 10, 3) := by decide +kernel
theorem dX11_force_14 : decode cX11_force 14 = .ok (.getfield 204, 3) := by decide +kernel
theorem dX11_force_17 : decode cX11_force 17 = .ok (.if_icmp .lt 10, 3) := by decide +kernel
theorem dX11_force_20 : decode cX11_force 20 = .ok (.aload_n 0, 1) := by decide +kernel
theorem dX11_force_21 : decode cX11_force 21 = .ok (.bipush (-2), 2) := by decide +kernel
theorem dX11_force_23 : decode cX11_force 23 = .ok (.invokevirtual 114, 3) := by decide +kernel
theorem dX11_force_26 : decode cX11_force 26 = .ok (.ireturn, 1) := by decide +kernel
theorem dX11_force_27 : decode cX11_force 27 = .ok (.aload_n 0, 1) := by decide +kernel
theorem dX11_force_28 : decode cX11_force 28 = .ok (.getfield 10, 3) := by decide +kernel
theorem dX11_force_31 : decode cX11_force 31 = .ok (.getfield 235, 3) := by decide +kernel
theorem dX11_force_34 : decode cX11_force 34 = .ok (.istore_n 2, 1) := by decide +kernel
theorem dX11_force_35 : decode cX11_force 35 = .ok (.aload_n 0, 1) := by decide +kernel
theorem dX11_force_36 : decode cX11_force 36 = .ok (.getfield 10, 3) := by decide +kernel
theorem dX11_force_39 : decode cX11_force 39 = .ok (.iload_n 1, 1) := by decide +kernel
theorem dX11_force_40 : decode cX11_force 40 = .ok (.putfield 235, 3) := by decide +kernel
theorem dX11_force_43 : decode cX11_force 43 = .ok (.aload_n 0, 1) := by decide +kernel
theorem dX11_force_44 : decode cX11_force 44 = .ok (.iload_n 2, 1) := by decide +kernel
theorem dX11_force_45 : decode cX11_force 45 = .ok (.invokevirtual 121, 3) := by decide +kernel
theorem dX11_force_48 : decode cX11_force 48 = .ok (.ireturn, 1) := by decide +kernel
theorem dX11_stands_0 : decode cX11_stands 0 = .ok (.iload_n 1, 1) := by decide +kernel
theorem dX11_stands_1 : decode cX11_stands 1 = .ok (.lookupswitch 43 #[(0, 27), (1, 35)], 27) := by decide +kernel
theorem dX11_stands_28 : decode cX11_stands 28 = .ok (.aload_n 0, 1) := by decide +kernel
theorem dX11_stands_29 : decode cX11_stands 29 = .ok (.getfield 10, 3) := by decide +kernel
theorem dX11_stands_32 : decode cX11_stands 32 = .ok (.invokevirtual 238, 3) := by decide +kernel
theorem dX11_stands_35 : decode cX11_stands 35 = .ok (.ireturn, 1) := by decide +kernel
theorem dX11_stands_36 : decode cX11_stands 36 = .ok (.aload_n 0, 1) := by decide +kernel
theorem dX11_stands_37 : decode cX11_stands 37 = .ok (.getfield 10, 3) := by decide +kernel
theorem dX11_stands_40 : decode cX11_stands 40 = .ok (.invokevirtual 143, 3) := by decide +kernel
theorem dX11_stands_43 : decode cX11_stands 43 = .ok (.ireturn, 1) := by decide +kernel
theorem dX11_stands_44 : decode cX11_stands 44 = .ok (.iconst (-1), 1) := by decide +kernel
theorem dX11_stands_45 : decode cX11_stands 45 = .ok (.ireturn, 1) := by decide +kernel
theorem dX11_send_0 : decode cX11_send 0 = .ok (.aload_n 0, 1) := by decide +kernel
theorem dX11_send_1 : decode cX11_send 1 = .ok (.aload_n 0, 1) := by decide +kernel
theorem dX11_send_2 : decode cX11_send 2 = .ok (.getfield 28, 3) := by decide +kernel
theorem dX11_send_5 : decode cX11_send 5 = .ok (.iload_n 1, 1) := by decide +kernel
theorem dX11_send_6 : decode cX11_send 6 = .ok (.iload_n 2, 1) := by decide +kernel
theorem dX11_send_7 : decode cX11_send 7 = .ok (.invokevirtual 241, 3) := by decide +kernel
theorem dX11_send_10 : decode cX11_send 10 = .ok (.invokevirtual 244, 3) := by decide +kernel
theorem dX11_send_13 : decode cX11_send 13 = .ok (.ireturn, 1) := by decide +kernel
theorem dX11_rest_0 : decode cX11_rest 0 = .ok (.aload_n 0, 1) := by decide +kernel
theorem dX11_rest_1 : decode cX11_rest 1 = .ok (.aload_n 0, 1) := by decide +kernel
theorem dX11_rest_2 : decode cX11_rest 2 = .ok (.getfield 28, 3) := by decide +kernel
theorem dX11_rest_5 : decode cX11_rest 5 = .ok (.iload_n 1, 1) := by decide +kernel
theorem dX11_rest_6 : decode cX11_rest 6 = .ok (.invokevirtual 247, 3) := by decide +kernel
theorem dX11_rest_9 : decode cX11_rest 9 = .ok (.invokevirtual 244, 3) := by decide +kernel
theorem dX11_rest_12 : decode cX11_rest 12 = .ok (.ireturn, 1) := by decide +kernel
theorem dX11_throwDown_0 : decode cX11_throwDown 0 = .ok (.aload_n 0, 1) := by decide +kernel
theorem dX11_throwDown_1 : decode cX11_throwDown 1 = .ok (.aload_n 0, 1) := by decide +kernel
theorem dX11_throwDown_2 : decode cX11_throwDown 2 = .ok (.getfield 28, 3) := by decide +kernel
theorem dX11_throwDown_5 : decode cX11_throwDown 5 = .ok (.iload_n 1, 1) := by decide +kernel
theorem dX11_throwDown_6 : decode cX11_throwDown 6 = .ok (.invokevirtual 250, 3) := by decide +kernel
theorem dX11_throwDown_9 : decode cX11_throwDown 9 = .ok (.invokevirtual 244, 3) := by decide +kernel
theorem dX11_throwDown_12 : decode cX11_throwDown 12 = .ok (.ireturn, 1) := by decide +kernel
theorem dX11_tick_0 : decode cX11_tick 0 = .ok (.aload_n 0, 1) := by decide +kernel
theorem dX11_tick_1 : decode cX11_tick 1 = .ok (.aload_n 0, 1) := by decide +kernel
theorem dX11_tick_2 : decode cX11_tick 2 = .ok (.getfield 28, 3) := by decide +kernel
theorem dX11_tick_5 : decode cX11_tick 5 = .ok (.invokevirtual 253, 3) := by decide +kernel
theorem dX11_tick_8 : decode cX11_tick 8 = .ok (.invokevirtual 244, 3) := by decide +kernel
theorem dX11_tick_11 : decode cX11_tick 11 = .ok (.ireturn, 1) := by decide +kernel
theorem dX11_undo_0 : decode cX11_undo 0 = .ok (.aload_n 0, 1) := by decide +kernel
theorem dX11_undo_1 : decode cX11_undo 1 = .ok (.aload_n 0, 1) := by decide +kernel
theorem dX11_undo_2 : decode cX11_undo 2 = .ok (.getfield 19, 3) := by decide +kernel
theorem dX11_undo_5 : decode cX11_undo 5 = .ok (.aload_n 0, 1) := by decide +kernel
theorem dX11_undo_6 : decode cX11_undo 6 = .ok (.getfield 10, 3) := by decide +kernel
theorem dX11_undo_9 : decode cX11_undo 9 = .ok (.invokevirtual 256, 3) := by decide +kernel
theorem dX11_undo_12 : decode cX11_undo 12 = .ok (.invokevirtual 244, 3) := by decide +kernel
theorem dX11_undo_15 : decode cX11_undo 15 = .ok (.ireturn, 1) := by decide +kernel
theorem dX11_longest_0 : decode cX11_longest 0 = .ok (.aload_n 0, 1) := by decide +kernel
theorem dX11_longest_1 : decode cX11_longest 1 = .ok (.getfield 10, 3) := by decide +kernel
theorem dX11_longest_4 : decode cX11_longest 4 = .ok (.invokevirtual 147, 3) := by decide +kernel
theorem dX11_longest_7 : decode cX11_longest 7 = .ok (.ireturn, 1) := by decide +kernel
theorem dX11_rows_0 : decode cX11_rows 0 = .ok (.iload_n 1, 1) := by decide +kernel
theorem dX11_rows_1 : decode cX11_rows 1 = .ok (.iconst (-1), 1) := by decide +kernel
theorem dX11_rows_2 : decode cX11_rows 2 = .ok (.if_icmp .ne 13, 3) := by decide +kernel
theorem dX11_rows_5 : decode cX11_rows 5 = .ok (.aload_n 0, 1) := by decide +kernel
theorem dX11_rows_6 : decode cX11_rows 6 = .ok (.getfield 69, 3) := by decide +kernel
theorem dX11_rows_9 : decode cX11_rows 9 = .ok (.invokevirtual 260, 3) := by decide +kernel
theorem dX11_rows_12 : decode cX11_rows 12 = .ok (.goto 12, 3) := by decide +kernel
theorem dX11_rows_15 : decode cX11_rows 15 = .ok (.aload_n 0, 1) := by decide +kernel
theorem dX11_rows_16 : decode cX11_rows 16 = .ok (.getfield 69, 3) := by decide +kernel
theorem dX11_rows_19 : decode cX11_rows 19 = .ok (.iload_n 1, 1) := by decide +kernel
theorem dX11_rows_20 : decode cX11_rows 20 = .ok (.iload_n 2, 1) := by decide +kernel
theorem dX11_rows_21 : decode cX11_rows 21 = .ok (.invokevirtual 263, 3) := by decide +kernel
theorem dX11_rows_24 : decode cX11_rows 24 = .ok (.ireturn, 1) := by decide +kernel
theorem dX11_plan_0 : decode cX11_plan 0 = .ok (.iload_n 1, 1) := by decide +kernel
theorem dX11_plan_1 : decode cX11_plan 1 = .ok (.iconst (-1), 1) := by decide +kernel
theorem dX11_plan_2 : decode cX11_plan 2 = .ok (.if_icmp .ne 11, 3) := by decide +kernel
theorem dX11_plan_5 : decode cX11_plan 5 = .ok (.aload_n 0, 1) := by decide +kernel
theorem dX11_plan_6 : decode cX11_plan 6 = .ok (.getfield 62, 3) := by decide +kernel
theorem dX11_plan_9 : decode cX11_plan 9 = .ok (.invokevirtual 266, 3) := by decide +kernel
theorem dX11_plan_12 : decode cX11_plan 12 = .ok (.ireturn, 1) := by decide +kernel
theorem dX11_plan_13 : decode cX11_plan 13 = .ok (.aload_n 0, 1) := by decide +kernel
theorem dX11_plan_14 : decode cX11_plan 14 = .ok (.getfield 10, 3) := by decide +kernel
theorem dX11_plan_17 : decode cX11_plan 17 = .ok (.iload_n 1, 1) := by decide +kernel
theorem dX11_plan_18 : decode cX11_plan 18 = .ok (.invokevirtual 124, 3) := by decide +kernel
theorem dX11_plan_21 : decode cX11_plan 21 = .ok (.ifCond .eq 14, 3) := by decide +kernel
theorem dX11_plan_24 : decode cX11_plan 24 = .ok (.aload_n 0, 1) := by decide +kernel
theorem dX11_plan_25 : decode cX11_plan 25 = .ok (.getfield 62, 3) := by decide +kernel
theorem dX11_plan_28 : decode cX11_plan 28 = .ok (.iload_n 1, 1) := by decide +kernel
theorem dX11_plan_29 : decode cX11_plan 29 = .ok (.invokevirtual 269, 3) := by decide +kernel
theorem dX11_plan_32 : decode cX11_plan 32 = .ok (.goto 4, 3) := by decide +kernel
theorem dX11_plan_35 : decode cX11_plan 35 = .ok (.iconst (-1), 1) := by decide +kernel
theorem dX11_plan_36 : decode cX11_plan 36 = .ok (.ireturn, 1) := by decide +kernel
theorem dX11_hands_0 : decode cX11_hands 0 = .ok (.iload_n 1, 1) := by decide +kernel
theorem dX11_hands_1 : decode cX11_hands 1 = .ok (.ifCond .eq 10, 3) := by decide +kernel
theorem dX11_hands_4 : decode cX11_hands 4 = .ok (.iload_n 1, 1) := by decide +kernel
theorem dX11_hands_5 : decode cX11_hands 5 = .ok (.iconst 1, 1) := by decide +kernel
theorem dX11_hands_6 : decode cX11_hands 6 = .ok (.if_icmp .eq 5, 3) := by decide +kernel
theorem dX11_hands_9 : decode cX11_hands 9 = .ok (.iconst (-1), 1) := by decide +kernel
theorem dX11_hands_10 : decode cX11_hands 10 = .ok (.ireturn, 1) := by decide +kernel
theorem dX11_hands_11 : decode cX11_hands 11 = .ok (.aload_n 0, 1) := by decide +kernel
theorem dX11_hands_12 : decode cX11_hands 12 = .ok (.getfield 62, 3) := by decide +kernel
theorem dX11_hands_15 : decode cX11_hands 15 = .ok (.invokevirtual 272, 3) := by decide +kernel
theorem dX11_hands_18 : decode cX11_hands 18 = .ok (.istore_n 2, 1) := by decide +kernel
theorem dX11_hands_19 : decode cX11_hands 19 = .ok (.iload_n 1, 1) := by decide +kernel
theorem dX11_hands_20 : decode cX11_hands 20 = .ok (.ifCond .ne 15, 3) := by decide +kernel
theorem dX11_hands_23 : decode cX11_hands 23 = .ok (.iload_n 2, 1) := by decide +kernel
theorem dX11_hands_24 : decode cX11_hands 24 = .ok (.iconst (-1), 1) := by decide +kernel
theorem dX11_hands_25 : decode cX11_hands 25 = .ok (.if_icmp .eq 10, 3) := by decide +kernel
theorem dX11_hands_28 : decode cX11_hands 28 = .ok (.iload_n 2, 1) := by decide +kernel
theorem dX11_hands_29 : decode cX11_hands 29 = .ok (.invokestatic 275, 3) := by decide +kernel
theorem dX11_hands_32 : decode cX11_hands 32 = .ok (.goto 4, 3) := by decide +kernel
theorem dX11_hands_35 : decode cX11_hands 35 = .ok (.iload_n 2, 1) := by decide +kernel
theorem dX11_hands_36 : decode cX11_hands 36 = .ok (.ireturn, 1) := by decide +kernel
theorem dX11_taught_0 : decode cX11_taught 0 = .ok (.iload_n 1, 1) := by decide +kernel
theorem dX11_taught_1 : decode cX11_taught 1 = .ok (.ifCond .lt 8, 3) := by decide +kernel
theorem dX11_taught_4 : decode cX11_taught 4 = .ok (.iload_n 1, 1) := by decide +kernel
theorem dX11_taught_5 : decode cX11_taught 5 = .ok (.iconst 2, 1) := by decide +kernel
theorem dX11_taught_6 : decode cX11_taught 6 = .ok (.if_icmp .le 7, 3) := by decide +kernel
theorem dX11_taught_9 : decode cX11_taught 9 = .ok (.iconst (-1), 1) := by decide +kernel
theorem dX11_taught_10 : decode cX11_taught 10 = .ok (.goto 11, 3) := by decide +kernel
theorem dX11_taught_13 : decode cX11_taught 13 = .ok (.aload_n 0, 1) := by decide +kernel
theorem dX11_taught_14 : decode cX11_taught 14 = .ok (.getfield 62, 3) := by decide +kernel
theorem dX11_taught_17 : decode cX11_taught 17 = .ok (.iload_n 1, 1) := by decide +kernel
theorem dX11_taught_18 : decode cX11_taught 18 = .ok (.invokevirtual 280, 3) := by decide +kernel
theorem dX11_taught_21 : decode cX11_taught 21 = .ok (.ireturn, 1) := by decide +kernel
theorem dX11_unseen_0 : decode cX11_unseen 0 = .ok (.iload_n 1, 1) := by decide +kernel
theorem dX11_unseen_1 : decode cX11_unseen 1 = .ok (.ifCond .lt 9, 3) := by decide +kernel
theorem dX11_unseen_4 : decode cX11_unseen 4 = .ok (.iload_n 1, 1) := by decide +kernel
theorem dX11_unseen_5 : decode cX11_unseen 5 = .ok (.bipush 99, 2) := by decide +kernel
theorem dX11_unseen_7 : decode cX11_unseen 7 = .ok (.if_icmp .le 9, 3) := by decide +kernel
theorem dX11_unseen_10 : decode cX11_unseen 10 = .ok (.ldc2_w 283, 3) := by decide +kernel
theorem dX11_unseen_13 : decode cX11_unseen 13 = .ok (.goto 11, 3) := by decide +kernel
theorem dX11_unseen_16 : decode cX11_unseen 16 = .ok (.aload_n 0, 1) := by decide +kernel
theorem dX11_unseen_17 : decode cX11_unseen 17 = .ok (.getfield 53, 3) := by decide +kernel
theorem dX11_unseen_20 : decode cX11_unseen 20 = .ok (.iload_n 1, 1) := by decide +kernel
theorem dX11_unseen_21 : decode cX11_unseen 21 = .ok (.invokevirtual 285, 3) := by decide +kernel
theorem dX11_unseen_24 : decode cX11_unseen 24 = .ok (.lreturn, 1) := by decide +kernel
theorem dX11_sight_0 : decode cX11_sight 0 = .ok (.iload_n 1, 1) := by decide +kernel
theorem dX11_sight_1 : decode cX11_sight 1 = .ok (.ifCond .lt 18, 3) := by decide +kernel
theorem dX11_sight_4 : decode cX11_sight 4 = .ok (.iload_n 1, 1) := by decide +kernel
theorem dX11_sight_5 : decode cX11_sight 5 = .ok (.bipush 99, 2) := by decide +kernel
theorem dX11_sight_7 : decode cX11_sight 7 = .ok (.if_icmp .gt 12, 3) := by decide +kernel
theorem dX11_sight_10 : decode cX11_sight 10 = .ok (.iload_n 3, 1) := by decide +kernel
theorem dX11_sight_11 : decode cX11_sight 11 = .ok (.ifCond .lt 8, 3) := by decide +kernel
theorem dX11_sight_14 : decode cX11_sight 14 = .ok (.iload_n 3, 1) := by decide +kernel
theorem dX11_sight_15 : decode cX11_sight 15 = .ok (.iconst 1, 1) := by decide +kernel
theorem dX11_sight_16 : decode cX11_sight 16 = .ok (.if_icmp .le 9, 3) := by decide +kernel
theorem dX11_sight_19 : decode cX11_sight 19 = .ok (.aload_n 0, 1) := by decide +kernel
theorem dX11_sight_20 : decode cX11_sight 20 = .ok (.iconst (-1), 1) := by decide +kernel
theorem dX11_sight_21 : decode cX11_sight 21 = .ok (.invokevirtual 114, 3) := by decide +kernel
theorem dX11_sight_24 : decode cX11_sight 24 = .ok (.ireturn, 1) := by decide +kernel
theorem dX11_sight_25 : decode cX11_sight 25 = .ok (.aload_n 0, 1) := by decide +kernel
theorem dX11_sight_26 : decode cX11_sight 26 = .ok (.getfield 10, 3) := by decide +kernel
theorem dX11_sight_29 : decode cX11_sight 29 = .ok (.iload_n 2, 1) := by decide +kernel
theorem dX11_sight_30 : decode cX11_sight 30 = .ok (.invokevirtual 124, 3) := by decide +kernel
theorem dX11_sight_33 : decode cX11_sight 33 = .ok (.ifCond .ne 10, 3) := by decide +kernel
theorem dX11_sight_36 : decode cX11_sight 36 = .ok (.aload_n 0, 1) := by decide +kernel
theorem dX11_sight_37 : decode cX11_sight 37 = .ok (.bipush (-2), 2) := by decide +kernel
theorem dX11_sight_39 : decode cX11_sight 39 = .ok (.invokevirtual 114, 3) := by decide +kernel
theorem dX11_sight_42 : decode cX11_sight 42 = .ok (.ireturn, 1) := by decide +kernel
theorem dX11_sight_43 : decode cX11_sight 43 = .ok (.aload_n 0, 1) := by decide +kernel
theorem dX11_sight_44 : decode cX11_sight 44 = .ok (.getfield 10, 3) := by decide +kernel
theorem dX11_sight_47 : decode cX11_sight 47 = .ok (.getfield 289, 3) := by decide +kernel
theorem dX11_sight_50 : decode cX11_sight 50 = .ok (.ifCond .lt 15, 3) := by decide +kernel
theorem dX11_sight_53 : decode cX11_sight 53 = .ok (.aload_n 0, 1) := by decide +kernel
theorem dX11_sight_54 : decode cX11_sight 54 = .ok (.getfield 10, 3) := by decide +kernel
theorem dX11_sight_57 : decode cX11_sight 57 = .ok (.getfield 289, 3) := by decide +kernel
theorem dX11_sight_60 : decode cX11_sight 60 = .ok (.bipush 8, 2) := by decide +kernel
theorem dX11_sight_62 : decode cX11_sight 62 = .ok (.if_icmp .lt 10, 3) := by decide +kernel
theorem dX11_sight_65 : decode cX11_sight 65 = .ok (.aload_n 0, 1) := by decide +kernel
theorem dX11_sight_66 : decode cX11_sight 66 = .ok (.bipush (-5), 2) := by decide +kernel
theorem dX11_sight_68 : decode cX11_sight 68 = .ok (.invokevirtual 114, 3) := by decide +kernel
theorem dX11_sight_71 : decode cX11_sight 71 = .ok (.ireturn, 1) := by decide +kernel
theorem dX11_sight_72 : decode cX11_sight 72 = .ok (.aload_n 0, 1) := by decide +kernel
theorem dX11_sight_73 : decode cX11_sight 73 = .ok (.getfield 10, 3) := by decide +kernel
theorem dX11_sight_76 : decode cX11_sight 76 = .ok (.getfield 292, 3) := by decide +kernel
theorem dX11_sight_79 : decode cX11_sight 79 = .ok (.aload_n 0, 1) := by decide +kernel
theorem dX11_sight_80 : decode cX11_sight 80 = .ok (.getfield 10, 3) := by decide +kernel
theorem dX11_sight_83 : decode cX11_sight 83 = .ok (.getfield 289, 3) := by decide +kernel
theorem dX11_sight_86 : decode cX11_sight 86 = .ok (.iload_n 1, 1) := by decide +kernel
theorem dX11_sight_87 : decode cX11_sight 87 = .ok (.iastore, 1) := by decide +kernel
theorem dX11_sight_88 : decode cX11_sight 88 = .ok (.aload_n 0, 1) := by decide +kernel
theorem dX11_sight_89 : decode cX11_sight 89 = .ok (.getfield 10, 3) := by decide +kernel
theorem dX11_sight_92 : decode cX11_sight 92 = .ok (.getfield 295, 3) := by decide +kernel
theorem dX11_sight_95 : decode cX11_sight 95 = .ok (.aload_n 0, 1) := by decide +kernel
theorem dX11_sight_96 : decode cX11_sight 96 = .ok (.getfield 10, 3) := by decide +kernel
theorem dX11_sight_99 : decode cX11_sight 99 = .ok (.getfield 289, 3) := by decide +kernel
theorem dX11_sight_102 : decode cX11_sight 102 = .ok (.iload_n 2, 1) := by decide +kernel
theorem dX11_sight_103 : decode cX11_sight 103 = .ok (.iastore, 1) := by decide +kernel
theorem dX11_sight_104 : decode cX11_sight 104 = .ok (.aload_n 0, 1) := by decide +kernel
theorem dX11_sight_105 : decode cX11_sight 105 = .ok (.getfield 10, 3) := by decide +kernel
theorem dX11_sight_108 : decode cX11_sight 108 = .ok (.getfield 298, 3) := by decide +kernel
theorem dX11_sight_111 : decode cX11_sight 111 = .ok (.aload_n 0, 1) := by decide +kernel
theorem dX11_sight_112 : decode cX11_sight 112 = .ok (.getfield 10, 3) := by decide +kernel
theorem dX11_sight_115 : decode cX11_sight 115 = .ok (.getfield 289, 3) := by decide +kernel
theorem dX11_sight_118 : decode cX11_sight 118 = .ok (.iload_n 3, 1) := by decide +kernel
theorem dX11_sight_119 : decode cX11_sight 119 = .ok (.iastore, 1) := by decide +kernel
theorem dX11_sight_120 : decode cX11_sight 120 = .ok (.aload_n 0, 1) := by decide +kernel
theorem dX11_sight_121 : decode cX11_sight 121 = .ok (.getfield 10, 3) := by decide +kernel
theorem dX11_sight_124 : decode cX11_sight 124 = .ok (.dup, 1) := by decide +kernel
theorem dX11_sight_125 : decode cX11_sight 125 = .ok (.getfield 289, 3) := by decide +kernel
theorem dX11_sight_128 : decode cX11_sight 128 = .ok (.iconst 1, 1) := by decide +kernel
theorem dX11_sight_129 : decode cX11_sight 129 = .ok (.iadd, 1) := by decide +kernel
theorem dX11_sight_130 : decode cX11_sight 130 = .ok (.putfield 289, 3) := by decide +kernel
theorem dX11_sight_133 : decode cX11_sight 133 = .ok (.aload_n 0, 1) := by decide +kernel
theorem dX11_sight_134 : decode cX11_sight 134 = .ok (.aload_n 0, 1) := by decide +kernel
theorem dX11_sight_135 : decode cX11_sight 135 = .ok (.getfield 10, 3) := by decide +kernel
theorem dX11_sight_138 : decode cX11_sight 138 = .ok (.getfield 289, 3) := by decide +kernel
theorem dX11_sight_141 : decode cX11_sight 141 = .ok (.invokevirtual 225, 3) := by decide +kernel
theorem dX11_sight_144 : decode cX11_sight 144 = .ok (.ireturn, 1) := by decide +kernel
theorem dX11_forget_0 : decode cX11_forget 0 = .ok (.aload_n 0, 1) := by decide +kernel
theorem dX11_forget_1 : decode cX11_forget 1 = .ok (.getfield 10, 3) := by decide +kernel
theorem dX11_forget_4 : decode cX11_forget 4 = .ok (.getfield 289, 3) := by decide +kernel
theorem dX11_forget_7 : decode cX11_forget 7 = .ok (.istore_n 1, 1) := by decide +kernel
theorem dX11_forget_8 : decode cX11_forget 8 = .ok (.aload_n 0, 1) := by decide +kernel
theorem dX11_forget_9 : decode cX11_forget 9 = .ok (.getfield 10, 3) := by decide +kernel
theorem dX11_forget_12 : decode cX11_forget 12 = .ok (.iconst 0, 1) := by decide +kernel
theorem dX11_forget_13 : decode cX11_forget 13 = .ok (.putfield 289, 3) := by decide +kernel
theorem dX11_forget_16 : decode cX11_forget 16 = .ok (.iload_n 1, 1) := by decide +kernel
theorem dX11_forget_17 : decode cX11_forget 17 = .ok (.ireturn, 1) := by decide +kernel
theorem dX11_whose_0 : decode cX11_whose 0 = .ok (.aload_n 0, 1) := by decide +kernel
theorem dX11_whose_1 : decode cX11_whose 1 = .ok (.getfield 62, 3) := by decide +kernel
theorem dX11_whose_4 : decode cX11_whose 4 = .ok (.iload_n 1, 1) := by decide +kernel
theorem dX11_whose_5 : decode cX11_whose 5 = .ok (.invokevirtual 301, 3) := by decide +kernel
theorem dX11_whose_8 : decode cX11_whose 8 = .ok (.ireturn, 1) := by decide +kernel
theorem dX11_look_0 : decode cX11_look 0 = .ok (.iload_n 1, 1) := by decide +kernel
theorem dX11_look_1 : decode cX11_look 1 = .ok (.ifCond .eq 8, 3) := by decide +kernel
theorem dX11_look_4 : decode cX11_look 4 = .ok (.iload_n 1, 1) := by decide +kernel
theorem dX11_look_5 : decode cX11_look 5 = .ok (.iconst 1, 1) := by decide +kernel
theorem dX11_look_6 : decode cX11_look 6 = .ok (.if_icmp .ne 14, 3) := by decide +kernel
theorem dX11_look_9 : decode cX11_look 9 = .ok (.aload_n 0, 1) := by decide +kernel
theorem dX11_look_10 : decode cX11_look 10 = .ok (.getfield 62, 3) := by decide +kernel
theorem dX11_look_13 : decode cX11_look 13 = .ok (.iload_n 1, 1) := by decide +kernel
theorem dX11_look_14 : decode cX11_look 14 = .ok (.invokevirtual 304, 3) := by decide +kernel
theorem dX11_look_17 : decode cX11_look 17 = .ok (.goto 4, 3) := by decide +kernel
theorem dX11_look_20 : decode cX11_look 20 = .ok (.iconst (-1), 1) := by decide +kernel
theorem dX11_look_21 : decode cX11_look 21 = .ok (.ireturn, 1) := by decide +kernel
theorem dX11_nights_0 : decode cX11_nights 0 = .ok (.iload_n 1, 1) := by decide +kernel
theorem dX11_nights_1 : decode cX11_nights 1 = .ok (.ifCond .lt 21, 3) := by decide +kernel
theorem dX11_nights_4 : decode cX11_nights 4 = .ok (.iload_n 1, 1) := by decide +kernel
theorem dX11_nights_5 : decode cX11_nights 5 = .ok (.ldc_w 307, 3) := by decide +kernel
theorem dX11_nights_8 : decode cX11_nights 8 = .ok (.if_icmp .gt 14, 3) := by decide +kernel
theorem dX11_nights_11 : decode cX11_nights 11 = .ok (.iload_n 2, 1) := by decide +kernel
theorem dX11_nights_12 : decode cX11_nights 12 = .ok (.iconst 1, 1) := by decide +kernel
theorem dX11_nights_13 : decode cX11_nights 13 = .ok (.if_icmp .lt 9, 3) := by decide +kernel
theorem dX11_nights_16 : decode cX11_nights 16 = .ok (.iload_n 2, 1) := by decide +kernel
theorem dX11_nights_17 : decode cX11_nights 17 = .ok (.bipush 20, 2) := by decide +kernel
theorem dX11_nights_19 : decode cX11_nights 19 = .ok (.if_icmp .le 9, 3) := by decide +kernel
theorem dX11_nights_22 : decode cX11_nights 22 = .ok (.aload_n 0, 1) := by decide +kernel
theorem dX11_nights_23 : decode cX11_nights 23 = .ok (.iconst (-1), 1) := by decide +kernel
theorem dX11_nights_24 : decode cX11_nights 24 = .ok (.invokevirtual 114, 3) := by decide +kernel
theorem dX11_nights_27 : decode cX11_nights 27 = .ok (.ireturn, 1) := by decide +kernel
theorem dX11_nights_28 : decode cX11_nights 28 = .ok (.aload_n 0, 1) := by decide +kernel
theorem dX11_nights_29 : decode cX11_nights 29 = .ok (.aload_n 0, 1) := by decide +kernel
theorem dX11_nights_30 : decode cX11_nights 30 = .ok (.getfield 78, 3) := by decide +kernel
theorem dX11_nights_33 : decode cX11_nights 33 = .ok (.iload_n 1, 1) := by decide +kernel
theorem dX11_nights_34 : decode cX11_nights 34 = .ok (.iload_n 2, 1) := by decide +kernel
theorem dX11_nights_35 : decode cX11_nights 35 = .ok (.invokevirtual 308, 3) := by decide +kernel
theorem dX11_nights_38 : decode cX11_nights 38 = .ok (.invokevirtual 225, 3) := by decide +kernel
theorem dX11_nights_41 : decode cX11_nights 41 = .ok (.ireturn, 1) := by decide +kernel
theorem dX11_drawn_0 : decode cX11_drawn 0 = .ok (.aload_n 0, 1) := by decide +kernel
theorem dX11_drawn_1 : decode cX11_drawn 1 = .ok (.getfield 78, 3) := by decide +kernel
theorem dX11_drawn_4 : decode cX11_drawn 4 = .ok (.iload_n 1, 1) := by decide +kernel
theorem dX11_drawn_5 : decode cX11_drawn 5 = .ok (.iload_n 2, 1) := by decide +kernel
theorem dX11_drawn_6 : decode cX11_drawn 6 = .ok (.invokevirtual 311, 3) := by decide +kernel
theorem dX11_drawn_9 : decode cX11_drawn 9 = .ok (.ireturn, 1) := by decide +kernel
theorem dX11_count_0 : decode cX11_count 0 = .ok (.iload_n 1, 1) := by decide +kernel
theorem dX11_count_1 : decode cX11_count 1 = .ok (.bipush 7, 2) := by decide +kernel
theorem dX11_count_3 : decode cX11_count 3 = .ok (.if_icmp .lt 19, 3) := by decide +kernel
theorem dX11_count_6 : decode cX11_count 6 = .ok (.iload_n 1, 1) := by decide +kernel
theorem dX11_count_7 : decode cX11_count 7 = .ok (.bipush 11, 2) := by decide +kernel
theorem dX11_count_9 : decode cX11_count 9 = .ok (.if_icmp .gt 13, 3) := by decide +kernel
theorem dX11_count_12 : decode cX11_count 12 = .ok (.aload_n 0, 1) := by decide +kernel
theorem dX11_count_13 : decode cX11_count 13 = .ok (.getfield 90, 3) := by decide +kernel
theorem dX11_count_16 : decode cX11_count 16 = .ok (.iload_n 1, 1) := by decide +kernel
theorem dX11_count_17 : decode cX11_count 17 = .ok (.bipush 7, 2) := by decide +kernel
theorem dX11_count_19 : decode cX11_count 19 = .ok (.isub, 1) := by decide +kernel
theorem dX11_count_20 : decode cX11_count 20 = .ok (.iaload, 1) := by decide +kernel
theorem dX11_count_21 : decode cX11_count 21 = .ok (.ireturn, 1) := by decide +kernel
theorem dX11_count_22 : decode cX11_count 22 = .ok (.iload_n 1, 1) := by decide +kernel
theorem dX11_count_23 : decode cX11_count 23 = .ok (.bipush 13, 2) := by decide +kernel
theorem dX11_count_25 : decode cX11_count 25 = .ok (.if_icmp .lt 22, 3) := by decide +kernel
theorem dX11_count_28 : decode cX11_count 28 = .ok (.iload_n 1, 1) := by decide +kernel
theorem dX11_count_29 : decode cX11_count 29 = .ok (.bipush 16, 2) := by decide +kernel
theorem dX11_count_31 : decode cX11_count 31 = .ok (.if_icmp .gt 16, 3) := by decide +kernel
theorem dX11_count_34 : decode cX11_count 34 = .ok (.aload_n 0, 1) := by decide +kernel
theorem dX11_count_35 : decode cX11_count 35 = .ok (.getfield 10, 3) := by decide +kernel
theorem dX11_count_38 : decode cX11_count 38 = .ok (.getfield 191, 3) := by decide +kernel
theorem dX11_count_41 : decode cX11_count 41 = .ok (.iload_n 1, 1) := by decide +kernel
theorem dX11_count_42 : decode cX11_count 42 = .ok (.bipush 13, 2) := by decide +kernel
theorem dX11_count_44 : decode cX11_count 44 = .ok (.isub, 1) := by decide +kernel
theorem dX11_count_45 : decode cX11_count 45 = .ok (.iaload, 1) := by decide +kernel
theorem dX11_count_46 : decode cX11_count 46 = .ok (.ireturn, 1) := by decide +kernel
theorem dX11_count_47 : decode cX11_count 47 = .ok (.iload_n 1, 1) := by decide +kernel
theorem dX11_count_48 : decode cX11_count 48 = .ok (.tableswitch 132 0 12 #[68, 76, 87, 95, 103, 111, 119, 132, 132, 132, 132, 132, 124], 68) := by decide +kernel
theorem dX11_count_116 : decode cX11_count 116 = .ok (.aload_n 0, 1) := by decide +kernel
theorem dX11_count_117 : decode cX11_count 117 = .ok (.getfield 10, 3) := by decide +kernel
theorem dX11_count_120 : decode cX11_count 120 = .ok (.getfield 317, 3) := by decide +kernel
theorem dX11_count_123 : decode cX11_count 123 = .ok (.ireturn, 1) := by decide +kernel
theorem dX11_count_124 : decode cX11_count 124 = .ok (.aload_n 0, 1) := by decide +kernel
theorem dX11_count_125 : decode cX11_count 125 = .ok (.getfield 10, 3) := by decide +kernel
theorem dX11_count_128 : decode cX11_count 128 = .ok (.invokevirtual 238, 3) := by decide +kernel
theorem dX11_count_131 : decode cX11_count 131 = .ok (.invokestatic 275, 3) := by decide +kernel
theorem dX11_count_134 : decode cX11_count 134 = .ok (.ireturn, 1) := by decide +kernel
theorem dX11_count_135 : decode cX11_count 135 = .ok (.aload_n 0, 1) := by decide +kernel
theorem dX11_count_136 : decode cX11_count 136 = .ok (.getfield 10, 3) := by decide +kernel
theorem dX11_count_139 : decode cX11_count 139 = .ok (.getfield 320, 3) := by decide +kernel
theorem dX11_count_142 : decode cX11_count 142 = .ok (.ireturn, 1) := by decide +kernel
theorem dX11_count_143 : decode cX11_count 143 = .ok (.aload_n 0, 1) := by decide +kernel
theorem dX11_count_144 : decode cX11_count 144 = .ok (.getfield 10, 3) := by decide +kernel
theorem dX11_count_147 : decode cX11_count 147 = .ok (.getfield 289, 3) := by decide +kernel
theorem dX11_count_150 : decode cX11_count 150 = .ok (.ireturn, 1) := by decide +kernel
theorem dX11_count_151 : decode cX11_count 151 = .ok (.aload_n 0, 1) := by decide +kernel
theorem dX11_count_152 : decode cX11_count 152 = .ok (.getfield 10, 3) := by decide +kernel
theorem dX11_count_155 : decode cX11_count 155 = .ok (.getfield 204, 3) := by decide +kernel
theorem dX11_count_158 : decode cX11_count 158 = .ok (.ireturn, 1) := by decide +kernel
theorem dX11_count_159 : decode cX11_count 159 = .ok (.aload_n 0, 1) := by decide +kernel
theorem dX11_count_160 : decode cX11_count 160 = .ok (.getfield 19, 3) := by decide +kernel
theorem dX11_count_163 : decode cX11_count 163 = .ok (.getfield 323, 3) := by decide +kernel
theorem dX11_count_166 : decode cX11_count 166 = .ok (.ireturn, 1) := by decide +kernel
theorem dX11_count_167 : decode cX11_count 167 = .ok (.aload_n 0, 1) := by decide +kernel
theorem dX11_count_168 : decode cX11_count 168 = .ok (.getfield 94, 3) := by decide +kernel
theorem dX11_count_171 : decode cX11_count 171 = .ok (.ireturn, 1) := by decide +kernel
theorem dX11_count_172 : decode cX11_count 172 = .ok (.aload_n 0, 1) := by decide +kernel
theorem dX11_count_173 : decode cX11_count 173 = .ok (.getfield 10, 3) := by decide +kernel
theorem dX11_count_176 : decode cX11_count 176 = .ok (.getfield 235, 3) := by decide +kernel
theorem dX11_count_179 : decode cX11_count 179 = .ok (.ireturn, 1) := by decide +kernel
theorem dX11_count_180 : decode cX11_count 180 = .ok (.iconst (-1), 1) := by decide +kernel
theorem dX11_count_181 : decode cX11_count 181 = .ok (.ireturn, 1) := by decide +kernel
theorem dX11_status_0 : decode cX11_status 0 = .ok (.aload_n 0, 1) := by decide +kernel
theorem dX11_status_1 : decode cX11_status 1 = .ok (.getfield 107, 3) := by decide +kernel
theorem dX11_status_4 : decode cX11_status 4 = .ok (.ireturn, 1) := by decide +kernel
theorem dX11_refuse_0 : decode cX11_refuse 0 = .ok (.iload_n 1, 1) := by decide +kernel
theorem dX11_refuse_1 : decode cX11_refuse 1 = .ok (.bipush (-5), 2) := by decide +kernel
theorem dX11_refuse_3 : decode cX11_refuse 3 = .ok (.if_icmp .ne 7, 3) := by decide +kernel
theorem dX11_refuse_6 : decode cX11_refuse 6 = .ok (.iconst 3, 1) := by decide +kernel
theorem dX11_refuse_7 : decode cX11_refuse 7 = .ok (.goto 17, 3) := by decide +kernel
theorem dX11_refuse_10 : decode cX11_refuse 10 = .ok (.iload_n 1, 1) := by decide +kernel
theorem dX11_refuse_11 : decode cX11_refuse 11 = .ok (.bipush (-6), 2) := by decide +kernel
theorem dX11_refuse_13 : decode cX11_refuse 13 = .ok (.if_icmp .ne 7, 3) := by decide +kernel
theorem dX11_refuse_16 : decode cX11_refuse 16 = .ok (.iconst 4, 1) := by decide +kernel
theorem dX11_refuse_17 : decode cX11_refuse 17 = .ok (.goto 7, 3) := by decide +kernel
theorem dX11_refuse_20 : decode cX11_refuse 20 = .ok (.iload_n 1, 1) := by decide +kernel
theorem dX11_refuse_21 : decode cX11_refuse 21 = .ok (.ineg, 1) := by decide +kernel
theorem dX11_refuse_22 : decode cX11_refuse 22 = .ok (.iconst 1, 1) := by decide +kernel
theorem dX11_refuse_23 : decode cX11_refuse 23 = .ok (.isub, 1) := by decide +kernel
theorem dX11_refuse_24 : decode cX11_refuse 24 = .ok (.istore_n 2, 1) := by decide +kernel
theorem dX11_refuse_25 : decode cX11_refuse 25 = .ok (.iload_n 2, 1) := by decide +kernel
theorem dX11_refuse_26 : decode cX11_refuse 26 = .ok (.ifCond .lt 22, 3) := by decide +kernel
theorem dX11_refuse_29 : decode cX11_refuse 29 = .ok (.iload_n 2, 1) := by decide +kernel
theorem dX11_refuse_30 : decode cX11_refuse 30 = .ok (.aload_n 0, 1) := by decide +kernel
theorem dX11_refuse_31 : decode cX11_refuse 31 = .ok (.getfield 90, 3) := by decide +kernel
theorem dX11_refuse_34 : decode cX11_refuse 34 = .ok (.arraylength, 1) := by decide +kernel
theorem dX11_refuse_35 : decode cX11_refuse 35 = .ok (.if_icmp .ge 13, 3) := by decide +kernel
theorem dX11_refuse_38 : decode cX11_refuse 38 = .ok (.aload_n 0, 1) := by decide +kernel
theorem dX11_refuse_39 : decode cX11_refuse 39 = .ok (.getfield 90, 3) := by decide +kernel
theorem dX11_refuse_42 : decode cX11_refuse 42 = .ok (.iload_n 2, 1) := by decide +kernel
theorem dX11_refuse_43 : decode cX11_refuse 43 = .ok (.dup2, 1) := by decide +kernel
theorem dX11_refuse_44 : decode cX11_refuse 44 = .ok (.iaload, 1) := by decide +kernel
theorem dX11_refuse_45 : decode cX11_refuse 45 = .ok (.iconst 1, 1) := by decide +kernel
theorem dX11_refuse_46 : decode cX11_refuse 46 = .ok (.iadd, 1) := by decide +kernel
theorem dX11_refuse_47 : decode cX11_refuse 47 = .ok (.iastore, 1) := by decide +kernel
theorem dX11_refuse_48 : decode cX11_refuse 48 = .ok (.aload_n 0, 1) := by decide +kernel
theorem dX11_refuse_49 : decode cX11_refuse 49 = .ok (.iload_n 1, 1) := by decide +kernel
theorem dX11_refuse_50 : decode cX11_refuse 50 = .ok (.putfield 107, 3) := by decide +kernel
theorem dX11_refuse_53 : decode cX11_refuse 53 = .ok (.iload_n 1, 1) := by decide +kernel
theorem dX11_refuse_54 : decode cX11_refuse 54 = .ok (.ireturn, 1) := by decide +kernel
theorem dX11_agree_0 : decode cX11_agree 0 = .ok (.aload_n 0, 1) := by decide +kernel
theorem dX11_agree_1 : decode cX11_agree 1 = .ok (.iconst 0, 1) := by decide +kernel
theorem dX11_agree_2 : decode cX11_agree 2 = .ok (.putfield 107, 3) := by decide +kernel
theorem dX11_agree_5 : decode cX11_agree 5 = .ok (.iload_n 1, 1) := by decide +kernel
theorem dX11_agree_6 : decode cX11_agree 6 = .ok (.ireturn, 1) := by decide +kernel
theorem dX11_agreeChanged_0 : decode cX11_agreeChanged 0 = .ok (.aload_n 0, 1) := by decide +kernel
theorem dX11_agreeChanged_1 : decode cX11_agreeChanged 1 = .ok (.getfield 62, 3) := by decide +kernel
theorem dX11_agreeChanged_4 : decode cX11_agreeChanged 4 = .ok (.invokevirtual 326, 3) := by decide +kernel
theorem dX11_agreeChanged_7 : decode cX11_agreeChanged 7 = .ok (.aload_n 0, 1) := by decide +kernel
theorem dX11_agreeChanged_8 : decode cX11_agreeChanged 8 = .ok (.getfield 69, 3) := by decide +kernel
theorem dX11_agreeChanged_11 : decode cX11_agreeChanged 11 = .ok (.invokevirtual 327, 3) := by decide +kernel
theorem dX11_agreeChanged_14 : decode cX11_agreeChanged 14 = .ok (.aload_n 0, 1) := by decide +kernel
theorem dX11_agreeChanged_15 : decode cX11_agreeChanged 15 = .ok (.iload_n 1, 1) := by decide +kernel
theorem dX11_agreeChanged_16 : decode cX11_agreeChanged 16 = .ok (.invokevirtual 225, 3) := by decide +kernel
theorem dX11_agreeChanged_19 : decode cX11_agreeChanged 19 = .ok (.ireturn, 1) := by decide +kernel
theorem dX11_settle_0 : decode cX11_settle 0 = .ok (.iload_n 1, 1) := by decide +kernel
theorem dX11_settle_1 : decode cX11_settle 1 = .ok (.ifCond .ge 11, 3) := by decide +kernel
theorem dX11_settle_4 : decode cX11_settle 4 = .ok (.aload_n 0, 1) := by decide +kernel
theorem dX11_settle_5 : decode cX11_settle 5 = .ok (.iload_n 1, 1) := by decide +kernel
theorem dX11_settle_6 : decode cX11_settle 6 = .ok (.invokevirtual 114, 3) := by decide +kernel
theorem dX11_settle_9 : decode cX11_settle 9 = .ok (.goto 8, 3) := by decide +kernel
theorem dX11_settle_12 : decode cX11_settle 12 = .ok (.aload_n 0, 1) := by decide +kernel
theorem dX11_settle_13 : decode cX11_settle 13 = .ok (.iload_n 1, 1) := by decide +kernel
theorem dX11_settle_14 : decode cX11_settle 14 = .ok (.invokevirtual 121, 3) := by decide +kernel
theorem dX11_settle_17 : decode cX11_settle 17 = .ok (.ireturn, 1) := by decide +kernel
theorem dX11_emptyTape_0 : decode cX11_emptyTape 0 = .ok (.aload_n 0, 1) := by decide +kernel
theorem dX11_emptyTape_1 : decode cX11_emptyTape 1 = .ok (.getfield 94, 3) := by decide +kernel
theorem dX11_emptyTape_4 : decode cX11_emptyTape 4 = .ok (.istore_n 1, 1) := by decide +kernel
theorem dX11_emptyTape_5 : decode cX11_emptyTape 5 = .ok (.aload_n 0, 1) := by decide +kernel
theorem dX11_emptyTape_6 : decode cX11_emptyTape 6 = .ok (.iconst 0, 1) := by decide +kernel
theorem dX11_emptyTape_7 : decode cX11_emptyTape 7 = .ok (.putfield 94, 3) := by decide +kernel
theorem dX11_emptyTape_10 : decode cX11_emptyTape 10 = .ok (.iload_n 1, 1) := by decide +kernel
theorem dX11_emptyTape_11 : decode cX11_emptyTape 11 = .ok (.ireturn, 1) := by decide +kernel
theorem wt3_14 : Cond.code yX2_clear cX2_clear 1 none ∈ kG := kt3 14 rfl rfl
theorem wt4_196 : Cond.code yX2_restoreLatest cX2_restoreLatest 3 (some .int) ∈ kG := kt4 196 rfl rfl
theorem wt5_68 : Cond.code yX3_chanceUnseen cX3_chanceUnseen 6 (some .long) ∈ kG := kt5 68 rfl rfl
theorem wt3_22 : Cond.code yX9_clear cX9_clear 1 none ∈ kG := kt3 22 rfl rfl
theorem wt5_26 : Cond.code yX9_planStood cX9_planStood 2 (some .int) ∈ kG := kt5 26 rfl rfl
theorem wt5_50 : Cond.code yX9_bestLesson cX9_bestLesson 7 (some .int) ∈ kG := kt5 50 rfl rfl
theorem wt5_35 : Cond.code yX9_fewestHands cX9_fewestHands 4 (some .int) ∈ kG := kt5 35 rfl rfl
theorem wt5_108 : Cond.code yX9_nextLook cX9_nextLook 6 (some .int) ∈ kG := kt5 108 rfl rfl
theorem wt3_26 : Cond.code yX6_clear cX6_clear 1 none ∈ kG := kt3 26 rfl rfl
theorem wt4_222 : Cond.code yX6_partAt cX6_partAt 9 (some .int) ∈ kG := kt4 222 rfl rfl
theorem wt5_136 : Cond.code yX1_endOf cX1_endOf 3 (some .int) ∈ kG := kt5 136 rfl rfl
theorem wt5_122 : Cond.code yX1_drawNights cX1_drawNights 8 (some .int) ∈ kG := kt5 122 rfl rfl
theorem wt3_10 : Cond.code yX11_refuse cX11_refuse 3 (some .int) ∈ kG := kt3 10 rfl rfl
theorem wt3_30 : Cond.code yX11_agree cX11_agree 2 (some .int) ∈ kG := kt3 30 rfl rfl
theorem wt3_19 : Cond.methodLink RX11 326 yX9_clear ∈ kG := kt3 19 rfl rfl
theorem wt3_20 : Cond.instanceMethod yX9_clear ∈ kG := kt3 20 rfl rfl
theorem wt3_21 : Cond.selects RX9 yX9_clear yX9_clear ∈ kG := kt3 21 rfl rfl
theorem wt3_23 : Cond.methodLink RX11 327 yX6_clear ∈ kG := kt3 23 rfl rfl
theorem wt3_24 : Cond.instanceMethod yX6_clear ∈ kG := kt3 24 rfl rfl
theorem wt3_25 : Cond.selects RX6 yX6_clear yX6_clear ∈ kG := kt3 25 rfl rfl
theorem wt3_27 : Cond.methodLink RX11 225 yX11_agree ∈ kG := kt3 27 rfl rfl
theorem wt3_29 : Cond.instanceMethod yX11_agree ∈ kG := kt3 29 rfl rfl
theorem wp1_2 : Cond.selects RX11 yX11_agree yX11_agree ∈ kG := kp1 2 rfl rfl
theorem wt3_18 : Cond.code yX11_agreeChanged cX11_agreeChanged 2 (some .int) ∈ kG := kt3 18 rfl rfl
theorem wt3_15 : Cond.methodLink RX11 121 yX11_agreeChanged ∈ kG := kt3 15 rfl rfl
theorem wt3_17 : Cond.instanceMethod yX11_agreeChanged ∈ kG := kt3 17 rfl rfl
theorem wp1_1 : Cond.selects RX11 yX11_agreeChanged yX11_agreeChanged ∈ kG := kp1 1 rfl rfl
theorem wt3_7 : Cond.methodLink RX11 114 yX11_refuse ∈ kG := kt3 7 rfl rfl
theorem wt3_9 : Cond.instanceMethod yX11_refuse ∈ kG := kt3 9 rfl rfl
theorem wp1_0 : Cond.selects RX11 yX11_refuse yX11_refuse ∈ kG := kp1 0 rfl rfl
theorem wt4_173 : Cond.code yX11_settle cX11_settle 2 (some .int) ∈ kG := kt4 173 rfl rfl
theorem wt3_6 : Cond.code yX7_addPart cX7_addPart 6 (some .int) ∈ kG := kt3 6 rfl rfl
theorem wt3_62 : Cond.code yX7_addBuilder cX7_addBuilder 3 (some .int) ∈ kG := kt3 62 rfl rfl
theorem wt3_3 : Cond.methodLink RX11 110 yX7_addPart ∈ kG := kt3 3 rfl rfl
theorem wt3_4 : Cond.instanceMethod yX7_addPart ∈ kG := kt3 4 rfl rfl
theorem wt3_5 : Cond.selects RX7 yX7_addPart yX7_addPart ∈ kG := kt3 5 rfl rfl
theorem wt3_11 : Cond.methodLink RX11 118 yX2_clear ∈ kG := kt3 11 rfl rfl
theorem wt3_12 : Cond.instanceMethod yX2_clear ∈ kG := kt3 12 rfl rfl
theorem wt3_13 : Cond.selects RX2 yX2_clear yX2_clear ∈ kG := kt3 13 rfl rfl
theorem wt3_59 : Cond.methodLink RX11 159 yX7_addBuilder ∈ kG := kt3 59 rfl rfl
theorem wt3_60 : Cond.instanceMethod yX7_addBuilder ∈ kG := kt3 60 rfl rfl
theorem wt3_61 : Cond.selects RX7 yX7_addBuilder yX7_addBuilder ∈ kG := kt3 61 rfl rfl
theorem wt3_35 : Cond.methodLink RX11 124 yX7_hasPart ∈ kG := kt3 35 rfl rfl
theorem wt1_87 : Cond.fieldLink RX11 128 "SunriseRoof$Site" "work" "[I" ∈ kG := kt1 87 rfl rfl
theorem wt1_90 : Cond.fieldLink RX11 131 "SunriseRoof$Site" "needs" "[I" ∈ kG := kt1 90 rfl rfl
theorem wt1_94 : Cond.fieldLink RX11 134 "SunriseRoof$Site" "craft" "[I" ∈ kG := kt1 94 rfl rfl
theorem wt1_96 : Cond.fieldLink RX11 137 "SunriseRoof$Site" "heavy" "[I" ∈ kG := kt1 96 rfl rfl
theorem wt1_100 : Cond.fieldLink RX11 140 "SunriseRoof$Site" "left" "[I" ∈ kG := kt1 100 rfl rfl
theorem wt3_39 : Cond.methodLink RX11 143 yX7_readyMask ∈ kG := kt3 39 rfl rfl
theorem wt3_47 : Cond.methodLink RX11 147 yX7_reckonChains ∈ kG := kt3 47 rfl rfl
theorem wt1_156 : Cond.fieldLink RX11 150 "SunriseRoof$Site" "slate" "LSunriseRoof$Slate;" ∈ kG := kt1 156 rfl rfl
theorem wt1_63 : Cond.fieldLink RX11 154 "SunriseRoof$Slate" "chain" "[I" ∈ kG := kt1 63 rfl rfl
theorem wt3_67 : Cond.methodLink RX11 163 yX7_hasBuilder ∈ kG := kt3 67 rfl rfl
theorem wt1_112 : Cond.fieldLink RX11 166 "SunriseRoof$Site" "crafts" "[I" ∈ kG := kt1 112 rfl rfl
theorem wt1_115 : Cond.fieldLink RX11 169 "SunriseRoof$Site" "pace" "[I" ∈ kG := kt1 115 rfl rfl
theorem wt1_120 : Cond.fieldLink RX11 172 "SunriseRoof$Site" "tired" "[I" ∈ kG := kt1 120 rfl rfl
theorem wt1_126 : Cond.fieldLink RX11 175 "SunriseRoof$Site" "place" "[I" ∈ kG := kt1 126 rfl rfl
theorem wt3_75 : Cond.fieldLink RX11 178 "SunriseRoof" "MOST_TOLD" "[I" ∈ kG := kt3 75 rfl rfl
theorem wt3_77 : Cond.methodLink RX11 181 yX7_asked ∈ kG := kt3 77 rfl rfl
theorem wt3_117 : Cond.fieldLink RX11 185 "SunriseRoof" "TERM_LEAST" "[I" ∈ kG := kt3 117 rfl rfl
theorem wt3_119 : Cond.fieldLink RX11 188 "SunriseRoof" "TERM_MOST" "[I" ∈ kG := kt3 119 rfl rfl
theorem wt1_134 : Cond.fieldLink RX11 191 "SunriseRoof$Site" "term" "[I" ∈ kG := kt1 134 rfl rfl
theorem wt1_153 : Cond.fieldLink RX11 235 "SunriseRoof$Site" "inForce" "I" ∈ kG := kt1 153 rfl rfl
theorem wt1_150 : Cond.fieldLink RX11 204 "SunriseRoof$Site" "lawCount" "I" ∈ kG := kt1 150 rfl rfl
theorem wt4_164 : Cond.methodLink RX11 238 yX7_upMask ∈ kG := kt4 164 rfl rfl
theorem wt4_169 : Cond.methodLink RX11 241 yX0_sendBuilder ∈ kG := kt4 169 rfl rfl
theorem wt4_170 : Cond.methodLink RX11 244 yX11_settle ∈ kG := kt4 170 rfl rfl
theorem wt4_172 : Cond.instanceMethod yX11_settle ∈ kG := kt4 172 rfl rfl
theorem wp2_11 : Cond.selects RX11 yX11_settle yX11_settle ∈ kG := kp2 11 rfl rfl
theorem wt4_178 : Cond.methodLink RX11 247 yX0_restBuilder ∈ kG := kt4 178 rfl rfl
theorem wt4_183 : Cond.methodLink RX11 250 yX0_razePart ∈ kG := kt4 183 rfl rfl
theorem wt4_188 : Cond.methodLink RX11 253 yX0_passTick ∈ kG := kt4 188 rfl rfl
theorem wt4_193 : Cond.methodLink RX11 256 yX2_restoreLatest ∈ kG := kt4 193 rfl rfl
theorem wt4_194 : Cond.instanceMethod yX2_restoreLatest ∈ kG := kt4 194 rfl rfl
theorem wt4_195 : Cond.selects RX2 yX2_restoreLatest yX2_restoreLatest ∈ kG := kt4 195 rfl rfl
theorem wt4_219 : Cond.methodLink RX11 263 yX6_partAt ∈ kG := kt4 219 rfl rfl
theorem wt4_220 : Cond.instanceMethod yX6_partAt ∈ kG := kt4 220 rfl rfl
theorem wt4_221 : Cond.selects RX6 yX6_partAt yX6_partAt ∈ kG := kt4 221 rfl rfl
theorem wt4_205 : Cond.methodLink RX11 260 yX6_total ∈ kG := kt4 205 rfl rfl
theorem wt5_23 : Cond.methodLink RX11 269 yX9_planStood ∈ kG := kt5 23 rfl rfl
theorem wt5_24 : Cond.instanceMethod yX9_planStood ∈ kG := kt5 24 rfl rfl
theorem wt5_25 : Cond.selects RX9 yX9_planStood yX9_planStood ∈ kG := kt5 25 rfl rfl
theorem wt4_228 : Cond.methodLink RX11 266 yX9_planTicks ∈ kG := kt4 228 rfl rfl
theorem wt5_32 : Cond.methodLink RX11 272 yX9_fewestHands ∈ kG := kt5 32 rfl rfl
theorem wt5_33 : Cond.instanceMethod yX9_fewestHands ∈ kG := kt5 33 rfl rfl
theorem wt5_34 : Cond.selects RX9 yX9_fewestHands yX9_fewestHands ∈ kG := kt5 34 rfl rfl
theorem wt5_42 : Cond.methodLink RX11 275 yJ6_bitCount_0f7a4 ∈ kG := kt5 42 rfl rfl
theorem wt5_47 : Cond.methodLink RX11 280 yX9_bestLesson ∈ kG := kt5 47 rfl rfl
theorem wt5_48 : Cond.instanceMethod yX9_bestLesson ∈ kG := kt5 48 rfl rfl
theorem wt5_49 : Cond.selects RX9 yX9_bestLesson yX9_bestLesson ∈ kG := kt5 49 rfl rfl
theorem wt5_64 : Cond.constantLong RX11 283 (-1) ∈ kG := kt5 64 rfl rfl
theorem wt5_65 : Cond.methodLink RX11 285 yX3_chanceUnseen ∈ kG := kt5 65 rfl rfl
theorem wt5_66 : Cond.instanceMethod yX3_chanceUnseen ∈ kG := kt5 66 rfl rfl
theorem wt5_67 : Cond.selects RX3 yX3_chanceUnseen yX3_chanceUnseen ∈ kG := kt5 67 rfl rfl
theorem wt1_137 : Cond.fieldLink RX11 289 "SunriseRoof$Site" "sights" "I" ∈ kG := kt1 137 rfl rfl
theorem wt1_140 : Cond.fieldLink RX11 292 "SunriseRoof$Site" "sightTick" "[I" ∈ kG := kt1 140 rfl rfl
theorem wt1_143 : Cond.fieldLink RX11 295 "SunriseRoof$Site" "sightPart" "[I" ∈ kG := kt1 143 rfl rfl
theorem wt1_146 : Cond.fieldLink RX11 298 "SunriseRoof$Site" "sightStood" "[I" ∈ kG := kt1 146 rfl rfl
theorem wt5_89 : Cond.methodLink RX11 301 yX9_suspects ∈ kG := kt5 89 rfl rfl
theorem wt5_105 : Cond.methodLink RX11 304 yX9_nextLook ∈ kG := kt5 105 rfl rfl
theorem wt5_106 : Cond.instanceMethod yX9_nextLook ∈ kG := kt5 106 rfl rfl
theorem wt5_107 : Cond.selects RX9 yX9_nextLook yX9_nextLook ∈ kG := kt5 107 rfl rfl
theorem wt5_118 : Cond.constant RX11 307 (1000000) ∈ kG := kt5 118 rfl rfl
theorem wt5_119 : Cond.methodLink RX11 308 yX1_drawNights ∈ kG := kt5 119 rfl rfl
theorem wt5_120 : Cond.instanceMethod yX1_drawNights ∈ kG := kt5 120 rfl rfl
theorem wt5_121 : Cond.selects RX1 yX1_drawNights yX1_drawNights ∈ kG := kt5 121 rfl rfl
theorem wt5_133 : Cond.methodLink RX11 311 yX1_endOf ∈ kG := kt5 133 rfl rfl
theorem wt5_134 : Cond.instanceMethod yX1_endOf ∈ kG := kt5 134 rfl rfl
theorem wt5_135 : Cond.selects RX1 yX1_endOf yX1_endOf ∈ kG := kt5 135 rfl rfl
theorem wt1_85 : Cond.fieldLink RX11 317 "SunriseRoof$Site" "parts" "I" ∈ kG := kt1 85 rfl rfl
theorem wt1_109 : Cond.fieldLink RX11 320 "SunriseRoof$Site" "builders" "I" ∈ kG := kt1 109 rfl rfl
theorem wt1_206 : Cond.fieldLink RX11 323 "SunriseRoof$Past" "kept" "I" ∈ kG := kt1 206 rfl rfl
set_option maxHeartbeats 4000000 in
set_option maxRecDepth 100000 in
theorem x_11_emptyTape  (l : Launch) {D : va_G} {K : Nat → ClassId} (r : Nat → Nat) (f : Nat → Int32) (a : Nat → Nat → Int32) (g : xG) (tx tt : va_W) (hT : ∀ c ∈ tt, c ∈ tx) (hI : xI f a) (hG : gOK K g.2 tt)     : kIG l yX11_emptyTape (Cond.code yX11_emptyTape cX11_emptyTape 2 (some .int) :: kG) (rmD 1 0 0) D K [.ref (r 0)] (xX K r f a g tx) (fun v (u : xS) => kb 0 v 400 ∧ xI u.1 u.2.1 ∧ gOK K u.2.2.2 tt ∧ xEk ([12], [], []) f a g u.1 u.2.1 u.2.2 ∧ u.1 12 = 0 ∧ v = f 12) (fun u => xX K r u.1 u.2.1 u.2.2 tx) 0 0 := by
  refine kIE.of (cc := cX11_emptyTape) (maxL := 2) (ret := (some .int)) (by decide) rfl (Nat.le_of_ble_eq_true rfl) ?_
  intro p e s m below meth c A hx hb hr hml hown hts hlocks hnm hK hP hD hS hA hV ls hl
  have hE : xEk ([12], [], []) f a g f a g := xEk_rf
  have hg : ∀ w ∈ kG, w.before _ s = true := fun w h => hts w (List.mem_cons_of_mem _ h)
  have hown : s.vm.findClass RX11 = some m.cls := hown
  have hl : lv_has ls 2 [(0, .ref (r 0))] := hl
  obtain ⟨c12, ec12⟩ : ∃ z : Int32, z = f 12 := ⟨_, rfl⟩
  have b1 : kb 0 c12 400 := kb_eq ec12 (fI_at hI.1 12 (by decide) (by decide))
  refine lv_aload_n hx hb dX11_emptyTape_0 rfl (lv_at hl 0 rfl) ?_
  refine va_get (D := D) (ci := 11) (v := .int (f 12)) (C := RX11) (T := TX11) (N := 17) hx hb hg inC11 hown hK hP 0 rfl rfl 12 (by decide) (hg _ wt2_198) (fun _ h9 => h9) rfl dX11_emptyTape_1 ?_
  refine k_top (z := c12) ec12.symm ?_
  refine lv_istore_n (lv' := [(1, .int c12), (0, .ref (r 0))]) hx hb dX11_emptyTape_4 rfl hl (by decide) rfl (fun ls hl => ?_)
  refine lv_aload_n hx hb dX11_emptyTape_5 rfl (lv_at hl 1 rfl) ?_
  refine lv_iconst (v := 0) hx hb dX11_emptyTape_6 (by decide) ?_
  refine va_put (D := D) (ci := 11) (v := .int 0) (ty := .int) (C := RX11) (T := TX11) (N := 17) hx hb hg inC11 tyX11 tyX11_ok nmX11 hown hK hP hD hS 0 rfl rfl 12 (by decide) (hg _ wt2_198) (fun _ h9 => h9) rfl (by decide +kernel) rfl rfl (Nat.le_of_ble_eq_true rfl) dX11_emptyTape_7 (fun H locs hP hD hS => ?_)
  have hP : va_P D vwCl (xX K r (upd f 12 0) a g tx) H := hP
  have hD : va_D A (xX K r (upd f 12 0) a g tx) := hD
  refine k_gen (P := fun z => va_P D vwCl (xX K r z a g tx) H ∧ va_D A (xX K r z a g tx) ∧ (xI z a) ∧ (gOK K g.2 tt) ∧ (xEk ([12], [], []) f a g z a g)) (upd f 12 0) ⟨hP, hD, (xI_f hI (fI_st hI.1 12 kc_0 (by decide) (by decide))), hG, (xEk_f hE rfl)⟩ (fun f_2 ef_2 hq => ?_)
  obtain ⟨hP, hD, hI, hG, hE⟩ := hq
  refine lv_iload_n hx hb dX11_emptyTape_10 rfl (lv_at hl 0 rfl) ?_
  exact kI_ret (v := c12) hx hb hr hlocks rfl hK hS dX11_emptyTape_11 (f_2, a, g) hP hD ⟨b1, hI, hG, hE, (show f_2 12 = 0 from by rw [← ef_2]; rfl), ec12⟩
set_option maxHeartbeats 4000000 in
set_option maxRecDepth 100000 in
theorem x_11_chaff  (l : Launch) {D : va_G} {K : Nat → ClassId} (r : Nat → Nat) (f : Nat → Int32) (a : Nat → Nat → Int32) (g : xG) (tx tt : va_W) (hT : ∀ c ∈ tt, c ∈ tx) (hI : xI f a) (hG : gOK K g.2 tt)     : kIG l yX11_chaff (Cond.code yX11_chaff cX11_chaff 1 (some .int) :: kG) (rmD 1 0 0) D K [.ref (r 0)] (xX K r f a g tx) (fun v (_ : Unit) => kb (-2147483648) v 2147483647 ∧ v = f 14) (fun _ => xX K r f a g tx) 0 0 := by
  refine kIE.of (cc := cX11_chaff) (maxL := 1) (ret := (some .int)) (by decide) rfl (Nat.le_of_ble_eq_true rfl) ?_
  intro p e s m below meth c A hx hb hr hml hown hts hlocks hnm hK hP hD hS hA hV ls hl
  have hg : ∀ w ∈ kG, w.before _ s = true := fun w h => hts w (List.mem_cons_of_mem _ h)
  have hown : s.vm.findClass RX11 = some m.cls := hown
  have hl : lv_has ls 1 [(0, .ref (r 0))] := hl
  refine lv_aload_n hx hb dX11_chaff_0 rfl (lv_at hl 0 rfl) ?_
  refine va_get (D := D) (ci := 11) (v := .int (f 14)) (C := RX11) (T := TX11) (N := 17) hx hb hg inC11 hown hK hP 0 rfl rfl 14 (by decide) (hg _ wt2_200) (fun _ h9 => h9) rfl dX11_chaff_1 ?_
  refine lv_topi (fun t1 et1 => ?_)
  exact kI_ret (v := t1) hx hb hr hlocks rfl hK hS dX11_chaff_4 () hP hD ⟨(kb_any t1), et1⟩
set_option maxHeartbeats 4000000 in
set_option maxRecDepth 100000 in
theorem x_11_fault  (l : Launch) {D : va_G} {K : Nat → ClassId} (r : Nat → Nat) (f : Nat → Int32) (a : Nat → Nat → Int32) (g : xG) (tx tt : va_W) (hT : ∀ c ∈ tt, c ∈ tx) (hI : xI f a) (hG : gOK K g.2 tt)     : kIG l yX11_fault (Cond.code yX11_fault cX11_fault 1 (some .int) :: kG) (rmD 1 0 0) D K [.ref (r 0)] (xX K r f a g tx) (fun v (_ : Unit) => kb (-2147483648) v 2147483647 ∧ v = f 13) (fun _ => xX K r f a g tx) 0 0 := by
  refine kIE.of (cc := cX11_fault) (maxL := 1) (ret := (some .int)) (by decide) rfl (Nat.le_of_ble_eq_true rfl) ?_
  intro p e s m below meth c A hx hb hr hml hown hts hlocks hnm hK hP hD hS hA hV ls hl
  have hg : ∀ w ∈ kG, w.before _ s = true := fun w h => hts w (List.mem_cons_of_mem _ h)
  have hown : s.vm.findClass RX11 = some m.cls := hown
  have hl : lv_has ls 1 [(0, .ref (r 0))] := hl
  refine lv_aload_n hx hb dX11_fault_0 rfl (lv_at hl 0 rfl) ?_
  refine va_get (D := D) (ci := 11) (v := .int (f 13)) (C := RX11) (T := TX11) (N := 17) hx hb hg inC11 hown hK hP 0 rfl rfl 13 (by decide) (hg _ wt2_199) (fun _ h9 => h9) rfl dX11_fault_1 ?_
  refine lv_topi (fun t1 et1 => ?_)
  exact kI_ret (v := t1) hx hb hr hlocks rfl hK hS dX11_fault_4 () hP hD ⟨(kb_any t1), et1⟩
set_option maxHeartbeats 4000000 in
set_option maxRecDepth 100000 in
theorem x_11_rows  (l : Launch) {D : va_G} {K : Nat → ClassId} (r : Nat → Nat) (f : Nat → Int32) (a : Nat → Nat → Int32) (g : xG) (tx tt : va_W) (hT : ∀ c ∈ tt, c ∈ tx) (hI : xI f a) (hG : gOK K g.2 tt) (x : Int32) (y : Int32)    : kIG l yX11_rows (Cond.code yX11_rows cX11_rows 3 (some .int) :: kG) (rmD 5 0 0) D K [.ref (r 0), .int x, .int y] (xX K r f a g tx) (fun v (u : xS) => kb (-2147483648) v 2147483647 ∧ xI u.1 u.2.1 ∧ gOK K u.2.2.2 tt ∧ xEk ([2786], [88], []) f a g u.1 u.2.1 u.2.2) (fun u => xX K r u.1 u.2.1 u.2.2 tx) 0 0 := by
  refine kIE.of (cc := cX11_rows) (maxL := 3) (ret := (some .int)) (by decide) rfl (Nat.le_of_ble_eq_true rfl) ?_
  intro p e s m below meth c A hx hb hr hml hown hts hlocks hnm hK hP hD hS hA hV ls hl
  have hE : xEk ([2786], [88], []) f a g f a g := xEk_rf
  have hg : ∀ w ∈ kG, w.before _ s = true := fun w h => hts w (List.mem_cons_of_mem _ h)
  have hown : s.vm.findClass RX11 = some m.cls := hown
  have hl : lv_has ls 3 [(0, .ref (r 0)), (1, .int x), (2, .int y)] := hl
  refine lv_iload_n hx hb dX11_rows_0 rfl (lv_at hl 1 rfl) ?_
  refine lv_iconst (v := (-1)) hx hb dX11_rows_1 (by decide) ?_
  refine lv_icmp_ne (tgt := 15) hx hb dX11_rows_2 (by decide) (fun c1 => ?_) (fun c1 => ?_)
  · refine lv_aload_n hx hb dX11_rows_15 rfl (lv_at hl 0 rfl) ?_
    refine va_get (D := D) (ci := 11) (v := .ref (r 87)) (C := RX11) (T := TX11) (N := 17) hx hb hg inC11 hown hK hP 0 rfl rfl 7 (by decide) (hg _ wt2_193) (fun _ h9 => h9) rfl dX11_rows_16 ?_
    refine lv_iload_n hx hb dX11_rows_19 rfl (lv_at hl 1 rfl) ?_
    refine lv_iload_n hx hb dX11_rows_20 rfl (lv_at hl 2 rfl) ?_
    refine kIG.callW (As := [.int x, .int y]) (rest := []) ⟨hx, hb, hml, hown, hg⟩ (x_6_partAt l r f a g tx tt hT hI hG x y  ) (cwV 2 hg (kgV wt4_219 wt4_220 wt4_221 wt1_12 wt4_222) rfl rfl rfl (by decide +kernel) ⟨by decide, by decide⟩) hV hK hP hD hS hA (87) 6 rfl rfl rfl hl.1 rfl (Nat.le_of_ble_eq_true rfl) dX11_rows_21 ⟨Nat.le_refl _, Nat.le_refl _⟩ (fun v3 u4 H locs hw2 hP hD hS => ?_)
    obtain ⟨f5, a6, g7⟩ := u4
    have hP : va_P D vwCl (xX K r f5 a6 g7 tx) H := hP
    have hD : va_D A (xX K r f5 a6 g7 tx) := hD
    have hI : xI f5 a6 := hw2.2.1
    have hG : gOK K g7.2 tt := hw2.2.2.1
    have eE8 : xEk ([2786], [88], []) f a g f5 a6 g7 := hw2.2.2.2
    have hE : xEk ([2786], [88], []) f a g f5 a6 g7 := xEk_tr hE eE8
    exact kI_ret (v := v3) hx hb hr hlocks rfl hK hS dX11_rows_24 (f5, a6, g7) hP hD ⟨(kb_any v3), hI, hG, hE⟩
  · have b9 : kb (-1) x (-1) := kb_eq c1 kc_m1
    refine lv_aload_n hx hb dX11_rows_5 rfl (lv_at hl 0 rfl) ?_
    refine va_get (D := D) (ci := 11) (v := .ref (r 87)) (C := RX11) (T := TX11) (N := 17) hx hb hg inC11 hown hK hP 0 rfl rfl 7 (by decide) (hg _ wt2_193) (fun _ h9 => h9) rfl dX11_rows_6 ?_
    refine kIG.callW (As := []) (rest := []) ⟨hx, hb, hml, hown, hg⟩ (x_6_total l r f a g tx tt hT hI hG   ) (cwV 0 hg (kgV wt4_205 wt4_206 wt4_207 wt1_12 wt4_208) rfl rfl rfl (by decide +kernel) ⟨by decide, by decide⟩) hV hK hP hD hS hA (87) 6 rfl rfl rfl hl.1 rfl (Nat.le_of_ble_eq_true rfl) dX11_rows_9 ⟨Nat.le_refl _, Nat.le_refl _⟩ (fun v11 u12 H locs hw10 hP hD hS => ?_)
    obtain ⟨f13, a14, g15⟩ := u12
    have hP : va_P D vwCl (xX K r f13 a14 g15 tx) H := hP
    have hD : va_D A (xX K r f13 a14 g15 tx) := hD
    have hI : xI f13 a14 := hw10.2.1
    have hG : gOK K g15.2 tt := hw10.2.2.1
    have eE16 : xEk ([2786], [88], []) f a g f13 a14 g15 := hw10.2.2.2
    have hE : xEk ([2786], [88], []) f a g f13 a14 g15 := xEk_tr hE eE16
    refine lv_goto (tgt := 24) hx hb dX11_rows_12 (by decide) ?_
    exact kI_ret (v := v11) hx hb hr hlocks rfl hK hS dX11_rows_24 (f13, a14, g15) hP hD ⟨(kb_any v11), hI, hG, hE⟩
set_option maxHeartbeats 4000000 in
set_option maxRecDepth 100000 in
theorem x_11_plan  (l : Launch) {D : va_G} {K : Nat → ClassId} (r : Nat → Nat) (f : Nat → Int32) (a : Nat → Nat → Int32) (g : xG) (tx tt : va_W) (hT : ∀ c ∈ tt, c ∈ tx) (hI : xI f a) (hG : gOK K g.2 tt) (x : Int32)    : kIG l yX11_plan (Cond.code yX11_plan cX11_plan 2 (some .int) :: kG) (rmD 8 0 0) D K [.ref (r 0), .int x] (xX K r f a g tx) (fun v (u : xS) => kb (-2147483648) v 2147483647 ∧ xI u.1 u.2.1 ∧ gOK K u.2.2.2 tt ∧ xEk ([1888, 1894, 1900, 1905, 1906], [60, 61, 62, 63, 64, 65, 66, 67, 68, 69, 70, 71, 72, 77, 78, 79, 81], [73]) f a g u.1 u.2.1 u.2.2) (fun u => xX K r u.1 u.2.1 u.2.2 tx) 0 0 := by
  refine kIE.of (cc := cX11_plan) (maxL := 2) (ret := (some .int)) (by decide) rfl (Nat.le_of_ble_eq_true rfl) ?_
  intro p e s m below meth c A hx hb hr hml hown hts hlocks hnm hK hP hD hS hA hV ls hl
  have hE : xEk ([1888, 1894, 1900, 1905, 1906], [60, 61, 62, 63, 64, 65, 66, 67, 68, 69, 70, 71, 72, 77, 78, 79, 81], [73]) f a g f a g := xEk_rf
  have hg : ∀ w ∈ kG, w.before _ s = true := fun w h => hts w (List.mem_cons_of_mem _ h)
  have hown : s.vm.findClass RX11 = some m.cls := hown
  have hl : lv_has ls 2 [(0, .ref (r 0)), (1, .int x)] := hl
  refine lv_iload_n hx hb dX11_plan_0 rfl (lv_at hl 1 rfl) ?_
  refine lv_iconst (v := (-1)) hx hb dX11_plan_1 (by decide) ?_
  refine lv_icmp_ne (tgt := 13) hx hb dX11_plan_2 (by decide) (fun c1 => ?_) (fun c1 => ?_)
  · refine lv_aload_n hx hb dX11_plan_13 rfl (lv_at hl 0 rfl) ?_
    refine va_get (D := D) (ci := 11) (v := .ref (r 1)) (C := RX11) (T := TX11) (N := 17) hx hb hg inC11 hown hK hP 0 rfl rfl 0 (by decide) (hg _ wt2_186) (fun _ h9 => h9) rfl dX11_plan_14 ?_
    refine lv_iload_n hx hb dX11_plan_17 rfl (lv_at hl 1 rfl) ?_
    refine kIG.callW (As := [.int x]) (rest := []) ⟨hx, hb, hml, hown, hg⟩ (x_7_hasPart l r f a g tx tt hT hI hG x  ) (cwV 1 hg (kgV wt3_35 wt3_36 wt3_37 wt1_2 wt3_38) rfl rfl rfl (by decide +kernel) ⟨by decide, by decide⟩) hV hK hP hD hS hA (1) 7 rfl rfl rfl hl.1 rfl (Nat.le_of_ble_eq_true rfl) dX11_plan_18 ⟨Nat.le_refl _, Nat.le_refl _⟩ (fun v3 u4 H locs hw2 hP hD hS => ?_)
    have hP : va_P D vwCl (xX K r f a g tx) H := hP
    have hD : va_D A (xX K r f a g tx) := hD
    refine lv_if_eq (tgt := 35) hx hb dX11_plan_21 (by decide) (fun c5 => ?_) (fun c5 => ?_)
    · have b6 : kb 0 v3 0 := kb_eq c5 kc_0
      refine lv_iconst (v := (-1)) hx hb dX11_plan_35 (by decide) ?_
      exact kI_ret (v := (-1)) hx hb hr hlocks rfl hK hS dX11_plan_36 (f, a, g) hP hD ⟨(kb_w kc_m1 (by decide) (by decide)), hI, hG, hE⟩
    · have b7 : kb 1 v3 1 := kr_nel c5 hw2.1 kc_0 (by decide)
      have h8 := hw2.2.1 c5
      have b9 : kb 0 x 9 := ⟨h8.1, h8.2⟩
      refine lv_aload_n hx hb dX11_plan_24 rfl (lv_at hl 0 rfl) ?_
      refine va_get (D := D) (ci := 11) (v := .ref (r 80)) (C := RX11) (T := TX11) (N := 17) hx hb hg inC11 hown hK hP 0 rfl rfl 6 (by decide) (hg _ wt2_192) (fun _ h9 => h9) rfl dX11_plan_25 ?_
      refine lv_iload_n hx hb dX11_plan_28 rfl (lv_at hl 1 rfl) ?_
      refine kIG.callW (As := [.int x]) (rest := []) ⟨hx, hb, hml, hown, hg⟩ (x_9_planStood l r f a g tx tt hT hI hG x  ) (cwV 1 hg (kgV wt5_23 wt5_24 wt5_25 wt1_11 wt5_26) rfl rfl rfl (by decide +kernel) ⟨by decide, by decide⟩) hV hK hP hD hS hA (80) 9 rfl rfl rfl hl.1 rfl (Nat.le_of_ble_eq_true rfl) dX11_plan_29 ⟨Nat.le_refl _, Nat.le_refl _⟩ (fun v11 u12 H locs hw10 hP hD hS => ?_)
      obtain ⟨f13, a14, g15⟩ := u12
      have hP : va_P D vwCl (xX K r f13 a14 g15 tx) H := hP
      have hD : va_D A (xX K r f13 a14 g15 tx) := hD
      have hI : xI f13 a14 := hw10.2.1
      have hG : gOK K g15.2 tt := hw10.2.2.1
      have eE16 : xEk ([1888, 1894, 1900, 1905, 1906], [60, 61, 62, 63, 64, 65, 66, 67, 68, 69, 70, 71, 72, 77, 78, 79, 81], [73]) f a g f13 a14 g15 := hw10.2.2.2
      have hE : xEk ([1888, 1894, 1900, 1905, 1906], [60, 61, 62, 63, 64, 65, 66, 67, 68, 69, 70, 71, 72, 77, 78, 79, 81], [73]) f a g f13 a14 g15 := xEk_tr hE eE16
      refine lv_goto (tgt := 36) hx hb dX11_plan_32 (by decide) ?_
      exact kI_ret (v := v11) hx hb hr hlocks rfl hK hS dX11_plan_36 (f13, a14, g15) hP hD ⟨(kb_any v11), hI, hG, hE⟩
  · have b17 : kb (-1) x (-1) := kb_eq c1 kc_m1
    refine lv_aload_n hx hb dX11_plan_5 rfl (lv_at hl 0 rfl) ?_
    refine va_get (D := D) (ci := 11) (v := .ref (r 80)) (C := RX11) (T := TX11) (N := 17) hx hb hg inC11 hown hK hP 0 rfl rfl 6 (by decide) (hg _ wt2_192) (fun _ h9 => h9) rfl dX11_plan_6 ?_
    refine kIG.callW (As := []) (rest := []) ⟨hx, hb, hml, hown, hg⟩ (x_9_planTicks l r f a g tx tt hT hI hG   ) (cwV 0 hg (kgV wt4_228 wt4_229 wt4_230 wt1_11 wt4_231) rfl rfl rfl (by decide +kernel) ⟨by decide, by decide⟩) hV hK hP hD hS hA (80) 9 rfl rfl rfl hl.1 rfl (Nat.le_of_ble_eq_true rfl) dX11_plan_9 ⟨Nat.le_refl _, Nat.le_refl _⟩ (fun v19 u20 H locs hw18 hP hD hS => ?_)
    obtain ⟨f21, a22, g23⟩ := u20
    have hP : va_P D vwCl (xX K r f21 a22 g23 tx) H := hP
    have hD : va_D A (xX K r f21 a22 g23 tx) := hD
    have hI : xI f21 a22 := hw18.2.1
    have hG : gOK K g23.2 tt := hw18.2.2.1
    have eE24 : xEk ([1888, 1894, 1900, 1905, 1906], [60, 61, 62, 63, 64, 65, 66, 67, 68, 69, 70, 71, 72, 77, 78, 79, 81], [73]) f a g f21 a22 g23 := hw18.2.2.2
    have hE : xEk ([1888, 1894, 1900, 1905, 1906], [60, 61, 62, 63, 64, 65, 66, 67, 68, 69, 70, 71, 72, 77, 78, 79, 81], [73]) f a g f21 a22 g23 := xEk_tr hE eE24
    exact kI_ret (v := v19) hx hb hr hlocks rfl hK hS dX11_plan_12 (f21, a22, g23) hP hD ⟨(kb_any v19), hI, hG, hE⟩
set_option maxHeartbeats 4000000 in
set_option maxRecDepth 100000 in
theorem x_11_hands  (l : Launch) {D : va_G} {K : Nat → ClassId} (r : Nat → Nat) (f : Nat → Int32) (a : Nat → Nat → Int32) (g : xG) (tx tt : va_W) (hT : ∀ c ∈ tt, c ∈ tx) (hI : xI f a) (hG : gOK K g.2 tt) (x : Int32)    : kIG l yX11_hands (Cond.code yX11_hands cX11_hands 3 (some .int) :: kG) (rmD 7 0 0) D K [.ref (r 0), .int x] (xX K r f a g tx) (fun v (u : xS) => kb (-2147483648) v 2147483647 ∧ xI u.1 u.2.1 ∧ gOK K u.2.2.2 tt ∧ xEk ([1888, 1894, 1900, 1905, 1906, 2565], [60, 61, 62, 63, 64, 65, 66, 67, 68, 69, 70, 71, 72, 77, 78, 79, 83], [73]) f a g u.1 u.2.1 u.2.2) (fun u => xX K r u.1 u.2.1 u.2.2 tx) 0 0 := by
  refine kIE.of (cc := cX11_hands) (maxL := 3) (ret := (some .int)) (by decide) rfl (Nat.le_of_ble_eq_true rfl) ?_
  intro p e s m below meth c A hx hb hr hml hown hts hlocks hnm hK hP hD hS hA hV ls hl
  have hE : xEk ([1888, 1894, 1900, 1905, 1906, 2565], [60, 61, 62, 63, 64, 65, 66, 67, 68, 69, 70, 71, 72, 77, 78, 79, 83], [73]) f a g f a g := xEk_rf
  have hg : ∀ w ∈ kG, w.before _ s = true := fun w h => hts w (List.mem_cons_of_mem _ h)
  have hown : s.vm.findClass RX11 = some m.cls := hown
  have hl : lv_has ls 3 [(0, .ref (r 0)), (1, .int x)] := hl
  refine lv_iload_n hx hb dX11_hands_0 rfl (lv_at hl 1 rfl) ?_
  refine lv_if_eq (tgt := 11) hx hb dX11_hands_1 (by decide) (fun c1 => ?_) (fun c1 => ?_)
  · have b2 : kb 0 x 0 := kb_eq c1 kc_0
    refine lv_aload_n hx hb dX11_hands_11 rfl (lv_at hl 0 rfl) ?_
    refine va_get (D := D) (ci := 11) (v := .ref (r 80)) (C := RX11) (T := TX11) (N := 17) hx hb hg inC11 hown hK hP 0 rfl rfl 6 (by decide) (hg _ wt2_192) (fun _ h9 => h9) rfl dX11_hands_12 ?_
    refine kIG.callW (As := []) (rest := []) ⟨hx, hb, hml, hown, hg⟩ (x_9_fewestHands l r f a g tx tt hT hI hG   ) (cwV 0 hg (kgV wt5_32 wt5_33 wt5_34 wt1_11 wt5_35) rfl rfl rfl (by decide +kernel) ⟨by decide, by decide⟩) hV hK hP hD hS hA (80) 9 rfl rfl rfl hl.1 rfl (Nat.le_of_ble_eq_true rfl) dX11_hands_15 ⟨Nat.le_refl _, Nat.le_refl _⟩ (fun v4 u5 H locs hw3 hP hD hS => ?_)
    obtain ⟨f6, a7, g8⟩ := u5
    have hP : va_P D vwCl (xX K r f6 a7 g8 tx) H := hP
    have hD : va_D A (xX K r f6 a7 g8 tx) := hD
    have hI : xI f6 a7 := hw3.2.1
    have hG : gOK K g8.2 tt := hw3.2.2.1
    have eE9 : xEk ([1888, 1894, 1900, 1905, 1906, 2565], [60, 61, 62, 63, 64, 65, 66, 67, 68, 69, 70, 71, 72, 77, 78, 79, 83], [73]) f a g f6 a7 g8 := hw3.2.2.2
    have hE : xEk ([1888, 1894, 1900, 1905, 1906, 2565], [60, 61, 62, 63, 64, 65, 66, 67, 68, 69, 70, 71, 72, 77, 78, 79, 83], [73]) f a g f6 a7 g8 := xEk_tr hE eE9
    refine lv_istore_n (lv' := [(2, .int v4), (0, .ref (r 0)), (1, .int x)]) hx hb dX11_hands_18 rfl hl (by decide) rfl (fun ls hl => ?_)
    refine lv_iload_n hx hb dX11_hands_19 rfl (lv_at hl 2 rfl) ?_
    refine lv_if_ne (tgt := 35) hx hb dX11_hands_20 (by decide) (fun c10 => ?_) (fun c10 => ?_)
    · exact kb_nsame c10 b2 kc_0
    · refine lv_iload_n hx hb dX11_hands_23 rfl (lv_at hl 0 rfl) ?_
      refine lv_iconst (v := (-1)) hx hb dX11_hands_24 (by decide) ?_
      refine lv_icmp_eq (tgt := 35) hx hb dX11_hands_25 (by decide) (fun c11 => ?_) (fun c11 => ?_)
      · have b12 : kb (-1) v4 (-1) := kb_eq c11 kc_m1
        refine lv_iload_n hx hb dX11_hands_35 rfl (lv_at hl 0 rfl) ?_
        exact kI_ret (v := v4) hx hb hr hlocks rfl hK hS dX11_hands_36 (f6, a7, g8) hP hD ⟨(kb_w b12 (by decide) (by decide)), hI, hG, hE⟩
      · refine lv_iload_n hx hb dX11_hands_28 rfl (lv_at hl 0 rfl) ?_
        refine kN.callS (As := [.int v4]) (rest := []) ⟨hx, hb, hml, hown, hg⟩ (x_bitCount l v4 ) (va_cwS 1 hg (kgS wt5_42 wt4_99 wt1_21 wt4_100) rfl rfl rfl (by decide +kernel) ⟨by decide, by decide⟩) hP hS rfl hl.1 rfl (Nat.le_of_ble_eq_true rfl) dX11_hands_29 ⟨Nat.le_refl _, Nat.le_refl _⟩ (fun v14 H locs hw13 hP hS => ?_)
        have hP : va_P D vwCl (xX K r f6 a7 g8 tx) H := hP
        refine lv_goto (tgt := 36) hx hb dX11_hands_32 (by decide) ?_
        exact kI_ret (v := v14) hx hb hr hlocks rfl hK hS dX11_hands_36 (f6, a7, g8) hP hD ⟨(kb_w hw13 (by decide) (by decide)), hI, hG, hE⟩
  · refine lv_iload_n hx hb dX11_hands_4 rfl (lv_at hl 1 rfl) ?_
    refine lv_iconst (v := 1) hx hb dX11_hands_5 (by decide) ?_
    refine lv_icmp_eq (tgt := 11) hx hb dX11_hands_6 (by decide) (fun c15 => ?_) (fun c15 => ?_)
    · have b16 : kb 1 x 1 := kb_eq c15 kc_1
      refine lv_aload_n hx hb dX11_hands_11 rfl (lv_at hl 0 rfl) ?_
      refine va_get (D := D) (ci := 11) (v := .ref (r 80)) (C := RX11) (T := TX11) (N := 17) hx hb hg inC11 hown hK hP 0 rfl rfl 6 (by decide) (hg _ wt2_192) (fun _ h9 => h9) rfl dX11_hands_12 ?_
      refine kIG.callW (As := []) (rest := []) ⟨hx, hb, hml, hown, hg⟩ (x_9_fewestHands l r f a g tx tt hT hI hG   ) (cwV 0 hg (kgV wt5_32 wt5_33 wt5_34 wt1_11 wt5_35) rfl rfl rfl (by decide +kernel) ⟨by decide, by decide⟩) hV hK hP hD hS hA (80) 9 rfl rfl rfl hl.1 rfl (Nat.le_of_ble_eq_true rfl) dX11_hands_15 ⟨Nat.le_refl _, Nat.le_refl _⟩ (fun v18 u19 H locs hw17 hP hD hS => ?_)
      obtain ⟨f20, a21, g22⟩ := u19
      have hP : va_P D vwCl (xX K r f20 a21 g22 tx) H := hP
      have hD : va_D A (xX K r f20 a21 g22 tx) := hD
      have hI : xI f20 a21 := hw17.2.1
      have hG : gOK K g22.2 tt := hw17.2.2.1
      have eE23 : xEk ([1888, 1894, 1900, 1905, 1906, 2565], [60, 61, 62, 63, 64, 65, 66, 67, 68, 69, 70, 71, 72, 77, 78, 79, 83], [73]) f a g f20 a21 g22 := hw17.2.2.2
      have hE : xEk ([1888, 1894, 1900, 1905, 1906, 2565], [60, 61, 62, 63, 64, 65, 66, 67, 68, 69, 70, 71, 72, 77, 78, 79, 83], [73]) f a g f20 a21 g22 := xEk_tr hE eE23
      refine lv_istore_n (lv' := [(2, .int v18), (0, .ref (r 0)), (1, .int x)]) hx hb dX11_hands_18 rfl hl (by decide) rfl (fun ls hl => ?_)
      refine lv_iload_n hx hb dX11_hands_19 rfl (lv_at hl 2 rfl) ?_
      refine lv_if_ne (tgt := 35) hx hb dX11_hands_20 (by decide) (fun c24 => ?_) (fun c24 => ?_)
      · refine lv_iload_n hx hb dX11_hands_35 rfl (lv_at hl 0 rfl) ?_
        exact kI_ret (v := v18) hx hb hr hlocks rfl hK hS dX11_hands_36 (f20, a21, g22) hP hD ⟨(kb_any v18), hI, hG, hE⟩
      · exact kb_dj c24 b16 kc_0 (by decide)
    · refine lv_iconst (v := (-1)) hx hb dX11_hands_9 (by decide) ?_
      exact kI_ret (v := (-1)) hx hb hr hlocks rfl hK hS dX11_hands_10 (f, a, g) hP hD ⟨(kb_w kc_m1 (by decide) (by decide)), hI, hG, hE⟩
set_option maxHeartbeats 4000000 in
set_option maxRecDepth 100000 in
theorem x_11_taught  (l : Launch) {D : va_G} {K : Nat → ClassId} (r : Nat → Nat) (f : Nat → Int32) (a : Nat → Nat → Int32) (g : xG) (tx tt : va_W) (hT : ∀ c ∈ tt, c ∈ tx) (hI : xI f a) (hG : gOK K g.2 tt) (x : Int32)    : kIG l yX11_taught (Cond.code yX11_taught cX11_taught 2 (some .int) :: kG) (rmD 8 0 0) D K [.ref (r 0), .int x] (xX K r f a g tx) (fun v (u : xS) => kb (-2147483648) v 2147483647 ∧ xI u.1 u.2.1 ∧ gOK K u.2.2.2 tt ∧ xEk ([1858, 1859, 1888, 1894, 1900, 1905, 1906, 2566], [60, 61, 62, 63, 64, 65, 66, 67, 68, 69, 70, 71, 72, 77, 78, 79, 81, 82, 84], [73]) f a g u.1 u.2.1 u.2.2) (fun u => xX K r u.1 u.2.1 u.2.2 tx) 0 0 := by
  refine kIE.of (cc := cX11_taught) (maxL := 2) (ret := (some .int)) (by decide) rfl (Nat.le_of_ble_eq_true rfl) ?_
  intro p e s m below meth c A hx hb hr hml hown hts hlocks hnm hK hP hD hS hA hV ls hl
  have hE : xEk ([1858, 1859, 1888, 1894, 1900, 1905, 1906, 2566], [60, 61, 62, 63, 64, 65, 66, 67, 68, 69, 70, 71, 72, 77, 78, 79, 81, 82, 84], [73]) f a g f a g := xEk_rf
  have hg : ∀ w ∈ kG, w.before _ s = true := fun w h => hts w (List.mem_cons_of_mem _ h)
  have hown : s.vm.findClass RX11 = some m.cls := hown
  have hl : lv_has ls 2 [(0, .ref (r 0)), (1, .int x)] := hl
  refine lv_iload_n hx hb dX11_taught_0 rfl (lv_at hl 1 rfl) ?_
  refine lv_if_lt (tgt := 9) hx hb dX11_taught_1 (by decide) (fun c1 => ?_) (fun c1 => ?_)
  · have h2 := (kc_lt c1)
    have b3 : kb (-2147483648) x (-1) := kr_lt1 h2 (kb_any x) kc_0 (by decide)
    refine lv_iconst (v := (-1)) hx hb dX11_taught_9 (by decide) ?_
    refine lv_goto (tgt := 21) hx hb dX11_taught_10 (by decide) ?_
    exact kI_ret (v := (-1)) hx hb hr hlocks rfl hK hS dX11_taught_21 (f, a, g) hP hD ⟨(kb_w kc_m1 (by decide) (by decide)), hI, hG, hE⟩
  · have h4 := (kc_nlt c1)
    have b5 : kb 0 x 2147483647 := kr_le2 h4 kc_0 (kb_any x)
    refine lv_iload_n hx hb dX11_taught_4 rfl (lv_at hl 1 rfl) ?_
    refine lv_iconst (v := 2) hx hb dX11_taught_5 (by decide) ?_
    refine lv_icmp_le (tgt := 13) hx hb dX11_taught_6 (by decide) (fun c6 => ?_) (fun c6 => ?_)
    · have h7 := (kc_le c6)
      have b8 : kb 0 x 2 := kr_le1 h7 b5 kc_2
      refine lv_aload_n hx hb dX11_taught_13 rfl (lv_at hl 0 rfl) ?_
      refine va_get (D := D) (ci := 11) (v := .ref (r 80)) (C := RX11) (T := TX11) (N := 17) hx hb hg inC11 hown hK hP 0 rfl rfl 6 (by decide) (hg _ wt2_192) (fun _ h9 => h9) rfl dX11_taught_14 ?_
      refine lv_iload_n hx hb dX11_taught_17 rfl (lv_at hl 1 rfl) ?_
      refine kIG.callW (As := [.int x]) (rest := []) ⟨hx, hb, hml, hown, hg⟩ (x_9_bestLesson l r f a g tx tt hT hI hG x  ) (cwV 1 hg (kgV wt5_47 wt5_48 wt5_49 wt1_11 wt5_50) rfl rfl rfl (by decide +kernel) ⟨by decide, by decide⟩) hV hK hP hD hS hA (80) 9 rfl rfl rfl hl.1 rfl (Nat.le_of_ble_eq_true rfl) dX11_taught_18 ⟨Nat.le_refl _, Nat.le_refl _⟩ (fun v10 u11 H locs hw9 hP hD hS => ?_)
      obtain ⟨f12, a13, g14⟩ := u11
      have hP : va_P D vwCl (xX K r f12 a13 g14 tx) H := hP
      have hD : va_D A (xX K r f12 a13 g14 tx) := hD
      have hI : xI f12 a13 := hw9.2.1
      have hG : gOK K g14.2 tt := hw9.2.2.1
      have eE15 : xEk ([1858, 1859, 1888, 1894, 1900, 1905, 1906, 2566], [60, 61, 62, 63, 64, 65, 66, 67, 68, 69, 70, 71, 72, 77, 78, 79, 81, 82, 84], [73]) f a g f12 a13 g14 := hw9.2.2.2
      have hE : xEk ([1858, 1859, 1888, 1894, 1900, 1905, 1906, 2566], [60, 61, 62, 63, 64, 65, 66, 67, 68, 69, 70, 71, 72, 77, 78, 79, 81, 82, 84], [73]) f a g f12 a13 g14 := xEk_tr hE eE15
      exact kI_ret (v := v10) hx hb hr hlocks rfl hK hS dX11_taught_21 (f12, a13, g14) hP hD ⟨(kb_any v10), hI, hG, hE⟩
    · have h16 := (kc_nle c6)
      have b17 : kb 3 x 2147483647 := kr_lt2 h16 kc_2 b5 (by decide)
      refine lv_iconst (v := (-1)) hx hb dX11_taught_9 (by decide) ?_
      refine lv_goto (tgt := 21) hx hb dX11_taught_10 (by decide) ?_
      exact kI_ret (v := (-1)) hx hb hr hlocks rfl hK hS dX11_taught_21 (f, a, g) hP hD ⟨(kb_w kc_m1 (by decide) (by decide)), hI, hG, hE⟩
set_option maxHeartbeats 4000000 in
set_option maxRecDepth 100000 in
theorem x_11_unseen  (l : Launch) {D : va_G} {K : Nat → ClassId} (r : Nat → Nat) (f : Nat → Int32) (a : Nat → Nat → Int32) (g : xG) (tx tt : va_W) (hT : ∀ c ∈ tt, c ∈ tx) (hI : xI f a) (hG : gOK K g.2 tt) (x : Int32)    : kLG l yX11_unseen (Cond.code yX11_unseen cX11_unseen 2 (some .long) :: kG) (rmD 6 0 0) D K [.ref (r 0), .int x] (xX K r f a g tx) (fun v (u : xS) => kbl (-9223372036854775808) v 9223372036854775807 ∧ xI u.1 u.2.1 ∧ gOK K u.2.2.2 tt ∧ xEk ([1888, 1894, 1900, 1905, 1906], [60, 61, 62, 63, 64, 65, 66, 67, 68, 69, 70, 71, 72, 77, 78, 79], [73]) f a g u.1 u.2.1 u.2.2) (fun u => xX K r u.1 u.2.1 u.2.2 tx) 0 0 := by
  refine kLG.of (cc := cX11_unseen) (maxL := 2) (ret := (some .long)) (by decide) rfl (Nat.le_of_ble_eq_true rfl) ?_
  intro p e s m below meth c A hx hb hr hml hown hts hlocks hnm hK hP hD hS hA hV ls hl
  have hE : xEk ([1888, 1894, 1900, 1905, 1906], [60, 61, 62, 63, 64, 65, 66, 67, 68, 69, 70, 71, 72, 77, 78, 79], [73]) f a g f a g := xEk_rf
  have hg : ∀ w ∈ kG, w.before _ s = true := fun w h => hts w (List.mem_cons_of_mem _ h)
  have hown : s.vm.findClass RX11 = some m.cls := hown
  have hl : lv_has ls 2 [(0, .ref (r 0)), (1, .int x)] := hl
  refine lv_iload_n hx hb dX11_unseen_0 rfl (lv_at hl 1 rfl) ?_
  refine lv_if_lt (tgt := 10) hx hb dX11_unseen_1 (by decide) (fun c1 => ?_) (fun c1 => ?_)
  · have h2 := (kc_lt c1)
    have b3 : kb (-2147483648) x (-1) := kr_lt1 h2 (kb_any x) kc_0 (by decide)
    refine lv_ldc2 (v := (-1)) hx hb hown (hg _ wt5_64) dX11_unseen_10 ?_
    refine lv_goto (tgt := 24) hx hb dX11_unseen_13 (by decide) ?_
    exact kL_ret (v := (-1)) hx hb hr hlocks hK hS dX11_unseen_24 (f, a, g) hP hD ⟨(kbl_w kcl_m1 (by decide) (by decide)), hI, hG, hE⟩
  · have h4 := (kc_nlt c1)
    have b5 : kb 0 x 2147483647 := kr_le2 h4 kc_0 (kb_any x)
    refine lv_iload_n hx hb dX11_unseen_4 rfl (lv_at hl 1 rfl) ?_
    refine lv_bipush (v := 99) hx hb dX11_unseen_5 (by decide) ?_
    refine lv_icmp_le (tgt := 16) hx hb dX11_unseen_7 (by decide) (fun c6 => ?_) (fun c6 => ?_)
    · have h7 := (kc_le c6)
      have b8 : kb 0 x 99 := kr_le1 h7 b5 kc_99
      refine lv_aload_n hx hb dX11_unseen_16 rfl (lv_at hl 0 rfl) ?_
      refine va_get (D := D) (ci := 11) (v := .ref (r 58)) (C := RX11) (T := TX11) (N := 17) hx hb hg inC11 hown hK hP 0 rfl rfl 5 (by decide) (hg _ wt2_191) (fun _ h9 => h9) rfl dX11_unseen_17 ?_
      refine lv_iload_n hx hb dX11_unseen_20 rfl (lv_at hl 1 rfl) ?_
      refine kLG.callW (As := [.int x]) (rest := []) ⟨hx, hb, hml, hown, hg⟩ (x_3_chanceUnseen l r f a g tx tt hT hI hG x b8 ) (cwV 1 hg (kgV wt5_65 wt5_66 wt5_67 wt1_10 wt5_68) rfl rfl rfl (by decide +kernel) ⟨by decide, by decide⟩) hV hK hP hD hS hA (58) 3 rfl rfl rfl hl.1 rfl (Nat.le_of_ble_eq_true rfl) dX11_unseen_21 ⟨Nat.le_refl _, Nat.le_refl _⟩ (fun v10 u11 H locs hw9 hP hD hS => ?_)
      obtain ⟨f12, a13, g14⟩ := u11
      have hP : va_P D vwCl (xX K r f12 a13 g14 tx) H := hP
      have hD : va_D A (xX K r f12 a13 g14 tx) := hD
      have hI : xI f12 a13 := hw9.2.1
      have hG : gOK K g14.2 tt := hw9.2.2.1
      have eE15 : xEk ([1888, 1894, 1900, 1905, 1906], [60, 61, 62, 63, 64, 65, 66, 67, 68, 69, 70, 71, 72, 77, 78, 79], [73]) f a g f12 a13 g14 := hw9.2.2.2
      have hE : xEk ([1888, 1894, 1900, 1905, 1906], [60, 61, 62, 63, 64, 65, 66, 67, 68, 69, 70, 71, 72, 77, 78, 79], [73]) f a g f12 a13 g14 := xEk_tr hE eE15
      exact kL_ret (v := v10) hx hb hr hlocks hK hS dX11_unseen_24 (f12, a13, g14) hP hD ⟨(kbl_any v10), hI, hG, hE⟩
    · have h16 := (kc_nle c6)
      have b17 : kb 100 x 2147483647 := kr_lt2 h16 kc_99 b5 (by decide)
      refine lv_ldc2 (v := (-1)) hx hb hown (hg _ wt5_64) dX11_unseen_10 ?_
      refine lv_goto (tgt := 24) hx hb dX11_unseen_13 (by decide) ?_
      exact kL_ret (v := (-1)) hx hb hr hlocks hK hS dX11_unseen_24 (f, a, g) hP hD ⟨(kbl_w kcl_m1 (by decide) (by decide)), hI, hG, hE⟩
set_option maxHeartbeats 4000000 in
set_option maxRecDepth 100000 in
theorem x_11_whose  (l : Launch) {D : va_G} {K : Nat → ClassId} (r : Nat → Nat) (f : Nat → Int32) (a : Nat → Nat → Int32) (g : xG) (tx tt : va_W) (hT : ∀ c ∈ tt, c ∈ tx) (hI : xI f a) (hG : gOK K g.2 tt) (x : Int32)    : kIG l yX11_whose (Cond.code yX11_whose cX11_whose 2 (some .int) :: kG) (rmD 7 0 0) D K [.ref (r 0), .int x] (xX K r f a g tx) (fun v (u : xS) => kb (-2147483648) v 2147483647 ∧ xI u.1 u.2.1 ∧ gOK K u.2.2.2 tt ∧ xEk ([1888, 1894, 1900, 1905, 1906, 2565], [60, 61, 62, 63, 64, 65, 66, 67, 68, 69, 70, 71, 72, 77, 78, 79, 83, 85], [73]) f a g u.1 u.2.1 u.2.2) (fun u => xX K r u.1 u.2.1 u.2.2 tx) 0 0 := by
  refine kIE.of (cc := cX11_whose) (maxL := 2) (ret := (some .int)) (by decide) rfl (Nat.le_of_ble_eq_true rfl) ?_
  intro p e s m below meth c A hx hb hr hml hown hts hlocks hnm hK hP hD hS hA hV ls hl
  have hE : xEk ([1888, 1894, 1900, 1905, 1906, 2565], [60, 61, 62, 63, 64, 65, 66, 67, 68, 69, 70, 71, 72, 77, 78, 79, 83, 85], [73]) f a g f a g := xEk_rf
  have hg : ∀ w ∈ kG, w.before _ s = true := fun w h => hts w (List.mem_cons_of_mem _ h)
  have hown : s.vm.findClass RX11 = some m.cls := hown
  have hl : lv_has ls 2 [(0, .ref (r 0)), (1, .int x)] := hl
  refine lv_aload_n hx hb dX11_whose_0 rfl (lv_at hl 0 rfl) ?_
  refine va_get (D := D) (ci := 11) (v := .ref (r 80)) (C := RX11) (T := TX11) (N := 17) hx hb hg inC11 hown hK hP 0 rfl rfl 6 (by decide) (hg _ wt2_192) (fun _ h9 => h9) rfl dX11_whose_1 ?_
  refine lv_iload_n hx hb dX11_whose_4 rfl (lv_at hl 1 rfl) ?_
  refine kIG.callW (As := [.int x]) (rest := []) ⟨hx, hb, hml, hown, hg⟩ (x_9_suspects l r f a g tx tt hT hI hG x  ) (cwV 1 hg (kgV wt5_89 wt5_90 wt5_91 wt1_11 wt5_92) rfl rfl rfl (by decide +kernel) ⟨by decide, by decide⟩) hV hK hP hD hS hA (80) 9 rfl rfl rfl hl.1 rfl (Nat.le_of_ble_eq_true rfl) dX11_whose_5 ⟨Nat.le_refl _, Nat.le_refl _⟩ (fun v2 u3 H locs hw1 hP hD hS => ?_)
  obtain ⟨f4, a5, g6⟩ := u3
  have hP : va_P D vwCl (xX K r f4 a5 g6 tx) H := hP
  have hD : va_D A (xX K r f4 a5 g6 tx) := hD
  have hI : xI f4 a5 := hw1.2.1
  have hG : gOK K g6.2 tt := hw1.2.2.1
  have eE7 : xEk ([1888, 1894, 1900, 1905, 1906, 2565], [60, 61, 62, 63, 64, 65, 66, 67, 68, 69, 70, 71, 72, 77, 78, 79, 83, 85], [73]) f a g f4 a5 g6 := hw1.2.2.2
  have hE : xEk ([1888, 1894, 1900, 1905, 1906, 2565], [60, 61, 62, 63, 64, 65, 66, 67, 68, 69, 70, 71, 72, 77, 78, 79, 83, 85], [73]) f a g f4 a5 g6 := xEk_tr hE eE7
  exact kI_ret (v := v2) hx hb hr hlocks rfl hK hS dX11_whose_8 (f4, a5, g6) hP hD ⟨(kb_any v2), hI, hG, hE⟩
set_option maxHeartbeats 4000000 in
set_option maxRecDepth 100000 in
theorem x_11_look  (l : Launch) {D : va_G} {K : Nat → ClassId} (r : Nat → Nat) (f : Nat → Int32) (a : Nat → Nat → Int32) (g : xG) (tx tt : va_W) (hT : ∀ c ∈ tt, c ∈ tx) (hI : xI f a) (hG : gOK K g.2 tt) (x : Int32)    : kIG l yX11_look (Cond.code yX11_look cX11_look 2 (some .int) :: kG) (rmD 8 0 0) D K [.ref (r 0), .int x] (xX K r f a g tx) (fun v (u : xS) => kb (-2147483648) v 2147483647 ∧ xI u.1 u.2.1 ∧ gOK K u.2.2.2 tt ∧ xEk ([1888, 1894, 1900, 1905, 1906, 2565], [60, 61, 62, 63, 64, 65, 66, 67, 68, 69, 70, 71, 72, 77, 78, 79, 83, 85, 86], [73]) f a g u.1 u.2.1 u.2.2) (fun u => xX K r u.1 u.2.1 u.2.2 tx) 0 0 := by
  refine kIE.of (cc := cX11_look) (maxL := 2) (ret := (some .int)) (by decide) rfl (Nat.le_of_ble_eq_true rfl) ?_
  intro p e s m below meth c A hx hb hr hml hown hts hlocks hnm hK hP hD hS hA hV ls hl
  have hE : xEk ([1888, 1894, 1900, 1905, 1906, 2565], [60, 61, 62, 63, 64, 65, 66, 67, 68, 69, 70, 71, 72, 77, 78, 79, 83, 85, 86], [73]) f a g f a g := xEk_rf
  have hg : ∀ w ∈ kG, w.before _ s = true := fun w h => hts w (List.mem_cons_of_mem _ h)
  have hown : s.vm.findClass RX11 = some m.cls := hown
  have hl : lv_has ls 2 [(0, .ref (r 0)), (1, .int x)] := hl
  refine lv_iload_n hx hb dX11_look_0 rfl (lv_at hl 1 rfl) ?_
  refine lv_if_eq (tgt := 9) hx hb dX11_look_1 (by decide) (fun c1 => ?_) (fun c1 => ?_)
  · have b2 : kb 0 x 0 := kb_eq c1 kc_0
    refine lv_aload_n hx hb dX11_look_9 rfl (lv_at hl 0 rfl) ?_
    refine va_get (D := D) (ci := 11) (v := .ref (r 80)) (C := RX11) (T := TX11) (N := 17) hx hb hg inC11 hown hK hP 0 rfl rfl 6 (by decide) (hg _ wt2_192) (fun _ h9 => h9) rfl dX11_look_10 ?_
    refine lv_iload_n hx hb dX11_look_13 rfl (lv_at hl 1 rfl) ?_
    refine kIG.callW (As := [.int x]) (rest := []) ⟨hx, hb, hml, hown, hg⟩ (x_9_nextLook l r f a g tx tt hT hI hG x  ) (cwV 1 hg (kgV wt5_105 wt5_106 wt5_107 wt1_11 wt5_108) rfl rfl rfl (by decide +kernel) ⟨by decide, by decide⟩) hV hK hP hD hS hA (80) 9 rfl rfl rfl hl.1 rfl (Nat.le_of_ble_eq_true rfl) dX11_look_14 ⟨Nat.le_refl _, Nat.le_refl _⟩ (fun v4 u5 H locs hw3 hP hD hS => ?_)
    obtain ⟨f6, a7, g8⟩ := u5
    have hP : va_P D vwCl (xX K r f6 a7 g8 tx) H := hP
    have hD : va_D A (xX K r f6 a7 g8 tx) := hD
    have hI : xI f6 a7 := hw3.2.1
    have hG : gOK K g8.2 tt := hw3.2.2.1
    have eE9 : xEk ([1888, 1894, 1900, 1905, 1906, 2565], [60, 61, 62, 63, 64, 65, 66, 67, 68, 69, 70, 71, 72, 77, 78, 79, 83, 85, 86], [73]) f a g f6 a7 g8 := hw3.2.2.2
    have hE : xEk ([1888, 1894, 1900, 1905, 1906, 2565], [60, 61, 62, 63, 64, 65, 66, 67, 68, 69, 70, 71, 72, 77, 78, 79, 83, 85, 86], [73]) f a g f6 a7 g8 := xEk_tr hE eE9
    refine lv_goto (tgt := 21) hx hb dX11_look_17 (by decide) ?_
    exact kI_ret (v := v4) hx hb hr hlocks rfl hK hS dX11_look_21 (f6, a7, g8) hP hD ⟨(kb_any v4), hI, hG, hE⟩
  · refine lv_iload_n hx hb dX11_look_4 rfl (lv_at hl 1 rfl) ?_
    refine lv_iconst (v := 1) hx hb dX11_look_5 (by decide) ?_
    refine lv_icmp_ne (tgt := 20) hx hb dX11_look_6 (by decide) (fun c10 => ?_) (fun c10 => ?_)
    · refine lv_iconst (v := (-1)) hx hb dX11_look_20 (by decide) ?_
      exact kI_ret (v := (-1)) hx hb hr hlocks rfl hK hS dX11_look_21 (f, a, g) hP hD ⟨(kb_w kc_m1 (by decide) (by decide)), hI, hG, hE⟩
    · have b11 : kb 1 x 1 := kb_eq c10 kc_1
      refine lv_aload_n hx hb dX11_look_9 rfl (lv_at hl 0 rfl) ?_
      refine va_get (D := D) (ci := 11) (v := .ref (r 80)) (C := RX11) (T := TX11) (N := 17) hx hb hg inC11 hown hK hP 0 rfl rfl 6 (by decide) (hg _ wt2_192) (fun _ h9 => h9) rfl dX11_look_10 ?_
      refine lv_iload_n hx hb dX11_look_13 rfl (lv_at hl 1 rfl) ?_
      refine kIG.callW (As := [.int x]) (rest := []) ⟨hx, hb, hml, hown, hg⟩ (x_9_nextLook l r f a g tx tt hT hI hG x  ) (cwV 1 hg (kgV wt5_105 wt5_106 wt5_107 wt1_11 wt5_108) rfl rfl rfl (by decide +kernel) ⟨by decide, by decide⟩) hV hK hP hD hS hA (80) 9 rfl rfl rfl hl.1 rfl (Nat.le_of_ble_eq_true rfl) dX11_look_14 ⟨Nat.le_refl _, Nat.le_refl _⟩ (fun v13 u14 H locs hw12 hP hD hS => ?_)
      obtain ⟨f15, a16, g17⟩ := u14
      have hP : va_P D vwCl (xX K r f15 a16 g17 tx) H := hP
      have hD : va_D A (xX K r f15 a16 g17 tx) := hD
      have hI : xI f15 a16 := hw12.2.1
      have hG : gOK K g17.2 tt := hw12.2.2.1
      have eE18 : xEk ([1888, 1894, 1900, 1905, 1906, 2565], [60, 61, 62, 63, 64, 65, 66, 67, 68, 69, 70, 71, 72, 77, 78, 79, 83, 85, 86], [73]) f a g f15 a16 g17 := hw12.2.2.2
      have hE : xEk ([1888, 1894, 1900, 1905, 1906, 2565], [60, 61, 62, 63, 64, 65, 66, 67, 68, 69, 70, 71, 72, 77, 78, 79, 83, 85, 86], [73]) f a g f15 a16 g17 := xEk_tr hE eE18
      refine lv_goto (tgt := 21) hx hb dX11_look_17 (by decide) ?_
      exact kI_ret (v := v13) hx hb hr hlocks rfl hK hS dX11_look_21 (f15, a16, g17) hP hD ⟨(kb_any v13), hI, hG, hE⟩
set_option maxHeartbeats 4000000 in
set_option maxRecDepth 100000 in
theorem x_11_drawn  (l : Launch) {D : va_G} {K : Nat → ClassId} (r : Nat → Nat) (f : Nat → Int32) (a : Nat → Nat → Int32) (g : xG) (tx tt : va_W) (hT : ∀ c ∈ tt, c ∈ tx) (hI : xI f a) (hG : gOK K g.2 tt) (x : Int32) (y : Int32)    : kIG l yX11_drawn (Cond.code yX11_drawn cX11_drawn 3 (some .int) :: kG) (rmD 2 0 0) D K [.ref (r 0), .int x, .int y] (xX K r f a g tx) (fun v (_ : Unit) => kb (-2147483648) v 2147483647) (fun _ => xX K r f a g tx) 0 0 := by
  refine kIE.of (cc := cX11_drawn) (maxL := 3) (ret := (some .int)) (by decide) rfl (Nat.le_of_ble_eq_true rfl) ?_
  intro p e s m below meth c A hx hb hr hml hown hts hlocks hnm hK hP hD hS hA hV ls hl
  have hg : ∀ w ∈ kG, w.before _ s = true := fun w h => hts w (List.mem_cons_of_mem _ h)
  have hown : s.vm.findClass RX11 = some m.cls := hown
  have hl : lv_has ls 3 [(0, .ref (r 0)), (1, .int x), (2, .int y)] := hl
  refine lv_aload_n hx hb dX11_drawn_0 rfl (lv_at hl 0 rfl) ?_
  refine va_get (D := D) (ci := 11) (v := .ref (r 89)) (C := RX11) (T := TX11) (N := 17) hx hb hg inC11 hown hK hP 0 rfl rfl 8 (by decide) (hg _ wt2_194) (fun _ h9 => h9) rfl dX11_drawn_1 ?_
  refine lv_iload_n hx hb dX11_drawn_4 rfl (lv_at hl 1 rfl) ?_
  refine lv_iload_n hx hb dX11_drawn_5 rfl (lv_at hl 2 rfl) ?_
  refine kIG.callW (As := [.int x, .int y]) (rest := []) ⟨hx, hb, hml, hown, hg⟩ (x_1_endOf l r f a g tx tt hT hI hG x y  ) (cwV 2 hg (kgV wt5_133 wt5_134 wt5_135 wt1_13 wt5_136) rfl rfl rfl (by decide +kernel) ⟨by decide, by decide⟩) hV hK hP hD hS hA (89) 1 rfl rfl rfl hl.1 rfl (Nat.le_of_ble_eq_true rfl) dX11_drawn_6 ⟨Nat.le_refl _, Nat.le_refl _⟩ (fun v2 u3 H locs hw1 hP hD hS => ?_)
  have hP : va_P D vwCl (xX K r f a g tx) H := hP
  have hD : va_D A (xX K r f a g tx) := hD
  exact kI_ret (v := v2) hx hb hr hlocks rfl hK hS dX11_drawn_9 () hP hD (kb_any v2)
set_option maxHeartbeats 4000000 in
set_option maxRecDepth 100000 in
theorem x_11_end  (l : Launch) {D : va_G} {K : Nat → ClassId} (r : Nat → Nat) (f : Nat → Int32) (a : Nat → Nat → Int32) (g : xG) (tx tt : va_W) (hT : ∀ c ∈ tt, c ∈ tx) (hI : xI f a) (hG : gOK K g.2 tt) (x : Int32)    : kIG l yX11_end (Cond.code yX11_end cX11_end 2 (some .int) :: kG) (rmD 1 0 0) D K [.ref (r 0), .int x] (xX K r f a g tx) (fun v (u : xS) => kb (-2147483648) v 2147483647 ∧ xI u.1 u.2.1 ∧ gOK K u.2.2.2 tt ∧ xEk ([12], [], []) f a g u.1 u.2.1 u.2.2 ∧ v = (if mLies x 0 (f 12) = 0 then -1 else x) ∧ u.1 12 = (if mLies x 0 (f 12) = 0 then f 12 else x)) (fun u => xX K r u.1 u.2.1 u.2.2 tx) 0 0 := by
  refine kIE.of (cc := cX11_end) (maxL := 2) (ret := (some .int)) (by decide) rfl (Nat.le_of_ble_eq_true rfl) ?_
  intro p e s m below meth c A hx hb hr hml hown hts hlocks hnm hK hP hD hS hA hV ls hl
  have hE : xEk ([12], [], []) f a g f a g := xEk_rf
  have hg : ∀ w ∈ kG, w.before _ s = true := fun w h => hts w (List.mem_cons_of_mem _ h)
  have hown : s.vm.findClass RX11 = some m.cls := hown
  have hl : lv_has ls 2 [(0, .ref (r 0)), (1, .int x)] := hl
  obtain ⟨c12, ec12⟩ : ∃ z : Int32, z = f 12 := ⟨_, rfl⟩
  have b1 : kb 0 c12 400 := kb_eq ec12 (fI_at hI.1 12 (by decide) (by decide))
  refine lv_iload_n hx hb dX11_end_0 rfl (lv_at hl 1 rfl) ?_
  refine lv_if_lt (tgt := 12) hx hb dX11_end_1 (by decide) (fun c2 => ?_) (fun c2 => ?_)
  · have h3 := (kc_lt c2)
    have b4 : kb (-2147483648) x (-1) := kr_lt1 h3 (kb_any x) kc_0 (by decide)
    refine lv_iconst (v := (-1)) hx hb dX11_end_12 (by decide) ?_
    exact kI_ret (v := (-1)) hx hb hr hlocks rfl hK hS dX11_end_13 (f, a, g) hP hD ⟨(kb_w kc_m1 (by decide) (by decide)), hI, hG, hE, (by rw [if_pos (endx_0 (Or.inl c2))]), (by rw [if_pos (endx_0 (Or.inl c2))])⟩
  · have h5 := (kc_nlt c2)
    have b6 : kb 0 x 2147483647 := kr_le2 h5 kc_0 (kb_any x)
    refine lv_iload_n hx hb dX11_end_4 rfl (lv_at hl 1 rfl) ?_
    refine lv_aload_n hx hb dX11_end_5 rfl (lv_at hl 0 rfl) ?_
    refine va_get (D := D) (ci := 11) (v := .int (f 12)) (C := RX11) (T := TX11) (N := 17) hx hb hg inC11 hown hK hP 0 rfl rfl 12 (by decide) (hg _ wt2_198) (fun _ h9 => h9) rfl dX11_end_6 ?_
    refine k_top (z := c12) ec12.symm ?_
    refine lv_icmp_le (tgt := 14) hx hb dX11_end_9 (by decide) (fun c7 => ?_) (fun c7 => ?_)
    · have h8 := (kc_le c7)
      have b9 : kb 0 x 400 := kr_le1 h8 b6 b1
      refine lv_aload_n hx hb dX11_end_14 rfl (lv_at hl 0 rfl) ?_
      refine lv_iload_n hx hb dX11_end_15 rfl (lv_at hl 1 rfl) ?_
      refine va_put (D := D) (ci := 11) (v := .int x) (ty := .int) (C := RX11) (T := TX11) (N := 17) hx hb hg inC11 tyX11 tyX11_ok nmX11 hown hK hP hD hS 0 rfl rfl 12 (by decide) (hg _ wt2_198) (fun _ h9 => h9) rfl (by decide +kernel) rfl rfl (Nat.le_of_ble_eq_true rfl) dX11_end_16 (fun H locs hP hD hS => ?_)
      have hP : va_P D vwCl (xX K r (upd f 12 x) a g tx) H := hP
      have hD : va_D A (xX K r (upd f 12 x) a g tx) := hD
      refine k_gen (P := fun z => va_P D vwCl (xX K r z a g tx) H ∧ va_D A (xX K r z a g tx) ∧ (xI z a) ∧ (gOK K g.2 tt) ∧ (xEk ([12], [], []) f a g z a g)) (upd f 12 x) ⟨hP, hD, (xI_f hI (fI_st hI.1 12 b9 (by decide) (by decide))), hG, (xEk_f hE rfl)⟩ (fun f_10 ef_10 hq => ?_)
      obtain ⟨hP, hD, hI, hG, hE⟩ := hq
      refine lv_iload_n hx hb dX11_end_19 rfl (lv_at hl 1 rfl) ?_
      exact kI_ret (v := x) hx hb hr hlocks rfl hK hS dX11_end_20 (f_10, a, g) hP hD ⟨(kb_w b9 (by decide) (by decide)), hI, hG, hE, (by rw [if_neg (endx_1 c2 (ec12 ▸ c7))]), (by rw [if_neg (endx_1 c2 (ec12 ▸ c7))]; exact (show f_10 12 = x from by rw [← ef_10]; rfl))⟩
    · have h11 := (kc_nle c7)
      have b12 : kb 1 x 2147483647 := kr_lt2 h11 b1 b6 (by decide)
      refine lv_iconst (v := (-1)) hx hb dX11_end_12 (by decide) ?_
      exact kI_ret (v := (-1)) hx hb hr hlocks rfl hK hS dX11_end_13 (f, a, g) hP hD ⟨(kb_w kc_m1 (by decide) (by decide)), hI, hG, hE, (by rw [if_pos (endx_0 (Or.inr (by rw [← ec12]; exact Int32.not_le.mp c7)))]), (by rw [if_pos (endx_0 (Or.inr (by rw [← ec12]; exact Int32.not_le.mp c7)))])⟩
