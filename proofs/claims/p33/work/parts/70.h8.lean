theorem endx_0 {x y : Int32} (h : x < 0 ∨ y < x) : mLies x 0 y = 0 := by
  unfold mLies
  by_cases h0 : x < 0
  · rw [if_pos h0]
  · rcases h with h | h
    · exact absurd h h0
    · rw [if_neg h0, if_pos h]
theorem endx_1 {x y : Int32} (h0 : ¬ x < 0) (h1 : x ≤ y) : ¬ mLies x 0 y = 0 := by
  unfold mLies
  rw [if_neg h0, if_neg (by rw [Int32.lt_iff_toInt_lt]; rw [Int32.le_iff_toInt_le] at h1; omega)]
  decide +kernel
theorem dX7_addPart_0 : decode cX7_addPart 0 = .ok (.iload_n 2, 1) := by decide +kernel
theorem dX7_addPart_1 : decode cX7_addPart 1 = .ok (.iconst (-1), 1) := by decide +kernel
theorem dX7_addPart_2 : decode cX7_addPart 2 = .ok (.aload_n 0, 1) := by decide +kernel
theorem dX7_addPart_3 : decode cX7_addPart 3 = .ok (.getfield 9, 3) := by decide +kernel
theorem dX7_addPart_6 : decode cX7_addPart 6 = .ok (.ishl, 1) := by decide +kernel
theorem dX7_addPart_7 : decode cX7_addPart 7 = .ok (.iand, 1) := by decide +kernel
theorem dX7_addPart_8 : decode cX7_addPart 8 = .ok (.ifCond .ne 7, 3) := by decide +kernel
theorem dX7_addPart_11 : decode cX7_addPart 11 = .ok (.iconst 1, 1) := by decide +kernel
theorem dX7_addPart_12 : decode cX7_addPart 12 = .ok (.goto 4, 3) := by decide +kernel
theorem dX7_addPart_15 : decode cX7_addPart 15 = .ok (.iconst 0, 1) := by decide +kernel
theorem dX7_addPart_16 : decode cX7_addPart 16 = .ok (.istore 5, 2) := by decide +kernel
theorem dX7_addPart_18 : decode cX7_addPart 18 = .ok (.iload_n 1, 1) := by decide +kernel
theorem dX7_addPart_19 : decode cX7_addPart 19 = .ok (.iconst 1, 1) := by decide +kernel
theorem dX7_addPart_20 : decode cX7_addPart 20 = .ok (.if_icmp .lt 35, 3) := by decide +kernel
theorem dX7_addPart_23 : decode cX7_addPart 23 = .ok (.iload_n 1, 1) := by decide +kernel
theorem dX7_addPart_24 : decode cX7_addPart 24 = .ok (.bipush 99, 2) := by decide +kernel
theorem dX7_addPart_26 : decode cX7_addPart 26 = .ok (.if_icmp .gt 29, 3) := by decide +kernel
theorem dX7_addPart_29 : decode cX7_addPart 29 = .ok (.iload 5, 2) := by decide +kernel
theorem dX7_addPart_31 : decode cX7_addPart 31 = .ok (.ifCond .eq 24, 3) := by decide +kernel
theorem dX7_addPart_34 : decode cX7_addPart 34 = .ok (.iload_n 3, 1) := by decide +kernel
theorem dX7_addPart_35 : decode cX7_addPart 35 = .ok (.ifCond .lt 20, 3) := by decide +kernel
theorem dX7_addPart_38 : decode cX7_addPart 38 = .ok (.iload_n 3, 1) := by decide +kernel
theorem dX7_addPart_39 : decode cX7_addPart 39 = .ok (.iconst 4, 1) := by decide +kernel
theorem dX7_addPart_40 : decode cX7_addPart 40 = .ok (.if_icmp .ge 15, 3) := by decide +kernel
theorem dX7_addPart_43 : decode cX7_addPart 43 = .ok (.iload 4, 2) := by decide +kernel
theorem dX7_addPart_45 : decode cX7_addPart 45 = .ok (.ifCond .lt 10, 3) := by decide +kernel
theorem dX7_addPart_48 : decode cX7_addPart 48 = .ok (.iload 4, 2) := by decide +kernel
theorem dX7_addPart_50 : decode cX7_addPart 50 = .ok (.bipush 9, 2) := by decide +kernel
theorem dX7_addPart_52 : decode cX7_addPart 52 = .ok (.if_icmp .le 5, 3) := by decide +kernel
theorem dX7_addPart_55 : decode cX7_addPart 55 = .ok (.iconst (-1), 1) := by decide +kernel
theorem dX7_addPart_56 : decode cX7_addPart 56 = .ok (.ireturn, 1) := by decide +kernel
theorem dX7_addPart_57 : decode cX7_addPart 57 = .ok (.aload_n 0, 1) := by decide +kernel
theorem dX7_addPart_58 : decode cX7_addPart 58 = .ok (.getfield 9, 3) := by decide +kernel
theorem dX7_addPart_61 : decode cX7_addPart 61 = .ok (.ifCond .lt 12, 3) := by decide +kernel
theorem dX7_addPart_64 : decode cX7_addPart 64 = .ok (.aload_n 0, 1) := by decide +kernel
theorem dX7_addPart_65 : decode cX7_addPart 65 = .ok (.getfield 9, 3) := by decide +kernel
theorem dX7_addPart_68 : decode cX7_addPart 68 = .ok (.bipush 10, 2) := by decide +kernel
theorem dX7_addPart_70 : decode cX7_addPart 70 = .ok (.if_icmp .lt 6, 3) := by decide +kernel
theorem dX7_addPart_73 : decode cX7_addPart 73 = .ok (.bipush (-5), 2) := by decide +kernel
theorem dX7_addPart_75 : decode cX7_addPart 75 = .ok (.ireturn, 1) := by decide +kernel
theorem dX7_addPart_76 : decode cX7_addPart 76 = .ok (.aload_n 0, 1) := by decide +kernel
theorem dX7_addPart_77 : decode cX7_addPart 77 = .ok (.getfield 15, 3) := by decide +kernel
theorem dX7_addPart_80 : decode cX7_addPart 80 = .ok (.aload_n 0, 1) := by decide +kernel
theorem dX7_addPart_81 : decode cX7_addPart 81 = .ok (.getfield 9, 3) := by decide +kernel
theorem dX7_addPart_84 : decode cX7_addPart 84 = .ok (.iload_n 1, 1) := by decide +kernel
theorem dX7_addPart_85 : decode cX7_addPart 85 = .ok (.iastore, 1) := by decide +kernel
theorem dX7_addPart_86 : decode cX7_addPart 86 = .ok (.aload_n 0, 1) := by decide +kernel
theorem dX7_addPart_87 : decode cX7_addPart 87 = .ok (.getfield 19, 3) := by decide +kernel
theorem dX7_addPart_90 : decode cX7_addPart 90 = .ok (.aload_n 0, 1) := by decide +kernel
theorem dX7_addPart_91 : decode cX7_addPart 91 = .ok (.getfield 9, 3) := by decide +kernel
theorem dX7_addPart_94 : decode cX7_addPart 94 = .ok (.iload_n 2, 1) := by decide +kernel
theorem dX7_addPart_95 : decode cX7_addPart 95 = .ok (.iastore, 1) := by decide +kernel
theorem dX7_addPart_96 : decode cX7_addPart 96 = .ok (.aload_n 0, 1) := by decide +kernel
theorem dX7_addPart_97 : decode cX7_addPart 97 = .ok (.getfield 22, 3) := by decide +kernel
theorem dX7_addPart_100 : decode cX7_addPart 100 = .ok (.aload_n 0, 1) := by decide +kernel
theorem dX7_addPart_101 : decode cX7_addPart 101 = .ok (.getfield 9, 3) := by decide +kernel
theorem dX7_addPart_104 : decode cX7_addPart 104 = .ok (.iload_n 3, 1) := by decide +kernel
theorem dX7_addPart_105 : decode cX7_addPart 105 = .ok (.iastore, 1) := by decide +kernel
theorem dX7_addPart_106 : decode cX7_addPart 106 = .ok (.aload_n 0, 1) := by decide +kernel
theorem dX7_addPart_107 : decode cX7_addPart 107 = .ok (.getfield 25, 3) := by decide +kernel
theorem dX7_addPart_110 : decode cX7_addPart 110 = .ok (.aload_n 0, 1) := by decide +kernel
theorem dX7_addPart_111 : decode cX7_addPart 111 = .ok (.getfield 9, 3) := by decide +kernel
theorem dX7_addPart_114 : decode cX7_addPart 114 = .ok (.iload 4, 2) := by decide +kernel
theorem dX7_addPart_116 : decode cX7_addPart 116 = .ok (.iastore, 1) := by decide +kernel
theorem dX7_addPart_117 : decode cX7_addPart 117 = .ok (.aload_n 0, 1) := by decide +kernel
theorem dX7_addPart_118 : decode cX7_addPart 118 = .ok (.getfield 28, 3) := by decide +kernel
theorem dX7_addPart_121 : decode cX7_addPart 121 = .ok (.aload_n 0, 1) := by decide +kernel
theorem dX7_addPart_122 : decode cX7_addPart 122 = .ok (.getfield 9, 3) := by decide +kernel
theorem dX7_addPart_125 : decode cX7_addPart 125 = .ok (.iload_n 1, 1) := by decide +kernel
theorem dX7_addPart_126 : decode cX7_addPart 126 = .ok (.iastore, 1) := by decide +kernel
theorem dX7_addPart_127 : decode cX7_addPart 127 = .ok (.aload_n 0, 1) := by decide +kernel
theorem dX7_addPart_128 : decode cX7_addPart 128 = .ok (.dup, 1) := by decide +kernel
theorem dX7_addPart_129 : decode cX7_addPart 129 = .ok (.getfield 9, 3) := by decide +kernel
theorem dX7_addPart_132 : decode cX7_addPart 132 = .ok (.iconst 1, 1) := by decide +kernel
theorem dX7_addPart_133 : decode cX7_addPart 133 = .ok (.iadd, 1) := by decide +kernel
theorem dX7_addPart_134 : decode cX7_addPart 134 = .ok (.putfield 9, 3) := by decide +kernel
theorem dX7_addPart_137 : decode cX7_addPart 137 = .ok (.aload_n 0, 1) := by decide +kernel
theorem dX7_addPart_138 : decode cX7_addPart 138 = .ok (.getfield 9, 3) := by decide +kernel
theorem dX7_addPart_141 : decode cX7_addPart 141 = .ok (.iconst 1, 1) := by decide +kernel
theorem dX7_addPart_142 : decode cX7_addPart 142 = .ok (.isub, 1) := by decide +kernel
theorem dX7_addPart_143 : decode cX7_addPart 143 = .ok (.ireturn, 1) := by decide +kernel
theorem dX7_addBuilder_0 : decode cX7_addBuilder 0 = .ok (.iload_n 1, 1) := by decide +kernel
theorem dX7_addBuilder_1 : decode cX7_addBuilder 1 = .ok (.iconst 1, 1) := by decide +kernel
theorem dX7_addBuilder_2 : decode cX7_addBuilder 2 = .ok (.if_icmp .lt 20, 3) := by decide +kernel
theorem dX7_addBuilder_5 : decode cX7_addBuilder 5 = .ok (.iload_n 1, 1) := by decide +kernel
theorem dX7_addBuilder_6 : decode cX7_addBuilder 6 = .ok (.bipush 15, 2) := by decide +kernel
theorem dX7_addBuilder_8 : decode cX7_addBuilder 8 = .ok (.if_icmp .gt 14, 3) := by decide +kernel
theorem dX7_addBuilder_11 : decode cX7_addBuilder 11 = .ok (.iload_n 2, 1) := by decide +kernel
theorem dX7_addBuilder_12 : decode cX7_addBuilder 12 = .ok (.iconst 1, 1) := by decide +kernel
theorem dX7_addBuilder_13 : decode cX7_addBuilder 13 = .ok (.if_icmp .lt 9, 3) := by decide +kernel
theorem dX7_addBuilder_16 : decode cX7_addBuilder 16 = .ok (.iload_n 2, 1) := by decide +kernel
theorem dX7_addBuilder_17 : decode cX7_addBuilder 17 = .ok (.bipush 9, 2) := by decide +kernel
theorem dX7_addBuilder_19 : decode cX7_addBuilder 19 = .ok (.if_icmp .le 5, 3) := by decide +kernel
theorem dX7_addBuilder_22 : decode cX7_addBuilder 22 = .ok (.iconst (-1), 1) := by decide +kernel
theorem dX7_addBuilder_23 : decode cX7_addBuilder 23 = .ok (.ireturn, 1) := by decide +kernel
theorem dX7_addBuilder_24 : decode cX7_addBuilder 24 = .ok (.aload_n 0, 1) := by decide +kernel
theorem dX7_addBuilder_25 : decode cX7_addBuilder 25 = .ok (.getfield 31, 3) := by decide +kernel
theorem dX7_addBuilder_28 : decode cX7_addBuilder 28 = .ok (.ifCond .lt 12, 3) := by decide +kernel
theorem dX7_addBuilder_31 : decode cX7_addBuilder 31 = .ok (.aload_n 0, 1) := by decide +kernel
theorem dX7_addBuilder_32 : decode cX7_addBuilder 32 = .ok (.getfield 31, 3) := by decide +kernel
theorem dX7_addBuilder_35 : decode cX7_addBuilder 35 = .ok (.bipush 6, 2) := by decide +kernel
theorem dX7_addBuilder_37 : decode cX7_addBuilder 37 = .ok (.if_icmp .lt 6, 3) := by decide +kernel
theorem dX7_addBuilder_40 : decode cX7_addBuilder 40 = .ok (.bipush (-5), 2) := by decide +kernel
theorem dX7_addBuilder_42 : decode cX7_addBuilder 42 = .ok (.ireturn, 1) := by decide +kernel
theorem dX7_addBuilder_43 : decode cX7_addBuilder 43 = .ok (.aload_n 0, 1) := by decide +kernel
theorem dX7_addBuilder_44 : decode cX7_addBuilder 44 = .ok (.getfield 34, 3) := by decide +kernel
theorem dX7_addBuilder_47 : decode cX7_addBuilder 47 = .ok (.aload_n 0, 1) := by decide +kernel
theorem dX7_addBuilder_48 : decode cX7_addBuilder 48 = .ok (.getfield 31, 3) := by decide +kernel
theorem dX7_addBuilder_51 : decode cX7_addBuilder 51 = .ok (.iload_n 1, 1) := by decide +kernel
theorem dX7_addBuilder_52 : decode cX7_addBuilder 52 = .ok (.iastore, 1) := by decide +kernel
theorem dX7_addBuilder_53 : decode cX7_addBuilder 53 = .ok (.aload_n 0, 1) := by decide +kernel
theorem dX7_addBuilder_54 : decode cX7_addBuilder 54 = .ok (.getfield 37, 3) := by decide +kernel
theorem dX7_addBuilder_57 : decode cX7_addBuilder 57 = .ok (.aload_n 0, 1) := by decide +kernel
theorem dX7_addBuilder_58 : decode cX7_addBuilder 58 = .ok (.getfield 31, 3) := by decide +kernel
theorem dX7_addBuilder_61 : decode cX7_addBuilder 61 = .ok (.iload_n 2, 1) := by decide +kernel
theorem dX7_addBuilder_62 : decode cX7_addBuilder 62 = .ok (.iastore, 1) := by decide +kernel
theorem dX7_addBuilder_63 : decode cX7_addBuilder 63 = .ok (.aload_n 0, 1) := by decide +kernel
theorem dX7_addBuilder_64 : decode cX7_addBuilder 64 = .ok (.getfield 40, 3) := by decide +kernel
theorem dX7_addBuilder_67 : decode cX7_addBuilder 67 = .ok (.aload_n 0, 1) := by decide +kernel
theorem dX7_addBuilder_68 : decode cX7_addBuilder 68 = .ok (.getfield 31, 3) := by decide +kernel
theorem dX7_addBuilder_71 : decode cX7_addBuilder 71 = .ok (.iconst 0, 1) := by decide +kernel
theorem dX7_addBuilder_72 : decode cX7_addBuilder 72 = .ok (.iastore, 1) := by decide +kernel
theorem dX7_addBuilder_73 : decode cX7_addBuilder 73 = .ok (.aload_n 0, 1) := by decide +kernel
theorem dX7_addBuilder_74 : decode cX7_addBuilder 74 = .ok (.getfield 43, 3) := by decide +kernel
theorem dX7_addBuilder_77 : decode cX7_addBuilder 77 = .ok (.aload_n 0, 1) := by decide +kernel
theorem dX7_addBuilder_78 : decode cX7_addBuilder 78 = .ok (.getfield 31, 3) := by decide +kernel
theorem dX7_addBuilder_81 : decode cX7_addBuilder 81 = .ok (.iconst (-1), 1) := by decide +kernel
theorem dX7_addBuilder_82 : decode cX7_addBuilder 82 = .ok (.iastore, 1) := by decide +kernel
theorem dX7_addBuilder_83 : decode cX7_addBuilder 83 = .ok (.aload_n 0, 1) := by decide +kernel
theorem dX7_addBuilder_84 : decode cX7_addBuilder 84 = .ok (.dup, 1) := by decide +kernel
theorem dX7_addBuilder_85 : decode cX7_addBuilder 85 = .ok (.getfield 31, 3) := by decide +kernel
theorem dX7_addBuilder_88 : decode cX7_addBuilder 88 = .ok (.iconst 1, 1) := by decide +kernel
theorem dX7_addBuilder_89 : decode cX7_addBuilder 89 = .ok (.iadd, 1) := by decide +kernel
theorem dX7_addBuilder_90 : decode cX7_addBuilder 90 = .ok (.putfield 31, 3) := by decide +kernel
theorem dX7_addBuilder_93 : decode cX7_addBuilder 93 = .ok (.aload_n 0, 1) := by decide +kernel
theorem dX7_addBuilder_94 : decode cX7_addBuilder 94 = .ok (.getfield 31, 3) := by decide +kernel
theorem dX7_addBuilder_97 : decode cX7_addBuilder 97 = .ok (.iconst 1, 1) := by decide +kernel
theorem dX7_addBuilder_98 : decode cX7_addBuilder 98 = .ok (.isub, 1) := by decide +kernel
theorem dX7_addBuilder_99 : decode cX7_addBuilder 99 = .ok (.ireturn, 1) := by decide +kernel
theorem dX11_part_0 : decode cX11_part 0 = .ok (.aload_n 0, 1) := by decide +kernel
theorem dX11_part_1 : decode cX11_part 1 = .ok (.getfield 10, 3) := by decide +kernel
theorem dX11_part_4 : decode cX11_part 4 = .ok (.iload_n 1, 1) := by decide +kernel
theorem dX11_part_5 : decode cX11_part 5 = .ok (.iload_n 2, 1) := by decide +kernel
theorem dX11_part_6 : decode cX11_part 6 = .ok (.iload_n 3, 1) := by decide +kernel
theorem dX11_part_7 : decode cX11_part 7 = .ok (.iload 4, 2) := by decide +kernel
theorem dX11_part_9 : decode cX11_part 9 = .ok (.invokevirtual 110, 3) := by decide +kernel
theorem dX11_part_12 : decode cX11_part 12 = .ok (.istore 5, 2) := by decide +kernel
theorem dX11_part_14 : decode cX11_part 14 = .ok (.iload 5, 2) := by decide +kernel
theorem dX11_part_16 : decode cX11_part 16 = .ok (.ifCond .ge 10, 3) := by decide +kernel
theorem dX11_part_19 : decode cX11_part 19 = .ok (.aload_n 0, 1) := by decide +kernel
theorem dX11_part_20 : decode cX11_part 20 = .ok (.iload 5, 2) := by decide +kernel
theorem dX11_part_22 : decode cX11_part 22 = .ok (.invokevirtual 114, 3) := by decide +kernel
theorem dX11_part_25 : decode cX11_part 25 = .ok (.ireturn, 1) := by decide +kernel
theorem dX11_part_26 : decode cX11_part 26 = .ok (.aload_n 0, 1) := by decide +kernel
theorem dX11_part_27 : decode cX11_part 27 = .ok (.getfield 19, 3) := by decide +kernel
theorem dX11_part_30 : decode cX11_part 30 = .ok (.invokevirtual 118, 3) := by decide +kernel
theorem dX11_part_33 : decode cX11_part 33 = .ok (.aload_n 0, 1) := by decide +kernel
theorem dX11_part_34 : decode cX11_part 34 = .ok (.iload 5, 2) := by decide +kernel
theorem dX11_part_36 : decode cX11_part 36 = .ok (.invokevirtual 121, 3) := by decide +kernel
theorem dX11_part_39 : decode cX11_part 39 = .ok (.ireturn, 1) := by decide +kernel
theorem dX11_of_0 : decode cX11_of 0 = .ok (.aload_n 0, 1) := by decide +kernel
theorem dX11_of_1 : decode cX11_of 1 = .ok (.getfield 10, 3) := by decide +kernel
theorem dX11_of_4 : decode cX11_of 4 = .ok (.iload_n 1, 1) := by decide +kernel
theorem dX11_of_5 : decode cX11_of 5 = .ok (.invokevirtual 124, 3) := by decide +kernel
theorem dX11_of_8 : decode cX11_of 8 = .ok (.ifCond .ne 5, 3) := by decide +kernel
theorem dX11_of_11 : decode cX11_of 11 = .ok (.iconst (-1), 1) := by decide +kernel
theorem dX11_of_12 : decode cX11_of 12 = .ok (.ireturn, 1) := by decide +kernel
theorem dX11_of_13 : decode cX11_of 13 = .ok (.iload_n 2, 1) := by decide +kernel
theorem dX11_of_14 : decode cX11_of 14 = .ok (.tableswitch 125 0 6 #[42, 52, 62, 72, 82, 92, 104], 42) := by decide +kernel
theorem dX11_of_56 : decode cX11_of 56 = .ok (.aload_n 0, 1) := by decide +kernel
theorem dX11_of_57 : decode cX11_of 57 = .ok (.getfield 10, 3) := by decide +kernel
theorem dX11_of_60 : decode cX11_of 60 = .ok (.getfield 128, 3) := by decide +kernel
theorem dX11_of_63 : decode cX11_of 63 = .ok (.iload_n 1, 1) := by decide +kernel
theorem dX11_of_64 : decode cX11_of 64 = .ok (.iaload, 1) := by decide +kernel
theorem dX11_of_65 : decode cX11_of 65 = .ok (.ireturn, 1) := by decide +kernel
theorem dX11_of_66 : decode cX11_of 66 = .ok (.aload_n 0, 1) := by decide +kernel
theorem dX11_of_67 : decode cX11_of 67 = .ok (.getfield 10, 3) := by decide +kernel
theorem dX11_of_70 : decode cX11_of 70 = .ok (.getfield 131, 3) := by decide +kernel
theorem dX11_of_73 : decode cX11_of 73 = .ok (.iload_n 1, 1) := by decide +kernel
theorem dX11_of_74 : decode cX11_of 74 = .ok (.iaload, 1) := by decide +kernel
theorem dX11_of_75 : decode cX11_of 75 = .ok (.ireturn, 1) := by decide +kernel
theorem dX11_of_76 : decode cX11_of 76 = .ok (.aload_n 0, 1) := by decide +kernel
theorem dX11_of_77 : decode cX11_of 77 = .ok (.getfield 10, 3) := by decide +kernel
theorem dX11_of_80 : decode cX11_of 80 = .ok (.getfield 134, 3) := by decide +kernel
theorem dX11_of_83 : decode cX11_of 83 = .ok (.iload_n 1, 1) := by decide +kernel
theorem dX11_of_84 : decode cX11_of 84 = .ok (.iaload, 1) := by decide +kernel
theorem dX11_of_85 : decode cX11_of 85 = .ok (.ireturn, 1) := by decide +kernel
theorem dX11_of_86 : decode cX11_of 86 = .ok (.aload_n 0, 1) := by decide +kernel
theorem dX11_of_87 : decode cX11_of 87 = .ok (.getfield 10, 3) := by decide +kernel
theorem dX11_of_90 : decode cX11_of 90 = .ok (.getfield 137, 3) := by decide +kernel
theorem dX11_of_93 : decode cX11_of 93 = .ok (.iload_n 1, 1) := by decide +kernel
theorem dX11_of_94 : decode cX11_of 94 = .ok (.iaload, 1) := by decide +kernel
theorem dX11_of_95 : decode cX11_of 95 = .ok (.ireturn, 1) := by decide +kernel
theorem dX11_of_96 : decode cX11_of 96 = .ok (.aload_n 0, 1) := by decide +kernel
theorem dX11_of_97 : decode cX11_of 97 = .ok (.getfield 10, 3) := by decide +kernel
theorem dX11_of_100 : decode cX11_of 100 = .ok (.getfield 140, 3) := by decide +kernel
theorem dX11_of_103 : decode cX11_of 103 = .ok (.iload_n 1, 1) := by decide +kernel
theorem dX11_of_104 : decode cX11_of 104 = .ok (.iaload, 1) := by decide +kernel
theorem dX11_of_105 : decode cX11_of 105 = .ok (.ireturn, 1) := by decide +kernel
theorem dX11_of_106 : decode cX11_of 106 = .ok (.aload_n 0, 1) := by decide +kernel
theorem dX11_of_107 : decode cX11_of 107 = .ok (.getfield 10, 3) := by decide +kernel
theorem dX11_of_110 : decode cX11_of 110 = .ok (.invokevirtual 143, 3) := by decide +kernel
theorem dX11_of_113 : decode cX11_of 113 = .ok (.iload_n 1, 1) := by decide +kernel
theorem dX11_of_114 : decode cX11_of 114 = .ok (.ishr, 1) := by decide +kernel
theorem dX11_of_115 : decode cX11_of 115 = .ok (.iconst 1, 1) := by decide +kernel
theorem dX11_of_116 : decode cX11_of 116 = .ok (.iand, 1) := by decide +kernel
theorem dX11_of_117 : decode cX11_of 117 = .ok (.ireturn, 1) := by decide +kernel
theorem dX11_of_118 : decode cX11_of 118 = .ok (.aload_n 0, 1) := by decide +kernel
theorem dX11_of_119 : decode cX11_of 119 = .ok (.getfield 10, 3) := by decide +kernel
theorem dX11_of_122 : decode cX11_of 122 = .ok (.invokevirtual 147, 3) := by decide +kernel
theorem dX11_of_125 : decode cX11_of 125 = .ok (.pop, 1) := by decide +kernel
theorem dX11_of_126 : decode cX11_of 126 = .ok (.aload_n 0, 1) := by decide +kernel
theorem dX11_of_127 : decode cX11_of 127 = .ok (.getfield 10, 3) := by decide +kernel
theorem dX11_of_130 : decode cX11_of 130 = .ok (.getfield 150, 3) := by decide +kernel
theorem dX11_of_133 : decode cX11_of 133 = .ok (.getfield 154, 3) := by decide +kernel
theorem dX11_of_136 : decode cX11_of 136 = .ok (.iload_n 1, 1) := by decide +kernel
theorem dX11_of_137 : decode cX11_of 137 = .ok (.iaload, 1) := by decide +kernel
theorem dX11_of_138 : decode cX11_of 138 = .ok (.ireturn, 1) := by decide +kernel
theorem dX11_of_139 : decode cX11_of 139 = .ok (.iconst (-1), 1) := by decide +kernel
theorem dX11_of_140 : decode cX11_of 140 = .ok (.ireturn, 1) := by decide +kernel
theorem dX11_builder_0 : decode cX11_builder 0 = .ok (.aload_n 0, 1) := by decide +kernel
theorem dX11_builder_1 : decode cX11_builder 1 = .ok (.getfield 10, 3) := by decide +kernel
theorem dX11_builder_4 : decode cX11_builder 4 = .ok (.iload_n 1, 1) := by decide +kernel
theorem dX11_builder_5 : decode cX11_builder 5 = .ok (.iload_n 2, 1) := by decide +kernel
theorem dX11_builder_6 : decode cX11_builder 6 = .ok (.invokevirtual 159, 3) := by decide +kernel
theorem dX11_builder_9 : decode cX11_builder 9 = .ok (.istore_n 3, 1) := by decide +kernel
theorem dX11_builder_10 : decode cX11_builder 10 = .ok (.iload_n 3, 1) := by decide +kernel
theorem dX11_builder_11 : decode cX11_builder 11 = .ok (.ifCond .ge 9, 3) := by decide +kernel
theorem dX11_builder_14 : decode cX11_builder 14 = .ok (.aload_n 0, 1) := by decide +kernel
theorem dX11_builder_15 : decode cX11_builder 15 = .ok (.iload_n 3, 1) := by decide +kernel
theorem dX11_builder_16 : decode cX11_builder 16 = .ok (.invokevirtual 114, 3) := by decide +kernel
theorem dX11_builder_19 : decode cX11_builder 19 = .ok (.ireturn, 1) := by decide +kernel
theorem dX11_builder_20 : decode cX11_builder 20 = .ok (.aload_n 0, 1) := by decide +kernel
theorem dX11_builder_21 : decode cX11_builder 21 = .ok (.getfield 19, 3) := by decide +kernel
theorem dX11_builder_24 : decode cX11_builder 24 = .ok (.invokevirtual 118, 3) := by decide +kernel
theorem dX11_builder_27 : decode cX11_builder 27 = .ok (.aload_n 0, 1) := by decide +kernel
theorem dX11_builder_28 : decode cX11_builder 28 = .ok (.iload_n 3, 1) := by decide +kernel
theorem dX11_builder_29 : decode cX11_builder 29 = .ok (.invokevirtual 121, 3) := by decide +kernel
theorem dX11_builder_32 : decode cX11_builder 32 = .ok (.ireturn, 1) := by decide +kernel
theorem dX11_at_0 : decode cX11_at 0 = .ok (.aload_n 0, 1) := by decide +kernel
theorem dX11_at_1 : decode cX11_at 1 = .ok (.getfield 10, 3) := by decide +kernel
theorem dX11_at_4 : decode cX11_at 4 = .ok (.iload_n 1, 1) := by decide +kernel
theorem dX11_at_5 : decode cX11_at 5 = .ok (.invokevirtual 163, 3) := by decide +kernel
theorem dX11_at_8 : decode cX11_at 8 = .ok (.ifCond .ne 5, 3) := by decide +kernel
theorem dX11_at_11 : decode cX11_at 11 = .ok (.iconst (-1), 1) := by decide +kernel
theorem dX11_at_12 : decode cX11_at 12 = .ok (.ireturn, 1) := by decide +kernel
theorem dX11_at_13 : decode cX11_at 13 = .ok (.iload_n 2, 1) := by decide +kernel
theorem dX11_at_14 : decode cX11_at 14 = .ok (.tableswitch 70 0 3 #[30, 40, 50, 60], 30) := by decide +kernel
theorem dX11_at_44 : decode cX11_at 44 = .ok (.aload_n 0, 1) := by decide +kernel
theorem dX11_at_45 : decode cX11_at 45 = .ok (.getfield 10, 3) := by decide +kernel
theorem dX11_at_48 : decode cX11_at 48 = .ok (.getfield 166, 3) := by decide +kernel
theorem dX11_at_51 : decode cX11_at 51 = .ok (.iload_n 1, 1) := by decide +kernel
theorem dX11_at_52 : decode cX11_at 52 = .ok (.iaload, 1) := by decide +kernel
theorem dX11_at_53 : decode cX11_at 53 = .ok (.ireturn, 1) := by decide +kernel
theorem dX11_at_54 : decode cX11_at 54 = .ok (.aload_n 0, 1) := by decide +kernel
theorem dX11_at_55 : decode cX11_at 55 = .ok (.getfield 10, 3) := by decide +kernel
theorem dX11_at_58 : decode cX11_at 58 = .ok (.getfield 169, 3) := by decide +kernel
theorem dX11_at_61 : decode cX11_at 61 = .ok (.iload_n 1, 1) := by decide +kernel
theorem dX11_at_62 : decode cX11_at 62 = .ok (.iaload, 1) := by decide +kernel
theorem dX11_at_63 : decode cX11_at 63 = .ok (.ireturn, 1) := by decide +kernel
theorem dX11_at_64 : decode cX11_at 64 = .ok (.aload_n 0, 1) := by decide +kernel
theorem dX11_at_65 : decode cX11_at 65 = .ok (.getfield 10, 3) := by decide +kernel
theorem dX11_at_68 : decode cX11_at 68 = .ok (.getfield 172, 3) := by decide +kernel
theorem dX11_at_71 : decode cX11_at 71 = .ok (.iload_n 1, 1) := by decide +kernel
theorem dX11_at_72 : decode cX11_at 72 = .ok (.iaload, 1) := by decide +kernel
theorem dX11_at_73 : decode cX11_at 73 = .ok (.ireturn, 1) := by decide +kernel
theorem dX11_at_74 : decode cX11_at 74 = .ok (.aload_n 0, 1) := by decide +kernel
theorem dX11_at_75 : decode cX11_at 75 = .ok (.getfield 10, 3) := by decide +kernel
theorem dX11_at_78 : decode cX11_at 78 = .ok (.getfield 175, 3) := by decide +kernel
theorem dX11_at_81 : decode cX11_at 81 = .ok (.iload_n 1, 1) := by decide +kernel
theorem dX11_at_82 : decode cX11_at 82 = .ok (.iaload, 1) := by decide +kernel
theorem dX11_at_83 : decode cX11_at 83 = .ok (.ireturn, 1) := by decide +kernel
theorem dX11_at_84 : decode cX11_at 84 = .ok (.iconst (-1), 1) := by decide +kernel
theorem dX11_at_85 : decode cX11_at 85 = .ok (.ireturn, 1) := by decide +kernel
theorem dX11_asks_0 : decode cX11_asks 0 = .ok (.aload_n 0, 1) := by decide +kernel
theorem dX11_asks_1 : decode cX11_asks 1 = .ok (.getfield 10, 3) := by decide +kernel
theorem dX11_asks_4 : decode cX11_asks 4 = .ok (.iload_n 1, 1) := by decide +kernel
theorem dX11_asks_5 : decode cX11_asks 5 = .ok (.invokevirtual 163, 3) := by decide +kernel
theorem dX11_asks_8 : decode cX11_asks 8 = .ok (.ifCond .eq 26, 3) := by decide +kernel
theorem dX11_asks_11 : decode cX11_asks 11 = .ok (.aload_n 0, 1) := by decide +kernel
theorem dX11_asks_12 : decode cX11_asks 12 = .ok (.getfield 10, 3) := by decide +kernel
theorem dX11_asks_15 : decode cX11_asks 15 = .ok (.iload_n 2, 1) := by decide +kernel
theorem dX11_asks_16 : decode cX11_asks 16 = .ok (.invokevirtual 124, 3) := by decide +kernel
theorem dX11_asks_19 : decode cX11_asks 19 = .ok (.ifCond .eq 15, 3) := by decide +kernel
theorem dX11_asks_22 : decode cX11_asks 22 = .ok (.iload_n 3, 1) := by decide +kernel
theorem dX11_asks_23 : decode cX11_asks 23 = .ok (.ifCond .lt 11, 3) := by decide +kernel
theorem dX11_asks_26 : decode cX11_asks 26 = .ok (.iload_n 3, 1) := by decide +kernel
theorem dX11_asks_27 : decode cX11_asks 27 = .ok (.getstatic 178, 3) := by decide +kernel
theorem dX11_asks_30 : decode cX11_asks 30 = .ok (.arraylength, 1) := by decide +kernel
theorem dX11_asks_31 : decode cX11_asks 31 = .ok (.if_icmp .lt 5, 3) := by decide +kernel
theorem dX11_asks_34 : decode cX11_asks 34 = .ok (.iconst (-1), 1) := by decide +kernel
theorem dX11_asks_35 : decode cX11_asks 35 = .ok (.ireturn, 1) := by decide +kernel
theorem dX11_asks_36 : decode cX11_asks 36 = .ok (.aload_n 0, 1) := by decide +kernel
theorem dX11_asks_37 : decode cX11_asks 37 = .ok (.getfield 10, 3) := by decide +kernel
theorem dX11_asks_40 : decode cX11_asks 40 = .ok (.iload_n 3, 1) := by decide +kernel
theorem dX11_asks_41 : decode cX11_asks 41 = .ok (.iload_n 1, 1) := by decide +kernel
theorem dX11_asks_42 : decode cX11_asks 42 = .ok (.iload_n 2, 1) := by decide +kernel
theorem dX11_asks_43 : decode cX11_asks 43 = .ok (.invokevirtual 181, 3) := by decide +kernel
theorem dX11_asks_46 : decode cX11_asks 46 = .ok (.ireturn, 1) := by decide +kernel
theorem dX11_terms_0 : decode cX11_terms 0 = .ok (.iload_n 1, 1) := by decide +kernel
theorem dX11_terms_1 : decode cX11_terms 1 = .ok (.ifCond .lt 26, 3) := by decide +kernel
theorem dX11_terms_4 : decode cX11_terms 4 = .ok (.iload_n 1, 1) := by decide +kernel
theorem dX11_terms_5 : decode cX11_terms 5 = .ok (.iconst 4, 1) := by decide +kernel
theorem dX11_terms_6 : decode cX11_terms 6 = .ok (.if_icmp .ge 21, 3) := by decide +kernel
theorem dX11_terms_9 : decode cX11_terms 9 = .ok (.iload_n 2, 1) := by decide +kernel
theorem dX11_terms_10 : decode cX11_terms 10 = .ok (.getstatic 185, 3) := by decide +kernel
theorem dX11_terms_13 : decode cX11_terms 13 = .ok (.iload_n 1, 1) := by decide +kernel
theorem dX11_terms_14 : decode cX11_terms 14 = .ok (.iaload, 1) := by decide +kernel
theorem dX11_terms_15 : decode cX11_terms 15 = .ok (.if_icmp .lt 12, 3) := by decide +kernel
theorem dX11_terms_18 : decode cX11_terms 18 = .ok (.iload_n 2, 1) := by decide +kernel
theorem dX11_terms_19 : decode cX11_terms 19 = .ok (.getstatic 188, 3) := by decide +kernel
theorem dX11_terms_22 : decode cX11_terms 22 = .ok (.iload_n 1, 1) := by decide +kernel
theorem dX11_terms_23 : decode cX11_terms 23 = .ok (.iaload, 1) := by decide +kernel
theorem dX11_terms_24 : decode cX11_terms 24 = .ok (.if_icmp .le 9, 3) := by decide +kernel
theorem dX11_terms_27 : decode cX11_terms 27 = .ok (.aload_n 0, 1) := by decide +kernel
theorem dX11_terms_28 : decode cX11_terms 28 = .ok (.iconst (-1), 1) := by decide +kernel
theorem dX11_terms_29 : decode cX11_terms 29 = .ok (.invokevirtual 114, 3) := by decide +kernel
theorem dX11_terms_32 : decode cX11_terms 32 = .ok (.ireturn, 1) := by decide +kernel
theorem dX11_terms_33 : decode cX11_terms 33 = .ok (.aload_n 0, 1) := by decide +kernel
theorem dX11_terms_34 : decode cX11_terms 34 = .ok (.getfield 10, 3) := by decide +kernel
theorem dX11_terms_37 : decode cX11_terms 37 = .ok (.getfield 191, 3) := by decide +kernel
theorem dX11_terms_40 : decode cX11_terms 40 = .ok (.iload_n 1, 1) := by decide +kernel
theorem dX11_terms_41 : decode cX11_terms 41 = .ok (.iaload, 1) := by decide +kernel
theorem dX11_terms_42 : decode cX11_terms 42 = .ok (.istore_n 3, 1) := by decide +kernel
theorem dX11_terms_43 : decode cX11_terms 43 = .ok (.aload_n 0, 1) := by decide +kernel
theorem dX11_terms_44 : decode cX11_terms 44 = .ok (.getfield 10, 3) := by decide +kernel
theorem dX11_terms_47 : decode cX11_terms 47 = .ok (.getfield 191, 3) := by decide +kernel
theorem dX11_terms_50 : decode cX11_terms 50 = .ok (.iload_n 1, 1) := by decide +kernel
theorem dX11_terms_51 : decode cX11_terms 51 = .ok (.iload_n 2, 1) := by decide +kernel
theorem dX11_terms_52 : decode cX11_terms 52 = .ok (.iastore, 1) := by decide +kernel
theorem dX11_terms_53 : decode cX11_terms 53 = .ok (.aload_n 0, 1) := by decide +kernel
theorem dX11_terms_54 : decode cX11_terms 54 = .ok (.getfield 19, 3) := by decide +kernel
theorem dX11_terms_57 : decode cX11_terms 57 = .ok (.invokevirtual 118, 3) := by decide +kernel
theorem dX11_terms_60 : decode cX11_terms 60 = .ok (.aload_n 0, 1) := by decide +kernel
theorem dX11_terms_61 : decode cX11_terms 61 = .ok (.iload_n 3, 1) := by decide +kernel
theorem dX11_terms_62 : decode cX11_terms 62 = .ok (.invokevirtual 121, 3) := by decide +kernel
theorem dX11_terms_65 : decode cX11_terms 65 = .ok (.ireturn, 1) := by decide +kernel
theorem dX11_end_0 : decode cX11_end 0 = .ok (.iload_n 1, 1) := by decide +kernel
theorem dX11_end_1 : decode cX11_end 1 = .ok (.ifCond .lt 11, 3) := by decide +kernel
theorem dX11_end_4 : decode cX11_end 4 = .ok (.iload_n 1, 1) := by decide +kernel
theorem dX11_end_5 : decode cX11_end 5 = .ok (.aload_n 0, 1) := by decide +kernel
theorem dX11_end_6 : decode cX11_end 6 = .ok (.getfield 94, 3) := by decide +kernel
theorem dX11_end_9 : decode cX11_end 9 = .ok (.if_icmp .le 5, 3) := by decide +kernel
theorem dX11_end_12 : decode cX11_end 12 = .ok (.iconst (-1), 1) := by decide +kernel
theorem dX11_end_13 : decode cX11_end 13 = .ok (.ireturn, 1) := by decide +kernel
theorem dX11_end_14 : decode cX11_end 14 = .ok (.aload_n 0, 1) := by decide +kernel
theorem dX11_end_15 : decode cX11_end 15 = .ok (.iload_n 1, 1) := by decide +kernel
theorem dX11_end_16 : decode cX11_end 16 = .ok (.putfield 94, 3) := by decide +kernel
theorem dX11_end_19 : decode cX11_end 19 = .ok (.iload_n 1, 1) := by decide +kernel
theorem dX11_end_20 : decode cX11_end 20 = .ok (.ireturn, 1) := by decide +kernel
theorem dX11_chaff_0 : decode cX11_chaff 0 = .ok (.aload_n 0, 1) := by decide +kernel
theorem dX11_chaff_1 : decode cX11_chaff 1 = .ok (.getfield 101, 3) := by decide +kernel
theorem dX11_chaff_4 : decode cX11_chaff 4 = .ok (.ireturn, 1) := by decide +kernel
theorem dX11_fault_0 : decode cX11_fault 0 = .ok (.aload_n 0, 1) := by decide +kernel
theorem dX11_fault_1 : decode cX11_fault 1 = .ok (.getfield 98, 3) := by decide +kernel
theorem dX11_fault_4 : decode cX11_fault 4 = .ok (.ireturn, 1) := by decide +kernel
theorem dX11_stopped_0 : decode cX11_stopped 0 = .ok (.aload_n 0, 1) := by decide +kernel
theorem dX11_stopped_1 : decode cX11_stopped 1 = .ok (.getfield 104, 3) := by decide +kernel
theorem dX11_stopped_4 : decode cX11_stopped 4 = .ok (.ireturn, 1) := by decide +kernel
theorem dX11_force_0 : decode cX11_force 0 = .ok (.iload_n 1, 1) := by decide +kernel
theorem dX11_force_1 : decode cX11_force 1 = .ok (.iconst (-1), 1) := by decide +kernel
theorem dX11_force_2 : decode cX11_force 2 = .ok (.if_icmp .eq 25, 3) := by decide +kernel
theorem dX11_force_5 : decode cX11_force 5 = .ok (.iload_n 1, 1) := by decide +kernel
theorem dX11_force_6 : decode cX11_force 6 = .ok (.ifCond .lt 14, 3) := by decide +kernel
theorem dX11_force_9 : decode cX11_force 9 = .ok (.iload_n 1, 1) := by decide +kernel
theorem dX11_force_10 : decode cX11_force 10 = .ok (.aload_n 0, 1) := by decide +kernel
theorem dX11_force_11 : decode cX11_force 11 = .ok (.getfield 10, 3) := by decide +kernel
theorem dX11_force_14 : decode cX11_force 14 = .ok (.getfield 204, 3) := by decide +kernel
theorem dX11_force_17 : decode cX11_force 17 = .ok (.if_icmp .lt 10, 3) := by decide +kernel
theorem dX11_force_20 : decode cX11_force 20 = .ok (.aload_n 0, 1) := by decide +kernel
theorem dX11_force_21 : decode cX11_force 21 = .ok (.bipush (-2), 2) := by decide +kernel
theorem dX11_force_23 : decode cX11_force 23 = .ok (.invokevirtual 114, 3) := by decide +kernel
theorem dX11_force_26 : decode cX11_force 26 = .ok (.ireturn, 1) := by decide +kernel
theorem dX11_force_27 : decode cX11_force 27 = .ok (.aload_n 0, 1) := by decide +kernel
theorem dX11_force_28 : decode cX11_force 28 = .ok (.getfield 10, 3) := by decide +kernel
theorem dX11_force_31 : decode cX11_force 31 = .ok (.getfield 235, 3) := by decide +kernel
theorem dX11_force_34 : decode cX11_force 34 = .ok (.istore_n 2, 1) := by decide +kernel
theorem dX11_force_35 : decode cX11_force 35 = .ok (.aload_n 0, 1) := by decide +kernel
theorem dX11_force_36 : decode cX11_force 36 = .ok (.getfield 10, 3) := by decide +kernel
theorem dX11_force_39 : decode cX11_force 39 = .ok (.iload_n 1, 1) := by decide +kernel
theorem dX11_force_40 : decode cX11_force 40 = .ok (.putfield 235, 3) := by decide +kernel
theorem dX11_force_43 : decode cX11_force 43 = .ok (.aload_n 0, 1) := by decide +kernel
theorem dX11_force_44 : decode cX11_force 44 = .ok (.iload_n 2, 1) := by decide +kernel
theorem dX11_force_45 : decode cX11_force 45 = .ok (.invokevirtual 121, 3) := by decide +kernel
theorem dX11_force_48 : decode cX11_force 48 = .ok (.ireturn, 1) := by decide +kernel
theorem dX11_stands_0 : decode cX11_stands 0 = .ok (.iload_n 1, 1) := by decide +kernel
theorem dX11_stands_1 : decode cX11_stands 1 = .ok (.lookupswitch 43 #[(0, 27), (1, 35)], 27) := by decide +kernel
theorem dX11_stands_28 : decode cX11_stands 28 = .ok (.aload_n 0, 1) := by decide +kernel
theorem dX11_stands_29 : decode cX11_stands 29 = .ok (.getfield 10, 3) := by decide +kernel
theorem dX11_stands_32 : decode cX11_stands 32 = .ok (.invokevirtual 238, 3) := by decide +kernel
theorem dX11_stands_35 : decode cX11_stands 35 = .ok (.ireturn, 1) := by decide +kernel
theorem dX11_stands_36 : decode cX11_stands 36 = .ok (.aload_n 0, 1) := by decide +kernel
theorem dX11_stands_37 : decode cX11_stands 37 = .ok (.getfield 10, 3) := by decide +kernel
theorem dX11_stands_40 : decode cX11_stands 40 = .ok (.invokevirtual 143, 3) := by decide +kernel
theorem dX11_stands_43 : decode cX11_stands 43 = .ok (.ireturn, 1) := by decide +kernel
theorem dX11_stands_44 : decode cX11_stands 44 = .ok (.iconst (-1), 1) := by decide +kernel
theorem dX11_stands_45 : decode cX11_stands 45 = .ok (.ireturn, 1) := by decide +kernel
theorem dX11_send_0 : decode cX11_send 0 = .ok (.aload_n 0, 1) := by decide +kernel
theorem dX11_send_1 : decode cX11_send 1 = .ok (.aload_n 0, 1) := by decide +kernel
theorem dX11_send_2 : decode cX11_send 2 = .ok (.getfield 28, 3) := by decide +kernel
theorem dX11_send_5 : decode cX11_send 5 = .ok (.iload_n 1, 1) := by decide +kernel
theorem dX11_send_6 : decode cX11_send 6 = .ok (.iload_n 2, 1) := by decide +kernel
theorem dX11_send_7 : decode cX11_send 7 = .ok (.invokevirtual 241, 3) := by decide +kernel
theorem dX11_send_10 : decode cX11_send 10 = .ok (.invokevirtual 244, 3) := by decide +kernel
theorem dX11_send_13 : decode cX11_send 13 = .ok (.ireturn, 1) := by decide +kernel
theorem dX11_rest_0 : decode cX11_rest 0 = .ok (.aload_n 0, 1) := by decide +kernel
theorem dX11_rest_1 : decode cX11_rest 1 = .ok (.aload_n 0, 1) := by decide +kernel
theorem dX11_rest_2 : decode cX11_rest 2 = .ok (.getfield 28, 3) := by decide +kernel
theorem dX11_rest_5 : decode cX11_rest 5 = .ok (.iload_n 1, 1) := by decide +kernel
theorem dX11_rest_6 : decode cX11_rest 6 = .ok (.invokevirtual 247, 3) := by decide +kernel
theorem dX11_rest_9 : decode cX11_rest 9 = .ok (.invokevirtual 244, 3) := by decide +kernel
theorem dX11_rest_12 : decode cX11_rest 12 = .ok (.ireturn, 1) := by decide +kernel
theorem dX11_throwDown_0 : decode cX11_throwDown 0 = .ok (.aload_n 0, 1) := by decide +kernel
theorem dX11_throwDown_1 : decode cX11_throwDown 1 = .ok (.aload_n 0, 1) := by decide +kernel
theorem dX11_throwDown_2 : decode cX11_throwDown 2 = .ok (.getfield 28, 3) := by decide +kernel
theorem dX11_throwDown_5 : decode cX11_throwDown 5 = .ok (.iload_n 1, 1) := by decide +kernel
theorem dX11_throwDown_6 : decode cX11_throwDown 6 = .ok (.invokevirtual 250, 3) := by decide +kernel
theorem dX11_throwDown_9 : decode cX11_throwDown 9 = .ok (.invokevirtual 244, 3) := by decide +kernel
theorem dX11_throwDown_12 : decode cX11_throwDown 12 = .ok (.ireturn, 1) := by decide +kernel
theorem dX11_tick_0 : decode cX11_tick 0 = .ok (.aload_n 0, 1) := by decide +kernel
theorem dX11_tick_1 : decode cX11_tick 1 = .ok (.aload_n 0, 1) := by decide +kernel
theorem dX11_tick_2 : decode cX11_tick 2 = .ok (.getfield 28, 3) := by decide +kernel
theorem dX11_tick_5 : decode cX11_tick 5 = .ok (.invokevirtual 253, 3) := by decide +kernel
theorem dX11_tick_8 : decode cX11_tick 8 = .ok (.invokevirtual 244, 3) := by decide +kernel
theorem dX11_tick_11 : decode cX11_tick 11 = .ok (.ireturn, 1) := by decide +kernel
theorem dX11_undo_0 : decode cX11_undo 0 = .ok (.aload_n 0, 1) := by decide +kernel
theorem dX11_undo_1 : decode cX11_undo 1 = .ok (.aload_n 0, 1) := by decide +kernel
theorem dX11_undo_2 : decode cX11_undo 2 = .ok (.getfield 19, 3) := by decide +kernel
theorem dX11_undo_5 : decode cX11_undo 5 = .ok (.aload_n 0, 1) := by decide +kernel
theorem dX11_undo_6 : decode cX11_undo 6 = .ok (.getfield 10, 3) := by decide +kernel
theorem dX11_undo_9 : decode cX11_undo 9 = .ok (.invokevirtual 256, 3) := by decide +kernel
theorem dX11_undo_12 : decode cX11_undo 12 = .ok (.invokevirtual 244, 3) := by decide +kernel
theorem dX11_undo_15 : decode cX11_undo 15 = .ok (.ireturn, 1) := by decide +kernel
theorem dX11_longest_0 : decode cX11_longest 0 = .ok (.aload_n 0, 1) := by decide +kernel
theorem dX11_longest_1 : decode cX11_longest 1 = .ok (.getfield 10, 3) := by decide +kernel
theorem dX11_longest_4 : decode cX11_longest 4 = .ok (.invokevirtual 147, 3) := by decide +kernel
theorem dX11_longest_7 : decode cX11_longest 7 = .ok (.ireturn, 1) := by decide +kernel
theorem dX11_rows_0 : decode cX11_rows 0 = .ok (.iload_n 1, 1) := by decide +kernel
theorem dX11_rows_1 : decode cX11_rows 1 = .ok (.iconst (-1), 1) := by decide +kernel
theorem dX11_rows_2 : decode cX11_rows 2 = .ok (.if_icmp .ne 13, 3) := by decide +kernel
theorem dX11_rows_5 : decode cX11_rows 5 = .ok (.aload_n 0, 1) := by decide +kernel
theorem dX11_rows_6 : decode cX11_rows 6 = .ok (.getfield 69, 3) := by decide +kernel
theorem dX11_rows_9 : decode cX11_rows 9 = .ok (.invokevirtual 260, 3) := by decide +kernel
theorem dX11_rows_12 : decode cX11_rows 12 = .ok (.goto 12, 3) := by decide +kernel
theorem dX11_rows_15 : decode cX11_rows 15 = .ok (.aload_n 0, 1) := by decide +kernel
theorem dX11_rows_16 : decode cX11_rows 16 = .ok (.getfield 69, 3) := by decide +kernel
theorem dX11_rows_19 : decode cX11_rows 19 = .ok (.iload_n 1, 1) := by decide +kernel
theorem dX11_rows_20 : decode cX11_rows 20 = .ok (.iload_n 2, 1) := by decide +kernel
theorem dX11_rows_21 : decode cX11_rows 21 = .ok (.invokevirtual 263, 3) := by decide +kernel
theorem dX11_rows_24 : decode cX11_rows 24 = .ok (.ireturn, 1) := by decide +kernel
theorem dX11_plan_0 : decode cX11_plan 0 = .ok (.iload_n 1, 1) := by decide +kernel
theorem dX11_plan_1 : decode cX11_plan 1 = .ok (.iconst (-1), 1) := by decide +kernel
theorem dX11_plan_2 : decode cX11_plan 2 = .ok (.if_icmp .ne 11, 3) := by decide +kernel
theorem dX11_plan_5 : decode cX11_plan 5 = .ok (.aload_n 0, 1) := by decide +kernel
theorem dX11_plan_6 : decode cX11_plan 6 = .ok (.getfield 62, 3) := by decide +kernel
theorem dX11_plan_9 : decode cX11_plan 9 = .ok (.invokevirtual 266, 3) := by decide +kernel
theorem dX11_plan_12 : decode cX11_plan 12 = .ok (.ireturn, 1) := by decide +kernel
theorem dX11_plan_13 : decode cX11_plan 13 = .ok (.aload_n 0, 1) := by decide +kernel
theorem dX11_plan_14 : decode cX11_plan 14 = .ok (.getfield 10, 3) := by decide +kernel
theorem dX11_plan_17 : decode cX11_plan 17 = .ok (.iload_n 1, 1) := by decide +kernel
theorem dX11_plan_18 : decode cX11_plan 18 = .ok (.invokevirtual 124, 3) := by decide +kernel
theorem dX11_plan_21 : decode cX11_plan 21 = .ok (.ifCond .eq 14, 3) := by decide +kernel
theorem dX11_plan_24 : decode cX11_plan 24 = .ok (.aload_n 0, 1) := by decide +kernel
theorem dX11_plan_25 : decode cX11_plan 25 = .ok (.getfield 62, 3) := by decide +kernel
theorem dX11_plan_28 : decode cX11_plan 28 = .ok (.iload_n 1, 1) := by decide +kernel
theorem dX11_plan_29 : decode cX11_plan 29 = .ok (.invokevirtual 269, 3) := by decide +kernel
theorem dX11_plan_32 : decode cX11_plan 32 = .ok (.goto 4, 3) := by decide +kernel
theorem dX11_plan_35 : decode cX11_plan 35 = .ok (.iconst (-1), 1) := by decide +kernel
theorem dX11_plan_36 : decode cX11_plan 36 = .ok (.ireturn, 1) := by decide +kernel
theorem dX11_hands_0 : decode cX11_hands 0 = .ok (.iload_n 1, 1) := by decide +kernel
theorem dX11_hands_1 : decode cX11_hands 1 = .ok (.ifCond .eq 10, 3) := by decide +kernel
theorem dX11_hands_4 : decode cX11_hands 4 = .ok (.iload_n 1, 1) := by decide +kernel
theorem dX11_hands_5 : decode cX11_hands 5 = .ok (.iconst 1, 1) := by decide +kernel
theorem dX11_hands_6 : decode cX11_hands 6 = .ok (.if_icmp .eq 5, 3) := by decide +kernel
theorem dX11_hands_9 : decode cX11_hands 9 = .ok (.iconst (-1), 1) := by decide +kernel
theorem dX11_hands_10 : decode cX11_hands 10 = .ok (.ireturn, 1) := by decide +kernel
theorem dX11_hands_11 : decode cX11_hands 11 = .ok (.aload_n 0, 1) := by decide +kernel
theorem dX11_hands_12 : decode cX11_hands 12 = .ok (.getfield 62, 3) := by decide +kernel
theorem dX11_hands_15 : decode cX11_hands 15 = .ok (.invokevirtual 272, 3) := by decide +kernel
theorem dX11_hands_18 : decode cX11_hands 18 = .ok (.istore_n 2, 1) := by decide +kernel
theorem dX11_hands_19 : decode cX11_hands 19 = .ok (.iload_n 1, 1) := by decide +kernel
theorem dX11_hands_20 : decode cX11_hands 20 = .ok (.ifCond .ne 15, 3) := by decide +kernel
theorem dX11_hands_23 : decode cX11_hands 23 = .ok (.iload_n 2, 1) := by decide +kernel
theorem dX11_hands_24 : decode cX11_hands 24 = .ok (.iconst (-1), 1) := by decide +kernel
theorem dX11_hands_25 : decode cX11_hands 25 = .ok (.if_icmp .eq 10, 3) := by decide +kernel
theorem dX11_hands_28 : decode cX11_hands 28 = .ok (.iload_n 2, 1) := by decide +kernel
theorem dX11_hands_29 : decode cX11_hands 29 = .ok (.invokestatic 275, 3) := by decide +kernel
theorem dX11_hands_32 : decode cX11_hands 32 = .ok (.goto 4, 3) := by decide +kernel
theorem dX11_hands_35 : decode cX11_hands 35 = .ok (.iload_n 2, 1) := by decide +kernel
theorem dX11_hands_36 : decode cX11_hands 36 = .ok (.ireturn, 1) := by decide +kernel
theorem dX11_taught_0 : decode cX11_taught 0 = .ok (.iload_n 1, 1) := by decide +kernel
theorem dX11_taught_1 : decode cX11_taught 1 = .ok (.ifCond .lt 8, 3) := by decide +kernel
theorem dX11_taught_4 : decode cX11_taught 4 = .ok (.iload_n 1, 1) := by decide +kernel
theorem dX11_taught_5 : decode cX11_taught 5 = .ok (.iconst 2, 1) := by decide +kernel
theorem dX11_taught_6 : decode cX11_taught 6 = .ok (.if_icmp .le 7, 3) := by decide +kernel
theorem dX11_taught_9 : decode cX11_taught 9 = .ok (.iconst (-1), 1) := by decide +kernel
theorem dX11_taught_10 : decode cX11_taught 10 = .ok (.goto 11, 3) := by decide +kernel
theorem dX11_taught_13 : decode cX11_taught 13 = .ok (.aload_n 0, 1) := by decide +kernel
theorem dX11_taught_14 : decode cX11_taught 14 = .ok (.getfield 62, 3) := by decide +kernel
theorem dX11_taught_17 : decode cX11_taught 17 = .ok (.iload_n 1, 1) := by decide +kernel
theorem dX11_taught_18 : decode cX11_taught 18 = .ok (.invokevirtual 280, 3) := by decide +kernel
theorem dX11_taught_21 : decode cX11_taught 21 = .ok (.ireturn, 1) := by decide +kernel
theorem dX11_unseen_0 : decode cX11_unseen 0 = .ok (.iload_n 1, 1) := by decide +kernel
theorem dX11_unseen_1 : decode cX11_unseen 1 = .ok (.ifCond .lt 9, 3) := by decide +kernel
theorem dX11_unseen_4 : decode cX11_unseen 4 = .ok (.iload_n 1, 1) := by decide +kernel
theorem dX11_unseen_5 : decode cX11_unseen 5 = .ok (.bipush 99, 2) := by decide +kernel
theorem dX11_unseen_7 : decode cX11_unseen 7 = .ok (.if_icmp .le 9, 3) := by decide +kernel
theorem dX11_unseen_10 : decode cX11_unseen 10 = .ok (.ldc2_w 283, 3) := by decide +kernel
theorem dX11_unseen_13 : decode cX11_unseen 13 = .ok (.goto 11, 3) := by decide +kernel
theorem dX11_unseen_16 : decode cX11_unseen 16 = .ok (.aload_n 0, 1) := by decide +kernel
theorem dX11_unseen_17 : decode cX11_unseen 17 = .ok (.getfield 53, 3) := by decide +kernel
theorem dX11_unseen_20 : decode cX11_unseen 20 = .ok (.iload_n 1, 1) := by decide +kernel
theorem dX11_unseen_21 : decode cX11_unseen 21 = .ok (.invokevirtual 285, 3) := by decide +kernel
theorem dX11_unseen_24 : decode cX11_unseen 24 = .ok (.lreturn, 1) := by decide +kernel
theorem dX11_sight_0 : decode cX11_sight 0 = .ok (.iload_n 1, 1) := by decide +kernel
theorem dX11_sight_1 : decode cX11_sight 1 = .ok (.ifCond .lt 18, 3) := by decide +kernel
theorem dX11_sight_4 : decode cX11_sight 4 = .ok (.iload_n 1, 1) := by decide +kernel
theorem dX11_sight_5 : decode cX11_sight 5 = .ok (.bipush 99, 2) := by decide +kernel
theorem dX11_sight_7 : decode cX11_sight 7 = .ok (.if_icmp .gt 12, 3) := by decide +kernel
theorem dX11_sight_10 : decode cX11_sight 10 = .ok (.iload_n 3, 1) := by decide +kernel
theorem dX11_sight_11 : decode cX11_sight 11 = .ok (.ifCond .lt 8, 3) := by decide +kernel
theorem dX11_sight_14 : decode cX11_sight 14 = .ok (.iload_n 3, 1) := by decide +kernel
theorem dX11_sight_15 : decode cX11_sight 15 = .ok (.iconst 1, 1) := by decide +kernel
theorem dX11_sight_16 : decode cX11_sight 16 = .ok (.if_icmp .le 9, 3) := by decide +kernel
theorem dX11_sight_19 : decode cX11_sight 19 = .ok (.aload_n 0, 1) := by decide +kernel
theorem dX11_sight_20 : decode cX11_sight 20 = .ok (.iconst (-1), 1) := by decide +kernel
theorem dX11_sight_21 : decode cX11_sight 21 = .ok (.invokevirtual 114, 3) := by decide +kernel
theorem dX11_sight_24 : decode cX11_sight 24 = .ok (.ireturn, 1) := by decide +kernel
theorem dX11_sight_25 : decode cX11_sight 25 = .ok (.aload_n 0, 1) := by decide +kernel
theorem dX11_sight_26 : decode cX11_sight 26 = .ok (.getfield 10, 3) := by decide +kernel
theorem dX11_sight_29 : decode cX11_sight 29 = .ok (.iload_n 2, 1) := by decide +kernel
theorem dX11_sight_30 : decode cX11_sight 30 = .ok (.invokevirtual 124, 3) := by decide +kernel
theorem dX11_sight_33 : decode cX11_sight 33 = .ok (.ifCond .ne 10, 3) := by decide +kernel
theorem dX11_sight_36 : decode cX11_sight 36 = .ok (.aload_n 0, 1) := by decide +kernel
theorem dX11_sight_37 : decode cX11_sight 37 = .ok (.bipush (-2), 2) := by decide +kernel
theorem dX11_sight_39 : decode cX11_sight 39 = .ok (.invokevirtual 114, 3) := by decide +kernel
theorem dX11_sight_42 : decode cX11_sight 42 = .ok (.ireturn, 1) := by decide +kernel
theorem dX11_sight_43 : decode cX11_sight 43 = .ok (.aload_n 0, 1) := by decide +kernel
theorem dX11_sight_44 : decode cX11_sight 44 = .ok (.getfield 10, 3) := by decide +kernel
theorem dX11_sight_47 : decode cX11_sight 47 = .ok (.getfield 289, 3) := by decide +kernel
theorem dX11_sight_50 : decode cX11_sight 50 = .ok (.ifCond .lt 15, 3) := by decide +kernel
theorem dX11_sight_53 : decode cX11_sight 53 = .ok (.aload_n 0, 1) := by decide +kernel
theorem dX11_sight_54 : decode cX11_sight 54 = .ok (.getfield 10, 3) := by decide +kernel
theorem dX11_sight_57 : decode cX11_sight 57 = .ok (.getfield 289, 3) := by decide +kernel
theorem dX11_sight_60 : decode cX11_sight 60 = .ok (.bipush 8, 2) := by decide +kernel
theorem dX11_sight_62 : decode cX11_sight 62 = .ok (.if_icmp .lt 10, 3) := by decide +kernel
theorem dX11_sight_65 : decode cX11_sight 65 = .ok (.aload_n 0, 1) := by decide +kernel
theorem dX11_sight_66 : decode cX11_sight 66 = .ok (.bipush (-5), 2) := by decide +kernel
theorem dX11_sight_68 : decode cX11_sight 68 = .ok (.invokevirtual 114, 3) := by decide +kernel
theorem dX11_sight_71 : decode cX11_sight 71 = .ok (.ireturn, 1) := by decide +kernel
theorem dX11_sight_72 : decode cX11_sight 72 = .ok (.aload_n 0, 1) := by decide +kernel
theorem dX11_sight_73 : decode cX11_sight 73 = .ok (.getfield 10, 3) := by decide +kernel
theorem dX11_sight_76 : decode cX11_sight 76 = .ok (.getfield 292, 3) := by decide +kernel
theorem dX11_sight_79 : decode cX11_sight 79 = .ok (.aload_n 0, 1) := by decide +kernel
theorem dX11_sight_80 : decode cX11_sight 80 = .ok (.getfield 10, 3) := by decide +kernel
theorem dX11_sight_83 : decode cX11_sight 83 = .ok (.getfield 289, 3) := by decide +kernel
theorem dX11_sight_86 : decode cX11_sight 86 = .ok (.iload_n 1, 1) := by decide +kernel
theorem dX11_sight_87 : decode cX11_sight 87 = .ok (.iastore, 1) := by decide +kernel
theorem dX11_sight_88 : decode cX11_sight 88 = .ok (.aload_n 0, 1) := by decide +kernel
theorem dX11_sight_89 : decode cX11_sight 89 = .ok (.getfield 10, 3) := by decide +kernel
theorem dX11_sight_92 : decode cX11_sight 92 = .ok (.getfield 295, 3) := by decide +kernel
theorem dX11_sight_95 : decode cX11_sight 95 = .ok (.aload_n 0, 1) := by decide +kernel
theorem dX11_sight_96 : decode cX11_sight 96 = .ok (.getfield 10, 3) := by decide +kernel
theorem dX11_sight_99 : decode cX11_sight 99 = .ok (.getfield 289, 3) := by decide +kernel
theorem dX11_sight_102 : decode cX11_sight 102 = .ok (.iload_n 2, 1) := by decide +kernel
theorem dX11_sight_103 : decode cX11_sight 103 = .ok (.iastore, 1) := by decide +kernel
theorem dX11_sight_104 : decode cX11_sight 104 = .ok (.aload_n 0, 1) := by decide +kernel
theorem dX11_sight_105 : decode cX11_sight 105 = .ok (.getfield 10, 3) := by decide +kernel
theorem dX11_sight_108 : decode cX11_sight 108 = .ok (.getfield 298, 3) := by decide +kernel
theorem dX11_sight_111 : decode cX11_sight 111 = .ok (.aload_n 0, 1) := by decide +kernel
theorem dX11_sight_112 : decode cX11_sight 112 = .ok (.getfield 10, 3) := by decide +kernel
theorem dX11_sight_115 : decode cX11_sight 115 = .ok (.getfield 289, 3) := by decide +kernel
theorem dX11_sight_118 : decode cX11_sight 118 = .ok (.iload_n 3, 1) := by decide +kernel
theorem dX11_sight_119 : decode cX11_sight 119 = .ok (.iastore, 1) := by decide +kernel
theorem dX11_sight_120 : decode cX11_sight 120 = .ok (.aload_n 0, 1) := by decide +kernel
theorem dX11_sight_121 : decode cX11_sight 121 = .ok (.getfield 10, 3) := by decide +kernel
theorem dX11_sight_124 : decode cX11_sight 124 = .ok (.dup, 1) := by decide +kernel
theorem dX11_sight_125 : decode cX11_sight 125 = .ok (.getfield 289, 3) := by decide +kernel
theorem dX11_sight_128 : decode cX11_sight 128 = .ok (.iconst 1, 1) := by decide +kernel
theorem dX11_sight_129 : decode cX11_sight 129 = .ok (.iadd, 1) := by decide +kernel
theorem dX11_sight_130 : decode cX11_sight 130 = .ok (.putfield 289, 3) := by decide +kernel
theorem dX11_sight_133 : decode cX11_sight 133 = .ok (.aload_n 0, 1) := by decide +kernel
theorem dX11_sight_134 : decode cX11_sight 134 = .ok (.aload_n 0, 1) := by decide +kernel
theorem dX11_sight_135 : decode cX11_sight 135 = .ok (.getfield 10, 3) := by decide +kernel
theorem dX11_sight_138 : decode cX11_sight 138 = .ok (.getfield 289, 3) := by decide +kernel
theorem dX11_sight_141 : decode cX11_sight 141 = .ok (.invokevirtual 225, 3) := by decide +kernel
theorem dX11_sight_144 : decode cX11_sight 144 = .ok (.ireturn, 1) := by decide +kernel
theorem dX11_forget_0 : decode cX11_forget 0 = .ok (.aload_n 0, 1) := by decide +kernel
theorem dX11_forget_1 : decode cX11_forget 1 = .ok (.getfield 10, 3) := by decide +kernel
theorem dX11_forget_4 : decode cX11_forget 4 = .ok (.getfield 289, 3) := by decide +kernel
theorem dX11_forget_7 : decode cX11_forget 7 = .ok (.istore_n 1, 1) := by decide +kernel
theorem dX11_forget_8 : decode cX11_forget 8 = .ok (.aload_n 0, 1) := by decide +kernel
theorem dX11_forget_9 : decode cX11_forget 9 = .ok (.getfield 10, 3) := by decide +kernel
theorem dX11_forget_12 : decode cX11_forget 12 = .ok (.iconst 0, 1) := by decide +kernel
theorem dX11_forget_13 : decode cX11_forget 13 = .ok (.putfield 289, 3) := by decide +kernel
theorem dX11_forget_16 : decode cX11_forget 16 = .ok (.iload_n 1, 1) := by decide +kernel
theorem dX11_forget_17 : decode cX11_forget 17 = .ok (.ireturn, 1) := by decide +kernel
theorem dX11_whose_0 : decode cX11_whose 0 = .ok (.aload_n 0, 1) := by decide +kernel
theorem dX11_whose_1 : decode cX11_whose 1 = .ok (.getfield 62, 3) := by decide +kernel
theorem dX11_whose_4 : decode cX11_whose 4 = .ok (.iload_n 1, 1) := by decide +kernel
theorem dX11_whose_5 : decode cX11_whose 5 = .ok (.invokevirtual 301, 3) := by decide +kernel
theorem dX11_whose_8 : decode cX11_whose 8 = .ok (.ireturn, 1) := by decide +kernel
theorem dX11_look_0 : decode cX11_look 0 = .ok (.iload_n 1, 1) := by decide +kernel
theorem dX11_look_1 : decode cX11_look 1 = .ok (.ifCond .eq 8, 3) := by decide +kernel
theorem dX11_look_4 : decode cX11_look 4 = .ok (.iload_n 1, 1) := by decide +kernel
theorem dX11_look_5 : decode cX11_look 5 = .ok (.iconst 1, 1) := by decide +kernel
theorem dX11_look_6 : decode cX11_look 6 = .ok (.if_icmp .ne 14, 3) := by decide +kernel
theorem dX11_look_9 : decode cX11_look 9 = .ok (.aload_n 0, 1) := by decide +kernel
theorem dX11_look_10 : decode cX11_look 10 = .ok (.getfield 62, 3) := by decide +kernel
theorem dX11_look_13 : decode cX11_look 13 = .ok (.iload_n 1, 1) := by decide +kernel
theorem dX11_look_14 : decode cX11_look 14 = .ok (.invokevirtual 304, 3) := by decide +kernel
theorem dX11_look_17 : decode cX11_look 17 = .ok (.goto 4, 3) := by decide +kernel
theorem dX11_look_20 : decode cX11_look 20 = .ok (.iconst (-1), 1) := by decide +kernel
theorem dX11_look_21 : decode cX11_look 21 = .ok (.ireturn, 1) := by decide +kernel
theorem dX11_nights_0 : decode cX11_nights 0 = .ok (.iload_n 1, 1) := by decide +kernel
theorem dX11_nights_1 : decode cX11_nights 1 = .ok (.ifCond .lt 21, 3) := by decide +kernel
theorem dX11_nights_4 : decode cX11_nights 4 = .ok (.iload_n 1, 1) := by decide +kernel
theorem dX11_nights_5 : decode cX11_nights 5 = .ok (.ldc_w 307, 3) := by decide +kernel
theorem dX11_nights_8 : decode cX11_nights 8 = .ok (.if_icmp .gt 14, 3) := by decide +kernel
theorem dX11_nights_11 : decode cX11_nights 11 = .ok (.iload_n 2, 1) := by decide +kernel
theorem dX11_nights_12 : decode cX11_nights 12 = .ok (.iconst 1, 1) := by decide +kernel
theorem dX11_nights_13 : decode cX11_nights 13 = .ok (.if_icmp .lt 9, 3) := by decide +kernel
theorem dX11_nights_16 : decode cX11_nights 16 = .ok (.iload_n 2, 1) := by decide +kernel
theorem dX11_nights_17 : decode cX11_nights 17 = .ok (.bipush 20, 2) := by decide +kernel
theorem dX11_nights_19 : decode cX11_nights 19 = .ok (.if_icmp .le 9, 3) := by decide +kernel
theorem dX11_nights_22 : decode cX11_nights 22 = .ok (.aload_n 0, 1) := by decide +kernel
theorem dX11_nights_23 : decode cX11_nights 23 = .ok (.iconst (-1), 1) := by decide +kernel
theorem dX11_nights_24 : decode cX11_nights 24 = .ok (.invokevirtual 114, 3) := by decide +kernel
theorem dX11_nights_27 : decode cX11_nights 27 = .ok (.ireturn, 1) := by decide +kernel
theorem dX11_nights_28 : decode cX11_nights 28 = .ok (.aload_n 0, 1) := by decide +kernel
theorem dX11_nights_29 : decode cX11_nights 29 = .ok (.aload_n 0, 1) := by decide +kernel
theorem dX11_nights_30 : decode cX11_nights 30 = .ok (.getfield 78, 3) := by decide +kernel
theorem dX11_nights_33 : decode cX11_nights 33 = .ok (.iload_n 1, 1) := by decide +kernel
theorem dX11_nights_34 : decode cX11_nights 34 = .ok (.iload_n 2, 1) := by decide +kernel
theorem dX11_nights_35 : decode cX11_nights 35 = .ok (.invokevirtual 308, 3) := by decide +kernel
theorem dX11_nights_38 : decode cX11_nights 38 = .ok (.invokevirtual 225, 3) := by decide +kernel
theorem dX11_nights_41 : decode cX11_nights 41 = .ok (.ireturn, 1) := by decide +kernel
theorem dX11_drawn_0 : decode cX11_drawn 0 = .ok (.aload_n 0, 1) := by decide +kernel
theorem dX11_drawn_1 : decode cX11_drawn 1 = .ok (.getfield 78, 3) := by decide +kernel
theorem dX11_drawn_4 : decode cX11_drawn 4 = .ok (.iload_n 1, 1) := by decide +kernel
theorem dX11_drawn_5 : decode cX11_drawn 5 = .ok (.iload_n 2, 1) := by decide +kernel
theorem dX11_drawn_6 : decode cX11_drawn 6 = .ok (.invokevirtual 311, 3) := by decide +kernel
theorem dX11_drawn_9 : decode cX11_drawn 9 = .ok (.ireturn, 1) := by decide +kernel
theorem dX11_count_0 : decode cX11_count 0 = .ok (.iload_n 1, 1) := by decide +kernel
theorem dX11_count_1 : decode cX11_count 1 = .ok (.bipush 7, 2) := by decide +kernel
theorem dX11_count_3 : decode cX11_count 3 = .ok (.if_icmp .lt 19, 3) := by decide +kernel
theorem dX11_count_6 : decode cX11_count 6 = .ok (.iload_n 1, 1) := by decide +kernel
theorem dX11_count_7 : decode cX11_count 7 = .ok (.bipush 11, 2) := by decide +kernel
theorem dX11_count_9 : decode cX11_count 9 = .ok (.if_icmp .gt 13, 3) := by decide +kernel
theorem dX11_count_12 : decode cX11_count 12 = .ok (.aload_n 0, 1) := by decide +kernel
theorem dX11_count_13 : decode cX11_count 13 = .ok (.getfield 90, 3) := by decide +kernel
theorem dX11_count_16 : decode cX11_count 16 = .ok (.iload_n 1, 1) := by decide +kernel
theorem dX11_count_17 : decode cX11_count 17 = .ok (.bipush 7, 2) := by decide +kernel
theorem dX11_count_19 : decode cX11_count 19 = .ok (.isub, 1) := by decide +kernel
theorem dX11_count_20 : decode cX11_count 20 = .ok (.iaload, 1) := by decide +kernel
theorem dX11_count_21 : decode cX11_count 21 = .ok (.ireturn, 1) := by decide +kernel
theorem dX11_count_22 : decode cX11_count 22 = .ok (.iload_n 1, 1) := by decide +kernel
theorem dX11_count_23 : decode cX11_count 23 = .ok (.bipush 13, 2) := by decide +kernel
theorem dX11_count_25 : decode cX11_count 25 = .ok (.if_icmp .lt 22, 3) := by decide +kernel
theorem dX11_count_28 : decode cX11_count 28 = .ok (.iload_n 1, 1) := by decide +kernel
theorem dX11_count_29 : decode cX11_count 29 = .ok (.bipush 16, 2) := by decide +kernel
theorem dX11_count_31 : decode cX11_count 31 = .ok (.if_icmp .gt 16, 3) := by decide +kernel
theorem dX11_count_34 : decode cX11_count 34 = .ok (.aload_n 0, 1) := by decide +kernel
theorem dX11_count_35 : decode cX11_count 35 = .ok (.getfield 10, 3) := by decide +kernel
theorem dX11_count_38 : decode cX11_count 38 = .ok (.getfield 191, 3) := by decide +kernel
theorem dX11_count_41 : decode cX11_count 41 = .ok (.iload_n 1, 1) := by decide +kernel
theorem dX11_count_42 : decode cX11_count 42 = .ok (.bipush 13, 2) := by decide +kernel
theorem dX11_count_44 : decode cX11_count 44 = .ok (.isub, 1) := by decide +kernel
theorem dX11_count_45 : decode cX11_count 45 = .ok (.iaload, 1) := by decide +kernel
theorem dX11_count_46 : decode cX11_count 46 = .ok (.ireturn, 1) := by decide +kernel
theorem dX11_count_47 : decode cX11_count 47 = .ok (.iload_n 1, 1) := by decide +kernel
theorem dX11_count_48 : decode cX11_count 48 = .ok (.tableswitch 132 0 12 #[68, 76, 87, 95, 103, 111, 119, 132, 132, 132, 132, 132, 124], 68) := by decide +kernel
theorem dX11_count_116 : decode cX11_count 116 = .ok (.aload_n 0, 1) := by decide +kernel
theorem dX11_count_117 : decode cX11_count 117 = .ok (.getfield 10, 3) := by decide +kernel
theorem dX11_count_120 : decode cX11_count 120 = .ok (.getfield 317, 3) := by decide +kernel
theorem dX11_count_123 : decode cX11_count 123 = .ok (.ireturn, 1) := by decide +kernel
theorem dX11_count_124 : decode cX11_count 124 = .ok (.aload_n 0, 1) := by decide +kernel
theorem dX11_count_125 : decode cX11_count 125 = .ok (.getfield 10, 3) := by decide +kernel
theorem dX11_count_128 : decode cX11_count 128 = .ok (.invokevirtual 238, 3) := by decide +kernel
theorem dX11_count_131 : decode cX11_count 131 = .ok (.invokestatic 275, 3) := by decide +kernel
theorem dX11_count_134 : decode cX11_count 134 = .ok (.ireturn, 1) := by decide +kernel
theorem dX11_count_135 : decode cX11_count 135 = .ok (.aload_n 0, 1) := by decide +kernel
theorem dX11_count_136 : decode cX11_count 136 = .ok (.getfield 10, 3) := by decide +kernel
theorem dX11_count_139 : decode cX11_count 139 = .ok (.getfield 320, 3) := by decide +kernel
theorem dX11_count_142 : decode cX11_count 142 = .ok (.ireturn, 1) := by decide +kernel
theorem dX11_count_143 : decode cX11_count 143 = .ok (.aload_n 0, 1) := by decide +kernel
theorem dX11_count_144 : decode cX11_count 144 = .ok (.getfield 10, 3) := by decide +kernel
theorem dX11_count_147 : decode cX11_count 147 = .ok (.getfield 289, 3) := by decide +kernel
theorem dX11_count_150 : decode cX11_count 150 = .ok (.ireturn, 1) := by decide +kernel
theorem dX11_count_151 : decode cX11_count 151 = .ok (.aload_n 0, 1) := by decide +kernel
theorem dX11_count_152 : decode cX11_count 152 = .ok (.getfield 10, 3) := by decide +kernel
theorem dX11_count_155 : decode cX11_count 155 = .ok (.getfield 204, 3) := by decide +kernel
theorem dX11_count_158 : decode cX11_count 158 = .ok (.ireturn, 1) := by decide +kernel
theorem dX11_count_159 : decode cX11_count 159 = .ok (.aload_n 0, 1) := by decide +kernel
theorem dX11_count_160 : decode cX11_count 160 = .ok (.getfield 19, 3) := by decide +kernel
theorem dX11_count_163 : decode cX11_count 163 = .ok (.getfield 323, 3) := by decide +kernel
theorem dX11_count_166 : decode cX11_count 166 = .ok (.ireturn, 1) := by decide +kernel
theorem dX11_count_167 : decode cX11_count 167 = .ok (.aload_n 0, 1) := by decide +kernel
theorem dX11_count_168 : decode cX11_count 168 = .ok (.getfield 94, 3) := by decide +kernel
theorem dX11_count_171 : decode cX11_count 171 = .ok (.ireturn, 1) := by decide +kernel
theorem dX11_count_172 : decode cX11_count 172 = .ok (.aload_n 0, 1) := by decide +kernel
theorem dX11_count_173 : decode cX11_count 173 = .ok (.getfield 10, 3) := by decide +kernel
theorem dX11_count_176 : decode cX11_count 176 = .ok (.getfield 235, 3) := by decide +kernel
theorem dX11_count_179 : decode cX11_count 179 = .ok (.ireturn, 1) := by decide +kernel
theorem dX11_count_180 : decode cX11_count 180 = .ok (.iconst (-1), 1) := by decide +kernel
theorem dX11_count_181 : decode cX11_count 181 = .ok (.ireturn, 1) := by decide +kernel
theorem dX11_status_0 : decode cX11_status 0 = .ok (.aload_n 0, 1) := by decide +kernel
theorem dX11_status_1 : decode cX11_status 1 = .ok (.getfield 107, 3) := by decide +kernel
theorem dX11_status_4 : decode cX11_status 4 = .ok (.ireturn, 1) := by decide +kernel
theorem dX11_refuse_0 : decode cX11_refuse 0 = .ok (.iload_n 1, 1) := by decide +kernel
theorem dX11_refuse_1 : decode cX11_refuse 1 = .ok (.bipush (-5), 2) := by decide +kernel
theorem dX11_refuse_3 : decode cX11_refuse 3 = .ok (.if_icmp .ne 7, 3) := by decide +kernel
theorem dX11_refuse_6 : decode cX11_refuse 6 = .ok (.iconst 3, 1) := by decide +kernel
theorem dX11_refuse_7 : decode cX11_refuse 7 = .ok (.goto 17, 3) := by decide +kernel
theorem dX11_refuse_10 : decode cX11_refuse 10 = .ok (.iload_n 1, 1) := by decide +kernel
theorem dX11_refuse_11 : decode cX11_refuse 11 = .ok (.bipush (-6), 2) := by decide +kernel
theorem dX11_refuse_13 : decode cX11_refuse 13 = .ok (.if_icmp .ne 7, 3) := by decide +kernel
theorem dX11_refuse_16 : decode cX11_refuse 16 = .ok (.iconst 4, 1) := by decide +kernel
theorem dX11_refuse_17 : decode cX11_refuse 17 = .ok (.goto 7, 3) := by decide +kernel
theorem dX11_refuse_20 : decode cX11_refuse 20 = .ok (.iload_n 1, 1) := by decide +kernel
theorem dX11_refuse_21 : decode cX11_refuse 21 = .ok (.ineg, 1) := by decide +kernel
theorem dX11_refuse_22 : decode cX11_refuse 22 = .ok (.iconst 1, 1) := by decide +kernel
theorem dX11_refuse_23 : decode cX11_refuse 23 = .ok (.isub, 1) := by decide +kernel
theorem dX11_refuse_24 : decode cX11_refuse 24 = .ok (.istore_n 2, 1) := by decide +kernel
theorem dX11_refuse_25 : decode cX11_refuse 25 = .ok (.iload_n 2, 1) := by decide +kernel
theorem dX11_refuse_26 : decode cX11_refuse 26 = .ok (.ifCond .lt 22, 3) := by decide +kernel
theorem dX11_refuse_29 : decode cX11_refuse 29 = .ok (.iload_n 2, 1) := by decide +kernel
theorem dX11_refuse_30 : decode cX11_refuse 30 = .ok (.aload_n 0, 1) := by decide +kernel
theorem dX11_refuse_31 : decode cX11_refuse 31 = .ok (.getfield 90, 3) := by decide +kernel
theorem dX11_refuse_34 : decode cX11_refuse 34 = .ok (.arraylength, 1) := by decide +kernel
theorem dX11_refuse_35 : decode cX11_refuse 35 = .ok (.if_icmp .ge 13, 3) := by decide +kernel
theorem dX11_refuse_38 : decode cX11_refuse 38 = .ok (.aload_n 0, 1) := by decide +kernel
theorem dX11_refuse_39 : decode cX11_refuse 39 = .ok (.getfield 90, 3) := by decide +kernel
theorem dX11_refuse_42 : decode cX11_refuse 42 = .ok (.iload_n 2, 1) := by decide +kernel
theorem dX11_refuse_43 : decode cX11_refuse 43 = .ok (.dup2, 1) := by decide +kernel
theorem dX11_refuse_44 : decode cX11_refuse 44 = .ok (.iaload, 1) := by decide +kernel
theorem dX11_refuse_45 : decode cX11_refuse 45 = .ok (.iconst 1, 1) := by decide +kernel
theorem dX11_refuse_46 : decode cX11_refuse 46 = .ok (.iadd, 1) := by decide +kernel
theorem dX11_refuse_47 : decode cX11_refuse 47 = .ok (.iastore, 1) := by decide +kernel
theorem dX11_refuse_48 : decode cX11_refuse 48 = .ok (.aload_n 0, 1) := by decide +kernel
theorem dX11_refuse_49 : decode cX11_refuse 49 = .ok (.iload_n 1, 1) := by decide +kernel
theorem dX11_refuse_50 : decode cX11_refuse 50 = .ok (.putfield 107, 3) := by decide +kernel
theorem dX11_refuse_53 : decode cX11_refuse 53 = .ok (.iload_n 1, 1) := by decide +kernel
theorem dX11_refuse_54 : decode cX11_refuse 54 = .ok (.ireturn, 1) := by decide +kernel
theorem dX11_agree_0 : decode cX11_agree 0 = .ok (.aload_n 0, 1) := by decide +kernel
theorem dX11_agree_1 : decode cX11_agree 1 = .ok (.iconst 0, 1) := by decide +kernel
theorem dX11_agree_2 : decode cX11_agree 2 = .ok (.putfield 107, 3) := by decide +kernel
theorem dX11_agree_5 : decode cX11_agree 5 = .ok (.iload_n 1, 1) := by decide +kernel
theorem dX11_agree_6 : decode cX11_agree 6 = .ok (.ireturn, 1) := by decide +kernel
theorem dX11_agreeChanged_0 : decode cX11_agreeChanged 0 = .ok (.aload_n 0, 1) := by decide +kernel
theorem dX11_agreeChanged_1 : decode cX11_agreeChanged 1 = .ok (.getfield 62, 3) := by decide +kernel
theorem dX11_agreeChanged_4 : decode cX11_agreeChanged 4 = .ok (.invokevirtual 326, 3) := by decide +kernel
theorem dX11_agreeChanged_7 : decode cX11_agreeChanged 7 = .ok (.aload_n 0, 1) := by decide +kernel
theorem dX11_agreeChanged_8 : decode cX11_agreeChanged 8 = .ok (.getfield 69, 3) := by decide +kernel
theorem dX11_agreeChanged_11 : decode cX11_agreeChanged 11 = .ok (.invokevirtual 327, 3) := by decide +kernel
theorem dX11_agreeChanged_14 : decode cX11_agreeChanged 14 = .ok (.aload_n 0, 1) := by decide +kernel
theorem dX11_agreeChanged_15 : decode cX11_agreeChanged 15 = .ok (.iload_n 1, 1) := by decide +kernel
theorem dX11_agreeChanged_16 : decode cX11_agreeChanged 16 = .ok (.invokevirtual 225, 3) := by decide +kernel
theorem dX11_agreeChanged_19 : decode cX11_agreeChanged 19 = .ok (.ireturn, 1) := by decide +kernel
theorem dX11_settle_0 : decode cX11_settle 0 = .ok (.iload_n 1, 1) := by decide +kernel
theorem dX11_settle_1 : decode cX11_settle 1 = .ok (.ifCond .ge 11, 3) := by decide +kernel
theorem dX11_settle_4 : decode cX11_settle 4 = .ok (.aload_n 0, 1) := by decide +kernel
theorem dX11_settle_5 : decode cX11_settle 5 = .ok (.iload_n 1, 1) := by decide +kernel
theorem dX11_settle_6 : decode cX11_settle 6 = .ok (.invokevirtual 114, 3) := by decide +kernel
theorem dX11_settle_9 : decode cX11_settle 9 = .ok (.goto 8, 3) := by decide +kernel
theorem dX11_settle_12 : decode cX11_settle 12 = .ok (.aload_n 0, 1) := by decide +kernel
theorem dX11_settle_13 : decode cX11_settle 13 = .ok (.iload_n 1, 1) := by decide +kernel
theorem dX11_settle_14 : decode cX11_settle 14 = .ok (.invokevirtual 121, 3) := by decide +kernel
theorem dX11_settle_17 : decode cX11_settle 17 = .ok (.ireturn, 1) := by decide +kernel
theorem dX11_emptyTape_0 : decode cX11_emptyTape 0 = .ok (.aload_n 0, 1) := by decide +kernel
theorem dX11_emptyTape_1 : decode cX11_emptyTape 1 = .ok (.getfield 94, 3) := by decide +kernel
theorem dX11_emptyTape_4 : decode cX11_emptyTape 4 = .ok (.istore_n 1, 1) := by decide +kernel
theorem dX11_emptyTape_5 : decode cX11_emptyTape 5 = .ok (.aload_n 0, 1) := by decide +kernel
theorem dX11_emptyTape_6 : decode cX11_emptyTape 6 = .ok (.iconst 0, 1) := by decide +kernel
theorem dX11_emptyTape_7 : decode cX11_emptyTape 7 = .ok (.putfield 94, 3) := by decide +kernel
theorem dX11_emptyTape_10 : decode cX11_emptyTape 10 = .ok (.iload_n 1, 1) := by decide +kernel
theorem dX11_emptyTape_11 : decode cX11_emptyTape 11 = .ok (.ireturn, 1) := by decide +kernel
theorem wt3_14 : Cond.code yX2_clear cX2_clear 1 none ∈ kG := kt3 14 rfl rfl
theorem wt4_196 : Cond.code yX2_restoreLatest cX2_restoreLatest 3 (some .int) ∈ kG := kt4 196 rfl rfl
theorem wt5_68 : Cond.code yX3_chanceUnseen cX3_chanceUnseen 6 (some .long) ∈ kG := kt5 68 rfl rfl
theorem wt3_22 : Cond.code yX9_clear cX9_clear 1 none ∈ kG := kt3 22 rfl rfl
theorem wt5_26 : Cond.code yX9_planStood cX9_planStood 2 (some .int) ∈ kG := kt5 26 rfl rfl
theorem wt5_50 : Cond.code yX9_bestLesson cX9_bestLesson 7 (some .int) ∈ kG := kt5 50 rfl rfl
theorem wt5_35 : Cond.code yX9_fewestHands cX9_fewestHands 4 (some .int) ∈ kG := kt5 35 rfl rfl
theorem wt5_108 : Cond.code yX9_nextLook cX9_nextLook 6 (some .int) ∈ kG := kt5 108 rfl rfl
theorem wt3_26 : Cond.code yX6_clear cX6_clear 1 none ∈ kG := kt3 26 rfl rfl
theorem wt4_222 : Cond.code yX6_partAt cX6_partAt 9 (some .int) ∈ kG := kt4 222 rfl rfl
theorem wt5_136 : Cond.code yX1_endOf cX1_endOf 3 (some .int) ∈ kG := kt5 136 rfl rfl
theorem wt5_122 : Cond.code yX1_drawNights cX1_drawNights 8 (some .int) ∈ kG := kt5 122 rfl rfl
theorem wt3_10 : Cond.code yX11_refuse cX11_refuse 3 (some .int) ∈ kG := kt3 10 rfl rfl
theorem wt3_30 : Cond.code yX11_agree cX11_agree 2 (some .int) ∈ kG := kt3 30 rfl rfl
theorem wt3_19 : Cond.methodLink RX11 326 yX9_clear ∈ kG := kt3 19 rfl rfl
theorem wt3_20 : Cond.instanceMethod yX9_clear ∈ kG := kt3 20 rfl rfl
theorem wt3_21 : Cond.selects RX9 yX9_clear yX9_clear ∈ kG := kt3 21 rfl rfl
theorem wt3_23 : Cond.methodLink RX11 327 yX6_clear ∈ kG := kt3 23 rfl rfl
theorem wt3_24 : Cond.instanceMethod yX6_clear ∈ kG := kt3 24 rfl rfl
theorem wt3_25 : Cond.selects RX6 yX6_clear yX6_clear ∈ kG := kt3 25 rfl rfl
theorem wt3_27 : Cond.methodLink RX11 225 yX11_agree ∈ kG := kt3 27 rfl rfl
theorem wt3_29 : Cond.instanceMethod yX11_agree ∈ kG := kt3 29 rfl rfl
theorem wp1_2 : Cond.selects RX11 yX11_agree yX11_agree ∈ kG := kp1 2 rfl rfl
theorem wt3_18 : Cond.code yX11_agreeChanged cX11_agreeChanged 2 (some .int) ∈ kG := kt3 18 rfl rfl
theorem wt3_15 : Cond.methodLink RX11 121 yX11_agreeChanged ∈ kG := kt3 15 rfl rfl
theorem wt3_17 : Cond.instanceMethod yX11_agreeChanged ∈ kG := kt3 17 rfl rfl
theorem wp1_1 : Cond.selects RX11 yX11_agreeChanged yX11_agreeChanged ∈ kG := kp1 1 rfl rfl
theorem wt3_7 : Cond.methodLink RX11 114 yX11_refuse ∈ kG := kt3 7 rfl rfl
theorem wt3_9 : Cond.instanceMethod yX11_refuse ∈ kG := kt3 9 rfl rfl
theorem wp1_0 : Cond.selects RX11 yX11_refuse yX11_refuse ∈ kG := kp1 0 rfl rfl
theorem wt4_173 : Cond.code yX11_settle cX11_settle 2 (some .int) ∈ kG := kt4 173 rfl rfl
theorem wt3_6 : Cond.code yX7_addPart cX7_addPart 6 (some .int) ∈ kG := kt3 6 rfl rfl
theorem wt3_62 : Cond.code yX7_addBuilder cX7_addBuilder 3 (some .int) ∈ kG := kt3 62 rfl rfl
theorem wt3_3 : Cond.methodLink RX11 110 yX7_addPart ∈ kG := kt3 3 rfl rfl
theorem wt3_4 : Cond.instanceMethod yX7_addPart ∈ kG := kt3 4 rfl rfl
theorem wt3_5 : Cond.selects RX7 yX7_addPart yX7_addPart ∈ kG := kt3 5 rfl rfl
theorem wt3_11 : Cond.methodLink RX11 118 yX2_clear ∈ kG := kt3 11 rfl rfl
theorem wt3_12 : Cond.instanceMethod yX2_clear ∈ kG := kt3 12 rfl rfl
theorem wt3_13 : Cond.selects RX2 yX2_clear yX2_clear ∈ kG := kt3 13 rfl rfl
theorem wt3_59 : Cond.methodLink RX11 159 yX7_addBuilder ∈ kG := kt3 59 rfl rfl
theorem wt3_60 : Cond.instanceMethod yX7_addBuilder ∈ kG := kt3 60 rfl rfl
theorem wt3_61 : Cond.selects RX7 yX7_addBuilder yX7_addBuilder ∈ kG := kt3 61 rfl rfl
theorem wt3_35 : Cond.methodLink RX11 124 yX7_hasPart ∈ kG := kt3 35 rfl rfl
theorem wt1_87 : Cond.fieldLink RX11 128 "SunriseRoof$Site" "work" "[I" ∈ kG := kt1 87 rfl rfl
theorem wt1_90 : Cond.fieldLink RX11 131 "SunriseRoof$Site" "needs" "[I" ∈ kG := kt1 90 rfl rfl
theorem wt1_94 : Cond.fieldLink RX11 134 "SunriseRoof$Site" "craft" "[I" ∈ kG := kt1 94 rfl rfl
theorem wt1_96 : Cond.fieldLink RX11 137 "SunriseRoof$Site" "heavy" "[I" ∈ kG := kt1 96 rfl rfl
theorem wt1_100 : Cond.fieldLink RX11 140 "SunriseRoof$Site" "left" "[I" ∈ kG := kt1 100 rfl rfl
theorem wt3_39 : Cond.methodLink RX11 143 yX7_readyMask ∈ kG := kt3 39 rfl rfl
theorem wt3_47 : Cond.methodLink RX11 147 yX7_reckonChains ∈ kG := kt3 47 rfl rfl
theorem wt1_156 : Cond.fieldLink RX11 150 "SunriseRoof$Site" "slate" "LSunriseRoof$Slate;" ∈ kG := kt1 156 rfl rfl
theorem wt1_63 : Cond.fieldLink RX11 154 "SunriseRoof$Slate" "chain" "[I" ∈ kG := kt1 63 rfl rfl
theorem wt3_67 : Cond.methodLink RX11 163 yX7_hasBuilder ∈ kG := kt3 67 rfl rfl
theorem wt1_112 : Cond.fieldLink RX11 166 "SunriseRoof$Site" "crafts" "[I" ∈ kG := kt1 112 rfl rfl
theorem wt1_115 : Cond.fieldLink RX11 169 "SunriseRoof$Site" "pace" "[I" ∈ kG := kt1 115 rfl rfl
theorem wt1_120 : Cond.fieldLink RX11 172 "SunriseRoof$Site" "tired" "[I" ∈ kG := kt1 120 rfl rfl
theorem wt1_126 : Cond.fieldLink RX11 175 "SunriseRoof$Site" "place" "[I" ∈ kG := kt1 126 rfl rfl
theorem wt3_75 : Cond.fieldLink RX11 178 "SunriseRoof" "MOST_TOLD" "[I" ∈ kG := kt3 75 rfl rfl
theorem wt3_77 : Cond.methodLink RX11 181 yX7_asked ∈ kG := kt3 77 rfl rfl
theorem wt3_117 : Cond.fieldLink RX11 185 "SunriseRoof" "TERM_LEAST" "[I" ∈ kG := kt3 117 rfl rfl
theorem wt3_119 : Cond.fieldLink RX11 188 "SunriseRoof" "TERM_MOST" "[I" ∈ kG := kt3 119 rfl rfl
theorem wt1_134 : Cond.fieldLink RX11 191 "SunriseRoof$Site" "term" "[I" ∈ kG := kt1 134 rfl rfl
theorem wt1_153 : Cond.fieldLink RX11 235 "SunriseRoof$Site" "inForce" "I" ∈ kG := kt1 153 rfl rfl
theorem wt1_150 : Cond.fieldLink RX11 204 "SunriseRoof$Site" "lawCount" "I" ∈ kG := kt1 150 rfl rfl
theorem wt4_164 : Cond.methodLink RX11 238 yX7_upMask ∈ kG := kt4 164 rfl rfl
theorem wt4_169 : Cond.methodLink RX11 241 yX0_sendBuilder ∈ kG := kt4 169 rfl rfl
theorem wt4_170 : Cond.methodLink RX11 244 yX11_settle ∈ kG := kt4 170 rfl rfl
theorem wt4_172 : Cond.instanceMethod yX11_settle ∈ kG := kt4 172 rfl rfl
theorem wp2_11 : Cond.selects RX11 yX11_settle yX11_settle ∈ kG := kp2 11 rfl rfl
theorem wt4_178 : Cond.methodLink RX11 247 yX0_restBuilder ∈ kG := kt4 178 rfl rfl
theorem wt4_183 : Cond.methodLink RX11 250 yX0_razePart ∈ kG := kt4 183 rfl rfl
theorem wt4_188 : Cond.methodLink RX11 253 yX0_passTick ∈ kG := kt4 188 rfl rfl
theorem wt4_193 : Cond.methodLink RX11 256 yX2_restoreLatest ∈ kG := kt4 193 rfl rfl
theorem wt4_194 : Cond.instanceMethod yX2_restoreLatest ∈ kG := kt4 194 rfl rfl
theorem wt4_195 : Cond.selects RX2 yX2_restoreLatest yX2_restoreLatest ∈ kG := kt4 195 rfl rfl
theorem wt4_219 : Cond.methodLink RX11 263 yX6_partAt ∈ kG := kt4 219 rfl rfl
theorem wt4_220 : Cond.instanceMethod yX6_partAt ∈ kG := kt4 220 rfl rfl
theorem wt4_221 : Cond.selects RX6 yX6_partAt yX6_partAt ∈ kG := kt4 221 rfl rfl
theorem wt4_205 : Cond.methodLink RX11 260 yX6_total ∈ kG := kt4 205 rfl rfl
theorem wt5_23 : Cond.methodLink RX11 269 yX9_planStood ∈ kG := kt5 23 rfl rfl
theorem wt5_24 : Cond.instanceMethod yX9_planStood ∈ kG := kt5 24 rfl rfl
theorem wt5_25 : Cond.selects RX9 yX9_planStood yX9_planStood ∈ kG := kt5 25 rfl rfl
theorem wt4_228 : Cond.methodLink RX11 266 yX9_planTicks ∈ kG := kt4 228 rfl rfl
theorem wt5_32 : Cond.methodLink RX11 272 yX9_fewestHands ∈ kG := kt5 32 rfl rfl
theorem wt5_33 : Cond.instanceMethod yX9_fewestHands ∈ kG := kt5 33 rfl rfl
theorem wt5_34 : Cond.selects RX9 yX9_fewestHands yX9_fewestHands ∈ kG := kt5 34 rfl rfl
theorem wt5_42 : Cond.methodLink RX11 275 yJ6_bitCount_0f7a4 ∈ kG := kt5 42 rfl rfl
theorem wt5_47 : Cond.methodLink RX11 280 yX9_bestLesson ∈ kG := kt5 47 rfl rfl
theorem wt5_48 : Cond.instanceMethod yX9_bestLesson ∈ kG := kt5 48 rfl rfl
theorem wt5_49 : Cond.selects RX9 yX9_bestLesson yX9_bestLesson ∈ kG := kt5 49 rfl rfl
theorem wt5_64 : Cond.constantLong RX11 283 (-1) ∈ kG := kt5 64 rfl rfl
theorem wt5_65 : Cond.methodLink RX11 285 yX3_chanceUnseen ∈ kG := kt5 65 rfl rfl
theorem wt5_66 : Cond.instanceMethod yX3_chanceUnseen ∈ kG := kt5 66 rfl rfl
theorem wt5_67 : Cond.selects RX3 yX3_chanceUnseen yX3_chanceUnseen ∈ kG := kt5 67 rfl rfl
theorem wt1_137 : Cond.fieldLink RX11 289 "SunriseRoof$Site" "sights" "I" ∈ kG := kt1 137 rfl rfl
theorem wt1_140 : Cond.fieldLink RX11 292 "SunriseRoof$Site" "sightTick" "[I" ∈ kG := kt1 140 rfl rfl
theorem wt1_143 : Cond.fieldLink RX11 295 "SunriseRoof$Site" "sightPart" "[I" ∈ kG := kt1 143 rfl rfl
theorem wt1_146 : Cond.fieldLink RX11 298 "SunriseRoof$Site" "sightStood" "[I" ∈ kG := kt1 146 rfl rfl
theorem wt5_89 : Cond.methodLink RX11 301 yX9_suspects ∈ kG := kt5 89 rfl rfl
theorem wt5_105 : Cond.methodLink RX11 304 yX9_nextLook ∈ kG := kt5 105 rfl rfl
theorem wt5_106 : Cond.instanceMethod yX9_nextLook ∈ kG := kt5 106 rfl rfl
theorem wt5_107 : Cond.selects RX9 yX9_nextLook yX9_nextLook ∈ kG := kt5 107 rfl rfl
theorem wt5_118 : Cond.constant RX11 307 (1000000) ∈ kG := kt5 118 rfl rfl
theorem wt5_119 : Cond.methodLink RX11 308 yX1_drawNights ∈ kG := kt5 119 rfl rfl
theorem wt5_120 : Cond.instanceMethod yX1_drawNights ∈ kG := kt5 120 rfl rfl
theorem wt5_121 : Cond.selects RX1 yX1_drawNights yX1_drawNights ∈ kG := kt5 121 rfl rfl
theorem wt5_133 : Cond.methodLink RX11 311 yX1_endOf ∈ kG := kt5 133 rfl rfl
theorem wt5_134 : Cond.instanceMethod yX1_endOf ∈ kG := kt5 134 rfl rfl
theorem wt5_135 : Cond.selects RX1 yX1_endOf yX1_endOf ∈ kG := kt5 135 rfl rfl
theorem wt1_85 : Cond.fieldLink RX11 317 "SunriseRoof$Site" "parts" "I" ∈ kG := kt1 85 rfl rfl
theorem wt1_109 : Cond.fieldLink RX11 320 "SunriseRoof$Site" "builders" "I" ∈ kG := kt1 109 rfl rfl
theorem wt1_206 : Cond.fieldLink RX11 323 "SunriseRoof$Past" "kept" "I" ∈ kG := kt1 206 rfl rfl
set_option maxHeartbeats 4000000 in
set_option maxRecDepth 100000 in
theorem x_11_refuse  (l : Launch) {D : va_G} {K : Nat → ClassId} (r : Nat → Nat) (f : Nat → Int32) (a : Nat → Nat → Int32) (g : xG) (tx tt : va_W) (hT : ∀ c ∈ tt, c ∈ tx) (hI : xI f a) (hG : gOK K g.2 tt) (x : Int32)    : kIG l yX11_refuse (Cond.code yX11_refuse cX11_refuse 3 (some .int) :: kG) (rmD 1 0 0) D K [.ref (r 0), .int x] (xX K r f a g tx) (fun v (u : xS) => kb (-2147483648) v 2147483647 ∧ xI u.1 u.2.1 ∧ gOK K u.2.2.2 tt ∧ xEk ([16], [94], []) f a g u.1 u.2.1 u.2.2 ∧ v = x) (fun u => xX K r u.1 u.2.1 u.2.2 tx) 0 0 := by
  refine kIE.of (cc := cX11_refuse) (maxL := 3) (ret := (some .int)) (by decide) rfl (Nat.le_of_ble_eq_true rfl) ?_
  intro p e s m below meth c A hx hb hr hml hown hts hlocks hnm hK hP hD hS hA hV ls hl
  have hE : xEk ([16], [94], []) f a g f a g := xEk_rf
  have hg : ∀ w ∈ kG, w.before _ s = true := fun w h => hts w (List.mem_cons_of_mem _ h)
  have hown : s.vm.findClass RX11 = some m.cls := hown
  have hl : lv_has ls 3 [(0, .ref (r 0)), (1, .int x)] := hl
  refine lv_iload_n hx hb dX11_refuse_0 rfl (lv_at hl 1 rfl) ?_
  refine lv_bipush (v := (-5)) hx hb dX11_refuse_1 (by decide) ?_
  refine lv_icmp_ne (tgt := 10) hx hb dX11_refuse_3 (by decide) (fun c1 => ?_) (fun c1 => ?_)
  · refine lv_iload_n hx hb dX11_refuse_10 rfl (lv_at hl 1 rfl) ?_
    refine lv_bipush (v := (-6)) hx hb dX11_refuse_11 (by decide) ?_
    refine lv_icmp_ne (tgt := 20) hx hb dX11_refuse_13 (by decide) (fun c2 => ?_) (fun c2 => ?_)
    · refine lv_iload_n hx hb dX11_refuse_20 rfl (lv_at hl 1 rfl) ?_
      refine lv_ineg hx hb dX11_refuse_21 ?_
      refine lv_topi (fun t3 et3 => ?_)
      refine lv_iconst (v := 1) hx hb dX11_refuse_22 (by decide) ?_
      refine lv_isub hx hb dX11_refuse_23 ?_
      refine lv_topi (fun t4 et4 => ?_)
      refine lv_istore_n (lv' := [(2, .int t4), (0, .ref (r 0)), (1, .int x)]) hx hb dX11_refuse_24 rfl hl (by decide) rfl (fun ls hl => ?_)
      refine lv_iload_n hx hb dX11_refuse_25 rfl (lv_at hl 0 rfl) ?_
      refine lv_if_lt (tgt := 48) hx hb dX11_refuse_26 (by decide) (fun c5 => ?_) (fun c5 => ?_)
      · have h6 := (kc_lt c5)
        have b7 : kb (-2147483648) t4 (-1) := kr_lt1 h6 (kb_any t4) kc_0 (by decide)
        refine lv_aload_n hx hb dX11_refuse_48 rfl (lv_at hl 1 rfl) ?_
        refine lv_iload_n hx hb dX11_refuse_49 rfl (lv_at hl 2 rfl) ?_
        refine va_put (D := D) (ci := 11) (v := .int x) (ty := .int) (C := RX11) (T := TX11) (N := 17) hx hb hg inC11 tyX11 tyX11_ok nmX11 hown hK hP hD hS 0 rfl rfl 16 (by decide) (hg _ wt2_202) (fun _ h9 => h9) rfl (by decide +kernel) rfl rfl (Nat.le_of_ble_eq_true rfl) dX11_refuse_50 (fun H locs hP hD hS => ?_)
        have hP : va_P D vwCl (xX K r (upd f 16 x) a g tx) H := hP
        have hD : va_D A (xX K r (upd f 16 x) a g tx) := hD
        refine k_gen (P := fun z => va_P D vwCl (xX K r z a g tx) H ∧ va_D A (xX K r z a g tx) ∧ (xI z a) ∧ (gOK K g.2 tt) ∧ (xEk ([16], [94], []) f a g z a g)) (upd f 16 x) ⟨hP, hD, (xI_f hI (fI_st hI.1 16 (kb_any _) (by decide) (by decide))), hG, (xEk_f hE rfl)⟩ (fun f_8 ef_8 hq => ?_)
        obtain ⟨hP, hD, hI, hG, hE⟩ := hq
        refine lv_iload_n hx hb dX11_refuse_53 rfl (lv_at hl 2 rfl) ?_
        exact kI_ret (v := x) hx hb hr hlocks rfl hK hS dX11_refuse_54 (f_8, a, g) hP hD ⟨(kb_any x), hI, hG, hE, rfl⟩
      · have h9 := (kc_nlt c5)
        have b10 : kb 0 t4 2147483647 := kr_le2 h9 kc_0 (kb_any t4)
        refine lv_iload_n hx hb dX11_refuse_29 rfl (lv_at hl 0 rfl) ?_
        refine lv_aload_n hx hb dX11_refuse_30 rfl (lv_at hl 1 rfl) ?_
        refine va_get (D := D) (ci := 11) (v := .ref (r 94)) (C := RX11) (T := TX11) (N := 17) hx hb hg inC11 hown hK hP 0 rfl rfl 11 (by decide) (hg _ wt2_197) (fun _ h9 => h9) rfl dX11_refuse_31 ?_
        refine va_alen (v := 5) hx hb hK hP 94 0 rfl rfl rfl dX11_refuse_34 ?_
        refine lv_icmp_ge (tgt := 48) hx hb dX11_refuse_35 (by decide) (fun c11 => ?_) (fun c11 => ?_)
        · have h12 := (kc_le c11)
          have b13 : kb 5 t4 2147483647 := kr_le2 h12 kc_5 b10
          refine lv_aload_n hx hb dX11_refuse_48 rfl (lv_at hl 1 rfl) ?_
          refine lv_iload_n hx hb dX11_refuse_49 rfl (lv_at hl 2 rfl) ?_
          refine va_put (D := D) (ci := 11) (v := .int x) (ty := .int) (C := RX11) (T := TX11) (N := 17) hx hb hg inC11 tyX11 tyX11_ok nmX11 hown hK hP hD hS 0 rfl rfl 16 (by decide) (hg _ wt2_202) (fun _ h9 => h9) rfl (by decide +kernel) rfl rfl (Nat.le_of_ble_eq_true rfl) dX11_refuse_50 (fun H locs hP hD hS => ?_)
          have hP : va_P D vwCl (xX K r (upd f 16 x) a g tx) H := hP
          have hD : va_D A (xX K r (upd f 16 x) a g tx) := hD
          refine k_gen (P := fun z => va_P D vwCl (xX K r z a g tx) H ∧ va_D A (xX K r z a g tx) ∧ (xI z a) ∧ (gOK K g.2 tt) ∧ (xEk ([16], [94], []) f a g z a g)) (upd f 16 x) ⟨hP, hD, (xI_f hI (fI_st hI.1 16 (kb_any _) (by decide) (by decide))), hG, (xEk_f hE rfl)⟩ (fun f_14 ef_14 hq => ?_)
          obtain ⟨hP, hD, hI, hG, hE⟩ := hq
          refine lv_iload_n hx hb dX11_refuse_53 rfl (lv_at hl 2 rfl) ?_
          exact kI_ret (v := x) hx hb hr hlocks rfl hK hS dX11_refuse_54 (f_14, a, g) hP hD ⟨(kb_any x), hI, hG, hE, rfl⟩
        · have h15 := (kc_nle c11)
          have b16 : kb 0 t4 4 := kr_lt1 h15 b10 kc_5 (by decide)
          refine lv_aload_n hx hb dX11_refuse_38 rfl (lv_at hl 1 rfl) ?_
          refine va_get (D := D) (ci := 11) (v := .ref (r 94)) (C := RX11) (T := TX11) (N := 17) hx hb hg inC11 hown hK hP 0 rfl rfl 11 (by decide) (hg _ wt2_197) (fun _ h9 => h9) rfl dX11_refuse_39 ?_
          refine lv_iload_n hx hb dX11_refuse_42 rfl (lv_at hl 0 rfl) ?_
          refine lv_dup2_11 hx hb dX11_refuse_43 rfl rfl ?_
          refine va_iald hx hb hK hP 94 0 rfl rfl (kb_in b16 (by decide) (by decide)) dX11_refuse_44 ?_
          refine lv_topi (fun t17 et17 => ?_)
          refine lv_iconst (v := 1) hx hb dX11_refuse_45 (by decide) ?_
          refine lv_iadd hx hb dX11_refuse_46 ?_
          refine lv_topi (fun t18 et18 => ?_)
          refine va_iast hx hb hK hP hD hS 94 0 rfl rfl (kb_in b16 (by decide) (by decide)) dX11_refuse_47 (fun H locs hP hD hS => ?_)
          have hP : va_P D vwCl (xX K r f (va_up a 94 (upd (a 94) t4.toNatClampNeg t18)) g tx) H := hP
          have hD : va_D A (xX K r f (va_up a 94 (upd (a 94) t4.toNatClampNeg t18)) g tx) := hD
          refine k_gen (P := fun z => va_P D vwCl (xX K r f z g tx) H ∧ va_D A (xX K r f z g tx) ∧ (xI f z) ∧ (gOK K g.2 tt) ∧ (xEk ([16], [94], []) f a g f z g)) (va_up a 94 (upd (a 94) t4.toNatClampNeg t18)) ⟨hP, hD, (xI_a hI (by decide)), hG, (xEk_a hE rfl)⟩ (fun a_19 ea_19 hq => ?_)
          obtain ⟨hP, hD, hI, hG, hE⟩ := hq
          refine lv_aload_n hx hb dX11_refuse_48 rfl (lv_at hl 1 rfl) ?_
          refine lv_iload_n hx hb dX11_refuse_49 rfl (lv_at hl 2 rfl) ?_
          refine va_put (D := D) (ci := 11) (v := .int x) (ty := .int) (C := RX11) (T := TX11) (N := 17) hx hb hg inC11 tyX11 tyX11_ok nmX11 hown hK hP hD hS 0 rfl rfl 16 (by decide) (hg _ wt2_202) (fun _ h9 => h9) rfl (by decide +kernel) rfl rfl (Nat.le_of_ble_eq_true rfl) dX11_refuse_50 (fun H locs hP hD hS => ?_)
          have hP : va_P D vwCl (xX K r (upd f 16 x) a_19 g tx) H := hP
          have hD : va_D A (xX K r (upd f 16 x) a_19 g tx) := hD
          refine k_gen (P := fun z => va_P D vwCl (xX K r z a_19 g tx) H ∧ va_D A (xX K r z a_19 g tx) ∧ (xI z a_19) ∧ (gOK K g.2 tt) ∧ (xEk ([16], [94], []) f a g z a_19 g)) (upd f 16 x) ⟨hP, hD, (xI_f hI (fI_st hI.1 16 (kb_any _) (by decide) (by decide))), hG, (xEk_f hE rfl)⟩ (fun f_20 ef_20 hq => ?_)
          obtain ⟨hP, hD, hI, hG, hE⟩ := hq
          refine lv_iload_n hx hb dX11_refuse_53 rfl (lv_at hl 2 rfl) ?_
          exact kI_ret (v := x) hx hb hr hlocks rfl hK hS dX11_refuse_54 (f_20, a_19, g) hP hD ⟨(kb_any x), hI, hG, hE, rfl⟩
    · have b21 : kb (-6) x (-6) := kb_eq c2 kc_m6
      refine lv_iconst (v := 4) hx hb dX11_refuse_16 (by decide) ?_
      refine lv_goto (tgt := 24) hx hb dX11_refuse_17 (by decide) ?_
      refine lv_istore_n (lv' := [(2, .int 4), (0, .ref (r 0)), (1, .int x)]) hx hb dX11_refuse_24 rfl hl (by decide) rfl (fun ls hl => ?_)
      refine lv_iload_n hx hb dX11_refuse_25 rfl (lv_at hl 0 rfl) ?_
      refine lv_if_lt (tgt := 48) hx hb dX11_refuse_26 (by decide) (fun c22 => ?_) (fun c22 => ?_)
      · have h23 := (kc_lt c22)
        exact kb_no (kr_lt1 h23 kc_4 kc_0 (H := (-1)) (by decide)) (by decide)
      · have h24 := (kc_nlt c22)
        refine lv_iload_n hx hb dX11_refuse_29 rfl (lv_at hl 0 rfl) ?_
        refine lv_aload_n hx hb dX11_refuse_30 rfl (lv_at hl 1 rfl) ?_
        refine va_get (D := D) (ci := 11) (v := .ref (r 94)) (C := RX11) (T := TX11) (N := 17) hx hb hg inC11 hown hK hP 0 rfl rfl 11 (by decide) (hg _ wt2_197) (fun _ h9 => h9) rfl dX11_refuse_31 ?_
        refine va_alen (v := 5) hx hb hK hP 94 0 rfl rfl rfl dX11_refuse_34 ?_
        refine lv_icmp_ge (tgt := 48) hx hb dX11_refuse_35 (by decide) (fun c25 => ?_) (fun c25 => ?_)
        · have h26 := (kc_le c25)
          exact kb_no (kr_le1 h26 kc_5 kc_4) (by decide)
        · have h27 := (kc_nle c25)
          refine lv_aload_n hx hb dX11_refuse_38 rfl (lv_at hl 1 rfl) ?_
          refine va_get (D := D) (ci := 11) (v := .ref (r 94)) (C := RX11) (T := TX11) (N := 17) hx hb hg inC11 hown hK hP 0 rfl rfl 11 (by decide) (hg _ wt2_197) (fun _ h9 => h9) rfl dX11_refuse_39 ?_
          refine lv_iload_n hx hb dX11_refuse_42 rfl (lv_at hl 0 rfl) ?_
          refine lv_dup2_11 hx hb dX11_refuse_43 rfl rfl ?_
          refine va_iald hx hb hK hP 94 0 rfl rfl (kb_in kc_4 (by decide) (by decide)) dX11_refuse_44 ?_
          refine lv_topi (fun t28 et28 => ?_)
          rw [cl_4] at et28
          refine lv_iconst (v := 1) hx hb dX11_refuse_45 (by decide) ?_
          refine lv_iadd hx hb dX11_refuse_46 ?_
          refine lv_topi (fun t29 et29 => ?_)
          refine va_iast hx hb hK hP hD hS 94 0 rfl rfl (kb_in kc_4 (by decide) (by decide)) dX11_refuse_47 (fun H locs hP hD hS => ?_)
          rw [cl_4] at hP hD
          have hP : va_P D vwCl (xX K r f (va_up a 94 (upd (a 94) 4 t29)) g tx) H := hP
          have hD : va_D A (xX K r f (va_up a 94 (upd (a 94) 4 t29)) g tx) := hD
          refine k_gen (P := fun z => va_P D vwCl (xX K r f z g tx) H ∧ va_D A (xX K r f z g tx) ∧ (xI f z) ∧ (gOK K g.2 tt) ∧ (xEk ([16], [94], []) f a g f z g)) (va_up a 94 (upd (a 94) 4 t29)) ⟨hP, hD, (xI_a hI (by decide)), hG, (xEk_a hE rfl)⟩ (fun a_30 ea_30 hq => ?_)
          obtain ⟨hP, hD, hI, hG, hE⟩ := hq
          refine lv_aload_n hx hb dX11_refuse_48 rfl (lv_at hl 1 rfl) ?_
          refine lv_iload_n hx hb dX11_refuse_49 rfl (lv_at hl 2 rfl) ?_
          refine va_put (D := D) (ci := 11) (v := .int x) (ty := .int) (C := RX11) (T := TX11) (N := 17) hx hb hg inC11 tyX11 tyX11_ok nmX11 hown hK hP hD hS 0 rfl rfl 16 (by decide) (hg _ wt2_202) (fun _ h9 => h9) rfl (by decide +kernel) rfl rfl (Nat.le_of_ble_eq_true rfl) dX11_refuse_50 (fun H locs hP hD hS => ?_)
          have hP : va_P D vwCl (xX K r (upd f 16 x) a_30 g tx) H := hP
          have hD : va_D A (xX K r (upd f 16 x) a_30 g tx) := hD
          refine k_gen (P := fun z => va_P D vwCl (xX K r z a_30 g tx) H ∧ va_D A (xX K r z a_30 g tx) ∧ (xI z a_30) ∧ (gOK K g.2 tt) ∧ (xEk ([16], [94], []) f a g z a_30 g)) (upd f 16 x) ⟨hP, hD, (xI_f hI (fI_st hI.1 16 (kb_any _) (by decide) (by decide))), hG, (xEk_f hE rfl)⟩ (fun f_31 ef_31 hq => ?_)
          obtain ⟨hP, hD, hI, hG, hE⟩ := hq
          refine lv_iload_n hx hb dX11_refuse_53 rfl (lv_at hl 2 rfl) ?_
          exact kI_ret (v := x) hx hb hr hlocks rfl hK hS dX11_refuse_54 (f_31, a_30, g) hP hD ⟨(kb_w b21 (by decide) (by decide)), hI, hG, hE, rfl⟩
  · have b32 : kb (-5) x (-5) := kb_eq c1 kc_m5
    refine lv_iconst (v := 3) hx hb dX11_refuse_6 (by decide) ?_
    refine lv_goto (tgt := 24) hx hb dX11_refuse_7 (by decide) ?_
    refine lv_istore_n (lv' := [(2, .int 3), (0, .ref (r 0)), (1, .int x)]) hx hb dX11_refuse_24 rfl hl (by decide) rfl (fun ls hl => ?_)
    refine lv_iload_n hx hb dX11_refuse_25 rfl (lv_at hl 0 rfl) ?_
    refine lv_if_lt (tgt := 48) hx hb dX11_refuse_26 (by decide) (fun c33 => ?_) (fun c33 => ?_)
    · have h34 := (kc_lt c33)
      exact kb_no (kr_lt1 h34 kc_3 kc_0 (H := (-1)) (by decide)) (by decide)
    · have h35 := (kc_nlt c33)
      refine lv_iload_n hx hb dX11_refuse_29 rfl (lv_at hl 0 rfl) ?_
      refine lv_aload_n hx hb dX11_refuse_30 rfl (lv_at hl 1 rfl) ?_
      refine va_get (D := D) (ci := 11) (v := .ref (r 94)) (C := RX11) (T := TX11) (N := 17) hx hb hg inC11 hown hK hP 0 rfl rfl 11 (by decide) (hg _ wt2_197) (fun _ h9 => h9) rfl dX11_refuse_31 ?_
      refine va_alen (v := 5) hx hb hK hP 94 0 rfl rfl rfl dX11_refuse_34 ?_
      refine lv_icmp_ge (tgt := 48) hx hb dX11_refuse_35 (by decide) (fun c36 => ?_) (fun c36 => ?_)
      · have h37 := (kc_le c36)
        exact kb_no (kr_le1 h37 kc_5 kc_3) (by decide)
      · have h38 := (kc_nle c36)
        refine lv_aload_n hx hb dX11_refuse_38 rfl (lv_at hl 1 rfl) ?_
        refine va_get (D := D) (ci := 11) (v := .ref (r 94)) (C := RX11) (T := TX11) (N := 17) hx hb hg inC11 hown hK hP 0 rfl rfl 11 (by decide) (hg _ wt2_197) (fun _ h9 => h9) rfl dX11_refuse_39 ?_
        refine lv_iload_n hx hb dX11_refuse_42 rfl (lv_at hl 0 rfl) ?_
        refine lv_dup2_11 hx hb dX11_refuse_43 rfl rfl ?_
        refine va_iald hx hb hK hP 94 0 rfl rfl (kb_in kc_3 (by decide) (by decide)) dX11_refuse_44 ?_
        refine lv_topi (fun t39 et39 => ?_)
        rw [cl_3] at et39
        refine lv_iconst (v := 1) hx hb dX11_refuse_45 (by decide) ?_
        refine lv_iadd hx hb dX11_refuse_46 ?_
        refine lv_topi (fun t40 et40 => ?_)
        refine va_iast hx hb hK hP hD hS 94 0 rfl rfl (kb_in kc_3 (by decide) (by decide)) dX11_refuse_47 (fun H locs hP hD hS => ?_)
        rw [cl_3] at hP hD
        have hP : va_P D vwCl (xX K r f (va_up a 94 (upd (a 94) 3 t40)) g tx) H := hP
        have hD : va_D A (xX K r f (va_up a 94 (upd (a 94) 3 t40)) g tx) := hD
        refine k_gen (P := fun z => va_P D vwCl (xX K r f z g tx) H ∧ va_D A (xX K r f z g tx) ∧ (xI f z) ∧ (gOK K g.2 tt) ∧ (xEk ([16], [94], []) f a g f z g)) (va_up a 94 (upd (a 94) 3 t40)) ⟨hP, hD, (xI_a hI (by decide)), hG, (xEk_a hE rfl)⟩ (fun a_41 ea_41 hq => ?_)
        obtain ⟨hP, hD, hI, hG, hE⟩ := hq
        refine lv_aload_n hx hb dX11_refuse_48 rfl (lv_at hl 1 rfl) ?_
        refine lv_iload_n hx hb dX11_refuse_49 rfl (lv_at hl 2 rfl) ?_
        refine va_put (D := D) (ci := 11) (v := .int x) (ty := .int) (C := RX11) (T := TX11) (N := 17) hx hb hg inC11 tyX11 tyX11_ok nmX11 hown hK hP hD hS 0 rfl rfl 16 (by decide) (hg _ wt2_202) (fun _ h9 => h9) rfl (by decide +kernel) rfl rfl (Nat.le_of_ble_eq_true rfl) dX11_refuse_50 (fun H locs hP hD hS => ?_)
        have hP : va_P D vwCl (xX K r (upd f 16 x) a_41 g tx) H := hP
        have hD : va_D A (xX K r (upd f 16 x) a_41 g tx) := hD
        refine k_gen (P := fun z => va_P D vwCl (xX K r z a_41 g tx) H ∧ va_D A (xX K r z a_41 g tx) ∧ (xI z a_41) ∧ (gOK K g.2 tt) ∧ (xEk ([16], [94], []) f a g z a_41 g)) (upd f 16 x) ⟨hP, hD, (xI_f hI (fI_st hI.1 16 (kb_any _) (by decide) (by decide))), hG, (xEk_f hE rfl)⟩ (fun f_42 ef_42 hq => ?_)
        obtain ⟨hP, hD, hI, hG, hE⟩ := hq
        refine lv_iload_n hx hb dX11_refuse_53 rfl (lv_at hl 2 rfl) ?_
        exact kI_ret (v := x) hx hb hr hlocks rfl hK hS dX11_refuse_54 (f_42, a_41, g) hP hD ⟨(kb_w b32 (by decide) (by decide)), hI, hG, hE, rfl⟩
set_option maxHeartbeats 4000000 in
set_option maxRecDepth 100000 in
theorem x_11_agree  (l : Launch) {D : va_G} {K : Nat → ClassId} (r : Nat → Nat) (f : Nat → Int32) (a : Nat → Nat → Int32) (g : xG) (tx tt : va_W) (hT : ∀ c ∈ tt, c ∈ tx) (hI : xI f a) (hG : gOK K g.2 tt) (x : Int32)    : kIG l yX11_agree (Cond.code yX11_agree cX11_agree 2 (some .int) :: kG) (rmD 1 0 0) D K [.ref (r 0), .int x] (xX K r f a g tx) (fun v (u : xS) => kb (-2147483648) v 2147483647 ∧ xI u.1 u.2.1 ∧ gOK K u.2.2.2 tt ∧ xEk ([16], [], []) f a g u.1 u.2.1 u.2.2 ∧ v = x) (fun u => xX K r u.1 u.2.1 u.2.2 tx) 0 0 := by
  refine kIE.of (cc := cX11_agree) (maxL := 2) (ret := (some .int)) (by decide) rfl (Nat.le_of_ble_eq_true rfl) ?_
  intro p e s m below meth c A hx hb hr hml hown hts hlocks hnm hK hP hD hS hA hV ls hl
  have hE : xEk ([16], [], []) f a g f a g := xEk_rf
  have hg : ∀ w ∈ kG, w.before _ s = true := fun w h => hts w (List.mem_cons_of_mem _ h)
  have hown : s.vm.findClass RX11 = some m.cls := hown
  have hl : lv_has ls 2 [(0, .ref (r 0)), (1, .int x)] := hl
  refine lv_aload_n hx hb dX11_agree_0 rfl (lv_at hl 0 rfl) ?_
  refine lv_iconst (v := 0) hx hb dX11_agree_1 (by decide) ?_
  refine va_put (D := D) (ci := 11) (v := .int 0) (ty := .int) (C := RX11) (T := TX11) (N := 17) hx hb hg inC11 tyX11 tyX11_ok nmX11 hown hK hP hD hS 0 rfl rfl 16 (by decide) (hg _ wt2_202) (fun _ h9 => h9) rfl (by decide +kernel) rfl rfl (Nat.le_of_ble_eq_true rfl) dX11_agree_2 (fun H locs hP hD hS => ?_)
  have hP : va_P D vwCl (xX K r (upd f 16 0) a g tx) H := hP
  have hD : va_D A (xX K r (upd f 16 0) a g tx) := hD
  refine k_gen (P := fun z => va_P D vwCl (xX K r z a g tx) H ∧ va_D A (xX K r z a g tx) ∧ (xI z a) ∧ (gOK K g.2 tt) ∧ (xEk ([16], [], []) f a g z a g)) (upd f 16 0) ⟨hP, hD, (xI_f hI (fI_st hI.1 16 (kb_any _) (by decide) (by decide))), hG, (xEk_f hE rfl)⟩ (fun f_1 ef_1 hq => ?_)
  obtain ⟨hP, hD, hI, hG, hE⟩ := hq
  refine lv_iload_n hx hb dX11_agree_5 rfl (lv_at hl 1 rfl) ?_
  exact kI_ret (v := x) hx hb hr hlocks rfl hK hS dX11_agree_6 (f_1, a, g) hP hD ⟨(kb_any x), hI, hG, hE, rfl⟩
set_option maxHeartbeats 4000000 in
set_option maxRecDepth 100000 in
theorem x_11_agreeChanged  (l : Launch) {D : va_G} {K : Nat → ClassId} (r : Nat → Nat) (f : Nat → Int32) (a : Nat → Nat → Int32) (g : xG) (tx tt : va_W) (hT : ∀ c ∈ tt, c ∈ tx) (hI : xI f a) (hG : gOK K g.2 tt) (x : Int32)    : kIG l yX11_agreeChanged (Cond.code yX11_agreeChanged cX11_agreeChanged 2 (some .int) :: kG) (rmD 2 0 0) D K [.ref (r 0), .int x] (xX K r f a g tx) (fun v (u : xS) => kb (-2147483648) v 2147483647 ∧ xI u.1 u.2.1 ∧ gOK K u.2.2.2 tt ∧ xEk ([16, 2565, 2566, 2786], [81], []) f a g u.1 u.2.1 u.2.2 ∧ v = x) (fun u => xX K r u.1 u.2.1 u.2.2 tx) 0 0 := by
  refine kIE.of (cc := cX11_agreeChanged) (maxL := 2) (ret := (some .int)) (by decide) rfl (Nat.le_of_ble_eq_true rfl) ?_
  intro p e s m below meth c A hx hb hr hml hown hts hlocks hnm hK hP hD hS hA hV ls hl
  have hE : xEk ([16, 2565, 2566, 2786], [81], []) f a g f a g := xEk_rf
  have hg : ∀ w ∈ kG, w.before _ s = true := fun w h => hts w (List.mem_cons_of_mem _ h)
  have hown : s.vm.findClass RX11 = some m.cls := hown
  have hl : lv_has ls 2 [(0, .ref (r 0)), (1, .int x)] := hl
  refine lv_aload_n hx hb dX11_agreeChanged_0 rfl (lv_at hl 0 rfl) ?_
  refine va_get (D := D) (ci := 11) (v := .ref (r 80)) (C := RX11) (T := TX11) (N := 17) hx hb hg inC11 hown hK hP 0 rfl rfl 6 (by decide) (hg _ wt2_192) (fun _ h9 => h9) rfl dX11_agreeChanged_1 ?_
  refine kVG.callW (As := []) (rest := []) ⟨hx, hb, hml, hown, hg⟩ (x_9_clear l r f a g tx tt hT hI hG   ) (cwV 0 hg (kgV wt3_19 wt3_20 wt3_21 wt1_11 wt3_22) rfl rfl rfl (by decide +kernel) ⟨by decide, by decide⟩) hV hK hP hD hS hA (80) 9 rfl rfl rfl hl.1 rfl (Nat.le_of_ble_eq_true rfl) dX11_agreeChanged_4 ⟨Nat.le_refl _, Nat.le_refl _⟩ (fun u3 H locs hw1 hP hD hS => ?_)
  obtain ⟨f4, a5, g6⟩ := u3
  have hP : va_P D vwCl (xX K r f4 a5 g6 tx) H := hP
  have hD : va_D A (xX K r f4 a5 g6 tx) := hD
  have hI : xI f4 a5 := hw1.1
  have hG : gOK K g6.2 tt := hw1.2.1
  have eE7 : xEk ([2565, 2566], [81], []) f a g f4 a5 g6 := hw1.2.2
  have hE : xEk ([16, 2565, 2566, 2786], [81], []) f a g f4 a5 g6 := xEk_tr hE (xEk_w (by decide +kernel) eE7)
  refine lv_aload_n hx hb dX11_agreeChanged_7 rfl (lv_at hl 0 rfl) ?_
  refine va_get (D := D) (ci := 11) (v := .ref (r 87)) (C := RX11) (T := TX11) (N := 17) hx hb hg inC11 hown hK hP 0 rfl rfl 7 (by decide) (hg _ wt2_193) (fun _ h9 => h9) rfl dX11_agreeChanged_8 ?_
  refine kVG.callW (As := []) (rest := []) ⟨hx, hb, hml, hown, hg⟩ (x_6_clear l r f4 a5 g6 tx tt hT hI hG   ) (cwV 0 hg (kgV wt3_23 wt3_24 wt3_25 wt1_12 wt3_26) rfl rfl rfl (by decide +kernel) ⟨by decide, by decide⟩) hV hK hP hD hS hA (87) 6 rfl rfl rfl hl.1 rfl (Nat.le_of_ble_eq_true rfl) dX11_agreeChanged_11 ⟨Nat.le_refl _, Nat.le_refl _⟩ (fun u10 H locs hw8 hP hD hS => ?_)
  obtain ⟨f11, a12, g13⟩ := u10
  have hP : va_P D vwCl (xX K r f11 a12 g13 tx) H := hP
  have hD : va_D A (xX K r f11 a12 g13 tx) := hD
  have hI : xI f11 a12 := hw8.1
  have hG : gOK K g13.2 tt := hw8.2.1
  have eE14 : xEk ([2786], [], []) f4 a5 g6 f11 a12 g13 := hw8.2.2
  have hE : xEk ([16, 2565, 2566, 2786], [81], []) f a g f11 a12 g13 := xEk_tr hE (xEk_w (by decide +kernel) eE14)
  refine lv_aload_n hx hb dX11_agreeChanged_14 rfl (lv_at hl 0 rfl) ?_
  refine lv_iload_n hx hb dX11_agreeChanged_15 rfl (lv_at hl 1 rfl) ?_
  refine kIG.callW (As := [.int x]) (rest := []) ⟨hx, hb, hml, hown, hg⟩ (x_11_agree l r f11 a12 g13 tx tt hT hI hG x  ) (cwV 1 hg (kgV wt3_27 wt3_29 wp1_2 wt1_1 wt3_30) rfl rfl rfl (by decide +kernel) ⟨by decide, by decide⟩) hV hK hP hD hS hA (0) 11 rfl rfl rfl hl.1 rfl (Nat.le_of_ble_eq_true rfl) dX11_agreeChanged_16 ⟨Nat.le_refl _, Nat.le_refl _⟩ (fun v16 u17 H locs hw15 hP hD hS => ?_)
  obtain ⟨f18, a19, g20⟩ := u17
  have hP : va_P D vwCl (xX K r f18 a19 g20 tx) H := hP
  have hD : va_D A (xX K r f18 a19 g20 tx) := hD
  have hI : xI f18 a19 := hw15.2.1
  have hG : gOK K g20.2 tt := hw15.2.2.1
  have eE21 : xEk ([16], [], []) f11 a12 g13 f18 a19 g20 := hw15.2.2.2.1
  have hE : xEk ([16, 2565, 2566, 2786], [81], []) f a g f18 a19 g20 := xEk_tr hE (xEk_w (by decide +kernel) eE21)
  refine k_top (z := x) hw15.2.2.2.2 ?_
  exact kI_ret (v := x) hx hb hr hlocks rfl hK hS dX11_agreeChanged_19 (f18, a19, g20) hP hD ⟨(kb_any x), hI, hG, hE, rfl⟩
set_option maxHeartbeats 4000000 in
set_option maxRecDepth 100000 in
theorem x_11_settle  (l : Launch) {D : va_G} {K : Nat → ClassId} (r : Nat → Nat) (f : Nat → Int32) (a : Nat → Nat → Int32) (g : xG) (tx tt : va_W) (hT : ∀ c ∈ tt, c ∈ tx) (hI : xI f a) (hG : gOK K g.2 tt) (x : Int32)    : kIG l yX11_settle (Cond.code yX11_settle cX11_settle 2 (some .int) :: kG) (rmD 3 0 0) D K [.ref (r 0), .int x] (xX K r f a g tx) (fun v (u : xS) => kb (-2147483648) v 2147483647 ∧ xI u.1 u.2.1 ∧ gOK K u.2.2.2 tt ∧ xEk ([16, 2565, 2566, 2786], [81, 94], []) f a g u.1 u.2.1 u.2.2) (fun u => xX K r u.1 u.2.1 u.2.2 tx) 0 0 := by
  refine kIE.of (cc := cX11_settle) (maxL := 2) (ret := (some .int)) (by decide) rfl (Nat.le_of_ble_eq_true rfl) ?_
  intro p e s m below meth c A hx hb hr hml hown hts hlocks hnm hK hP hD hS hA hV ls hl
  have hE : xEk ([16, 2565, 2566, 2786], [81, 94], []) f a g f a g := xEk_rf
  have hg : ∀ w ∈ kG, w.before _ s = true := fun w h => hts w (List.mem_cons_of_mem _ h)
  have hown : s.vm.findClass RX11 = some m.cls := hown
  have hl : lv_has ls 2 [(0, .ref (r 0)), (1, .int x)] := hl
  refine lv_iload_n hx hb dX11_settle_0 rfl (lv_at hl 1 rfl) ?_
  refine lv_if_ge (tgt := 12) hx hb dX11_settle_1 (by decide) (fun c1 => ?_) (fun c1 => ?_)
  · have h2 := (kc_le c1)
    have b3 : kb 0 x 2147483647 := kr_le2 h2 kc_0 (kb_any x)
    refine lv_aload_n hx hb dX11_settle_12 rfl (lv_at hl 0 rfl) ?_
    refine lv_iload_n hx hb dX11_settle_13 rfl (lv_at hl 1 rfl) ?_
    refine kIG.callW (As := [.int x]) (rest := []) ⟨hx, hb, hml, hown, hg⟩ (x_11_agreeChanged l r f a g tx tt hT hI hG x  ) (cwV 1 hg (kgV wt3_15 wt3_17 wp1_1 wt1_1 wt3_18) rfl rfl rfl (by decide +kernel) ⟨by decide, by decide⟩) hV hK hP hD hS hA (0) 11 rfl rfl rfl hl.1 rfl (Nat.le_of_ble_eq_true rfl) dX11_settle_14 ⟨Nat.le_refl _, Nat.le_refl _⟩ (fun v5 u6 H locs hw4 hP hD hS => ?_)
    obtain ⟨f7, a8, g9⟩ := u6
    have hP : va_P D vwCl (xX K r f7 a8 g9 tx) H := hP
    have hD : va_D A (xX K r f7 a8 g9 tx) := hD
    have hI : xI f7 a8 := hw4.2.1
    have hG : gOK K g9.2 tt := hw4.2.2.1
    have eE10 : xEk ([16, 2565, 2566, 2786], [81], []) f a g f7 a8 g9 := hw4.2.2.2.1
    have hE : xEk ([16, 2565, 2566, 2786], [81, 94], []) f a g f7 a8 g9 := xEk_tr hE (xEk_w (by decide +kernel) eE10)
    refine k_top (z := x) hw4.2.2.2.2 ?_
    exact kI_ret (v := x) hx hb hr hlocks rfl hK hS dX11_settle_17 (f7, a8, g9) hP hD ⟨(kb_w b3 (by decide) (by decide)), hI, hG, hE⟩
  · have h11 := (kc_nle c1)
    have b12 : kb (-2147483648) x (-1) := kr_lt1 h11 (kb_any x) kc_0 (by decide)
    refine lv_aload_n hx hb dX11_settle_4 rfl (lv_at hl 0 rfl) ?_
    refine lv_iload_n hx hb dX11_settle_5 rfl (lv_at hl 1 rfl) ?_
    refine kIG.callW (As := [.int x]) (rest := []) ⟨hx, hb, hml, hown, hg⟩ (x_11_refuse l r f a g tx tt hT hI hG x  ) (cwV 1 hg (kgV wt3_7 wt3_9 wp1_0 wt1_1 wt3_10) rfl rfl rfl (by decide +kernel) ⟨by decide, by decide⟩) hV hK hP hD hS hA (0) 11 rfl rfl rfl hl.1 rfl (Nat.le_of_ble_eq_true rfl) dX11_settle_6 ⟨Nat.le_refl _, Nat.le_refl _⟩ (fun v14 u15 H locs hw13 hP hD hS => ?_)
    obtain ⟨f16, a17, g18⟩ := u15
    have hP : va_P D vwCl (xX K r f16 a17 g18 tx) H := hP
    have hD : va_D A (xX K r f16 a17 g18 tx) := hD
    have hI : xI f16 a17 := hw13.2.1
    have hG : gOK K g18.2 tt := hw13.2.2.1
    have eE19 : xEk ([16], [94], []) f a g f16 a17 g18 := hw13.2.2.2.1
    have hE : xEk ([16, 2565, 2566, 2786], [81, 94], []) f a g f16 a17 g18 := xEk_tr hE (xEk_w (by decide +kernel) eE19)
    refine k_top (z := x) hw13.2.2.2.2 ?_
    refine lv_goto (tgt := 17) hx hb dX11_settle_9 (by decide) ?_
    exact kI_ret (v := x) hx hb hr hlocks rfl hK hS dX11_settle_17 (f16, a17, g18) hP hD ⟨(kb_w b12 (by decide) (by decide)), hI, hG, hE⟩
set_option maxHeartbeats 4000000 in
set_option maxRecDepth 100000 in
theorem x_11_emptyTape  (l : Launch) {D : va_G} {K : Nat → ClassId} (r : Nat → Nat) (f : Nat → Int32) (a : Nat → Nat → Int32) (g : xG) (tx tt : va_W) (hT : ∀ c ∈ tt, c ∈ tx) (hI : xI f a) (hG : gOK K g.2 tt)     : kIG l yX11_emptyTape (Cond.code yX11_emptyTape cX11_emptyTape 2 (some .int) :: kG) (rmD 1 0 0) D K [.ref (r 0)] (xX K r f a g tx) (fun v (u : xS) => kb 0 v 400 ∧ xI u.1 u.2.1 ∧ gOK K u.2.2.2 tt ∧ xEk ([12], [], []) f a g u.1 u.2.1 u.2.2 ∧ u.1 12 = 0 ∧ v = f 12) (fun u => xX K r u.1 u.2.1 u.2.2 tx) 0 0 := by
  refine kIE.of (cc := cX11_emptyTape) (maxL := 2) (ret := (some .int)) (by decide) rfl (Nat.le_of_ble_eq_true rfl) ?_
  intro p e s m below meth c A hx hb hr hml hown hts hlocks hnm hK hP hD hS hA hV ls hl
  have hE : xEk ([12], [], []) f a g f a g := xEk_rf
  have hg : ∀ w ∈ kG, w.before _ s = true := fun w h => hts w (List.mem_cons_of_mem _ h)
  have hown : s.vm.findClass RX11 = some m.cls := hown
  have hl : lv_has ls 2 [(0, .ref (r 0))] := hl
  obtain ⟨c12, ec12⟩ : ∃ z : Int32, z = f 12 := ⟨_, rfl⟩
  have b1 : kb 0 c12 400 := kb_eq ec12 (fI_at hI.1 12 (by decide) (by decide))
  refine lv_aload_n hx hb dX11_emptyTape_0 rfl (lv_at hl 0 rfl) ?_
  refine va_get (D := D) (ci := 11) (v := .int (f 12)) (C := RX11) (T := TX11) (N := 17) hx hb hg inC11 hown hK hP 0 rfl rfl 12 (by decide) (hg _ wt2_198) (fun _ h9 => h9) rfl dX11_emptyTape_1 ?_
  refine k_top (z := c12) ec12.symm ?_
  refine lv_istore_n (lv' := [(1, .int c12), (0, .ref (r 0))]) hx hb dX11_emptyTape_4 rfl hl (by decide) rfl (fun ls hl => ?_)
  refine lv_aload_n hx hb dX11_emptyTape_5 rfl (lv_at hl 1 rfl) ?_
  refine lv_iconst (v := 0) hx hb dX11_emptyTape_6 (by decide) ?_
  refine va_put (D := D) (ci := 11) (v := .int 0) (ty := .int) (C := RX11) (T := TX11) (N := 17) hx hb hg inC11 tyX11 tyX11_ok nmX11 hown hK hP hD hS 0 rfl rfl 12 (by decide) (hg _ wt2_198) (fun _ h9 => h9) rfl (by decide +kernel) rfl rfl (Nat.le_of_ble_eq_true rfl) dX11_emptyTape_7 (fun H locs hP hD hS => ?_)
  have hP : va_P D vwCl (xX K r (upd f 12 0) a g tx) H := hP
  have hD : va_D A (xX K r (upd f 12 0) a g tx) := hD
  refine k_gen (P := fun z => va_P D vwCl (xX K r z a g tx) H ∧ va_D A (xX K r z a g tx) ∧ (xI z a) ∧ (gOK K g.2 tt) ∧ (xEk ([12], [], []) f a g z a g)) (upd f 12 0) ⟨hP, hD, (xI_f hI (fI_st hI.1 12 kc_0 (by decide) (by decide))), hG, (xEk_f hE rfl)⟩ (fun f_2 ef_2 hq => ?_)
  obtain ⟨hP, hD, hI, hG, hE⟩ := hq
  refine lv_iload_n hx hb dX11_emptyTape_10 rfl (lv_at hl 0 rfl) ?_
  exact kI_ret (v := c12) hx hb hr hlocks rfl hK hS dX11_emptyTape_11 (f_2, a, g) hP hD ⟨b1, hI, hG, hE, (show f_2 12 = 0 from by rw [← ef_2]; rfl), ec12⟩
set_option maxHeartbeats 4000000 in
set_option maxRecDepth 100000 in
theorem x_7_addPart  (l : Launch) {D : va_G} {K : Nat → ClassId} (r : Nat → Nat) (f : Nat → Int32) (a : Nat → Nat → Int32) (g : xG) (tx tt : va_W) (hT : ∀ c ∈ tt, c ∈ tx) (hI : xI f a) (hG : gOK K g.2 tt) (x : Int32) (y : Int32) (z : Int32) (t_ : Int32)    : kIG l yX7_addPart (Cond.code yX7_addPart cX7_addPart 6 (some .int) :: kG) (rmD 1 0 0) D K [.ref (r 1), .int x, .int y, .int z, .int t_] (xX K r f a g tx) (fun v (u : xS) => kb (-2147483648) v 2147483647 ∧ xI u.1 u.2.1 ∧ gOK K u.2.2.2 tt ∧ xEk ([32], [2, 3, 4, 5, 6], []) f a g u.1 u.2.1 u.2.2 ∧ prtP (okPx x y z t_ (f 32)) v (f 32) (u.1 32)) (fun u => xX K r u.1 u.2.1 u.2.2 tx) 0 0 := by
  refine kIE.of (cc := cX7_addPart) (maxL := 6) (ret := (some .int)) (by decide) rfl (Nat.le_of_ble_eq_true rfl) ?_
  intro p e s m below meth c A hx hb hr hml hown hts hlocks hnm hK hP hD hS hA hV ls hl
  have hE : xEk ([32], [2, 3, 4, 5, 6], []) f a g f a g := xEk_rf
  have hg : ∀ w ∈ kG, w.before _ s = true := fun w h => hts w (List.mem_cons_of_mem _ h)
  have hown : s.vm.findClass RX7 = some m.cls := hown
  have hl : lv_has ls 6 [(0, .ref (r 1)), (1, .int x), (2, .int y), (3, .int z), (4, .int t_)] := hl
  obtain ⟨c32, ec32⟩ : ∃ z : Int32, z = f 32 := ⟨_, rfl⟩
  have b1 : kb 0 c32 10 := kb_eq ec32 (fI_at hI.1 32 (by decide) (by decide))
  refine lv_iload_n hx hb dX7_addPart_0 rfl (lv_at hl 2 rfl) ?_
  refine lv_iconst (v := (-1)) hx hb dX7_addPart_1 (by decide) ?_
  refine lv_aload_n hx hb dX7_addPart_2 rfl (lv_at hl 0 rfl) ?_
  refine va_get (D := D) (ci := 7) (v := .int (f 32)) (C := RX7) (T := TX7) (N := 20) hx hb hg inC7 hown hK hP 1 rfl rfl 0 (by decide) (hg _ wt1_79) (fun _ h9 => h9) rfl dX7_addPart_3 ?_
  refine k_top (z := c32) ec32.symm ?_
  refine lv_ishl hx hb dX7_addPart_6 ?_
  refine lv_topi (fun t2 et2 => ?_)
  refine lv_iand hx hb dX7_addPart_7 ?_
  refine lv_topi (fun t3 et3 => ?_)
  refine lv_if_ne (tgt := 15) hx hb dX7_addPart_8 (by decide) (fun c4 => ?_) (fun c4 => ?_)
  · refine lv_iconst (v := 0) hx hb dX7_addPart_15 (by decide) ?_
    refine lv_istore (lv' := [(5, .int 0), (0, .ref (r 1)), (1, .int x), (2, .int y), (3, .int z), (4, .int t_)]) hx hb dX7_addPart_16 hl (by decide) rfl (fun ls hl => ?_)
    refine lv_iload_n hx hb dX7_addPart_18 rfl (lv_at hl 2 rfl) ?_
    refine lv_iconst (v := 1) hx hb dX7_addPart_19 (by decide) ?_
    refine lv_icmp_lt (tgt := 55) hx hb dX7_addPart_20 (by decide) (fun c5 => ?_) (fun c5 => ?_)
    · have h6 := (kc_lt c5)
      have b7 : kb (-2147483648) x 0 := kr_lt1 h6 (kb_any x) kc_1 (by decide)
      refine lv_iconst (v := (-1)) hx hb dX7_addPart_55 (by decide) ?_
      exact kI_ret (v := (-1)) hx hb hr hlocks rfl hK hS dX7_addPart_56 (f, a, g) hP hD ⟨(kb_w kc_m1 (by decide) (by decide)), hI, hG, hE, (Or.inl ⟨rfl, (fun q => by have w1 := (b7).1; have w2 := (b7).2; have w3 := ((kb_any z)).1; have w4 := ((kb_any z)).2; have w5 := ((kb_any t_)).1; have w6 := ((kb_any t_)).2; have q1 := q.1; have q2 := q.2.2.1; have q3 := q.2.2.2; omega), ((ec32.symm).trans ec32)⟩)⟩
    · have h8 := (kc_nlt c5)
      have b9 : kb 1 x 2147483647 := kr_le2 h8 kc_1 (kb_any x)
      refine lv_iload_n hx hb dX7_addPart_23 rfl (lv_at hl 2 rfl) ?_
      refine lv_bipush (v := 99) hx hb dX7_addPart_24 (by decide) ?_
      refine lv_icmp_gt (tgt := 55) hx hb dX7_addPart_26 (by decide) (fun c10 => ?_) (fun c10 => ?_)
      · have h11 := (kc_lt c10)
        have b12 : kb 100 x 2147483647 := kr_lt2 h11 kc_99 b9 (by decide)
        refine lv_iconst (v := (-1)) hx hb dX7_addPart_55 (by decide) ?_
        exact kI_ret (v := (-1)) hx hb hr hlocks rfl hK hS dX7_addPart_56 (f, a, g) hP hD ⟨(kb_w kc_m1 (by decide) (by decide)), hI, hG, hE, (Or.inl ⟨rfl, (fun q => by have w1 := (b12).1; have w2 := (b12).2; have w3 := ((kb_any z)).1; have w4 := ((kb_any z)).2; have w5 := ((kb_any t_)).1; have w6 := ((kb_any t_)).2; have q1 := q.1; have q2 := q.2.2.1; have q3 := q.2.2.2; omega), ((ec32.symm).trans ec32)⟩)⟩
      · have h13 := (kc_nlt c10)
        have b14 : kb 1 x 99 := kr_le1 h13 b9 kc_99
        refine lv_iload hx hb dX7_addPart_29 (lv_at hl 0 rfl) ?_
        refine lv_if_eq (tgt := 55) hx hb dX7_addPart_31 (by decide) (fun c15 => ?_) (fun c15 => ?_)
        · refine lv_iconst (v := (-1)) hx hb dX7_addPart_55 (by decide) ?_
          exact kI_ret (v := (-1)) hx hb hr hlocks rfl hK hS dX7_addPart_56 (f, a, g) hP hD ⟨(kb_w kc_m1 (by decide) (by decide)), hI, hG, hE, (Or.inl ⟨rfl, (fun q => c4 (by rw [et3, et2, ec32]; exact q.2.1)), ((ec32.symm).trans ec32)⟩)⟩
        · exact kb_nsame c15 kc_0 kc_0
  · have b16 : kb 0 t3 0 := kb_eq c4 kc_0
    refine lv_iconst (v := 1) hx hb dX7_addPart_11 (by decide) ?_
    refine lv_goto (tgt := 16) hx hb dX7_addPart_12 (by decide) ?_
    refine lv_istore (lv' := [(5, .int 1), (0, .ref (r 1)), (1, .int x), (2, .int y), (3, .int z), (4, .int t_)]) hx hb dX7_addPart_16 hl (by decide) rfl (fun ls hl => ?_)
    refine lv_iload_n hx hb dX7_addPart_18 rfl (lv_at hl 2 rfl) ?_
    refine lv_iconst (v := 1) hx hb dX7_addPart_19 (by decide) ?_
    refine lv_icmp_lt (tgt := 55) hx hb dX7_addPart_20 (by decide) (fun c17 => ?_) (fun c17 => ?_)
    · have h18 := (kc_lt c17)
      have b19 : kb (-2147483648) x 0 := kr_lt1 h18 (kb_any x) kc_1 (by decide)
      refine lv_iconst (v := (-1)) hx hb dX7_addPart_55 (by decide) ?_
      exact kI_ret (v := (-1)) hx hb hr hlocks rfl hK hS dX7_addPart_56 (f, a, g) hP hD ⟨(kb_w kc_m1 (by decide) (by decide)), hI, hG, hE, (Or.inl ⟨rfl, (fun q => by have w1 := (b19).1; have w2 := (b19).2; have w3 := ((kb_any z)).1; have w4 := ((kb_any z)).2; have w5 := ((kb_any t_)).1; have w6 := ((kb_any t_)).2; have q1 := q.1; have q2 := q.2.2.1; have q3 := q.2.2.2; omega), ((ec32.symm).trans ec32)⟩)⟩
    · have h20 := (kc_nlt c17)
      have b21 : kb 1 x 2147483647 := kr_le2 h20 kc_1 (kb_any x)
      refine lv_iload_n hx hb dX7_addPart_23 rfl (lv_at hl 2 rfl) ?_
      refine lv_bipush (v := 99) hx hb dX7_addPart_24 (by decide) ?_
      refine lv_icmp_gt (tgt := 55) hx hb dX7_addPart_26 (by decide) (fun c22 => ?_) (fun c22 => ?_)
      · have h23 := (kc_lt c22)
        have b24 : kb 100 x 2147483647 := kr_lt2 h23 kc_99 b21 (by decide)
        refine lv_iconst (v := (-1)) hx hb dX7_addPart_55 (by decide) ?_
        exact kI_ret (v := (-1)) hx hb hr hlocks rfl hK hS dX7_addPart_56 (f, a, g) hP hD ⟨(kb_w kc_m1 (by decide) (by decide)), hI, hG, hE, (Or.inl ⟨rfl, (fun q => by have w1 := (b24).1; have w2 := (b24).2; have w3 := ((kb_any z)).1; have w4 := ((kb_any z)).2; have w5 := ((kb_any t_)).1; have w6 := ((kb_any t_)).2; have q1 := q.1; have q2 := q.2.2.1; have q3 := q.2.2.2; omega), ((ec32.symm).trans ec32)⟩)⟩
      · have h25 := (kc_nlt c22)
        have b26 : kb 1 x 99 := kr_le1 h25 b21 kc_99
        refine lv_iload hx hb dX7_addPart_29 (lv_at hl 0 rfl) ?_
        refine lv_if_eq (tgt := 55) hx hb dX7_addPart_31 (by decide) (fun c27 => ?_) (fun c27 => ?_)
        · exact kb_dj c27 kc_1 kc_0 (by decide)
        · refine lv_iload_n hx hb dX7_addPart_34 rfl (lv_at hl 4 rfl) ?_
          refine lv_if_lt (tgt := 55) hx hb dX7_addPart_35 (by decide) (fun c28 => ?_) (fun c28 => ?_)
          · have h29 := (kc_lt c28)
            have b30 : kb (-2147483648) z (-1) := kr_lt1 h29 (kb_any z) kc_0 (by decide)
            refine lv_iconst (v := (-1)) hx hb dX7_addPart_55 (by decide) ?_
            exact kI_ret (v := (-1)) hx hb hr hlocks rfl hK hS dX7_addPart_56 (f, a, g) hP hD ⟨(kb_w kc_m1 (by decide) (by decide)), hI, hG, hE, (Or.inl ⟨rfl, (fun q => by have w1 := (b26).1; have w2 := (b26).2; have w3 := (b30).1; have w4 := (b30).2; have w5 := ((kb_any t_)).1; have w6 := ((kb_any t_)).2; have q1 := q.1; have q2 := q.2.2.1; have q3 := q.2.2.2; omega), ((ec32.symm).trans ec32)⟩)⟩
          · have h31 := (kc_nlt c28)
            have b32 : kb 0 z 2147483647 := kr_le2 h31 kc_0 (kb_any z)
            refine lv_iload_n hx hb dX7_addPart_38 rfl (lv_at hl 4 rfl) ?_
            refine lv_iconst (v := 4) hx hb dX7_addPart_39 (by decide) ?_
            refine lv_icmp_ge (tgt := 55) hx hb dX7_addPart_40 (by decide) (fun c33 => ?_) (fun c33 => ?_)
            · have h34 := (kc_le c33)
              have b35 : kb 4 z 2147483647 := kr_le2 h34 kc_4 b32
              refine lv_iconst (v := (-1)) hx hb dX7_addPart_55 (by decide) ?_
              exact kI_ret (v := (-1)) hx hb hr hlocks rfl hK hS dX7_addPart_56 (f, a, g) hP hD ⟨(kb_w kc_m1 (by decide) (by decide)), hI, hG, hE, (Or.inl ⟨rfl, (fun q => by have w1 := (b26).1; have w2 := (b26).2; have w3 := (b35).1; have w4 := (b35).2; have w5 := ((kb_any t_)).1; have w6 := ((kb_any t_)).2; have q1 := q.1; have q2 := q.2.2.1; have q3 := q.2.2.2; omega), ((ec32.symm).trans ec32)⟩)⟩
            · have h36 := (kc_nle c33)
              have b37 : kb 0 z 3 := kr_lt1 h36 b32 kc_4 (by decide)
              refine lv_iload hx hb dX7_addPart_43 (lv_at hl 5 rfl) ?_
              refine lv_if_lt (tgt := 55) hx hb dX7_addPart_45 (by decide) (fun c38 => ?_) (fun c38 => ?_)
              · have h39 := (kc_lt c38)
                have b40 : kb (-2147483648) t_ (-1) := kr_lt1 h39 (kb_any t_) kc_0 (by decide)
                refine lv_iconst (v := (-1)) hx hb dX7_addPart_55 (by decide) ?_
                exact kI_ret (v := (-1)) hx hb hr hlocks rfl hK hS dX7_addPart_56 (f, a, g) hP hD ⟨(kb_w kc_m1 (by decide) (by decide)), hI, hG, hE, (Or.inl ⟨rfl, (fun q => by have w1 := (b26).1; have w2 := (b26).2; have w3 := (b37).1; have w4 := (b37).2; have w5 := (b40).1; have w6 := (b40).2; have q1 := q.1; have q2 := q.2.2.1; have q3 := q.2.2.2; omega), ((ec32.symm).trans ec32)⟩)⟩
              · have h41 := (kc_nlt c38)
                have b42 : kb 0 t_ 2147483647 := kr_le2 h41 kc_0 (kb_any t_)
                refine lv_iload hx hb dX7_addPart_48 (lv_at hl 5 rfl) ?_
                refine lv_bipush (v := 9) hx hb dX7_addPart_50 (by decide) ?_
                refine lv_icmp_le (tgt := 57) hx hb dX7_addPart_52 (by decide) (fun c43 => ?_) (fun c43 => ?_)
                · have h44 := (kc_le c43)
                  have b45 : kb 0 t_ 9 := kr_le1 h44 b42 kc_9
                  refine lv_aload_n hx hb dX7_addPart_57 rfl (lv_at hl 1 rfl) ?_
                  refine va_get (D := D) (ci := 7) (v := .int (f 32)) (C := RX7) (T := TX7) (N := 20) hx hb hg inC7 hown hK hP 1 rfl rfl 0 (by decide) (hg _ wt1_79) (fun _ h9 => h9) rfl dX7_addPart_58 ?_
                  refine k_top (z := c32) ec32.symm ?_
                  refine lv_if_lt (tgt := 73) hx hb dX7_addPart_61 (by decide) (fun c46 => ?_) (fun c46 => ?_)
                  · have h47 := (kc_lt c46)
                    exact kb_no (kr_lt1 h47 b1 kc_0 (H := (-1)) (by decide)) (by decide)
                  · have h48 := (kc_nlt c46)
                    refine lv_aload_n hx hb dX7_addPart_64 rfl (lv_at hl 1 rfl) ?_
                    refine va_get (D := D) (ci := 7) (v := .int (f 32)) (C := RX7) (T := TX7) (N := 20) hx hb hg inC7 hown hK hP 1 rfl rfl 0 (by decide) (hg _ wt1_79) (fun _ h9 => h9) rfl dX7_addPart_65 ?_
                    refine k_top (z := c32) ec32.symm ?_
                    refine lv_bipush (v := 10) hx hb dX7_addPart_68 (by decide) ?_
                    refine lv_icmp_lt (tgt := 76) hx hb dX7_addPart_70 (by decide) (fun c49 => ?_) (fun c49 => ?_)
                    · have h50 := (kc_lt c49)
                      have b51 : kb 0 c32 9 := kr_lt1 h50 b1 kc_10 (by decide)
                      refine lv_aload_n hx hb dX7_addPart_76 rfl (lv_at hl 1 rfl) ?_
                      refine va_get (D := D) (ci := 7) (v := .ref (r 2)) (C := RX7) (T := TX7) (N := 20) hx hb hg inC7 hown hK hP 1 rfl rfl 1 (by decide) (hg _ wt1_86) (fun _ h9 => h9) rfl dX7_addPart_77 ?_
                      refine lv_aload_n hx hb dX7_addPart_80 rfl (lv_at hl 1 rfl) ?_
                      refine va_get (D := D) (ci := 7) (v := .int (f 32)) (C := RX7) (T := TX7) (N := 20) hx hb hg inC7 hown hK hP 1 rfl rfl 0 (by decide) (hg _ wt1_79) (fun _ h9 => h9) rfl dX7_addPart_81 ?_
                      refine k_top (z := c32) ec32.symm ?_
                      refine lv_iload_n hx hb dX7_addPart_84 rfl (lv_at hl 2 rfl) ?_
                      refine va_iast hx hb hK hP hD hS 2 0 rfl rfl (kb_in b51 (by decide) (by decide)) dX7_addPart_85 (fun H locs hP hD hS => ?_)
                      have hP : va_P D vwCl (xX K r f (va_up a 2 (upd (a 2) c32.toNatClampNeg x)) g tx) H := hP
                      have hD : va_D A (xX K r f (va_up a 2 (upd (a 2) c32.toNatClampNeg x)) g tx) := hD
                      refine k_gen (P := fun z => va_P D vwCl (xX K r f z g tx) H ∧ va_D A (xX K r f z g tx) ∧ (xI f z) ∧ (gOK K g.2 tt) ∧ (xEk ([32], [2, 3, 4, 5, 6], []) f a g f z g)) (va_up a 2 (upd (a 2) c32.toNatClampNeg x)) ⟨hP, hD, (xI_a hI (by decide)), hG, (xEk_a hE rfl)⟩ (fun a_52 ea_52 hq => ?_)
                      obtain ⟨hP, hD, hI, hG, hE⟩ := hq
                      refine lv_aload_n hx hb dX7_addPart_86 rfl (lv_at hl 1 rfl) ?_
                      refine va_get (D := D) (ci := 7) (v := .ref (r 3)) (C := RX7) (T := TX7) (N := 20) hx hb hg inC7 hown hK hP 1 rfl rfl 2 (by decide) (hg _ wt1_89) (fun _ h9 => h9) rfl dX7_addPart_87 ?_
                      refine lv_aload_n hx hb dX7_addPart_90 rfl (lv_at hl 1 rfl) ?_
                      refine va_get (D := D) (ci := 7) (v := .int (f 32)) (C := RX7) (T := TX7) (N := 20) hx hb hg inC7 hown hK hP 1 rfl rfl 0 (by decide) (hg _ wt1_79) (fun _ h9 => h9) rfl dX7_addPart_91 ?_
                      refine k_top (z := c32) ec32.symm ?_
                      refine lv_iload_n hx hb dX7_addPart_94 rfl (lv_at hl 3 rfl) ?_
                      refine va_iast hx hb hK hP hD hS 3 0 rfl rfl (kb_in b51 (by decide) (by decide)) dX7_addPart_95 (fun H locs hP hD hS => ?_)
                      have hP : va_P D vwCl (xX K r f (va_up a_52 3 (upd (a_52 3) c32.toNatClampNeg y)) g tx) H := hP
                      have hD : va_D A (xX K r f (va_up a_52 3 (upd (a_52 3) c32.toNatClampNeg y)) g tx) := hD
                      refine k_gen (P := fun z => va_P D vwCl (xX K r f z g tx) H ∧ va_D A (xX K r f z g tx) ∧ (xI f z) ∧ (gOK K g.2 tt) ∧ (xEk ([32], [2, 3, 4, 5, 6], []) f a g f z g)) (va_up a_52 3 (upd (a_52 3) c32.toNatClampNeg y)) ⟨hP, hD, (xI_a hI (by decide)), hG, (xEk_a hE rfl)⟩ (fun a_53 ea_53 hq => ?_)
                      obtain ⟨hP, hD, hI, hG, hE⟩ := hq
                      refine lv_aload_n hx hb dX7_addPart_96 rfl (lv_at hl 1 rfl) ?_
                      refine va_get (D := D) (ci := 7) (v := .ref (r 4)) (C := RX7) (T := TX7) (N := 20) hx hb hg inC7 hown hK hP 1 rfl rfl 3 (by decide) (hg _ wt1_93) (fun _ h9 => h9) rfl dX7_addPart_97 ?_
                      refine lv_aload_n hx hb dX7_addPart_100 rfl (lv_at hl 1 rfl) ?_
                      refine va_get (D := D) (ci := 7) (v := .int (f 32)) (C := RX7) (T := TX7) (N := 20) hx hb hg inC7 hown hK hP 1 rfl rfl 0 (by decide) (hg _ wt1_79) (fun _ h9 => h9) rfl dX7_addPart_101 ?_
                      refine k_top (z := c32) ec32.symm ?_
                      refine lv_iload_n hx hb dX7_addPart_104 rfl (lv_at hl 4 rfl) ?_
                      refine va_iast hx hb hK hP hD hS 4 0 rfl rfl (kb_in b51 (by decide) (by decide)) dX7_addPart_105 (fun H locs hP hD hS => ?_)
                      have hP : va_P D vwCl (xX K r f (va_up a_53 4 (upd (a_53 4) c32.toNatClampNeg z)) g tx) H := hP
                      have hD : va_D A (xX K r f (va_up a_53 4 (upd (a_53 4) c32.toNatClampNeg z)) g tx) := hD
                      refine k_gen (P := fun z => va_P D vwCl (xX K r f z g tx) H ∧ va_D A (xX K r f z g tx) ∧ (xI f z) ∧ (gOK K g.2 tt) ∧ (xEk ([32], [2, 3, 4, 5, 6], []) f a g f z g)) (va_up a_53 4 (upd (a_53 4) c32.toNatClampNeg z)) ⟨hP, hD, (xI_a hI (by decide)), hG, (xEk_a hE rfl)⟩ (fun a_54 ea_54 hq => ?_)
                      obtain ⟨hP, hD, hI, hG, hE⟩ := hq
                      refine lv_aload_n hx hb dX7_addPart_106 rfl (lv_at hl 1 rfl) ?_
                      refine va_get (D := D) (ci := 7) (v := .ref (r 5)) (C := RX7) (T := TX7) (N := 20) hx hb hg inC7 hown hK hP 1 rfl rfl 4 (by decide) (hg _ wt1_95) (fun _ h9 => h9) rfl dX7_addPart_107 ?_
                      refine lv_aload_n hx hb dX7_addPart_110 rfl (lv_at hl 1 rfl) ?_
                      refine va_get (D := D) (ci := 7) (v := .int (f 32)) (C := RX7) (T := TX7) (N := 20) hx hb hg inC7 hown hK hP 1 rfl rfl 0 (by decide) (hg _ wt1_79) (fun _ h9 => h9) rfl dX7_addPart_111 ?_
                      refine k_top (z := c32) ec32.symm ?_
                      refine lv_iload hx hb dX7_addPart_114 (lv_at hl 5 rfl) ?_
                      refine va_iast hx hb hK hP hD hS 5 0 rfl rfl (kb_in b51 (by decide) (by decide)) dX7_addPart_116 (fun H locs hP hD hS => ?_)
                      have hP : va_P D vwCl (xX K r f (va_up a_54 5 (upd (a_54 5) c32.toNatClampNeg t_)) g tx) H := hP
                      have hD : va_D A (xX K r f (va_up a_54 5 (upd (a_54 5) c32.toNatClampNeg t_)) g tx) := hD
                      refine k_gen (P := fun z => va_P D vwCl (xX K r f z g tx) H ∧ va_D A (xX K r f z g tx) ∧ (xI f z) ∧ (gOK K g.2 tt) ∧ (xEk ([32], [2, 3, 4, 5, 6], []) f a g f z g)) (va_up a_54 5 (upd (a_54 5) c32.toNatClampNeg t_)) ⟨hP, hD, (xI_a hI (by decide)), hG, (xEk_a hE rfl)⟩ (fun a_55 ea_55 hq => ?_)
                      obtain ⟨hP, hD, hI, hG, hE⟩ := hq
                      refine lv_aload_n hx hb dX7_addPart_117 rfl (lv_at hl 1 rfl) ?_
                      refine va_get (D := D) (ci := 7) (v := .ref (r 6)) (C := RX7) (T := TX7) (N := 20) hx hb hg inC7 hown hK hP 1 rfl rfl 5 (by decide) (hg _ wt1_97) (fun _ h9 => h9) rfl dX7_addPart_118 ?_
                      refine lv_aload_n hx hb dX7_addPart_121 rfl (lv_at hl 1 rfl) ?_
                      refine va_get (D := D) (ci := 7) (v := .int (f 32)) (C := RX7) (T := TX7) (N := 20) hx hb hg inC7 hown hK hP 1 rfl rfl 0 (by decide) (hg _ wt1_79) (fun _ h9 => h9) rfl dX7_addPart_122 ?_
                      refine k_top (z := c32) ec32.symm ?_
                      refine lv_iload_n hx hb dX7_addPart_125 rfl (lv_at hl 2 rfl) ?_
                      refine va_iast hx hb hK hP hD hS 6 0 rfl rfl (kb_in b51 (by decide) (by decide)) dX7_addPart_126 (fun H locs hP hD hS => ?_)
                      have hP : va_P D vwCl (xX K r f (va_up a_55 6 (upd (a_55 6) c32.toNatClampNeg x)) g tx) H := hP
                      have hD : va_D A (xX K r f (va_up a_55 6 (upd (a_55 6) c32.toNatClampNeg x)) g tx) := hD
                      refine k_gen (P := fun z => va_P D vwCl (xX K r f z g tx) H ∧ va_D A (xX K r f z g tx) ∧ (xI f z) ∧ (gOK K g.2 tt) ∧ (xEk ([32], [2, 3, 4, 5, 6], []) f a g f z g)) (va_up a_55 6 (upd (a_55 6) c32.toNatClampNeg x)) ⟨hP, hD, (xI_a hI (by decide)), hG, (xEk_a hE rfl)⟩ (fun a_56 ea_56 hq => ?_)
                      obtain ⟨hP, hD, hI, hG, hE⟩ := hq
                      refine lv_aload_n hx hb dX7_addPart_127 rfl (lv_at hl 1 rfl) ?_
                      refine lv_dup hx hb dX7_addPart_128 rfl ?_
                      refine va_get (D := D) (ci := 7) (v := .int (f 32)) (C := RX7) (T := TX7) (N := 20) hx hb hg inC7 hown hK hP 1 rfl rfl 0 (by decide) (hg _ wt1_79) (fun _ h9 => h9) rfl dX7_addPart_129 ?_
                      refine k_top (z := c32) ec32.symm ?_
                      refine lv_iconst (v := 1) hx hb dX7_addPart_132 (by decide) ?_
                      refine lv_iadd hx hb dX7_addPart_133 ?_
                      refine lv_topi (fun t57 et57 => ?_)
                      have b58 : kb 1 t57 10 := kb_eq et57 (kb_add b51 kc_1 (by decide) (by decide))
                      have qt57 : t57.toInt = c32.toInt + 1 := by rw [et57]; exact kt_addc b51 kc_1 (by decide) (by decide)
                      refine va_put (D := D) (ci := 7) (v := .int t57) (ty := .int) (C := RX7) (T := TX7) (N := 20) hx hb hg inC7 tyX7 tyX7_ok nmX7 hown hK hP hD hS 1 rfl rfl 0 (by decide) (hg _ wt1_79) (fun _ h9 => h9) rfl (by decide +kernel) rfl rfl (Nat.le_of_ble_eq_true rfl) dX7_addPart_134 (fun H locs hP hD hS => ?_)
                      have hP : va_P D vwCl (xX K r (upd f 32 t57) a_56 g tx) H := hP
                      have hD : va_D A (xX K r (upd f 32 t57) a_56 g tx) := hD
                      refine k_gen (P := fun z => va_P D vwCl (xX K r z a_56 g tx) H ∧ va_D A (xX K r z a_56 g tx) ∧ (xI z a_56) ∧ (gOK K g.2 tt) ∧ (xEk ([32], [2, 3, 4, 5, 6], []) f a g z a_56 g)) (upd f 32 t57) ⟨hP, hD, (xI_f hI (fI_st hI.1 32 b58 (by decide) (by decide))), hG, (xEk_f hE rfl)⟩ (fun f_59 ef_59 hq => ?_)
                      obtain ⟨hP, hD, hI, hG, hE⟩ := hq
                      refine lv_aload_n hx hb dX7_addPart_137 rfl (lv_at hl 1 rfl) ?_
                      refine va_get (D := D) (ci := 7) (v := .int (f_59 32)) (C := RX7) (T := TX7) (N := 20) hx hb hg inC7 hown hK hP 1 rfl rfl 0 (by decide) (hg _ wt1_79) (fun _ h9 => h9) rfl dX7_addPart_138 ?_
                      refine k_top (z := t57) (show f_59 32 = t57 from by rw [← ef_59]; rfl) ?_
                      refine lv_iconst (v := 1) hx hb dX7_addPart_141 (by decide) ?_
                      refine lv_isub hx hb dX7_addPart_142 ?_
                      refine lv_topi (fun t60 et60 => ?_)
                      have b61 : kb 0 t60 9 := kb_eq et60 (kb_sub b58 kc_1 (by decide) (by decide))
                      have qt60 : t60.toInt = t57.toInt - 1 := by rw [et60]; exact kt_subc b58 kc_1 (by decide) (by decide)
                      exact kI_ret (v := t60) hx hb hr hlocks rfl hK hS dX7_addPart_143 (f_59, a_56, g) hP hD ⟨(kb_w b61 (by decide) (by decide)), hI, hG, hE, (Or.inr (Or.inr ⟨(by rw [← ec32]; exact Int32.toInt_inj.mp (by omega)), ⟨b26, (by rw [← ec32, ← et2, ← et3]; exact c4), b37, b45⟩, (by rw [← ec32]; exact b51), (by show (f_59 32).toInt = (f 32).toInt + 1; have e1 := congrArg Int32.toInt ((show f_59 32 = t57 from by rw [← ef_59]; rfl)); have e2 := congrArg Int32.toInt ec32; omega)⟩))⟩
                    · have h62 := (kc_nlt c49)
                      have b63 : kb 10 c32 10 := kr_le2 h62 kc_10 b1
                      refine lv_bipush (v := (-5)) hx hb dX7_addPart_73 (by decide) ?_
                      exact kI_ret (v := (-5)) hx hb hr hlocks rfl hK hS dX7_addPart_75 (f, a, g) hP hD ⟨(kb_w kc_m5 (by decide) (by decide)), hI, hG, hE, (Or.inr (Or.inl ⟨rfl, ⟨b26, (by rw [← ec32, ← et2, ← et3]; exact c4), b37, b45⟩, (by rw [← ec32]; have w1 := (b63).1; have w2 := (b63).2; omega), ((ec32.symm).trans ec32)⟩))⟩
                · have h64 := (kc_nle c43)
                  have b65 : kb 10 t_ 2147483647 := kr_lt2 h64 kc_9 b42 (by decide)
                  refine lv_iconst (v := (-1)) hx hb dX7_addPart_55 (by decide) ?_
                  exact kI_ret (v := (-1)) hx hb hr hlocks rfl hK hS dX7_addPart_56 (f, a, g) hP hD ⟨(kb_w kc_m1 (by decide) (by decide)), hI, hG, hE, (Or.inl ⟨rfl, (fun q => by have w1 := (b26).1; have w2 := (b26).2; have w3 := (b37).1; have w4 := (b37).2; have w5 := (b65).1; have w6 := (b65).2; have q1 := q.1; have q2 := q.2.2.1; have q3 := q.2.2.2; omega), ((ec32.symm).trans ec32)⟩)⟩
set_option maxHeartbeats 4000000 in
set_option maxRecDepth 100000 in
theorem x_7_addBuilder  (l : Launch) {D : va_G} {K : Nat → ClassId} (r : Nat → Nat) (f : Nat → Int32) (a : Nat → Nat → Int32) (g : xG) (tx tt : va_W) (hT : ∀ c ∈ tt, c ∈ tx) (hI : xI f a) (hG : gOK K g.2 tt) (x : Int32) (y : Int32)    : kIG l yX7_addBuilder (Cond.code yX7_addBuilder cX7_addBuilder 3 (some .int) :: kG) (rmD 1 0 0) D K [.ref (r 1), .int x, .int y] (xX K r f a g tx) (fun v (u : xS) => kb (-2147483648) v 2147483647 ∧ xI u.1 u.2.1 ∧ gOK K u.2.2.2 tt ∧ xEk ([38], [7, 8, 9, 10], []) f a g u.1 u.2.1 u.2.2 ∧ bldP x y v (f 38) (u.1 38)) (fun u => xX K r u.1 u.2.1 u.2.2 tx) 0 0 := by
  refine kIE.of (cc := cX7_addBuilder) (maxL := 3) (ret := (some .int)) (by decide) rfl (Nat.le_of_ble_eq_true rfl) ?_
  intro p e s m below meth c A hx hb hr hml hown hts hlocks hnm hK hP hD hS hA hV ls hl
  have hE : xEk ([38], [7, 8, 9, 10], []) f a g f a g := xEk_rf
  have hg : ∀ w ∈ kG, w.before _ s = true := fun w h => hts w (List.mem_cons_of_mem _ h)
  have hown : s.vm.findClass RX7 = some m.cls := hown
  have hl : lv_has ls 3 [(0, .ref (r 1)), (1, .int x), (2, .int y)] := hl
  obtain ⟨c38, ec38⟩ : ∃ z : Int32, z = f 38 := ⟨_, rfl⟩
  refine lv_iload_n hx hb dX7_addBuilder_0 rfl (lv_at hl 1 rfl) ?_
  refine lv_iconst (v := 1) hx hb dX7_addBuilder_1 (by decide) ?_
  refine lv_icmp_lt (tgt := 22) hx hb dX7_addBuilder_2 (by decide) (fun c1 => ?_) (fun c1 => ?_)
  · have h2 := (kc_lt c1)
    have b3 : kb (-2147483648) x 0 := kr_lt1 h2 (kb_any x) kc_1 (by decide)
    refine lv_iconst (v := (-1)) hx hb dX7_addBuilder_22 (by decide) ?_
    exact kI_ret (v := (-1)) hx hb hr hlocks rfl hK hS dX7_addBuilder_23 (f, a, g) hP hD ⟨(kb_w kc_m1 (by decide) (by decide)), hI, hG, hE, (Or.inl ⟨rfl, (fun q => by have w1 := (b3).1; have w2 := (b3).2; have w3 := ((kb_any y)).1; have w4 := ((kb_any y)).2; have q1 := q.1; have q2 := q.2; omega), ((ec38.symm).trans ec38)⟩)⟩
  · have h4 := (kc_nlt c1)
    have b5 : kb 1 x 2147483647 := kr_le2 h4 kc_1 (kb_any x)
    refine lv_iload_n hx hb dX7_addBuilder_5 rfl (lv_at hl 1 rfl) ?_
    refine lv_bipush (v := 15) hx hb dX7_addBuilder_6 (by decide) ?_
    refine lv_icmp_gt (tgt := 22) hx hb dX7_addBuilder_8 (by decide) (fun c6 => ?_) (fun c6 => ?_)
    · have h7 := (kc_lt c6)
      have b8 : kb 16 x 2147483647 := kr_lt2 h7 kc_15 b5 (by decide)
      refine lv_iconst (v := (-1)) hx hb dX7_addBuilder_22 (by decide) ?_
      exact kI_ret (v := (-1)) hx hb hr hlocks rfl hK hS dX7_addBuilder_23 (f, a, g) hP hD ⟨(kb_w kc_m1 (by decide) (by decide)), hI, hG, hE, (Or.inl ⟨rfl, (fun q => by have w1 := (b8).1; have w2 := (b8).2; have w3 := ((kb_any y)).1; have w4 := ((kb_any y)).2; have q1 := q.1; have q2 := q.2; omega), ((ec38.symm).trans ec38)⟩)⟩
    · have h9 := (kc_nlt c6)
      have b10 : kb 1 x 15 := kr_le1 h9 b5 kc_15
      refine lv_iload_n hx hb dX7_addBuilder_11 rfl (lv_at hl 2 rfl) ?_
      refine lv_iconst (v := 1) hx hb dX7_addBuilder_12 (by decide) ?_
      refine lv_icmp_lt (tgt := 22) hx hb dX7_addBuilder_13 (by decide) (fun c11 => ?_) (fun c11 => ?_)
      · have h12 := (kc_lt c11)
        have b13 : kb (-2147483648) y 0 := kr_lt1 h12 (kb_any y) kc_1 (by decide)
        refine lv_iconst (v := (-1)) hx hb dX7_addBuilder_22 (by decide) ?_
        exact kI_ret (v := (-1)) hx hb hr hlocks rfl hK hS dX7_addBuilder_23 (f, a, g) hP hD ⟨(kb_w kc_m1 (by decide) (by decide)), hI, hG, hE, (Or.inl ⟨rfl, (fun q => by have w1 := (b10).1; have w2 := (b10).2; have w3 := (b13).1; have w4 := (b13).2; have q1 := q.1; have q2 := q.2; omega), ((ec38.symm).trans ec38)⟩)⟩
      · have h14 := (kc_nlt c11)
        have b15 : kb 1 y 2147483647 := kr_le2 h14 kc_1 (kb_any y)
        refine lv_iload_n hx hb dX7_addBuilder_16 rfl (lv_at hl 2 rfl) ?_
        refine lv_bipush (v := 9) hx hb dX7_addBuilder_17 (by decide) ?_
        refine lv_icmp_le (tgt := 24) hx hb dX7_addBuilder_19 (by decide) (fun c16 => ?_) (fun c16 => ?_)
        · have h17 := (kc_le c16)
          have b18 : kb 1 y 9 := kr_le1 h17 b15 kc_9
          refine lv_aload_n hx hb dX7_addBuilder_24 rfl (lv_at hl 0 rfl) ?_
          refine va_get (D := D) (ci := 7) (v := .int (f 38)) (C := RX7) (T := TX7) (N := 20) hx hb hg inC7 hown hK hP 1 rfl rfl 6 (by decide) (hg _ wt1_104) (fun _ h9 => h9) rfl dX7_addBuilder_25 ?_
          refine k_top (z := c38) ec38.symm ?_
          refine lv_if_lt (tgt := 40) hx hb dX7_addBuilder_28 (by decide) (fun c19 => ?_) (fun c19 => ?_)
          · have h20 := (kc_lt c19)
            have b21 : kb (-2147483648) c38 (-1) := kr_lt1 h20 (kb_any c38) kc_0 (by decide)
            refine lv_bipush (v := (-5)) hx hb dX7_addBuilder_40 (by decide) ?_
            exact kI_ret (v := (-5)) hx hb hr hlocks rfl hK hS dX7_addBuilder_42 (f, a, g) hP hD ⟨(kb_w kc_m5 (by decide) (by decide)), hI, hG, hE, (Or.inr (Or.inl ⟨rfl, ⟨b10, b18⟩, (by rw [← ec38]; have w1 := (b21).1; have w2 := (b21).2; omega), ((ec38.symm).trans ec38)⟩))⟩
          · have h22 := (kc_nlt c19)
            have b23 : kb 0 c38 2147483647 := kr_le2 h22 kc_0 (kb_any c38)
            refine lv_aload_n hx hb dX7_addBuilder_31 rfl (lv_at hl 0 rfl) ?_
            refine va_get (D := D) (ci := 7) (v := .int (f 38)) (C := RX7) (T := TX7) (N := 20) hx hb hg inC7 hown hK hP 1 rfl rfl 6 (by decide) (hg _ wt1_104) (fun _ h9 => h9) rfl dX7_addBuilder_32 ?_
            refine k_top (z := c38) ec38.symm ?_
            refine lv_bipush (v := 6) hx hb dX7_addBuilder_35 (by decide) ?_
            refine lv_icmp_lt (tgt := 43) hx hb dX7_addBuilder_37 (by decide) (fun c24 => ?_) (fun c24 => ?_)
            · have h25 := (kc_lt c24)
              have b26 : kb 0 c38 5 := kr_lt1 h25 b23 kc_6 (by decide)
              refine lv_aload_n hx hb dX7_addBuilder_43 rfl (lv_at hl 0 rfl) ?_
              refine va_get (D := D) (ci := 7) (v := .ref (r 7)) (C := RX7) (T := TX7) (N := 20) hx hb hg inC7 hown hK hP 1 rfl rfl 7 (by decide) (hg _ wt1_110) (fun _ h9 => h9) rfl dX7_addBuilder_44 ?_
              refine lv_aload_n hx hb dX7_addBuilder_47 rfl (lv_at hl 0 rfl) ?_
              refine va_get (D := D) (ci := 7) (v := .int (f 38)) (C := RX7) (T := TX7) (N := 20) hx hb hg inC7 hown hK hP 1 rfl rfl 6 (by decide) (hg _ wt1_104) (fun _ h9 => h9) rfl dX7_addBuilder_48 ?_
              refine k_top (z := c38) ec38.symm ?_
              refine lv_iload_n hx hb dX7_addBuilder_51 rfl (lv_at hl 1 rfl) ?_
              refine va_iast hx hb hK hP hD hS 7 0 rfl rfl (kb_in b26 (by decide) (by decide)) dX7_addBuilder_52 (fun H locs hP hD hS => ?_)
              have hP : va_P D vwCl (xX K r f (va_up a 7 (upd (a 7) c38.toNatClampNeg x)) g tx) H := hP
              have hD : va_D A (xX K r f (va_up a 7 (upd (a 7) c38.toNatClampNeg x)) g tx) := hD
              refine k_gen (P := fun z => va_P D vwCl (xX K r f z g tx) H ∧ va_D A (xX K r f z g tx) ∧ (xI f z) ∧ (gOK K g.2 tt) ∧ (xEk ([38], [7, 8, 9, 10], []) f a g f z g)) (va_up a 7 (upd (a 7) c38.toNatClampNeg x)) ⟨hP, hD, (xI_a hI (by decide)), hG, (xEk_a hE rfl)⟩ (fun a_27 ea_27 hq => ?_)
              obtain ⟨hP, hD, hI, hG, hE⟩ := hq
              refine lv_aload_n hx hb dX7_addBuilder_53 rfl (lv_at hl 0 rfl) ?_
              refine va_get (D := D) (ci := 7) (v := .ref (r 8)) (C := RX7) (T := TX7) (N := 20) hx hb hg inC7 hown hK hP 1 rfl rfl 8 (by decide) (hg _ wt1_114) (fun _ h9 => h9) rfl dX7_addBuilder_54 ?_
              refine lv_aload_n hx hb dX7_addBuilder_57 rfl (lv_at hl 0 rfl) ?_
              refine va_get (D := D) (ci := 7) (v := .int (f 38)) (C := RX7) (T := TX7) (N := 20) hx hb hg inC7 hown hK hP 1 rfl rfl 6 (by decide) (hg _ wt1_104) (fun _ h9 => h9) rfl dX7_addBuilder_58 ?_
              refine k_top (z := c38) ec38.symm ?_
              refine lv_iload_n hx hb dX7_addBuilder_61 rfl (lv_at hl 2 rfl) ?_
              refine va_iast hx hb hK hP hD hS 8 0 rfl rfl (kb_in b26 (by decide) (by decide)) dX7_addBuilder_62 (fun H locs hP hD hS => ?_)
              have hP : va_P D vwCl (xX K r f (va_up a_27 8 (upd (a_27 8) c38.toNatClampNeg y)) g tx) H := hP
              have hD : va_D A (xX K r f (va_up a_27 8 (upd (a_27 8) c38.toNatClampNeg y)) g tx) := hD
              refine k_gen (P := fun z => va_P D vwCl (xX K r f z g tx) H ∧ va_D A (xX K r f z g tx) ∧ (xI f z) ∧ (gOK K g.2 tt) ∧ (xEk ([38], [7, 8, 9, 10], []) f a g f z g)) (va_up a_27 8 (upd (a_27 8) c38.toNatClampNeg y)) ⟨hP, hD, (xI_a hI (by decide)), hG, (xEk_a hE rfl)⟩ (fun a_28 ea_28 hq => ?_)
              obtain ⟨hP, hD, hI, hG, hE⟩ := hq
              refine lv_aload_n hx hb dX7_addBuilder_63 rfl (lv_at hl 0 rfl) ?_
              refine va_get (D := D) (ci := 7) (v := .ref (r 9)) (C := RX7) (T := TX7) (N := 20) hx hb hg inC7 hown hK hP 1 rfl rfl 9 (by decide) (hg _ wt1_116) (fun _ h9 => h9) rfl dX7_addBuilder_64 ?_
              refine lv_aload_n hx hb dX7_addBuilder_67 rfl (lv_at hl 0 rfl) ?_
              refine va_get (D := D) (ci := 7) (v := .int (f 38)) (C := RX7) (T := TX7) (N := 20) hx hb hg inC7 hown hK hP 1 rfl rfl 6 (by decide) (hg _ wt1_104) (fun _ h9 => h9) rfl dX7_addBuilder_68 ?_
              refine k_top (z := c38) ec38.symm ?_
              refine lv_iconst (v := 0) hx hb dX7_addBuilder_71 (by decide) ?_
              refine va_iast hx hb hK hP hD hS 9 0 rfl rfl (kb_in b26 (by decide) (by decide)) dX7_addBuilder_72 (fun H locs hP hD hS => ?_)
              have hP : va_P D vwCl (xX K r f (va_up a_28 9 (upd (a_28 9) c38.toNatClampNeg 0)) g tx) H := hP
              have hD : va_D A (xX K r f (va_up a_28 9 (upd (a_28 9) c38.toNatClampNeg 0)) g tx) := hD
              refine k_gen (P := fun z => va_P D vwCl (xX K r f z g tx) H ∧ va_D A (xX K r f z g tx) ∧ (xI f z) ∧ (gOK K g.2 tt) ∧ (xEk ([38], [7, 8, 9, 10], []) f a g f z g)) (va_up a_28 9 (upd (a_28 9) c38.toNatClampNeg 0)) ⟨hP, hD, (xI_a hI (by decide)), hG, (xEk_a hE rfl)⟩ (fun a_29 ea_29 hq => ?_)
              obtain ⟨hP, hD, hI, hG, hE⟩ := hq
              refine lv_aload_n hx hb dX7_addBuilder_73 rfl (lv_at hl 0 rfl) ?_
              refine va_get (D := D) (ci := 7) (v := .ref (r 10)) (C := RX7) (T := TX7) (N := 20) hx hb hg inC7 hown hK hP 1 rfl rfl 10 (by decide) (hg _ wt1_121) (fun _ h9 => h9) rfl dX7_addBuilder_74 ?_
              refine lv_aload_n hx hb dX7_addBuilder_77 rfl (lv_at hl 0 rfl) ?_
              refine va_get (D := D) (ci := 7) (v := .int (f 38)) (C := RX7) (T := TX7) (N := 20) hx hb hg inC7 hown hK hP 1 rfl rfl 6 (by decide) (hg _ wt1_104) (fun _ h9 => h9) rfl dX7_addBuilder_78 ?_
              refine k_top (z := c38) ec38.symm ?_
              refine lv_iconst (v := (-1)) hx hb dX7_addBuilder_81 (by decide) ?_
              refine va_iast hx hb hK hP hD hS 10 0 rfl rfl (kb_in b26 (by decide) (by decide)) dX7_addBuilder_82 (fun H locs hP hD hS => ?_)
              have hP : va_P D vwCl (xX K r f (va_up a_29 10 (upd (a_29 10) c38.toNatClampNeg (-1))) g tx) H := hP
              have hD : va_D A (xX K r f (va_up a_29 10 (upd (a_29 10) c38.toNatClampNeg (-1))) g tx) := hD
              refine k_gen (P := fun z => va_P D vwCl (xX K r f z g tx) H ∧ va_D A (xX K r f z g tx) ∧ (xI f z) ∧ (gOK K g.2 tt) ∧ (xEk ([38], [7, 8, 9, 10], []) f a g f z g)) (va_up a_29 10 (upd (a_29 10) c38.toNatClampNeg (-1))) ⟨hP, hD, (xI_a hI (by decide)), hG, (xEk_a hE rfl)⟩ (fun a_30 ea_30 hq => ?_)
              obtain ⟨hP, hD, hI, hG, hE⟩ := hq
              refine lv_aload_n hx hb dX7_addBuilder_83 rfl (lv_at hl 0 rfl) ?_
              refine lv_dup hx hb dX7_addBuilder_84 rfl ?_
              refine va_get (D := D) (ci := 7) (v := .int (f 38)) (C := RX7) (T := TX7) (N := 20) hx hb hg inC7 hown hK hP 1 rfl rfl 6 (by decide) (hg _ wt1_104) (fun _ h9 => h9) rfl dX7_addBuilder_85 ?_
              refine k_top (z := c38) ec38.symm ?_
              refine lv_iconst (v := 1) hx hb dX7_addBuilder_88 (by decide) ?_
              refine lv_iadd hx hb dX7_addBuilder_89 ?_
              refine lv_topi (fun t31 et31 => ?_)
              have b32 : kb 1 t31 6 := kb_eq et31 (kb_add b26 kc_1 (by decide) (by decide))
              have qt31 : t31.toInt = c38.toInt + 1 := by rw [et31]; exact kt_addc b26 kc_1 (by decide) (by decide)
              refine va_put (D := D) (ci := 7) (v := .int t31) (ty := .int) (C := RX7) (T := TX7) (N := 20) hx hb hg inC7 tyX7 tyX7_ok nmX7 hown hK hP hD hS 1 rfl rfl 6 (by decide) (hg _ wt1_104) (fun _ h9 => h9) rfl (by decide +kernel) rfl rfl (Nat.le_of_ble_eq_true rfl) dX7_addBuilder_90 (fun H locs hP hD hS => ?_)
              have hP : va_P D vwCl (xX K r (upd f 38 t31) a_30 g tx) H := hP
              have hD : va_D A (xX K r (upd f 38 t31) a_30 g tx) := hD
              refine k_gen (P := fun z => va_P D vwCl (xX K r z a_30 g tx) H ∧ va_D A (xX K r z a_30 g tx) ∧ (xI z a_30) ∧ (gOK K g.2 tt) ∧ (xEk ([38], [7, 8, 9, 10], []) f a g z a_30 g)) (upd f 38 t31) ⟨hP, hD, (xI_f hI (fI_st hI.1 38 (kb_any _) (by decide) (by decide))), hG, (xEk_f hE rfl)⟩ (fun f_33 ef_33 hq => ?_)
              obtain ⟨hP, hD, hI, hG, hE⟩ := hq
              refine lv_aload_n hx hb dX7_addBuilder_93 rfl (lv_at hl 0 rfl) ?_
              refine va_get (D := D) (ci := 7) (v := .int (f_33 38)) (C := RX7) (T := TX7) (N := 20) hx hb hg inC7 hown hK hP 1 rfl rfl 6 (by decide) (hg _ wt1_104) (fun _ h9 => h9) rfl dX7_addBuilder_94 ?_
              refine k_top (z := t31) (show f_33 38 = t31 from by rw [← ef_33]; rfl) ?_
              refine lv_iconst (v := 1) hx hb dX7_addBuilder_97 (by decide) ?_
              refine lv_isub hx hb dX7_addBuilder_98 ?_
              refine lv_topi (fun t34 et34 => ?_)
              have b35 : kb 0 t34 5 := kb_eq et34 (kb_sub b32 kc_1 (by decide) (by decide))
              have qt34 : t34.toInt = t31.toInt - 1 := by rw [et34]; exact kt_subc b32 kc_1 (by decide) (by decide)
              exact kI_ret (v := t34) hx hb hr hlocks rfl hK hS dX7_addBuilder_99 (f_33, a_30, g) hP hD ⟨(kb_w b35 (by decide) (by decide)), hI, hG, hE, (Or.inr (Or.inr ⟨(by rw [← ec38]; exact Int32.toInt_inj.mp (by omega)), ⟨b10, b18⟩, (by rw [← ec38]; exact b26), (by show (f_33 38).toInt = (f 38).toInt + 1; have e1 := congrArg Int32.toInt ((show f_33 38 = t31 from by rw [← ef_33]; rfl)); have e2 := congrArg Int32.toInt ec38; omega)⟩))⟩
            · have h36 := (kc_nlt c24)
              have b37 : kb 6 c38 2147483647 := kr_le2 h36 kc_6 b23
              refine lv_bipush (v := (-5)) hx hb dX7_addBuilder_40 (by decide) ?_
              exact kI_ret (v := (-5)) hx hb hr hlocks rfl hK hS dX7_addBuilder_42 (f, a, g) hP hD ⟨(kb_w kc_m5 (by decide) (by decide)), hI, hG, hE, (Or.inr (Or.inl ⟨rfl, ⟨b10, b18⟩, (by rw [← ec38]; have w1 := (b37).1; have w2 := (b37).2; omega), ((ec38.symm).trans ec38)⟩))⟩
        · have h38 := (kc_nle c16)
          have b39 : kb 10 y 2147483647 := kr_lt2 h38 kc_9 b15 (by decide)
          refine lv_iconst (v := (-1)) hx hb dX7_addBuilder_22 (by decide) ?_
          exact kI_ret (v := (-1)) hx hb hr hlocks rfl hK hS dX7_addBuilder_23 (f, a, g) hP hD ⟨(kb_w kc_m1 (by decide) (by decide)), hI, hG, hE, (Or.inl ⟨rfl, (fun q => by have w1 := (b10).1; have w2 := (b10).2; have w3 := (b39).1; have w4 := (b39).2; have q1 := q.1; have q2 := q.2; omega), ((ec38.symm).trans ec38)⟩)⟩
set_option maxHeartbeats 4000000 in
set_option maxRecDepth 100000 in
theorem x_11_part  (l : Launch) {D : va_G} {K : Nat → ClassId} (r : Nat → Nat) (f : Nat → Int32) (a : Nat → Nat → Int32) (g : xG) (tx tt : va_W) (hT : ∀ c ∈ tt, c ∈ tx) (hI : xI f a) (hG : gOK K g.2 tt) (x : Int32) (y : Int32) (z : Int32) (t_ : Int32)    : kIG l yX11_part (Cond.code yX11_part cX11_part 6 (some .int) :: kG) (rmD 3 0 0) D K [.ref (r 0), .int x, .int y, .int z, .int t_] (xX K r f a g tx) (fun v (u : xS) => kb (-2147483648) v 2147483647 ∧ xI u.1 u.2.1 ∧ gOK K u.2.2.2 tt ∧ xEk ([16, 32, 704, 705, 2565, 2566, 2786], [2, 3, 4, 5, 6, 81, 94], []) f a g u.1 u.2.1 u.2.2 ∧ prtP (okPx x y z t_ (f 32)) v (f 32) (u.1 32)) (fun u => xX K r u.1 u.2.1 u.2.2 tx) 0 0 := by
  refine kIE.of (cc := cX11_part) (maxL := 6) (ret := (some .int)) (by decide) rfl (Nat.le_of_ble_eq_true rfl) ?_
  intro p e s m below meth c A hx hb hr hml hown hts hlocks hnm hK hP hD hS hA hV ls hl
  have hE : xEk ([16, 32, 704, 705, 2565, 2566, 2786], [2, 3, 4, 5, 6, 81, 94], []) f a g f a g := xEk_rf
  have hg : ∀ w ∈ kG, w.before _ s = true := fun w h => hts w (List.mem_cons_of_mem _ h)
  have hown : s.vm.findClass RX11 = some m.cls := hown
  have hl : lv_has ls 6 [(0, .ref (r 0)), (1, .int x), (2, .int y), (3, .int z), (4, .int t_)] := hl
  refine lv_aload_n hx hb dX11_part_0 rfl (lv_at hl 0 rfl) ?_
  refine va_get (D := D) (ci := 11) (v := .ref (r 1)) (C := RX11) (T := TX11) (N := 17) hx hb hg inC11 hown hK hP 0 rfl rfl 0 (by decide) (hg _ wt2_186) (fun _ h9 => h9) rfl dX11_part_1 ?_
  refine lv_iload_n hx hb dX11_part_4 rfl (lv_at hl 1 rfl) ?_
  refine lv_iload_n hx hb dX11_part_5 rfl (lv_at hl 2 rfl) ?_
  refine lv_iload_n hx hb dX11_part_6 rfl (lv_at hl 3 rfl) ?_
  refine lv_iload hx hb dX11_part_7 (lv_at hl 4 rfl) ?_
  refine kIG.callW (As := [.int x, .int y, .int z, .int t_]) (rest := []) ⟨hx, hb, hml, hown, hg⟩ (x_7_addPart l r f a g tx tt hT hI hG x y z t_  ) (cwV 4 hg (kgV wt3_3 wt3_4 wt3_5 wt1_2 wt3_6) rfl rfl rfl (by decide +kernel) ⟨by decide, by decide⟩) hV hK hP hD hS hA (1) 7 rfl rfl rfl hl.1 rfl (Nat.le_of_ble_eq_true rfl) dX11_part_9 ⟨Nat.le_refl _, Nat.le_refl _⟩ (fun v2 u3 H locs hw1 hP hD hS => ?_)
  obtain ⟨f4, a5, g6⟩ := u3
  have hP : va_P D vwCl (xX K r f4 a5 g6 tx) H := hP
  have hD : va_D A (xX K r f4 a5 g6 tx) := hD
  have hI : xI f4 a5 := hw1.2.1
  have hG : gOK K g6.2 tt := hw1.2.2.1
  have eE7 : xEk ([32], [2, 3, 4, 5, 6], []) f a g f4 a5 g6 := hw1.2.2.2.1
  have hE : xEk ([16, 32, 704, 705, 2565, 2566, 2786], [2, 3, 4, 5, 6, 81, 94], []) f a g f4 a5 g6 := xEk_tr hE (xEk_w (by decide +kernel) eE7)
  have hk0 : f4 32 = f4 32 := rfl
  refine lv_istore (lv' := [(5, .int v2), (0, .ref (r 0)), (1, .int x), (2, .int y), (3, .int z), (4, .int t_)]) hx hb dX11_part_12 hl (by decide) rfl (fun ls hl => ?_)
  refine lv_iload hx hb dX11_part_14 (lv_at hl 0 rfl) ?_
  refine lv_if_ge (tgt := 26) hx hb dX11_part_16 (by decide) (fun c8 => ?_) (fun c8 => ?_)
  · have h9 := (kc_le c8)
    have b10 : kb 0 v2 2147483647 := kr_le2 h9 kc_0 (kb_any v2)
    refine lv_aload_n hx hb dX11_part_26 rfl (lv_at hl 1 rfl) ?_
    refine va_get (D := D) (ci := 11) (v := .ref (r 22)) (C := RX11) (T := TX11) (N := 17) hx hb hg inC11 hown hK hP 0 rfl rfl 1 (by decide) (hg _ wt2_187) (fun _ h9 => h9) rfl dX11_part_27 ?_
    refine kVG.callW (As := []) (rest := []) ⟨hx, hb, hml, hown, hg⟩ (x_2_clear l r f4 a5 g6 tx tt hT hI hG   ) (cwV 0 hg (kgV wt3_11 wt3_12 wt3_13 wt1_4 wt3_14) rfl rfl rfl (by decide +kernel) ⟨by decide, by decide⟩) hV hK hP hD hS hA (22) 2 rfl rfl rfl hl.1 rfl (Nat.le_of_ble_eq_true rfl) dX11_part_30 ⟨Nat.le_refl _, Nat.le_refl _⟩ (fun u13 H locs hw11 hP hD hS => ?_)
    obtain ⟨f14, a15, g16⟩ := u13
    have hP : va_P D vwCl (xX K r f14 a15 g16 tx) H := hP
    have hD : va_D A (xX K r f14 a15 g16 tx) := hD
    have hI : xI f14 a15 := hw11.1
    have hG : gOK K g16.2 tt := hw11.2.1
    have eE17 : xEk ([704, 705], [], []) f4 a5 g6 f14 a15 g16 := hw11.2.2
    have hE : xEk ([16, 32, 704, 705, 2565, 2566, 2786], [2, 3, 4, 5, 6, 81, 94], []) f a g f14 a15 g16 := xEk_tr hE (xEk_w (by decide +kernel) eE17)
    have hk0 : f14 32 = f4 32 := (eE17.1 32 rfl).trans hk0
    refine lv_aload_n hx hb dX11_part_33 rfl (lv_at hl 1 rfl) ?_
    refine lv_iload hx hb dX11_part_34 (lv_at hl 0 rfl) ?_
    refine kIG.callW (As := [.int v2]) (rest := []) ⟨hx, hb, hml, hown, hg⟩ (x_11_agreeChanged l r f14 a15 g16 tx tt hT hI hG v2  ) (cwV 1 hg (kgV wt3_15 wt3_17 wp1_1 wt1_1 wt3_18) rfl rfl rfl (by decide +kernel) ⟨by decide, by decide⟩) hV hK hP hD hS hA (0) 11 rfl rfl rfl hl.1 rfl (Nat.le_of_ble_eq_true rfl) dX11_part_36 ⟨Nat.le_refl _, Nat.le_refl _⟩ (fun v19 u20 H locs hw18 hP hD hS => ?_)
    obtain ⟨f21, a22, g23⟩ := u20
    have hP : va_P D vwCl (xX K r f21 a22 g23 tx) H := hP
    have hD : va_D A (xX K r f21 a22 g23 tx) := hD
    have hI : xI f21 a22 := hw18.2.1
    have hG : gOK K g23.2 tt := hw18.2.2.1
    have eE24 : xEk ([16, 2565, 2566, 2786], [81], []) f14 a15 g16 f21 a22 g23 := hw18.2.2.2.1
    have hE : xEk ([16, 32, 704, 705, 2565, 2566, 2786], [2, 3, 4, 5, 6, 81, 94], []) f a g f21 a22 g23 := xEk_tr hE (xEk_w (by decide +kernel) eE24)
    have hk0 : f21 32 = f4 32 := (eE24.1 32 rfl).trans hk0
    refine k_top (z := v2) hw18.2.2.2.2 ?_
    exact kI_ret (v := v2) hx hb hr hlocks rfl hK hS dX11_part_39 (f21, a22, g23) hP hD ⟨(kb_w b10 (by decide) (by decide)), hI, hG, hE, (show prtP (okPx x y z t_ (f 32)) v2 (f 32) (f21 32) from by rw [hk0]; exact hw1.2.2.2.2)⟩
  · have h25 := (kc_nle c8)
    have b26 : kb (-2147483648) v2 (-1) := kr_lt1 h25 (kb_any v2) kc_0 (by decide)
    refine lv_aload_n hx hb dX11_part_19 rfl (lv_at hl 1 rfl) ?_
    refine lv_iload hx hb dX11_part_20 (lv_at hl 0 rfl) ?_
    refine kIG.callW (As := [.int v2]) (rest := []) ⟨hx, hb, hml, hown, hg⟩ (x_11_refuse l r f4 a5 g6 tx tt hT hI hG v2  ) (cwV 1 hg (kgV wt3_7 wt3_9 wp1_0 wt1_1 wt3_10) rfl rfl rfl (by decide +kernel) ⟨by decide, by decide⟩) hV hK hP hD hS hA (0) 11 rfl rfl rfl hl.1 rfl (Nat.le_of_ble_eq_true rfl) dX11_part_22 ⟨Nat.le_refl _, Nat.le_refl _⟩ (fun v28 u29 H locs hw27 hP hD hS => ?_)
    obtain ⟨f30, a31, g32⟩ := u29
    have hP : va_P D vwCl (xX K r f30 a31 g32 tx) H := hP
    have hD : va_D A (xX K r f30 a31 g32 tx) := hD
    have hI : xI f30 a31 := hw27.2.1
    have hG : gOK K g32.2 tt := hw27.2.2.1
    have eE33 : xEk ([16], [94], []) f4 a5 g6 f30 a31 g32 := hw27.2.2.2.1
    have hE : xEk ([16, 32, 704, 705, 2565, 2566, 2786], [2, 3, 4, 5, 6, 81, 94], []) f a g f30 a31 g32 := xEk_tr hE (xEk_w (by decide +kernel) eE33)
    have hk0 : f30 32 = f4 32 := (eE33.1 32 rfl).trans hk0
    refine k_top (z := v2) hw27.2.2.2.2 ?_
    exact kI_ret (v := v2) hx hb hr hlocks rfl hK hS dX11_part_25 (f30, a31, g32) hP hD ⟨(kb_w b26 (by decide) (by decide)), hI, hG, hE, (show prtP (okPx x y z t_ (f 32)) v2 (f 32) (f30 32) from by rw [hk0]; exact hw1.2.2.2.2)⟩
set_option maxHeartbeats 4000000 in
set_option maxRecDepth 100000 in
theorem x_11_builder  (l : Launch) {D : va_G} {K : Nat → ClassId} (r : Nat → Nat) (f : Nat → Int32) (a : Nat → Nat → Int32) (g : xG) (tx tt : va_W) (hT : ∀ c ∈ tt, c ∈ tx) (hI : xI f a) (hG : gOK K g.2 tt) (x : Int32) (y : Int32)    : kIG l yX11_builder (Cond.code yX11_builder cX11_builder 4 (some .int) :: kG) (rmD 3 0 0) D K [.ref (r 0), .int x, .int y] (xX K r f a g tx) (fun v (u : xS) => kb (-2147483648) v 2147483647 ∧ xI u.1 u.2.1 ∧ gOK K u.2.2.2 tt ∧ xEk ([16, 38, 704, 705, 2565, 2566, 2786], [7, 8, 9, 10, 81, 94], []) f a g u.1 u.2.1 u.2.2 ∧ bldP x y v (f 38) (u.1 38)) (fun u => xX K r u.1 u.2.1 u.2.2 tx) 0 0 := by
  refine kIE.of (cc := cX11_builder) (maxL := 4) (ret := (some .int)) (by decide) rfl (Nat.le_of_ble_eq_true rfl) ?_
  intro p e s m below meth c A hx hb hr hml hown hts hlocks hnm hK hP hD hS hA hV ls hl
  have hE : xEk ([16, 38, 704, 705, 2565, 2566, 2786], [7, 8, 9, 10, 81, 94], []) f a g f a g := xEk_rf
  have hg : ∀ w ∈ kG, w.before _ s = true := fun w h => hts w (List.mem_cons_of_mem _ h)
  have hown : s.vm.findClass RX11 = some m.cls := hown
  have hl : lv_has ls 4 [(0, .ref (r 0)), (1, .int x), (2, .int y)] := hl
  refine lv_aload_n hx hb dX11_builder_0 rfl (lv_at hl 0 rfl) ?_
  refine va_get (D := D) (ci := 11) (v := .ref (r 1)) (C := RX11) (T := TX11) (N := 17) hx hb hg inC11 hown hK hP 0 rfl rfl 0 (by decide) (hg _ wt2_186) (fun _ h9 => h9) rfl dX11_builder_1 ?_
  refine lv_iload_n hx hb dX11_builder_4 rfl (lv_at hl 1 rfl) ?_
  refine lv_iload_n hx hb dX11_builder_5 rfl (lv_at hl 2 rfl) ?_
  refine kIG.callW (As := [.int x, .int y]) (rest := []) ⟨hx, hb, hml, hown, hg⟩ (x_7_addBuilder l r f a g tx tt hT hI hG x y  ) (cwV 2 hg (kgV wt3_59 wt3_60 wt3_61 wt1_2 wt3_62) rfl rfl rfl (by decide +kernel) ⟨by decide, by decide⟩) hV hK hP hD hS hA (1) 7 rfl rfl rfl hl.1 rfl (Nat.le_of_ble_eq_true rfl) dX11_builder_6 ⟨Nat.le_refl _, Nat.le_refl _⟩ (fun v2 u3 H locs hw1 hP hD hS => ?_)
  obtain ⟨f4, a5, g6⟩ := u3
  have hP : va_P D vwCl (xX K r f4 a5 g6 tx) H := hP
  have hD : va_D A (xX K r f4 a5 g6 tx) := hD
  have hI : xI f4 a5 := hw1.2.1
  have hG : gOK K g6.2 tt := hw1.2.2.1
  have eE7 : xEk ([38], [7, 8, 9, 10], []) f a g f4 a5 g6 := hw1.2.2.2.1
  have hE : xEk ([16, 38, 704, 705, 2565, 2566, 2786], [7, 8, 9, 10, 81, 94], []) f a g f4 a5 g6 := xEk_tr hE (xEk_w (by decide +kernel) eE7)
  have hk0 : f4 38 = f4 38 := rfl
  refine lv_istore_n (lv' := [(3, .int v2), (0, .ref (r 0)), (1, .int x), (2, .int y)]) hx hb dX11_builder_9 rfl hl (by decide) rfl (fun ls hl => ?_)
  refine lv_iload_n hx hb dX11_builder_10 rfl (lv_at hl 0 rfl) ?_
  refine lv_if_ge (tgt := 20) hx hb dX11_builder_11 (by decide) (fun c8 => ?_) (fun c8 => ?_)
  · have h9 := (kc_le c8)
    have b10 : kb 0 v2 2147483647 := kr_le2 h9 kc_0 (kb_any v2)
    refine lv_aload_n hx hb dX11_builder_20 rfl (lv_at hl 1 rfl) ?_
    refine va_get (D := D) (ci := 11) (v := .ref (r 22)) (C := RX11) (T := TX11) (N := 17) hx hb hg inC11 hown hK hP 0 rfl rfl 1 (by decide) (hg _ wt2_187) (fun _ h9 => h9) rfl dX11_builder_21 ?_
    refine kVG.callW (As := []) (rest := []) ⟨hx, hb, hml, hown, hg⟩ (x_2_clear l r f4 a5 g6 tx tt hT hI hG   ) (cwV 0 hg (kgV wt3_11 wt3_12 wt3_13 wt1_4 wt3_14) rfl rfl rfl (by decide +kernel) ⟨by decide, by decide⟩) hV hK hP hD hS hA (22) 2 rfl rfl rfl hl.1 rfl (Nat.le_of_ble_eq_true rfl) dX11_builder_24 ⟨Nat.le_refl _, Nat.le_refl _⟩ (fun u13 H locs hw11 hP hD hS => ?_)
    obtain ⟨f14, a15, g16⟩ := u13
    have hP : va_P D vwCl (xX K r f14 a15 g16 tx) H := hP
    have hD : va_D A (xX K r f14 a15 g16 tx) := hD
    have hI : xI f14 a15 := hw11.1
    have hG : gOK K g16.2 tt := hw11.2.1
    have eE17 : xEk ([704, 705], [], []) f4 a5 g6 f14 a15 g16 := hw11.2.2
    have hE : xEk ([16, 38, 704, 705, 2565, 2566, 2786], [7, 8, 9, 10, 81, 94], []) f a g f14 a15 g16 := xEk_tr hE (xEk_w (by decide +kernel) eE17)
    have hk0 : f14 38 = f4 38 := (eE17.1 38 rfl).trans hk0
    refine lv_aload_n hx hb dX11_builder_27 rfl (lv_at hl 1 rfl) ?_
    refine lv_iload_n hx hb dX11_builder_28 rfl (lv_at hl 0 rfl) ?_
    refine kIG.callW (As := [.int v2]) (rest := []) ⟨hx, hb, hml, hown, hg⟩ (x_11_agreeChanged l r f14 a15 g16 tx tt hT hI hG v2  ) (cwV 1 hg (kgV wt3_15 wt3_17 wp1_1 wt1_1 wt3_18) rfl rfl rfl (by decide +kernel) ⟨by decide, by decide⟩) hV hK hP hD hS hA (0) 11 rfl rfl rfl hl.1 rfl (Nat.le_of_ble_eq_true rfl) dX11_builder_29 ⟨Nat.le_refl _, Nat.le_refl _⟩ (fun v19 u20 H locs hw18 hP hD hS => ?_)
    obtain ⟨f21, a22, g23⟩ := u20
    have hP : va_P D vwCl (xX K r f21 a22 g23 tx) H := hP
    have hD : va_D A (xX K r f21 a22 g23 tx) := hD
    have hI : xI f21 a22 := hw18.2.1
    have hG : gOK K g23.2 tt := hw18.2.2.1
    have eE24 : xEk ([16, 2565, 2566, 2786], [81], []) f14 a15 g16 f21 a22 g23 := hw18.2.2.2.1
    have hE : xEk ([16, 38, 704, 705, 2565, 2566, 2786], [7, 8, 9, 10, 81, 94], []) f a g f21 a22 g23 := xEk_tr hE (xEk_w (by decide +kernel) eE24)
    have hk0 : f21 38 = f4 38 := (eE24.1 38 rfl).trans hk0
    refine k_top (z := v2) hw18.2.2.2.2 ?_
    exact kI_ret (v := v2) hx hb hr hlocks rfl hK hS dX11_builder_32 (f21, a22, g23) hP hD ⟨(kb_w b10 (by decide) (by decide)), hI, hG, hE, (show bldP x y v2 (f 38) (f21 38) from by rw [hk0]; exact hw1.2.2.2.2)⟩
  · have h25 := (kc_nle c8)
    have b26 : kb (-2147483648) v2 (-1) := kr_lt1 h25 (kb_any v2) kc_0 (by decide)
    refine lv_aload_n hx hb dX11_builder_14 rfl (lv_at hl 1 rfl) ?_
    refine lv_iload_n hx hb dX11_builder_15 rfl (lv_at hl 0 rfl) ?_
    refine kIG.callW (As := [.int v2]) (rest := []) ⟨hx, hb, hml, hown, hg⟩ (x_11_refuse l r f4 a5 g6 tx tt hT hI hG v2  ) (cwV 1 hg (kgV wt3_7 wt3_9 wp1_0 wt1_1 wt3_10) rfl rfl rfl (by decide +kernel) ⟨by decide, by decide⟩) hV hK hP hD hS hA (0) 11 rfl rfl rfl hl.1 rfl (Nat.le_of_ble_eq_true rfl) dX11_builder_16 ⟨Nat.le_refl _, Nat.le_refl _⟩ (fun v28 u29 H locs hw27 hP hD hS => ?_)
    obtain ⟨f30, a31, g32⟩ := u29
    have hP : va_P D vwCl (xX K r f30 a31 g32 tx) H := hP
    have hD : va_D A (xX K r f30 a31 g32 tx) := hD
    have hI : xI f30 a31 := hw27.2.1
    have hG : gOK K g32.2 tt := hw27.2.2.1
    have eE33 : xEk ([16], [94], []) f4 a5 g6 f30 a31 g32 := hw27.2.2.2.1
    have hE : xEk ([16, 38, 704, 705, 2565, 2566, 2786], [7, 8, 9, 10, 81, 94], []) f a g f30 a31 g32 := xEk_tr hE (xEk_w (by decide +kernel) eE33)
    have hk0 : f30 38 = f4 38 := (eE33.1 38 rfl).trans hk0
    refine k_top (z := v2) hw27.2.2.2.2 ?_
    exact kI_ret (v := v2) hx hb hr hlocks rfl hK hS dX11_builder_19 (f30, a31, g32) hP hD ⟨(kb_w b26 (by decide) (by decide)), hI, hG, hE, (show bldP x y v2 (f 38) (f30 38) from by rw [hk0]; exact hw1.2.2.2.2)⟩
set_option maxHeartbeats 4000000 in
set_option maxRecDepth 100000 in
theorem x_11_of  (l : Launch) {D : va_G} {K : Nat → ClassId} (r : Nat → Nat) (f : Nat → Int32) (a : Nat → Nat → Int32) (g : xG) (tx tt : va_W) (hT : ∀ c ∈ tt, c ∈ tx) (hI : xI f a) (hG : gOK K g.2 tt) (x : Int32) (y : Int32)    : kIG l yX11_of (Cond.code yX11_of cX11_of 3 (some .int) :: kG) (rmD 3 0 0) D K [.ref (r 0), .int x, .int y] (xX K r f a g tx) (fun v (u : xS) => kb (-2147483648) v 2147483647 ∧ xI u.1 u.2.1 ∧ gOK K u.2.2.2 tt ∧ xEk ([], [21], []) f a g u.1 u.2.1 u.2.2) (fun u => xX K r u.1 u.2.1 u.2.2 tx) 0 0 := by
  refine kIE.of (cc := cX11_of) (maxL := 3) (ret := (some .int)) (by decide) rfl (Nat.le_of_ble_eq_true rfl) ?_
  intro p e s m below meth c A hx hb hr hml hown hts hlocks hnm hK hP hD hS hA hV ls hl
  have hE : xEk ([], [21], []) f a g f a g := xEk_rf
  have hg : ∀ w ∈ kG, w.before _ s = true := fun w h => hts w (List.mem_cons_of_mem _ h)
  have hown : s.vm.findClass RX11 = some m.cls := hown
  have hl : lv_has ls 3 [(0, .ref (r 0)), (1, .int x), (2, .int y)] := hl
  refine lv_aload_n hx hb dX11_of_0 rfl (lv_at hl 0 rfl) ?_
  refine va_get (D := D) (ci := 11) (v := .ref (r 1)) (C := RX11) (T := TX11) (N := 17) hx hb hg inC11 hown hK hP 0 rfl rfl 0 (by decide) (hg _ wt2_186) (fun _ h9 => h9) rfl dX11_of_1 ?_
  refine lv_iload_n hx hb dX11_of_4 rfl (lv_at hl 1 rfl) ?_
  refine kIG.callW (As := [.int x]) (rest := []) ⟨hx, hb, hml, hown, hg⟩ (x_7_hasPart l r f a g tx tt hT hI hG x  ) (cwV 1 hg (kgV wt3_35 wt3_36 wt3_37 wt1_2 wt3_38) rfl rfl rfl (by decide +kernel) ⟨by decide, by decide⟩) hV hK hP hD hS hA (1) 7 rfl rfl rfl hl.1 rfl (Nat.le_of_ble_eq_true rfl) dX11_of_5 ⟨Nat.le_refl _, Nat.le_refl _⟩ (fun v2 u3 H locs hw1 hP hD hS => ?_)
  have hP : va_P D vwCl (xX K r f a g tx) H := hP
  have hD : va_D A (xX K r f a g tx) := hD
  refine lv_if_ne (tgt := 13) hx hb dX11_of_8 (by decide) (fun c4 => ?_) (fun c4 => ?_)
  · have b5 : kb 1 v2 1 := kr_nel c4 hw1.1 kc_0 (by decide)
    have h6 := hw1.2.1 c4
    have b7 : kb 0 x 9 := ⟨h6.1, h6.2⟩
    refine lv_iload_n hx hb dX11_of_13 rfl (lv_at hl 2 rfl) ?_
    by_cases q8 : y = 0
    · have b9 : kb 0 y 0 := kb_eq q8 kc_0
      refine lv_tableIn (tgt := 56) hx hb dX11_of_14 (by rw [q8]; decide +kernel) (by rw [q8]; decide +kernel) (by rw [q8]; rfl) (by decide) ?_
      refine lv_aload_n hx hb dX11_of_56 rfl (lv_at hl 0 rfl) ?_
      refine va_get (D := D) (ci := 11) (v := .ref (r 1)) (C := RX11) (T := TX11) (N := 17) hx hb hg inC11 hown hK hP 0 rfl rfl 0 (by decide) (hg _ wt2_186) (fun _ h9 => h9) rfl dX11_of_57 ?_
      refine va_get (D := D) (ci := 7) (v := .ref (r 2)) (C := RX7) (T := TX7) (N := 20) hx hb hg inC7 hown hK hP 1 rfl rfl 1 (by decide) (hg _ wt1_87) (fun _ h9 => h9) rfl dX11_of_60 ?_
      refine lv_iload_n hx hb dX11_of_63 rfl (lv_at hl 1 rfl) ?_
      refine va_iald hx hb hK hP 2 0 rfl rfl (kb_in b7 (by decide) (by decide)) dX11_of_64 ?_
      refine lv_topi (fun t10 et10 => ?_)
      exact kI_ret (v := t10) hx hb hr hlocks rfl hK hS dX11_of_65 (f, a, g) hP hD ⟨(kb_any t10), hI, hG, hE⟩
    by_cases q11 : y = 1
    · have b12 : kb 1 y 1 := kb_eq q11 kc_1
      refine lv_tableIn (tgt := 66) hx hb dX11_of_14 (by rw [q11]; decide +kernel) (by rw [q11]; decide +kernel) (by rw [q11]; rfl) (by decide) ?_
      refine lv_aload_n hx hb dX11_of_66 rfl (lv_at hl 0 rfl) ?_
      refine va_get (D := D) (ci := 11) (v := .ref (r 1)) (C := RX11) (T := TX11) (N := 17) hx hb hg inC11 hown hK hP 0 rfl rfl 0 (by decide) (hg _ wt2_186) (fun _ h9 => h9) rfl dX11_of_67 ?_
      refine va_get (D := D) (ci := 7) (v := .ref (r 3)) (C := RX7) (T := TX7) (N := 20) hx hb hg inC7 hown hK hP 1 rfl rfl 2 (by decide) (hg _ wt1_90) (fun _ h9 => h9) rfl dX11_of_70 ?_
      refine lv_iload_n hx hb dX11_of_73 rfl (lv_at hl 1 rfl) ?_
      refine va_iald hx hb hK hP 3 0 rfl rfl (kb_in b7 (by decide) (by decide)) dX11_of_74 ?_
      refine lv_topi (fun t13 et13 => ?_)
      exact kI_ret (v := t13) hx hb hr hlocks rfl hK hS dX11_of_75 (f, a, g) hP hD ⟨(kb_any t13), hI, hG, hE⟩
    by_cases q14 : y = 2
    · have b15 : kb 2 y 2 := kb_eq q14 kc_2
      refine lv_tableIn (tgt := 76) hx hb dX11_of_14 (by rw [q14]; decide +kernel) (by rw [q14]; decide +kernel) (by rw [q14]; rfl) (by decide) ?_
      refine lv_aload_n hx hb dX11_of_76 rfl (lv_at hl 0 rfl) ?_
      refine va_get (D := D) (ci := 11) (v := .ref (r 1)) (C := RX11) (T := TX11) (N := 17) hx hb hg inC11 hown hK hP 0 rfl rfl 0 (by decide) (hg _ wt2_186) (fun _ h9 => h9) rfl dX11_of_77 ?_
      refine va_get (D := D) (ci := 7) (v := .ref (r 4)) (C := RX7) (T := TX7) (N := 20) hx hb hg inC7 hown hK hP 1 rfl rfl 3 (by decide) (hg _ wt1_94) (fun _ h9 => h9) rfl dX11_of_80 ?_
      refine lv_iload_n hx hb dX11_of_83 rfl (lv_at hl 1 rfl) ?_
      refine va_iald hx hb hK hP 4 0 rfl rfl (kb_in b7 (by decide) (by decide)) dX11_of_84 ?_
      refine lv_topi (fun t16 et16 => ?_)
      exact kI_ret (v := t16) hx hb hr hlocks rfl hK hS dX11_of_85 (f, a, g) hP hD ⟨(kb_any t16), hI, hG, hE⟩
    by_cases q17 : y = 3
    · have b18 : kb 3 y 3 := kb_eq q17 kc_3
      refine lv_tableIn (tgt := 86) hx hb dX11_of_14 (by rw [q17]; decide +kernel) (by rw [q17]; decide +kernel) (by rw [q17]; rfl) (by decide) ?_
      refine lv_aload_n hx hb dX11_of_86 rfl (lv_at hl 0 rfl) ?_
      refine va_get (D := D) (ci := 11) (v := .ref (r 1)) (C := RX11) (T := TX11) (N := 17) hx hb hg inC11 hown hK hP 0 rfl rfl 0 (by decide) (hg _ wt2_186) (fun _ h9 => h9) rfl dX11_of_87 ?_
      refine va_get (D := D) (ci := 7) (v := .ref (r 5)) (C := RX7) (T := TX7) (N := 20) hx hb hg inC7 hown hK hP 1 rfl rfl 4 (by decide) (hg _ wt1_96) (fun _ h9 => h9) rfl dX11_of_90 ?_
      refine lv_iload_n hx hb dX11_of_93 rfl (lv_at hl 1 rfl) ?_
      refine va_iald hx hb hK hP 5 0 rfl rfl (kb_in b7 (by decide) (by decide)) dX11_of_94 ?_
      refine lv_topi (fun t19 et19 => ?_)
      exact kI_ret (v := t19) hx hb hr hlocks rfl hK hS dX11_of_95 (f, a, g) hP hD ⟨(kb_any t19), hI, hG, hE⟩
    by_cases q20 : y = 4
    · have b21 : kb 4 y 4 := kb_eq q20 kc_4
      refine lv_tableIn (tgt := 96) hx hb dX11_of_14 (by rw [q20]; decide +kernel) (by rw [q20]; decide +kernel) (by rw [q20]; rfl) (by decide) ?_
      refine lv_aload_n hx hb dX11_of_96 rfl (lv_at hl 0 rfl) ?_
      refine va_get (D := D) (ci := 11) (v := .ref (r 1)) (C := RX11) (T := TX11) (N := 17) hx hb hg inC11 hown hK hP 0 rfl rfl 0 (by decide) (hg _ wt2_186) (fun _ h9 => h9) rfl dX11_of_97 ?_
      refine va_get (D := D) (ci := 7) (v := .ref (r 6)) (C := RX7) (T := TX7) (N := 20) hx hb hg inC7 hown hK hP 1 rfl rfl 5 (by decide) (hg _ wt1_100) (fun _ h9 => h9) rfl dX11_of_100 ?_
      refine lv_iload_n hx hb dX11_of_103 rfl (lv_at hl 1 rfl) ?_
      refine va_iald hx hb hK hP 6 0 rfl rfl (kb_in b7 (by decide) (by decide)) dX11_of_104 ?_
      refine lv_topi (fun t22 et22 => ?_)
      exact kI_ret (v := t22) hx hb hr hlocks rfl hK hS dX11_of_105 (f, a, g) hP hD ⟨(kb_any t22), hI, hG, hE⟩
    by_cases q23 : y = 5
    · have b24 : kb 5 y 5 := kb_eq q23 kc_5
      refine lv_tableIn (tgt := 106) hx hb dX11_of_14 (by rw [q23]; decide +kernel) (by rw [q23]; decide +kernel) (by rw [q23]; rfl) (by decide) ?_
      refine lv_aload_n hx hb dX11_of_106 rfl (lv_at hl 0 rfl) ?_
      refine va_get (D := D) (ci := 11) (v := .ref (r 1)) (C := RX11) (T := TX11) (N := 17) hx hb hg inC11 hown hK hP 0 rfl rfl 0 (by decide) (hg _ wt2_186) (fun _ h9 => h9) rfl dX11_of_107 ?_
      refine kIG.callW (As := []) (rest := []) ⟨hx, hb, hml, hown, hg⟩ (x_7_readyMask l r f a g tx tt hT hI hG   ) (cwV 0 hg (kgV wt3_39 wt3_40 wt3_41 wt1_2 wt3_42) rfl rfl rfl (by decide +kernel) ⟨by decide, by decide⟩) hV hK hP hD hS hA (1) 7 rfl rfl rfl hl.1 rfl (Nat.le_of_ble_eq_true rfl) dX11_of_110 ⟨Nat.le_refl _, Nat.le_refl _⟩ (fun v26 u27 H locs hw25 hP hD hS => ?_)
      have hP : va_P D vwCl (xX K r f a g tx) H := hP
      have hD : va_D A (xX K r f a g tx) := hD
      refine lv_iload_n hx hb dX11_of_113 rfl (lv_at hl 1 rfl) ?_
      refine lv_ishr hx hb dX11_of_114 ?_
      refine lv_topi (fun t28 et28 => ?_)
      refine lv_iconst (v := 1) hx hb dX11_of_115 (by decide) ?_
      refine lv_iand hx hb dX11_of_116 ?_
      refine lv_topi (fun t29 et29 => ?_)
      have b30 : kb 0 t29 1 := kb_eq et29 (kb_and 1 (by decide) (by decide))
      exact kI_ret (v := t29) hx hb hr hlocks rfl hK hS dX11_of_117 (f, a, g) hP hD ⟨(kb_w b30 (by decide) (by decide)), hI, hG, hE⟩
    by_cases q31 : y = 6
    · have b32 : kb 6 y 6 := kb_eq q31 kc_6
      refine lv_tableIn (tgt := 118) hx hb dX11_of_14 (by rw [q31]; decide +kernel) (by rw [q31]; decide +kernel) (by rw [q31]; rfl) (by decide) ?_
      refine lv_aload_n hx hb dX11_of_118 rfl (lv_at hl 0 rfl) ?_
      refine va_get (D := D) (ci := 11) (v := .ref (r 1)) (C := RX11) (T := TX11) (N := 17) hx hb hg inC11 hown hK hP 0 rfl rfl 0 (by decide) (hg _ wt2_186) (fun _ h9 => h9) rfl dX11_of_119 ?_
      refine kIG.callW (As := []) (rest := []) ⟨hx, hb, hml, hown, hg⟩ (x_7_reckonChains l r f a g tx tt hT hI hG   ) (cwV 0 hg (kgV wt3_47 wt3_48 wt3_49 wt1_2 wt3_50) rfl rfl rfl (by decide +kernel) ⟨by decide, by decide⟩) hV hK hP hD hS hA (1) 7 rfl rfl rfl hl.1 rfl (Nat.le_of_ble_eq_true rfl) dX11_of_122 ⟨Nat.le_refl _, Nat.le_refl _⟩ (fun v34 u35 H locs hw33 hP hD hS => ?_)
      obtain ⟨f36, a37, g38⟩ := u35
      have hP : va_P D vwCl (xX K r f36 a37 g38 tx) H := hP
      have hD : va_D A (xX K r f36 a37 g38 tx) := hD
      have hI : xI f36 a37 := hw33.2.1
      have hG : gOK K g38.2 tt := hw33.2.2.1
      have eE39 : xEk ([], [21], []) f a g f36 a37 g38 := hw33.2.2.2
      have hE : xEk ([], [21], []) f a g f36 a37 g38 := xEk_tr hE eE39
      refine lv_pop hx hb dX11_of_125 rfl ?_
      refine lv_aload_n hx hb dX11_of_126 rfl (lv_at hl 0 rfl) ?_
      refine va_get (D := D) (ci := 11) (v := .ref (r 1)) (C := RX11) (T := TX11) (N := 17) hx hb hg inC11 hown hK hP 0 rfl rfl 0 (by decide) (hg _ wt2_186) (fun _ h9 => h9) rfl dX11_of_127 ?_
      refine va_get (D := D) (ci := 7) (v := .ref (r 16)) (C := RX7) (T := TX7) (N := 20) hx hb hg inC7 hown hK hP 1 rfl rfl 19 (by decide) (hg _ wt1_156) (fun _ h9 => h9) rfl dX11_of_130 ?_
      refine va_get (D := D) (ci := 8) (v := .ref (r 21)) (C := RX8) (T := TX8) (N := 5) hx hb hg inC8 hown hK hP 16 rfl rfl 4 (by decide) (hg _ wt1_63) (fun _ h9 => h9) rfl dX11_of_133 ?_
      refine lv_iload_n hx hb dX11_of_136 rfl (lv_at hl 1 rfl) ?_
      refine va_iald hx hb hK hP 21 0 rfl rfl (kb_in b7 (by decide) (by decide)) dX11_of_137 ?_
      refine lv_topi (fun t40 et40 => ?_)
      exact kI_ret (v := t40) hx hb hr hlocks rfl hK hS dX11_of_138 (f36, a37, g38) hP hD ⟨(kb_any t40), hI, hG, hE⟩
    refine lv_tableOut (tgt := 139) hx hb dX11_of_14 (by have gq8 := lv_neT q8 (a := 0) (by decide +kernel); have gq11 := lv_neT q11 (a := 1) (by decide +kernel); have gq14 := lv_neT q14 (a := 2) (by decide +kernel); have gq17 := lv_neT q17 (a := 3) (by decide +kernel); have gq20 := lv_neT q20 (a := 4) (by decide +kernel); have gq23 := lv_neT q23 (a := 5) (by decide +kernel); have gq31 := lv_neT q31 (a := 6) (by decide +kernel); omega) (by decide) ?_
    refine lv_iconst (v := (-1)) hx hb dX11_of_139 (by decide) ?_
    exact kI_ret (v := (-1)) hx hb hr hlocks rfl hK hS dX11_of_140 (f, a, g) hP hD ⟨(kb_w kc_m1 (by decide) (by decide)), hI, hG, hE⟩
  · have b41 : kb 0 v2 0 := kb_eq c4 kc_0
    refine lv_iconst (v := (-1)) hx hb dX11_of_11 (by decide) ?_
    exact kI_ret (v := (-1)) hx hb hr hlocks rfl hK hS dX11_of_12 (f, a, g) hP hD ⟨(kb_w kc_m1 (by decide) (by decide)), hI, hG, hE⟩
set_option maxHeartbeats 4000000 in
set_option maxRecDepth 100000 in
theorem x_11_at  (l : Launch) {D : va_G} {K : Nat → ClassId} (r : Nat → Nat) (f : Nat → Int32) (a : Nat → Nat → Int32) (g : xG) (tx tt : va_W) (hT : ∀ c ∈ tt, c ∈ tx) (hI : xI f a) (hG : gOK K g.2 tt) (x : Int32) (y : Int32)    : kIG l yX11_at (Cond.code yX11_at cX11_at 3 (some .int) :: kG) (rmD 2 0 0) D K [.ref (r 0), .int x, .int y] (xX K r f a g tx) (fun v (_ : Unit) => kb (-2147483648) v 2147483647) (fun _ => xX K r f a g tx) 0 0 := by
  refine kIE.of (cc := cX11_at) (maxL := 3) (ret := (some .int)) (by decide) rfl (Nat.le_of_ble_eq_true rfl) ?_
  intro p e s m below meth c A hx hb hr hml hown hts hlocks hnm hK hP hD hS hA hV ls hl
  have hg : ∀ w ∈ kG, w.before _ s = true := fun w h => hts w (List.mem_cons_of_mem _ h)
  have hown : s.vm.findClass RX11 = some m.cls := hown
  have hl : lv_has ls 3 [(0, .ref (r 0)), (1, .int x), (2, .int y)] := hl
  refine lv_aload_n hx hb dX11_at_0 rfl (lv_at hl 0 rfl) ?_
  refine va_get (D := D) (ci := 11) (v := .ref (r 1)) (C := RX11) (T := TX11) (N := 17) hx hb hg inC11 hown hK hP 0 rfl rfl 0 (by decide) (hg _ wt2_186) (fun _ h9 => h9) rfl dX11_at_1 ?_
  refine lv_iload_n hx hb dX11_at_4 rfl (lv_at hl 1 rfl) ?_
  refine kIG.callW (As := [.int x]) (rest := []) ⟨hx, hb, hml, hown, hg⟩ (x_7_hasBuilder l r f a g tx tt hT hI hG x  ) (cwV 1 hg (kgV wt3_67 wt3_68 wt3_69 wt1_2 wt3_70) rfl rfl rfl (by decide +kernel) ⟨by decide, by decide⟩) hV hK hP hD hS hA (1) 7 rfl rfl rfl hl.1 rfl (Nat.le_of_ble_eq_true rfl) dX11_at_5 ⟨Nat.le_refl _, Nat.le_refl _⟩ (fun v2 u3 H locs hw1 hP hD hS => ?_)
  have hP : va_P D vwCl (xX K r f a g tx) H := hP
  have hD : va_D A (xX K r f a g tx) := hD
  refine lv_if_ne (tgt := 13) hx hb dX11_at_8 (by decide) (fun c4 => ?_) (fun c4 => ?_)
  · have b5 : kb 1 v2 1 := kr_nel c4 hw1.1 kc_0 (by decide)
    have h6 := hw1.2 c4
    have b7 : kb 0 x 5 := ⟨h6.1, h6.2⟩
    refine lv_iload_n hx hb dX11_at_13 rfl (lv_at hl 2 rfl) ?_
    by_cases q8 : y = 0
    · have b9 : kb 0 y 0 := kb_eq q8 kc_0
      refine lv_tableIn (tgt := 44) hx hb dX11_at_14 (by rw [q8]; decide +kernel) (by rw [q8]; decide +kernel) (by rw [q8]; rfl) (by decide) ?_
      refine lv_aload_n hx hb dX11_at_44 rfl (lv_at hl 0 rfl) ?_
      refine va_get (D := D) (ci := 11) (v := .ref (r 1)) (C := RX11) (T := TX11) (N := 17) hx hb hg inC11 hown hK hP 0 rfl rfl 0 (by decide) (hg _ wt2_186) (fun _ h9 => h9) rfl dX11_at_45 ?_
      refine va_get (D := D) (ci := 7) (v := .ref (r 7)) (C := RX7) (T := TX7) (N := 20) hx hb hg inC7 hown hK hP 1 rfl rfl 7 (by decide) (hg _ wt1_112) (fun _ h9 => h9) rfl dX11_at_48 ?_
      refine lv_iload_n hx hb dX11_at_51 rfl (lv_at hl 1 rfl) ?_
      refine va_iald hx hb hK hP 7 0 rfl rfl (kb_in b7 (by decide) (by decide)) dX11_at_52 ?_
      refine lv_topi (fun t10 et10 => ?_)
      exact kI_ret (v := t10) hx hb hr hlocks rfl hK hS dX11_at_53 () hP hD (kb_any t10)
    by_cases q11 : y = 1
    · have b12 : kb 1 y 1 := kb_eq q11 kc_1
      refine lv_tableIn (tgt := 54) hx hb dX11_at_14 (by rw [q11]; decide +kernel) (by rw [q11]; decide +kernel) (by rw [q11]; rfl) (by decide) ?_
      refine lv_aload_n hx hb dX11_at_54 rfl (lv_at hl 0 rfl) ?_
      refine va_get (D := D) (ci := 11) (v := .ref (r 1)) (C := RX11) (T := TX11) (N := 17) hx hb hg inC11 hown hK hP 0 rfl rfl 0 (by decide) (hg _ wt2_186) (fun _ h9 => h9) rfl dX11_at_55 ?_
      refine va_get (D := D) (ci := 7) (v := .ref (r 8)) (C := RX7) (T := TX7) (N := 20) hx hb hg inC7 hown hK hP 1 rfl rfl 8 (by decide) (hg _ wt1_115) (fun _ h9 => h9) rfl dX11_at_58 ?_
      refine lv_iload_n hx hb dX11_at_61 rfl (lv_at hl 1 rfl) ?_
      refine va_iald hx hb hK hP 8 0 rfl rfl (kb_in b7 (by decide) (by decide)) dX11_at_62 ?_
      refine lv_topi (fun t13 et13 => ?_)
      exact kI_ret (v := t13) hx hb hr hlocks rfl hK hS dX11_at_63 () hP hD (kb_any t13)
    by_cases q14 : y = 2
    · have b15 : kb 2 y 2 := kb_eq q14 kc_2
      refine lv_tableIn (tgt := 64) hx hb dX11_at_14 (by rw [q14]; decide +kernel) (by rw [q14]; decide +kernel) (by rw [q14]; rfl) (by decide) ?_
      refine lv_aload_n hx hb dX11_at_64 rfl (lv_at hl 0 rfl) ?_
      refine va_get (D := D) (ci := 11) (v := .ref (r 1)) (C := RX11) (T := TX11) (N := 17) hx hb hg inC11 hown hK hP 0 rfl rfl 0 (by decide) (hg _ wt2_186) (fun _ h9 => h9) rfl dX11_at_65 ?_
      refine va_get (D := D) (ci := 7) (v := .ref (r 9)) (C := RX7) (T := TX7) (N := 20) hx hb hg inC7 hown hK hP 1 rfl rfl 9 (by decide) (hg _ wt1_120) (fun _ h9 => h9) rfl dX11_at_68 ?_
      refine lv_iload_n hx hb dX11_at_71 rfl (lv_at hl 1 rfl) ?_
      refine va_iald hx hb hK hP 9 0 rfl rfl (kb_in b7 (by decide) (by decide)) dX11_at_72 ?_
      refine lv_topi (fun t16 et16 => ?_)
      exact kI_ret (v := t16) hx hb hr hlocks rfl hK hS dX11_at_73 () hP hD (kb_any t16)
    by_cases q17 : y = 3
    · have b18 : kb 3 y 3 := kb_eq q17 kc_3
      refine lv_tableIn (tgt := 74) hx hb dX11_at_14 (by rw [q17]; decide +kernel) (by rw [q17]; decide +kernel) (by rw [q17]; rfl) (by decide) ?_
      refine lv_aload_n hx hb dX11_at_74 rfl (lv_at hl 0 rfl) ?_
      refine va_get (D := D) (ci := 11) (v := .ref (r 1)) (C := RX11) (T := TX11) (N := 17) hx hb hg inC11 hown hK hP 0 rfl rfl 0 (by decide) (hg _ wt2_186) (fun _ h9 => h9) rfl dX11_at_75 ?_
      refine va_get (D := D) (ci := 7) (v := .ref (r 10)) (C := RX7) (T := TX7) (N := 20) hx hb hg inC7 hown hK hP 1 rfl rfl 10 (by decide) (hg _ wt1_126) (fun _ h9 => h9) rfl dX11_at_78 ?_
      refine lv_iload_n hx hb dX11_at_81 rfl (lv_at hl 1 rfl) ?_
      refine va_iald hx hb hK hP 10 0 rfl rfl (kb_in b7 (by decide) (by decide)) dX11_at_82 ?_
      refine lv_topi (fun t19 et19 => ?_)
      exact kI_ret (v := t19) hx hb hr hlocks rfl hK hS dX11_at_83 () hP hD (kb_any t19)
    refine lv_tableOut (tgt := 84) hx hb dX11_at_14 (by have gq8 := lv_neT q8 (a := 0) (by decide +kernel); have gq11 := lv_neT q11 (a := 1) (by decide +kernel); have gq14 := lv_neT q14 (a := 2) (by decide +kernel); have gq17 := lv_neT q17 (a := 3) (by decide +kernel); omega) (by decide) ?_
    refine lv_iconst (v := (-1)) hx hb dX11_at_84 (by decide) ?_
    exact kI_ret (v := (-1)) hx hb hr hlocks rfl hK hS dX11_at_85 () hP hD (kb_w kc_m1 (by decide) (by decide))
  · have b20 : kb 0 v2 0 := kb_eq c4 kc_0
    refine lv_iconst (v := (-1)) hx hb dX11_at_11 (by decide) ?_
    exact kI_ret (v := (-1)) hx hb hr hlocks rfl hK hS dX11_at_12 () hP hD (kb_w kc_m1 (by decide) (by decide))
set_option maxHeartbeats 4000000 in
set_option maxRecDepth 100000 in
theorem x_11_asks  (l : Launch) {D : va_G} {K : Nat → ClassId} (r : Nat → Nat) (f : Nat → Int32) (a : Nat → Nat → Int32) (g : xG) (tx tt : va_W) (hT : ∀ c ∈ tt, c ∈ tx) (hI : xI f a) (hG : gOK K g.2 tt) (x : Int32) (y : Int32) (z : Int32)    : kIG l yX11_asks (Cond.code yX11_asks cX11_asks 4 (some .int) :: kG) (rmD 4 0 0) D K [.ref (r 0), .int x, .int y, .int z] (xX K r f a g tx) (fun v (u : xS) => kb (-2147483648) v 2147483647 ∧ xI u.1 u.2.1 ∧ gOK K u.2.2.2 tt ∧ xEk ([], [], []) f a g u.1 u.2.1 u.2.2) (fun u => xX K r u.1 u.2.1 u.2.2 tx) 0 0 := by
  refine kIE.of (cc := cX11_asks) (maxL := 4) (ret := (some .int)) (by decide) rfl (Nat.le_of_ble_eq_true rfl) ?_
  intro p e s m below meth c A hx hb hr hml hown hts hlocks hnm hK hP hD hS hA hV ls hl
  have hE : xEk ([], [], []) f a g f a g := xEk_rf
  have hg : ∀ w ∈ kG, w.before _ s = true := fun w h => hts w (List.mem_cons_of_mem _ h)
  have hown : s.vm.findClass RX11 = some m.cls := hown
  have hl : lv_has ls 4 [(0, .ref (r 0)), (1, .int x), (2, .int y), (3, .int z)] := hl
  refine lv_aload_n hx hb dX11_asks_0 rfl (lv_at hl 0 rfl) ?_
  refine va_get (D := D) (ci := 11) (v := .ref (r 1)) (C := RX11) (T := TX11) (N := 17) hx hb hg inC11 hown hK hP 0 rfl rfl 0 (by decide) (hg _ wt2_186) (fun _ h9 => h9) rfl dX11_asks_1 ?_
  refine lv_iload_n hx hb dX11_asks_4 rfl (lv_at hl 1 rfl) ?_
  refine kIG.callW (As := [.int x]) (rest := []) ⟨hx, hb, hml, hown, hg⟩ (x_7_hasBuilder l r f a g tx tt hT hI hG x  ) (cwV 1 hg (kgV wt3_67 wt3_68 wt3_69 wt1_2 wt3_70) rfl rfl rfl (by decide +kernel) ⟨by decide, by decide⟩) hV hK hP hD hS hA (1) 7 rfl rfl rfl hl.1 rfl (Nat.le_of_ble_eq_true rfl) dX11_asks_5 ⟨Nat.le_refl _, Nat.le_refl _⟩ (fun v2 u3 H locs hw1 hP hD hS => ?_)
  have hP : va_P D vwCl (xX K r f a g tx) H := hP
  have hD : va_D A (xX K r f a g tx) := hD
  refine lv_if_eq (tgt := 34) hx hb dX11_asks_8 (by decide) (fun c4 => ?_) (fun c4 => ?_)
  · have b5 : kb 0 v2 0 := kb_eq c4 kc_0
    refine lv_iconst (v := (-1)) hx hb dX11_asks_34 (by decide) ?_
    exact kI_ret (v := (-1)) hx hb hr hlocks rfl hK hS dX11_asks_35 (f, a, g) hP hD ⟨(kb_w kc_m1 (by decide) (by decide)), hI, hG, hE⟩
  · have b6 : kb 1 v2 1 := kr_nel c4 hw1.1 kc_0 (by decide)
    have h7 := hw1.2 c4
    have b8 : kb 0 x 5 := ⟨h7.1, h7.2⟩
    refine lv_aload_n hx hb dX11_asks_11 rfl (lv_at hl 0 rfl) ?_
    refine va_get (D := D) (ci := 11) (v := .ref (r 1)) (C := RX11) (T := TX11) (N := 17) hx hb hg inC11 hown hK hP 0 rfl rfl 0 (by decide) (hg _ wt2_186) (fun _ h9 => h9) rfl dX11_asks_12 ?_
    refine lv_iload_n hx hb dX11_asks_15 rfl (lv_at hl 2 rfl) ?_
    refine kIG.callW (As := [.int y]) (rest := []) ⟨hx, hb, hml, hown, hg⟩ (x_7_hasPart l r f a g tx tt hT hI hG y  ) (cwV 1 hg (kgV wt3_35 wt3_36 wt3_37 wt1_2 wt3_38) rfl rfl rfl (by decide +kernel) ⟨by decide, by decide⟩) hV hK hP hD hS hA (1) 7 rfl rfl rfl hl.1 rfl (Nat.le_of_ble_eq_true rfl) dX11_asks_16 ⟨Nat.le_refl _, Nat.le_refl _⟩ (fun v10 u11 H locs hw9 hP hD hS => ?_)
    have hP : va_P D vwCl (xX K r f a g tx) H := hP
    have hD : va_D A (xX K r f a g tx) := hD
    refine lv_if_eq (tgt := 34) hx hb dX11_asks_19 (by decide) (fun c12 => ?_) (fun c12 => ?_)
    · have b13 : kb 0 v10 0 := kb_eq c12 kc_0
      refine lv_iconst (v := (-1)) hx hb dX11_asks_34 (by decide) ?_
      exact kI_ret (v := (-1)) hx hb hr hlocks rfl hK hS dX11_asks_35 (f, a, g) hP hD ⟨(kb_w kc_m1 (by decide) (by decide)), hI, hG, hE⟩
    · have b14 : kb 1 v10 1 := kr_nel c12 hw9.1 kc_0 (by decide)
      have h15 := hw9.2.1 c12
      have b16 : kb 0 y 9 := ⟨h15.1, h15.2⟩
      refine lv_iload_n hx hb dX11_asks_22 rfl (lv_at hl 3 rfl) ?_
      refine lv_if_lt (tgt := 34) hx hb dX11_asks_23 (by decide) (fun c17 => ?_) (fun c17 => ?_)
      · have h18 := (kc_lt c17)
        have b19 : kb (-2147483648) z (-1) := kr_lt1 h18 (kb_any z) kc_0 (by decide)
        refine lv_iconst (v := (-1)) hx hb dX11_asks_34 (by decide) ?_
        exact kI_ret (v := (-1)) hx hb hr hlocks rfl hK hS dX11_asks_35 (f, a, g) hP hD ⟨(kb_w kc_m1 (by decide) (by decide)), hI, hG, hE⟩
      · have h20 := (kc_nlt c17)
        have b21 : kb 0 z 2147483647 := kr_le2 h20 kc_0 (kb_any z)
        refine lv_iload_n hx hb dX11_asks_26 rfl (lv_at hl 3 rfl) ?_
        obtain ⟨tt1, tt2, hz1, hT1, hz2, hT2⟩ := hV.2.1
        obtain ⟨tt3, hz3, hT3, hN3⟩ := hV.2.2.1
        refine va_gets hx hb hz3 hS hown (hg _ wt3_75) (fun _ h => h) dX11_asks_27 ?_
        refine va_tlen (v := 4) hx hb hT3 hS (by decide +kernel) dX11_asks_30 ?_
        refine lv_icmp_lt (tgt := 36) hx hb dX11_asks_31 (by decide) (fun c22 => ?_) (fun c22 => ?_)
        · have h23 := (kc_lt c22)
          have b24 : kb 0 z 3 := kr_lt1 h23 b21 kc_4 (by decide)
          refine lv_aload_n hx hb dX11_asks_36 rfl (lv_at hl 0 rfl) ?_
          refine va_get (D := D) (ci := 11) (v := .ref (r 1)) (C := RX11) (T := TX11) (N := 17) hx hb hg inC11 hown hK hP 0 rfl rfl 0 (by decide) (hg _ wt2_186) (fun _ h9 => h9) rfl dX11_asks_37 ?_
          refine lv_iload_n hx hb dX11_asks_40 rfl (lv_at hl 3 rfl) ?_
          refine lv_iload_n hx hb dX11_asks_41 rfl (lv_at hl 1 rfl) ?_
          refine lv_iload_n hx hb dX11_asks_42 rfl (lv_at hl 2 rfl) ?_
          refine kIG.callW (As := [.int z, .int x, .int y]) (rest := []) ⟨hx, hb, hml, hown, hg⟩ (x_7_asked l r f a g tx tt hT hI hG z x y  ) (cwV 3 hg (kgV wt3_77 wt3_78 wt3_79 wt1_2 wt3_80) rfl rfl rfl (by decide +kernel) ⟨by decide, by decide⟩) hV hK hP hD hS hA (1) 7 rfl rfl rfl hl.1 rfl (Nat.le_of_ble_eq_true rfl) dX11_asks_43 ⟨Nat.le_refl _, Nat.le_refl _⟩ (fun v26 u27 H locs hw25 hP hD hS => ?_)
          obtain ⟨f28, a29, g30⟩ := u27
          have hP : va_P D vwCl (xX K r f28 a29 g30 tx) H := hP
          have hD : va_D A (xX K r f28 a29 g30 tx) := hD
          have hI : xI f28 a29 := hw25.2.1
          have hG : gOK K g30.2 tt := hw25.2.2.1
          have eE31 : xEk ([], [], []) f a g f28 a29 g30 := hw25.2.2.2
          have hE : xEk ([], [], []) f a g f28 a29 g30 := xEk_tr hE eE31
          exact kI_ret (v := v26) hx hb hr hlocks rfl hK hS dX11_asks_46 (f28, a29, g30) hP hD ⟨(kb_any v26), hI, hG, hE⟩
        · have h32 := (kc_nlt c22)
          have b33 : kb 4 z 2147483647 := kr_le2 h32 kc_4 b21
          refine lv_iconst (v := (-1)) hx hb dX11_asks_34 (by decide) ?_
          exact kI_ret (v := (-1)) hx hb hr hlocks rfl hK hS dX11_asks_35 (f, a, g) hP hD ⟨(kb_w kc_m1 (by decide) (by decide)), hI, hG, hE⟩
set_option maxHeartbeats 4000000 in
set_option maxRecDepth 100000 in
theorem x_11_terms  (l : Launch) {D : va_G} {K : Nat → ClassId} (r : Nat → Nat) (f : Nat → Int32) (a : Nat → Nat → Int32) (g : xG) (tx tt : va_W) (hT : ∀ c ∈ tt, c ∈ tx) (hI : xI f a) (hG : gOK K g.2 tt) (x : Int32) (y : Int32)    : kIG l yX11_terms (Cond.code yX11_terms cX11_terms 4 (some .int) :: kG) (rmD 3 0 0) D K [.ref (r 0), .int x, .int y] (xX K r f a g tx) (fun v (u : xS) => kb (-2147483648) v 2147483647 ∧ xI u.1 u.2.1 ∧ gOK K u.2.2.2 tt ∧ xEk ([16, 704, 705, 2565, 2566, 2786], [11, 81, 94], []) f a g u.1 u.2.1 u.2.2) (fun u => xX K r u.1 u.2.1 u.2.2 tx) 0 0 := by
  refine kIE.of (cc := cX11_terms) (maxL := 4) (ret := (some .int)) (by decide) rfl (Nat.le_of_ble_eq_true rfl) ?_
  intro p e s m below meth c A hx hb hr hml hown hts hlocks hnm hK hP hD hS hA hV ls hl
  have hE : xEk ([16, 704, 705, 2565, 2566, 2786], [11, 81, 94], []) f a g f a g := xEk_rf
  have hg : ∀ w ∈ kG, w.before _ s = true := fun w h => hts w (List.mem_cons_of_mem _ h)
  have hown : s.vm.findClass RX11 = some m.cls := hown
  have hl : lv_has ls 4 [(0, .ref (r 0)), (1, .int x), (2, .int y)] := hl
  refine lv_iload_n hx hb dX11_terms_0 rfl (lv_at hl 1 rfl) ?_
  refine lv_if_lt (tgt := 27) hx hb dX11_terms_1 (by decide) (fun c1 => ?_) (fun c1 => ?_)
  · have h2 := (kc_lt c1)
    have b3 : kb (-2147483648) x (-1) := kr_lt1 h2 (kb_any x) kc_0 (by decide)
    refine lv_aload_n hx hb dX11_terms_27 rfl (lv_at hl 0 rfl) ?_
    refine lv_iconst (v := (-1)) hx hb dX11_terms_28 (by decide) ?_
    refine kIG.callW (As := [.int (-1)]) (rest := []) ⟨hx, hb, hml, hown, hg⟩ (x_11_refuse l r f a g tx tt hT hI hG (-1)  ) (cwV 1 hg (kgV wt3_7 wt3_9 wp1_0 wt1_1 wt3_10) rfl rfl rfl (by decide +kernel) ⟨by decide, by decide⟩) hV hK hP hD hS hA (0) 11 rfl rfl rfl hl.1 rfl (Nat.le_of_ble_eq_true rfl) dX11_terms_29 ⟨Nat.le_refl _, Nat.le_refl _⟩ (fun v5 u6 H locs hw4 hP hD hS => ?_)
    obtain ⟨f7, a8, g9⟩ := u6
    have hP : va_P D vwCl (xX K r f7 a8 g9 tx) H := hP
    have hD : va_D A (xX K r f7 a8 g9 tx) := hD
    have hI : xI f7 a8 := hw4.2.1
    have hG : gOK K g9.2 tt := hw4.2.2.1
    have eE10 : xEk ([16], [94], []) f a g f7 a8 g9 := hw4.2.2.2.1
    have hE : xEk ([16, 704, 705, 2565, 2566, 2786], [11, 81, 94], []) f a g f7 a8 g9 := xEk_tr hE (xEk_w (by decide +kernel) eE10)
    refine k_top (z := (-1)) hw4.2.2.2.2 ?_
    exact kI_ret (v := (-1)) hx hb hr hlocks rfl hK hS dX11_terms_32 (f7, a8, g9) hP hD ⟨(kb_w kc_m1 (by decide) (by decide)), hI, hG, hE⟩
  · have h11 := (kc_nlt c1)
    have b12 : kb 0 x 2147483647 := kr_le2 h11 kc_0 (kb_any x)
    refine lv_iload_n hx hb dX11_terms_4 rfl (lv_at hl 1 rfl) ?_
    refine lv_iconst (v := 4) hx hb dX11_terms_5 (by decide) ?_
    refine lv_icmp_ge (tgt := 27) hx hb dX11_terms_6 (by decide) (fun c13 => ?_) (fun c13 => ?_)
    · have h14 := (kc_le c13)
      have b15 : kb 4 x 2147483647 := kr_le2 h14 kc_4 b12
      refine lv_aload_n hx hb dX11_terms_27 rfl (lv_at hl 0 rfl) ?_
      refine lv_iconst (v := (-1)) hx hb dX11_terms_28 (by decide) ?_
      refine kIG.callW (As := [.int (-1)]) (rest := []) ⟨hx, hb, hml, hown, hg⟩ (x_11_refuse l r f a g tx tt hT hI hG (-1)  ) (cwV 1 hg (kgV wt3_7 wt3_9 wp1_0 wt1_1 wt3_10) rfl rfl rfl (by decide +kernel) ⟨by decide, by decide⟩) hV hK hP hD hS hA (0) 11 rfl rfl rfl hl.1 rfl (Nat.le_of_ble_eq_true rfl) dX11_terms_29 ⟨Nat.le_refl _, Nat.le_refl _⟩ (fun v17 u18 H locs hw16 hP hD hS => ?_)
      obtain ⟨f19, a20, g21⟩ := u18
      have hP : va_P D vwCl (xX K r f19 a20 g21 tx) H := hP
      have hD : va_D A (xX K r f19 a20 g21 tx) := hD
      have hI : xI f19 a20 := hw16.2.1
      have hG : gOK K g21.2 tt := hw16.2.2.1
      have eE22 : xEk ([16], [94], []) f a g f19 a20 g21 := hw16.2.2.2.1
      have hE : xEk ([16, 704, 705, 2565, 2566, 2786], [11, 81, 94], []) f a g f19 a20 g21 := xEk_tr hE (xEk_w (by decide +kernel) eE22)
      refine k_top (z := (-1)) hw16.2.2.2.2 ?_
      exact kI_ret (v := (-1)) hx hb hr hlocks rfl hK hS dX11_terms_32 (f19, a20, g21) hP hD ⟨(kb_w kc_m1 (by decide) (by decide)), hI, hG, hE⟩
    · have h23 := (kc_nle c13)
      have b24 : kb 0 x 3 := kr_lt1 h23 b12 kc_4 (by decide)
      refine lv_iload_n hx hb dX11_terms_9 rfl (lv_at hl 2 rfl) ?_
      obtain ⟨tt1, tt2, hz1, hT1, hz2, hT2⟩ := hV.2.1
      obtain ⟨tt3, hz3, hT3, hN3⟩ := hV.2.2.1
      refine va_gets hx hb hz1 hS hown (hg _ wt3_117) (fun _ h => h) dX11_terms_10 ?_
      refine lv_iload_n hx hb dX11_terms_13 rfl (lv_at hl 1 rfl) ?_
      refine va_ti (v := .int (tl0 x.toNatClampNeg)) hx hb hT1 hS (kb_in b24 (by decide) (by decide)) rfl dX11_terms_14 ?_
      refine lv_topi (fun t25 et25 => ?_)
      refine lv_icmp_lt (tgt := 27) hx hb dX11_terms_15 (by decide) (fun c26 => ?_) (fun c26 => ?_)
      · have h27 := (kc_lt c26)
        have b28 : kb (-2147483648) y 2147483646 := kr_lt1 h27 (kb_any y) (kb_any t25) (by decide)
        have b29 : kb (-2147483647) t25 2147483647 := kr_lt2 h27 (kb_any y) (kb_any t25) (by decide)
        refine lv_aload_n hx hb dX11_terms_27 rfl (lv_at hl 0 rfl) ?_
        refine lv_iconst (v := (-1)) hx hb dX11_terms_28 (by decide) ?_
        refine kIG.callW (As := [.int (-1)]) (rest := []) ⟨hx, hb, hml, hown, hg⟩ (x_11_refuse l r f a g tx tt hT hI hG (-1)  ) (cwV 1 hg (kgV wt3_7 wt3_9 wp1_0 wt1_1 wt3_10) rfl rfl rfl (by decide +kernel) ⟨by decide, by decide⟩) hV hK hP hD hS hA (0) 11 rfl rfl rfl hl.1 rfl (Nat.le_of_ble_eq_true rfl) dX11_terms_29 ⟨Nat.le_refl _, Nat.le_refl _⟩ (fun v31 u32 H locs hw30 hP hD hS => ?_)
        obtain ⟨f33, a34, g35⟩ := u32
        have hP : va_P D vwCl (xX K r f33 a34 g35 tx) H := hP
        have hD : va_D A (xX K r f33 a34 g35 tx) := hD
        have hI : xI f33 a34 := hw30.2.1
        have hG : gOK K g35.2 tt := hw30.2.2.1
        have eE36 : xEk ([16], [94], []) f a g f33 a34 g35 := hw30.2.2.2.1
        have hE : xEk ([16, 704, 705, 2565, 2566, 2786], [11, 81, 94], []) f a g f33 a34 g35 := xEk_tr hE (xEk_w (by decide +kernel) eE36)
        refine k_top (z := (-1)) hw30.2.2.2.2 ?_
        exact kI_ret (v := (-1)) hx hb hr hlocks rfl hK hS dX11_terms_32 (f33, a34, g35) hP hD ⟨(kb_w kc_m1 (by decide) (by decide)), hI, hG, hE⟩
      · have h37 := (kc_nlt c26)
        refine lv_iload_n hx hb dX11_terms_18 rfl (lv_at hl 2 rfl) ?_
        refine va_gets hx hb hz2 hS hown (hg _ wt3_119) (fun _ h => h) dX11_terms_19 ?_
        refine lv_iload_n hx hb dX11_terms_22 rfl (lv_at hl 1 rfl) ?_
        refine va_ti (v := .int (tm0 x.toNatClampNeg)) hx hb hT2 hS (kb_in b24 (by decide) (by decide)) rfl dX11_terms_23 ?_
        refine lv_topi (fun t38 et38 => ?_)
        refine lv_icmp_le (tgt := 33) hx hb dX11_terms_24 (by decide) (fun c39 => ?_) (fun c39 => ?_)
        · have h40 := (kc_le c39)
          refine lv_aload_n hx hb dX11_terms_33 rfl (lv_at hl 0 rfl) ?_
          refine va_get (D := D) (ci := 11) (v := .ref (r 1)) (C := RX11) (T := TX11) (N := 17) hx hb hg inC11 hown hK hP 0 rfl rfl 0 (by decide) (hg _ wt2_186) (fun _ h9 => h9) rfl dX11_terms_34 ?_
          refine va_get (D := D) (ci := 7) (v := .ref (r 11)) (C := RX7) (T := TX7) (N := 20) hx hb hg inC7 hown hK hP 1 rfl rfl 11 (by decide) (hg _ wt1_134) (fun _ h9 => h9) rfl dX11_terms_37 ?_
          refine lv_iload_n hx hb dX11_terms_40 rfl (lv_at hl 1 rfl) ?_
          refine va_iald hx hb hK hP 11 0 rfl rfl (kb_in b24 (by decide) (by decide)) dX11_terms_41 ?_
          refine lv_topi (fun t41 et41 => ?_)
          refine lv_istore_n (lv' := [(3, .int t41), (0, .ref (r 0)), (1, .int x), (2, .int y)]) hx hb dX11_terms_42 rfl hl (by decide) rfl (fun ls hl => ?_)
          refine lv_aload_n hx hb dX11_terms_43 rfl (lv_at hl 1 rfl) ?_
          refine va_get (D := D) (ci := 11) (v := .ref (r 1)) (C := RX11) (T := TX11) (N := 17) hx hb hg inC11 hown hK hP 0 rfl rfl 0 (by decide) (hg _ wt2_186) (fun _ h9 => h9) rfl dX11_terms_44 ?_
          refine va_get (D := D) (ci := 7) (v := .ref (r 11)) (C := RX7) (T := TX7) (N := 20) hx hb hg inC7 hown hK hP 1 rfl rfl 11 (by decide) (hg _ wt1_134) (fun _ h9 => h9) rfl dX11_terms_47 ?_
          refine lv_iload_n hx hb dX11_terms_50 rfl (lv_at hl 2 rfl) ?_
          refine lv_iload_n hx hb dX11_terms_51 rfl (lv_at hl 3 rfl) ?_
          refine va_iast hx hb hK hP hD hS 11 0 rfl rfl (kb_in b24 (by decide) (by decide)) dX11_terms_52 (fun H locs hP hD hS => ?_)
          have hP : va_P D vwCl (xX K r f (va_up a 11 (upd (a 11) x.toNatClampNeg y)) g tx) H := hP
          have hD : va_D A (xX K r f (va_up a 11 (upd (a 11) x.toNatClampNeg y)) g tx) := hD
          refine k_gen (P := fun z => va_P D vwCl (xX K r f z g tx) H ∧ va_D A (xX K r f z g tx) ∧ (xI f z) ∧ (gOK K g.2 tt) ∧ (xEk ([16, 704, 705, 2565, 2566, 2786], [11, 81, 94], []) f a g f z g)) (va_up a 11 (upd (a 11) x.toNatClampNeg y)) ⟨hP, hD, (xI_a hI (by decide)), hG, (xEk_a hE rfl)⟩ (fun a_42 ea_42 hq => ?_)
          obtain ⟨hP, hD, hI, hG, hE⟩ := hq
          refine lv_aload_n hx hb dX11_terms_53 rfl (lv_at hl 1 rfl) ?_
          refine va_get (D := D) (ci := 11) (v := .ref (r 22)) (C := RX11) (T := TX11) (N := 17) hx hb hg inC11 hown hK hP 0 rfl rfl 1 (by decide) (hg _ wt2_187) (fun _ h9 => h9) rfl dX11_terms_54 ?_
          refine kVG.callW (As := []) (rest := []) ⟨hx, hb, hml, hown, hg⟩ (x_2_clear l r f a_42 g tx tt hT hI hG   ) (cwV 0 hg (kgV wt3_11 wt3_12 wt3_13 wt1_4 wt3_14) rfl rfl rfl (by decide +kernel) ⟨by decide, by decide⟩) hV hK hP hD hS hA (22) 2 rfl rfl rfl hl.1 rfl (Nat.le_of_ble_eq_true rfl) dX11_terms_57 ⟨Nat.le_refl _, Nat.le_refl _⟩ (fun u45 H locs hw43 hP hD hS => ?_)
          obtain ⟨f46, a47, g48⟩ := u45
          have hP : va_P D vwCl (xX K r f46 a47 g48 tx) H := hP
          have hD : va_D A (xX K r f46 a47 g48 tx) := hD
          have hI : xI f46 a47 := hw43.1
          have hG : gOK K g48.2 tt := hw43.2.1
          have eE49 : xEk ([704, 705], [], []) f a_42 g f46 a47 g48 := hw43.2.2
          have hE : xEk ([16, 704, 705, 2565, 2566, 2786], [11, 81, 94], []) f a g f46 a47 g48 := xEk_tr hE (xEk_w (by decide +kernel) eE49)
          refine lv_aload_n hx hb dX11_terms_60 rfl (lv_at hl 1 rfl) ?_
          refine lv_iload_n hx hb dX11_terms_61 rfl (lv_at hl 0 rfl) ?_
          refine kIG.callW (As := [.int t41]) (rest := []) ⟨hx, hb, hml, hown, hg⟩ (x_11_agreeChanged l r f46 a47 g48 tx tt hT hI hG t41  ) (cwV 1 hg (kgV wt3_15 wt3_17 wp1_1 wt1_1 wt3_18) rfl rfl rfl (by decide +kernel) ⟨by decide, by decide⟩) hV hK hP hD hS hA (0) 11 rfl rfl rfl hl.1 rfl (Nat.le_of_ble_eq_true rfl) dX11_terms_62 ⟨Nat.le_refl _, Nat.le_refl _⟩ (fun v51 u52 H locs hw50 hP hD hS => ?_)
          obtain ⟨f53, a54, g55⟩ := u52
          have hP : va_P D vwCl (xX K r f53 a54 g55 tx) H := hP
          have hD : va_D A (xX K r f53 a54 g55 tx) := hD
          have hI : xI f53 a54 := hw50.2.1
          have hG : gOK K g55.2 tt := hw50.2.2.1
          have eE56 : xEk ([16, 2565, 2566, 2786], [81], []) f46 a47 g48 f53 a54 g55 := hw50.2.2.2.1
          have hE : xEk ([16, 704, 705, 2565, 2566, 2786], [11, 81, 94], []) f a g f53 a54 g55 := xEk_tr hE (xEk_w (by decide +kernel) eE56)
          refine k_top (z := t41) hw50.2.2.2.2 ?_
          exact kI_ret (v := t41) hx hb hr hlocks rfl hK hS dX11_terms_65 (f53, a54, g55) hP hD ⟨(kb_any t41), hI, hG, hE⟩
        · have h57 := (kc_nle c39)
          have b58 : kb (-2147483648) t38 2147483646 := kr_lt1 h57 (kb_any t38) (kb_any y) (by decide)
          have b59 : kb (-2147483647) y 2147483647 := kr_lt2 h57 (kb_any t38) (kb_any y) (by decide)
          refine lv_aload_n hx hb dX11_terms_27 rfl (lv_at hl 0 rfl) ?_
          refine lv_iconst (v := (-1)) hx hb dX11_terms_28 (by decide) ?_
          refine kIG.callW (As := [.int (-1)]) (rest := []) ⟨hx, hb, hml, hown, hg⟩ (x_11_refuse l r f a g tx tt hT hI hG (-1)  ) (cwV 1 hg (kgV wt3_7 wt3_9 wp1_0 wt1_1 wt3_10) rfl rfl rfl (by decide +kernel) ⟨by decide, by decide⟩) hV hK hP hD hS hA (0) 11 rfl rfl rfl hl.1 rfl (Nat.le_of_ble_eq_true rfl) dX11_terms_29 ⟨Nat.le_refl _, Nat.le_refl _⟩ (fun v61 u62 H locs hw60 hP hD hS => ?_)
          obtain ⟨f63, a64, g65⟩ := u62
          have hP : va_P D vwCl (xX K r f63 a64 g65 tx) H := hP
          have hD : va_D A (xX K r f63 a64 g65 tx) := hD
          have hI : xI f63 a64 := hw60.2.1
          have hG : gOK K g65.2 tt := hw60.2.2.1
          have eE66 : xEk ([16], [94], []) f a g f63 a64 g65 := hw60.2.2.2.1
          have hE : xEk ([16, 704, 705, 2565, 2566, 2786], [11, 81, 94], []) f a g f63 a64 g65 := xEk_tr hE (xEk_w (by decide +kernel) eE66)
          refine k_top (z := (-1)) hw60.2.2.2.2 ?_
          exact kI_ret (v := (-1)) hx hb hr hlocks rfl hK hS dX11_terms_32 (f63, a64, g65) hP hD ⟨(kb_w kc_m1 (by decide) (by decide)), hI, hG, hE⟩
set_option maxHeartbeats 4000000 in
set_option maxRecDepth 100000 in
theorem x_11_chaff  (l : Launch) {D : va_G} {K : Nat → ClassId} (r : Nat → Nat) (f : Nat → Int32) (a : Nat → Nat → Int32) (g : xG) (tx tt : va_W) (hT : ∀ c ∈ tt, c ∈ tx) (hI : xI f a) (hG : gOK K g.2 tt)     : kIG l yX11_chaff (Cond.code yX11_chaff cX11_chaff 1 (some .int) :: kG) (rmD 1 0 0) D K [.ref (r 0)] (xX K r f a g tx) (fun v (_ : Unit) => kb (-2147483648) v 2147483647 ∧ v = f 14) (fun _ => xX K r f a g tx) 0 0 := by
  refine kIE.of (cc := cX11_chaff) (maxL := 1) (ret := (some .int)) (by decide) rfl (Nat.le_of_ble_eq_true rfl) ?_
  intro p e s m below meth c A hx hb hr hml hown hts hlocks hnm hK hP hD hS hA hV ls hl
  have hg : ∀ w ∈ kG, w.before _ s = true := fun w h => hts w (List.mem_cons_of_mem _ h)
  have hown : s.vm.findClass RX11 = some m.cls := hown
  have hl : lv_has ls 1 [(0, .ref (r 0))] := hl
  refine lv_aload_n hx hb dX11_chaff_0 rfl (lv_at hl 0 rfl) ?_
  refine va_get (D := D) (ci := 11) (v := .int (f 14)) (C := RX11) (T := TX11) (N := 17) hx hb hg inC11 hown hK hP 0 rfl rfl 14 (by decide) (hg _ wt2_200) (fun _ h9 => h9) rfl dX11_chaff_1 ?_
  refine lv_topi (fun t1 et1 => ?_)
  exact kI_ret (v := t1) hx hb hr hlocks rfl hK hS dX11_chaff_4 () hP hD ⟨(kb_any t1), et1⟩
set_option maxHeartbeats 4000000 in
set_option maxRecDepth 100000 in
theorem x_11_fault  (l : Launch) {D : va_G} {K : Nat → ClassId} (r : Nat → Nat) (f : Nat → Int32) (a : Nat → Nat → Int32) (g : xG) (tx tt : va_W) (hT : ∀ c ∈ tt, c ∈ tx) (hI : xI f a) (hG : gOK K g.2 tt)     : kIG l yX11_fault (Cond.code yX11_fault cX11_fault 1 (some .int) :: kG) (rmD 1 0 0) D K [.ref (r 0)] (xX K r f a g tx) (fun v (_ : Unit) => kb (-2147483648) v 2147483647 ∧ v = f 13) (fun _ => xX K r f a g tx) 0 0 := by
  refine kIE.of (cc := cX11_fault) (maxL := 1) (ret := (some .int)) (by decide) rfl (Nat.le_of_ble_eq_true rfl) ?_
  intro p e s m below meth c A hx hb hr hml hown hts hlocks hnm hK hP hD hS hA hV ls hl
  have hg : ∀ w ∈ kG, w.before _ s = true := fun w h => hts w (List.mem_cons_of_mem _ h)
  have hown : s.vm.findClass RX11 = some m.cls := hown
  have hl : lv_has ls 1 [(0, .ref (r 0))] := hl
  refine lv_aload_n hx hb dX11_fault_0 rfl (lv_at hl 0 rfl) ?_
  refine va_get (D := D) (ci := 11) (v := .int (f 13)) (C := RX11) (T := TX11) (N := 17) hx hb hg inC11 hown hK hP 0 rfl rfl 13 (by decide) (hg _ wt2_199) (fun _ h9 => h9) rfl dX11_fault_1 ?_
  refine lv_topi (fun t1 et1 => ?_)
  exact kI_ret (v := t1) hx hb hr hlocks rfl hK hS dX11_fault_4 () hP hD ⟨(kb_any t1), et1⟩
set_option maxHeartbeats 4000000 in
set_option maxRecDepth 100000 in
theorem x_11_stopped  (l : Launch) {D : va_G} {K : Nat → ClassId} (r : Nat → Nat) (f : Nat → Int32) (a : Nat → Nat → Int32) (g : xG) (tx tt : va_W) (hT : ∀ c ∈ tt, c ∈ tx) (hI : xI f a) (hG : gOK K g.2 tt)     : kIG l yX11_stopped (Cond.code yX11_stopped cX11_stopped 1 (some .int) :: kG) (rmD 1 0 0) D K [.ref (r 0)] (xX K r f a g tx) (fun v (_ : Unit) => kb (-2147483648) v 2147483647) (fun _ => xX K r f a g tx) 0 0 := by
  refine kIE.of (cc := cX11_stopped) (maxL := 1) (ret := (some .int)) (by decide) rfl (Nat.le_of_ble_eq_true rfl) ?_
  intro p e s m below meth c A hx hb hr hml hown hts hlocks hnm hK hP hD hS hA hV ls hl
  have hg : ∀ w ∈ kG, w.before _ s = true := fun w h => hts w (List.mem_cons_of_mem _ h)
  have hown : s.vm.findClass RX11 = some m.cls := hown
  have hl : lv_has ls 1 [(0, .ref (r 0))] := hl
  refine lv_aload_n hx hb dX11_stopped_0 rfl (lv_at hl 0 rfl) ?_
  refine va_get (D := D) (ci := 11) (v := .int (f 15)) (C := RX11) (T := TX11) (N := 17) hx hb hg inC11 hown hK hP 0 rfl rfl 15 (by decide) (hg _ wt2_201) (fun _ h9 => h9) rfl dX11_stopped_1 ?_
  refine lv_topi (fun t1 et1 => ?_)
  exact kI_ret (v := t1) hx hb hr hlocks rfl hK hS dX11_stopped_4 () hP hD (kb_any t1)
set_option maxHeartbeats 4000000 in
set_option maxRecDepth 100000 in
theorem x_11_status  (l : Launch) {D : va_G} {K : Nat → ClassId} (r : Nat → Nat) (f : Nat → Int32) (a : Nat → Nat → Int32) (g : xG) (tx tt : va_W) (hT : ∀ c ∈ tt, c ∈ tx) (hI : xI f a) (hG : gOK K g.2 tt)     : kIG l yX11_status (Cond.code yX11_status cX11_status 1 (some .int) :: kG) (rmD 1 0 0) D K [.ref (r 0)] (xX K r f a g tx) (fun v (_ : Unit) => kb (-2147483648) v 2147483647) (fun _ => xX K r f a g tx) 0 0 := by
  refine kIE.of (cc := cX11_status) (maxL := 1) (ret := (some .int)) (by decide) rfl (Nat.le_of_ble_eq_true rfl) ?_
  intro p e s m below meth c A hx hb hr hml hown hts hlocks hnm hK hP hD hS hA hV ls hl
  have hg : ∀ w ∈ kG, w.before _ s = true := fun w h => hts w (List.mem_cons_of_mem _ h)
  have hown : s.vm.findClass RX11 = some m.cls := hown
  have hl : lv_has ls 1 [(0, .ref (r 0))] := hl
  refine lv_aload_n hx hb dX11_status_0 rfl (lv_at hl 0 rfl) ?_
  refine va_get (D := D) (ci := 11) (v := .int (f 16)) (C := RX11) (T := TX11) (N := 17) hx hb hg inC11 hown hK hP 0 rfl rfl 16 (by decide) (hg _ wt2_202) (fun _ h9 => h9) rfl dX11_status_1 ?_
  refine lv_topi (fun t1 et1 => ?_)
  exact kI_ret (v := t1) hx hb hr hlocks rfl hK hS dX11_status_4 () hP hD (kb_any t1)
set_option maxHeartbeats 4000000 in
set_option maxRecDepth 100000 in
theorem x_11_force  (l : Launch) {D : va_G} {K : Nat → ClassId} (r : Nat → Nat) (f : Nat → Int32) (a : Nat → Nat → Int32) (g : xG) (tx tt : va_W) (hT : ∀ c ∈ tt, c ∈ tx) (hI : xI f a) (hG : gOK K g.2 tt) (x : Int32)  (hp0 : kb 0 (f 49) 6)  : kIG l yX11_force (Cond.code yX11_force cX11_force 3 (some .int) :: kG) (rmD 3 0 0) D K [.ref (r 0), .int x] (xX K r f a g tx) (fun v (u : xS) => kb (-2147483648) v 2147483647 ∧ xI u.1 u.2.1 ∧ gOK K u.2.2.2 tt ∧ xEk ([16, 50, 2565, 2566, 2786], [81, 94], []) f a g u.1 u.2.1 u.2.2 ∧ frcP x v (f 49) (f 50) (u.1 50)) (fun u => xX K r u.1 u.2.1 u.2.2 tx) 0 0 := by
  refine kIE.of (cc := cX11_force) (maxL := 3) (ret := (some .int)) (by decide) rfl (Nat.le_of_ble_eq_true rfl) ?_
  intro p e s m below meth c A hx hb hr hml hown hts hlocks hnm hK hP hD hS hA hV ls hl
  have hE : xEk ([16, 50, 2565, 2566, 2786], [81, 94], []) f a g f a g := xEk_rf
  have hg : ∀ w ∈ kG, w.before _ s = true := fun w h => hts w (List.mem_cons_of_mem _ h)
  have hown : s.vm.findClass RX11 = some m.cls := hown
  have hl : lv_has ls 3 [(0, .ref (r 0)), (1, .int x)] := hl
  obtain ⟨c49, ec49⟩ : ∃ z : Int32, z = f 49 := ⟨_, rfl⟩
  obtain ⟨c50, ec50⟩ : ∃ z : Int32, z = f 50 := ⟨_, rfl⟩
  refine lv_iload_n hx hb dX11_force_0 rfl (lv_at hl 1 rfl) ?_
  refine lv_iconst (v := (-1)) hx hb dX11_force_1 (by decide) ?_
  refine lv_icmp_eq (tgt := 27) hx hb dX11_force_2 (by decide) (fun c1 => ?_) (fun c1 => ?_)
  · have b2 : kb (-1) x (-1) := kb_eq c1 kc_m1
    refine lv_aload_n hx hb dX11_force_27 rfl (lv_at hl 0 rfl) ?_
    refine va_get (D := D) (ci := 11) (v := .ref (r 1)) (C := RX11) (T := TX11) (N := 17) hx hb hg inC11 hown hK hP 0 rfl rfl 0 (by decide) (hg _ wt2_186) (fun _ h9 => h9) rfl dX11_force_28 ?_
    refine va_get (D := D) (ci := 7) (v := .int (f 50)) (C := RX7) (T := TX7) (N := 20) hx hb hg inC7 hown hK hP 1 rfl rfl 18 (by decide) (hg _ wt1_153) (fun _ h9 => h9) rfl dX11_force_31 ?_
    refine k_top (z := c50) ec50.symm ?_
    refine lv_istore_n (lv' := [(2, .int c50), (0, .ref (r 0)), (1, .int x)]) hx hb dX11_force_34 rfl hl (by decide) rfl (fun ls hl => ?_)
    refine lv_aload_n hx hb dX11_force_35 rfl (lv_at hl 1 rfl) ?_
    refine va_get (D := D) (ci := 11) (v := .ref (r 1)) (C := RX11) (T := TX11) (N := 17) hx hb hg inC11 hown hK hP 0 rfl rfl 0 (by decide) (hg _ wt2_186) (fun _ h9 => h9) rfl dX11_force_36 ?_
    refine lv_iload_n hx hb dX11_force_39 rfl (lv_at hl 2 rfl) ?_
    refine va_put (D := D) (ci := 7) (v := .int x) (ty := .int) (C := RX7) (T := TX7) (N := 20) hx hb hg inC7 tyX7 tyX7_ok nmX7 hown hK hP hD hS 1 rfl rfl 18 (by decide) (hg _ wt1_153) (fun _ h9 => h9) rfl (by decide +kernel) rfl rfl (Nat.le_of_ble_eq_true rfl) dX11_force_40 (fun H locs hP hD hS => ?_)
    have hP : va_P D vwCl (xX K r (upd f 50 x) a g tx) H := hP
    have hD : va_D A (xX K r (upd f 50 x) a g tx) := hD
    refine k_gen (P := fun z => va_P D vwCl (xX K r z a g tx) H ∧ va_D A (xX K r z a g tx) ∧ (xI z a) ∧ (gOK K g.2 tt) ∧ (xEk ([16, 50, 2565, 2566, 2786], [81, 94], []) f a g z a g)) (upd f 50 x) ⟨hP, hD, (xI_f hI (fI_st hI.1 50 (kb_any _) (by decide) (by decide))), hG, (xEk_f hE rfl)⟩ (fun f_3 ef_3 hq => ?_)
    obtain ⟨hP, hD, hI, hG, hE⟩ := hq
    refine lv_aload_n hx hb dX11_force_43 rfl (lv_at hl 1 rfl) ?_
    refine lv_iload_n hx hb dX11_force_44 rfl (lv_at hl 0 rfl) ?_
    refine kIG.callW (As := [.int c50]) (rest := []) ⟨hx, hb, hml, hown, hg⟩ (x_11_agreeChanged l r f_3 a g tx tt hT hI hG c50  ) (cwV 1 hg (kgV wt3_15 wt3_17 wp1_1 wt1_1 wt3_18) rfl rfl rfl (by decide +kernel) ⟨by decide, by decide⟩) hV hK hP hD hS hA (0) 11 rfl rfl rfl hl.1 rfl (Nat.le_of_ble_eq_true rfl) dX11_force_45 ⟨Nat.le_refl _, Nat.le_refl _⟩ (fun v5 u6 H locs hw4 hP hD hS => ?_)
    obtain ⟨f7, a8, g9⟩ := u6
    have hP : va_P D vwCl (xX K r f7 a8 g9 tx) H := hP
    have hD : va_D A (xX K r f7 a8 g9 tx) := hD
    have hI : xI f7 a8 := hw4.2.1
    have hG : gOK K g9.2 tt := hw4.2.2.1
    have eE10 : xEk ([16, 2565, 2566, 2786], [81], []) f_3 a g f7 a8 g9 := hw4.2.2.2.1
    have hE : xEk ([16, 50, 2565, 2566, 2786], [81, 94], []) f a g f7 a8 g9 := xEk_tr hE (xEk_w (by decide +kernel) eE10)
    refine k_top (z := c50) hw4.2.2.2.2 ?_
    exact kI_ret (v := c50) hx hb hr hlocks rfl hK hS dX11_force_48 (f7, a8, g9) hP hD ⟨(kb_any c50), hI, hG, hE, (Or.inr ⟨ec50, ⟨by rw [c1]; decide +kernel, by rw [c1]; have w2 := hp0.1; have w3 : (-1 : Int32).toInt = -1 := (by decide +kernel); omega⟩, ((eE10.1 50 rfl).trans (show f_3 50 = x from by rw [← ef_3]; rfl))⟩)⟩
  · refine lv_iload_n hx hb dX11_force_5 rfl (lv_at hl 1 rfl) ?_
    refine lv_if_lt (tgt := 20) hx hb dX11_force_6 (by decide) (fun c11 => ?_) (fun c11 => ?_)
    · have h12 := (kc_lt c11)
      have b13 : kb (-2147483648) x (-1) := kr_lt1 h12 (kb_any x) kc_0 (by decide)
      refine lv_aload_n hx hb dX11_force_20 rfl (lv_at hl 0 rfl) ?_
      refine lv_bipush (v := (-2)) hx hb dX11_force_21 (by decide) ?_
      refine kIG.callW (As := [.int (-2)]) (rest := []) ⟨hx, hb, hml, hown, hg⟩ (x_11_refuse l r f a g tx tt hT hI hG (-2)  ) (cwV 1 hg (kgV wt3_7 wt3_9 wp1_0 wt1_1 wt3_10) rfl rfl rfl (by decide +kernel) ⟨by decide, by decide⟩) hV hK hP hD hS hA (0) 11 rfl rfl rfl hl.1 rfl (Nat.le_of_ble_eq_true rfl) dX11_force_23 ⟨Nat.le_refl _, Nat.le_refl _⟩ (fun v15 u16 H locs hw14 hP hD hS => ?_)
      obtain ⟨f17, a18, g19⟩ := u16
      have hP : va_P D vwCl (xX K r f17 a18 g19 tx) H := hP
      have hD : va_D A (xX K r f17 a18 g19 tx) := hD
      have hI : xI f17 a18 := hw14.2.1
      have hG : gOK K g19.2 tt := hw14.2.2.1
      have eE20 : xEk ([16], [94], []) f a g f17 a18 g19 := hw14.2.2.2.1
      have hE : xEk ([16, 50, 2565, 2566, 2786], [81, 94], []) f a g f17 a18 g19 := xEk_tr hE (xEk_w (by decide +kernel) eE20)
      refine k_top (z := (-2)) hw14.2.2.2.2 ?_
      exact kI_ret (v := (-2)) hx hb hr hlocks rfl hK hS dX11_force_26 (f17, a18, g19) hP hD ⟨(kb_w kc_m2 (by decide) (by decide)), hI, hG, hE, (Or.inl ⟨rfl, (fun q => by have q1 := q.1; have q2 := q.2; rw [← ec49] at q2; have w8 : ¬ x.toInt = -1 := (fun z => c1 (Int32.toInt_inj.mp (z.trans (by decide +kernel)))); first | (have w1 := (b13).2; omega) | (have w1 := kc_nlt c11; omega) | (have w1 := kc_le c11; omega)), ((((eE20.1 50 rfl).trans ec50.symm)).trans ec50)⟩)⟩
    · have h21 := (kc_nlt c11)
      have b22 : kb 0 x 2147483647 := kr_le2 h21 kc_0 (kb_any x)
      refine lv_iload_n hx hb dX11_force_9 rfl (lv_at hl 1 rfl) ?_
      refine lv_aload_n hx hb dX11_force_10 rfl (lv_at hl 0 rfl) ?_
      refine va_get (D := D) (ci := 11) (v := .ref (r 1)) (C := RX11) (T := TX11) (N := 17) hx hb hg inC11 hown hK hP 0 rfl rfl 0 (by decide) (hg _ wt2_186) (fun _ h9 => h9) rfl dX11_force_11 ?_
      refine va_get (D := D) (ci := 7) (v := .int (f 49)) (C := RX7) (T := TX7) (N := 20) hx hb hg inC7 hown hK hP 1 rfl rfl 17 (by decide) (hg _ wt1_150) (fun _ h9 => h9) rfl dX11_force_14 ?_
      refine k_top (z := c49) ec49.symm ?_
      refine lv_icmp_lt (tgt := 27) hx hb dX11_force_17 (by decide) (fun c23 => ?_) (fun c23 => ?_)
      · have h24 := (kc_lt c23)
        have b25 : kb 0 x 2147483646 := kr_lt1 h24 b22 (kb_any c49) (by decide)
        have b26 : kb 1 c49 2147483647 := kr_lt2 h24 b22 (kb_any c49) (by decide)
        refine lv_aload_n hx hb dX11_force_27 rfl (lv_at hl 0 rfl) ?_
        refine va_get (D := D) (ci := 11) (v := .ref (r 1)) (C := RX11) (T := TX11) (N := 17) hx hb hg inC11 hown hK hP 0 rfl rfl 0 (by decide) (hg _ wt2_186) (fun _ h9 => h9) rfl dX11_force_28 ?_
        refine va_get (D := D) (ci := 7) (v := .int (f 50)) (C := RX7) (T := TX7) (N := 20) hx hb hg inC7 hown hK hP 1 rfl rfl 18 (by decide) (hg _ wt1_153) (fun _ h9 => h9) rfl dX11_force_31 ?_
        refine k_top (z := c50) ec50.symm ?_
        refine lv_istore_n (lv' := [(2, .int c50), (0, .ref (r 0)), (1, .int x)]) hx hb dX11_force_34 rfl hl (by decide) rfl (fun ls hl => ?_)
        refine lv_aload_n hx hb dX11_force_35 rfl (lv_at hl 1 rfl) ?_
        refine va_get (D := D) (ci := 11) (v := .ref (r 1)) (C := RX11) (T := TX11) (N := 17) hx hb hg inC11 hown hK hP 0 rfl rfl 0 (by decide) (hg _ wt2_186) (fun _ h9 => h9) rfl dX11_force_36 ?_
        refine lv_iload_n hx hb dX11_force_39 rfl (lv_at hl 2 rfl) ?_
        refine va_put (D := D) (ci := 7) (v := .int x) (ty := .int) (C := RX7) (T := TX7) (N := 20) hx hb hg inC7 tyX7 tyX7_ok nmX7 hown hK hP hD hS 1 rfl rfl 18 (by decide) (hg _ wt1_153) (fun _ h9 => h9) rfl (by decide +kernel) rfl rfl (Nat.le_of_ble_eq_true rfl) dX11_force_40 (fun H locs hP hD hS => ?_)
        have hP : va_P D vwCl (xX K r (upd f 50 x) a g tx) H := hP
        have hD : va_D A (xX K r (upd f 50 x) a g tx) := hD
        refine k_gen (P := fun z => va_P D vwCl (xX K r z a g tx) H ∧ va_D A (xX K r z a g tx) ∧ (xI z a) ∧ (gOK K g.2 tt) ∧ (xEk ([16, 50, 2565, 2566, 2786], [81, 94], []) f a g z a g)) (upd f 50 x) ⟨hP, hD, (xI_f hI (fI_st hI.1 50 (kb_any _) (by decide) (by decide))), hG, (xEk_f hE rfl)⟩ (fun f_27 ef_27 hq => ?_)
        obtain ⟨hP, hD, hI, hG, hE⟩ := hq
        refine lv_aload_n hx hb dX11_force_43 rfl (lv_at hl 1 rfl) ?_
        refine lv_iload_n hx hb dX11_force_44 rfl (lv_at hl 0 rfl) ?_
        refine kIG.callW (As := [.int c50]) (rest := []) ⟨hx, hb, hml, hown, hg⟩ (x_11_agreeChanged l r f_27 a g tx tt hT hI hG c50  ) (cwV 1 hg (kgV wt3_15 wt3_17 wp1_1 wt1_1 wt3_18) rfl rfl rfl (by decide +kernel) ⟨by decide, by decide⟩) hV hK hP hD hS hA (0) 11 rfl rfl rfl hl.1 rfl (Nat.le_of_ble_eq_true rfl) dX11_force_45 ⟨Nat.le_refl _, Nat.le_refl _⟩ (fun v29 u30 H locs hw28 hP hD hS => ?_)
        obtain ⟨f31, a32, g33⟩ := u30
        have hP : va_P D vwCl (xX K r f31 a32 g33 tx) H := hP
        have hD : va_D A (xX K r f31 a32 g33 tx) := hD
        have hI : xI f31 a32 := hw28.2.1
        have hG : gOK K g33.2 tt := hw28.2.2.1
        have eE34 : xEk ([16, 2565, 2566, 2786], [81], []) f_27 a g f31 a32 g33 := hw28.2.2.2.1
        have hE : xEk ([16, 50, 2565, 2566, 2786], [81, 94], []) f a g f31 a32 g33 := xEk_tr hE (xEk_w (by decide +kernel) eE34)
        refine k_top (z := c50) hw28.2.2.2.2 ?_
        exact kI_ret (v := c50) hx hb hr hlocks rfl hK hS dX11_force_48 (f31, a32, g33) hP hD ⟨(kb_any c50), hI, hG, hE, (Or.inr ⟨ec50, ⟨by have w1 := (b25).1; omega, by rw [← ec49]; first | (have w1 := kc_lt c23; omega) | (have w1 := kc_nle c23; omega)⟩, ((eE34.1 50 rfl).trans (show f_27 50 = x from by rw [← ef_27]; rfl))⟩)⟩
      · have h35 := (kc_nlt c23)
        refine lv_aload_n hx hb dX11_force_20 rfl (lv_at hl 0 rfl) ?_
        refine lv_bipush (v := (-2)) hx hb dX11_force_21 (by decide) ?_
        refine kIG.callW (As := [.int (-2)]) (rest := []) ⟨hx, hb, hml, hown, hg⟩ (x_11_refuse l r f a g tx tt hT hI hG (-2)  ) (cwV 1 hg (kgV wt3_7 wt3_9 wp1_0 wt1_1 wt3_10) rfl rfl rfl (by decide +kernel) ⟨by decide, by decide⟩) hV hK hP hD hS hA (0) 11 rfl rfl rfl hl.1 rfl (Nat.le_of_ble_eq_true rfl) dX11_force_23 ⟨Nat.le_refl _, Nat.le_refl _⟩ (fun v37 u38 H locs hw36 hP hD hS => ?_)
        obtain ⟨f39, a40, g41⟩ := u38
        have hP : va_P D vwCl (xX K r f39 a40 g41 tx) H := hP
        have hD : va_D A (xX K r f39 a40 g41 tx) := hD
        have hI : xI f39 a40 := hw36.2.1
        have hG : gOK K g41.2 tt := hw36.2.2.1
        have eE42 : xEk ([16], [94], []) f a g f39 a40 g41 := hw36.2.2.2.1
        have hE : xEk ([16, 50, 2565, 2566, 2786], [81, 94], []) f a g f39 a40 g41 := xEk_tr hE (xEk_w (by decide +kernel) eE42)
        refine k_top (z := (-2)) hw36.2.2.2.2 ?_
        exact kI_ret (v := (-2)) hx hb hr hlocks rfl hK hS dX11_force_26 (f39, a40, g41) hP hD ⟨(kb_w kc_m2 (by decide) (by decide)), hI, hG, hE, (Or.inl ⟨rfl, (fun q => by have q1 := q.1; have q2 := q.2; rw [← ec49] at q2; have w8 : ¬ x.toInt = -1 := (fun z => c1 (Int32.toInt_inj.mp (z.trans (by decide +kernel)))); first | (have w1 := (b22).2; omega) | (have w1 := kc_nlt c23; omega) | (have w1 := kc_le c23; omega)), ((((eE42.1 50 rfl).trans ec50.symm)).trans ec50)⟩)⟩
set_option maxHeartbeats 4000000 in
set_option maxRecDepth 100000 in
theorem x_11_stands  (l : Launch) {D : va_G} {K : Nat → ClassId} (r : Nat → Nat) (f : Nat → Int32) (a : Nat → Nat → Int32) (g : xG) (tx tt : va_W) (hT : ∀ c ∈ tt, c ∈ tx) (hI : xI f a) (hG : gOK K g.2 tt) (x : Int32)    : kIG l yX11_stands (Cond.code yX11_stands cX11_stands 2 (some .int) :: kG) (rmD 3 0 0) D K [.ref (r 0), .int x] (xX K r f a g tx) (fun v (_ : Unit) => kb (-2147483648) v 2147483647) (fun _ => xX K r f a g tx) 0 0 := by
  refine kIE.of (cc := cX11_stands) (maxL := 2) (ret := (some .int)) (by decide) rfl (Nat.le_of_ble_eq_true rfl) ?_
  intro p e s m below meth c A hx hb hr hml hown hts hlocks hnm hK hP hD hS hA hV ls hl
  have hg : ∀ w ∈ kG, w.before _ s = true := fun w h => hts w (List.mem_cons_of_mem _ h)
  have hown : s.vm.findClass RX11 = some m.cls := hown
  have hl : lv_has ls 2 [(0, .ref (r 0)), (1, .int x)] := hl
  refine lv_iload_n hx hb dX11_stands_0 rfl (lv_at hl 1 rfl) ?_
  by_cases q1 : x = 0
  · have b2 : kb 0 x 0 := kb_eq q1 kc_0
    refine lv_lookup (tgt := 28) (off := 27) hx hb dX11_stands_1 (by decide +kernel) (by rw [q1]; decide +kernel) (by decide) ?_
    refine lv_aload_n hx hb dX11_stands_28 rfl (lv_at hl 0 rfl) ?_
    refine va_get (D := D) (ci := 11) (v := .ref (r 1)) (C := RX11) (T := TX11) (N := 17) hx hb hg inC11 hown hK hP 0 rfl rfl 0 (by decide) (hg _ wt2_186) (fun _ h9 => h9) rfl dX11_stands_29 ?_
    refine kIG.callW (As := []) (rest := []) ⟨hx, hb, hml, hown, hg⟩ (x_7_upMask l r f a g tx tt hT hI hG   ) (cwV 0 hg (kgV wt4_164 wt3_44 wt3_45 wt1_2 wt3_46) rfl rfl rfl (by decide +kernel) ⟨by decide, by decide⟩) hV hK hP hD hS hA (1) 7 rfl rfl rfl hl.1 rfl (Nat.le_of_ble_eq_true rfl) dX11_stands_32 ⟨Nat.le_refl _, Nat.le_refl _⟩ (fun v4 u5 H locs hw3 hP hD hS => ?_)
    have hP : va_P D vwCl (xX K r f a g tx) H := hP
    have hD : va_D A (xX K r f a g tx) := hD
    exact kI_ret (v := v4) hx hb hr hlocks rfl hK hS dX11_stands_35 () hP hD (kb_any v4)
  by_cases q6 : x = 1
  · have b7 : kb 1 x 1 := kb_eq q6 kc_1
    refine lv_lookup (tgt := 36) (off := 35) hx hb dX11_stands_1 (by decide +kernel) (by rw [q6]; decide +kernel) (by decide) ?_
    refine lv_aload_n hx hb dX11_stands_36 rfl (lv_at hl 0 rfl) ?_
    refine va_get (D := D) (ci := 11) (v := .ref (r 1)) (C := RX11) (T := TX11) (N := 17) hx hb hg inC11 hown hK hP 0 rfl rfl 0 (by decide) (hg _ wt2_186) (fun _ h9 => h9) rfl dX11_stands_37 ?_
    refine kIG.callW (As := []) (rest := []) ⟨hx, hb, hml, hown, hg⟩ (x_7_readyMask l r f a g tx tt hT hI hG   ) (cwV 0 hg (kgV wt3_39 wt3_40 wt3_41 wt1_2 wt3_42) rfl rfl rfl (by decide +kernel) ⟨by decide, by decide⟩) hV hK hP hD hS hA (1) 7 rfl rfl rfl hl.1 rfl (Nat.le_of_ble_eq_true rfl) dX11_stands_40 ⟨Nat.le_refl _, Nat.le_refl _⟩ (fun v9 u10 H locs hw8 hP hD hS => ?_)
    have hP : va_P D vwCl (xX K r f a g tx) H := hP
    have hD : va_D A (xX K r f a g tx) := hD
    exact kI_ret (v := v9) hx hb hr hlocks rfl hK hS dX11_stands_43 () hP hD (kb_any v9)
  refine lv_lookup (tgt := 44) (off := 43) hx hb dX11_stands_1 (by decide +kernel) ((lv_osw q1 (by decide +kernel)).trans ((lv_osw q6 (by decide +kernel)).trans rfl)) (by decide) ?_
  refine lv_iconst (v := (-1)) hx hb dX11_stands_44 (by decide) ?_
  exact kI_ret (v := (-1)) hx hb hr hlocks rfl hK hS dX11_stands_45 () hP hD (kb_w kc_m1 (by decide) (by decide))
set_option maxHeartbeats 4000000 in
set_option maxRecDepth 100000 in
theorem x_11_send  (l : Launch) {D : va_G} {K : Nat → ClassId} (r : Nat → Nat) (f : Nat → Int32) (a : Nat → Nat → Int32) (g : xG) (tx tt : va_W) (hT : ∀ c ∈ tt, c ∈ tx) (hI : xI f a) (hG : gOK K g.2 tt) (x : Int32) (y : Int32)    : kIG l yX11_send (Cond.code yX11_send cX11_send 3 (some .int) :: kG) (rmD 5 0 0) D K [.ref (r 0), .int x, .int y] (xX K r f a g tx) (fun v (u : xS) => kb (-2147483648) v 2147483647 ∧ xI u.1 u.2.1 ∧ gOK K u.2.2.2 tt ∧ xEk ([16, 704, 705, 2565, 2566, 2786], [10, 23, 81, 94], []) f a g u.1 u.2.1 u.2.2) (fun u => xX K r u.1 u.2.1 u.2.2 tx) 0 0 := by
  refine kIE.of (cc := cX11_send) (maxL := 3) (ret := (some .int)) (by decide) rfl (Nat.le_of_ble_eq_true rfl) ?_
  intro p e s m below meth c A hx hb hr hml hown hts hlocks hnm hK hP hD hS hA hV ls hl
  have hE : xEk ([16, 704, 705, 2565, 2566, 2786], [10, 23, 81, 94], []) f a g f a g := xEk_rf
  have hg : ∀ w ∈ kG, w.before _ s = true := fun w h => hts w (List.mem_cons_of_mem _ h)
  have hown : s.vm.findClass RX11 = some m.cls := hown
  have hl : lv_has ls 3 [(0, .ref (r 0)), (1, .int x), (2, .int y)] := hl
  refine lv_aload_n hx hb dX11_send_0 rfl (lv_at hl 0 rfl) ?_
  refine lv_aload_n hx hb dX11_send_1 rfl (lv_at hl 0 rfl) ?_
  refine va_get (D := D) (ci := 11) (v := .ref (r 24)) (C := RX11) (T := TX11) (N := 17) hx hb hg inC11 hown hK hP 0 rfl rfl 2 (by decide) (hg _ wt2_188) (fun _ h9 => h9) rfl dX11_send_2 ?_
  refine lv_iload_n hx hb dX11_send_5 rfl (lv_at hl 1 rfl) ?_
  refine lv_iload_n hx hb dX11_send_6 rfl (lv_at hl 2 rfl) ?_
  refine kIG.callW (As := [.int x, .int y]) (rest := [.ref (r 0)]) ⟨hx, hb, hml, hown, hg⟩ (x_0_sendBuilder l r f a g tx tt hT hI hG x y  ) (cwV 2 hg (kgV wt4_169 wt4_110 wt4_111 wt1_5 wt4_112) rfl rfl rfl (by decide +kernel) ⟨by decide, by decide⟩) hV hK hP hD hS hA (24) 0 rfl rfl rfl hl.1 rfl (Nat.le_of_ble_eq_true rfl) dX11_send_7 ⟨Nat.le_refl _, Nat.le_refl _⟩ (fun v2 u3 H locs hw1 hP hD hS => ?_)
  obtain ⟨f4, a5, g6⟩ := u3
  have hP : va_P D vwCl (xX K r f4 a5 g6 tx) H := hP
  have hD : va_D A (xX K r f4 a5 g6 tx) := hD
  have hI : xI f4 a5 := hw1.2.1
  have hG : gOK K g6.2 tt := hw1.2.2.1
  have eE7 : xEk ([704, 705], [10, 23], []) f a g f4 a5 g6 := hw1.2.2.2
  have hE : xEk ([16, 704, 705, 2565, 2566, 2786], [10, 23, 81, 94], []) f a g f4 a5 g6 := xEk_tr hE (xEk_w (by decide +kernel) eE7)
  refine kIG.callW (As := [.int v2]) (rest := []) ⟨hx, hb, hml, hown, hg⟩ (x_11_settle l r f4 a5 g6 tx tt hT hI hG v2  ) (cwV 1 hg (kgV wt4_170 wt4_172 wp2_11 wt1_1 wt4_173) rfl rfl rfl (by decide +kernel) ⟨by decide, by decide⟩) hV hK hP hD hS hA (0) 11 rfl rfl rfl hl.1 rfl (Nat.le_of_ble_eq_true rfl) dX11_send_10 ⟨Nat.le_refl _, Nat.le_refl _⟩ (fun v9 u10 H locs hw8 hP hD hS => ?_)
  obtain ⟨f11, a12, g13⟩ := u10
  have hP : va_P D vwCl (xX K r f11 a12 g13 tx) H := hP
  have hD : va_D A (xX K r f11 a12 g13 tx) := hD
  have hI : xI f11 a12 := hw8.2.1
  have hG : gOK K g13.2 tt := hw8.2.2.1
  have eE14 : xEk ([16, 2565, 2566, 2786], [81, 94], []) f4 a5 g6 f11 a12 g13 := hw8.2.2.2
  have hE : xEk ([16, 704, 705, 2565, 2566, 2786], [10, 23, 81, 94], []) f a g f11 a12 g13 := xEk_tr hE (xEk_w (by decide +kernel) eE14)
  exact kI_ret (v := v9) hx hb hr hlocks rfl hK hS dX11_send_13 (f11, a12, g13) hP hD ⟨(kb_any v9), hI, hG, hE⟩
set_option maxHeartbeats 4000000 in
set_option maxRecDepth 100000 in
theorem x_11_rest  (l : Launch) {D : va_G} {K : Nat → ClassId} (r : Nat → Nat) (f : Nat → Int32) (a : Nat → Nat → Int32) (g : xG) (tx tt : va_W) (hT : ∀ c ∈ tt, c ∈ tx) (hI : xI f a) (hG : gOK K g.2 tt) (x : Int32)    : kIG l yX11_rest (Cond.code yX11_rest cX11_rest 2 (some .int) :: kG) (rmD 4 0 0) D K [.ref (r 0), .int x] (xX K r f a g tx) (fun v (u : xS) => kb (-2147483648) v 2147483647 ∧ xI u.1 u.2.1 ∧ gOK K u.2.2.2 tt ∧ xEk ([16, 704, 705, 2565, 2566, 2786], [10, 23, 81, 94], []) f a g u.1 u.2.1 u.2.2) (fun u => xX K r u.1 u.2.1 u.2.2 tx) 0 0 := by
  refine kIE.of (cc := cX11_rest) (maxL := 2) (ret := (some .int)) (by decide) rfl (Nat.le_of_ble_eq_true rfl) ?_
  intro p e s m below meth c A hx hb hr hml hown hts hlocks hnm hK hP hD hS hA hV ls hl
  have hE : xEk ([16, 704, 705, 2565, 2566, 2786], [10, 23, 81, 94], []) f a g f a g := xEk_rf
  have hg : ∀ w ∈ kG, w.before _ s = true := fun w h => hts w (List.mem_cons_of_mem _ h)
  have hown : s.vm.findClass RX11 = some m.cls := hown
  have hl : lv_has ls 2 [(0, .ref (r 0)), (1, .int x)] := hl
  refine lv_aload_n hx hb dX11_rest_0 rfl (lv_at hl 0 rfl) ?_
  refine lv_aload_n hx hb dX11_rest_1 rfl (lv_at hl 0 rfl) ?_
  refine va_get (D := D) (ci := 11) (v := .ref (r 24)) (C := RX11) (T := TX11) (N := 17) hx hb hg inC11 hown hK hP 0 rfl rfl 2 (by decide) (hg _ wt2_188) (fun _ h9 => h9) rfl dX11_rest_2 ?_
  refine lv_iload_n hx hb dX11_rest_5 rfl (lv_at hl 1 rfl) ?_
  refine kIG.callW (As := [.int x]) (rest := [.ref (r 0)]) ⟨hx, hb, hml, hown, hg⟩ (x_0_restBuilder l r f a g tx tt hT hI hG x  ) (cwV 1 hg (kgV wt4_178 wt4_123 wt4_124 wt1_5 wt4_125) rfl rfl rfl (by decide +kernel) ⟨by decide, by decide⟩) hV hK hP hD hS hA (24) 0 rfl rfl rfl hl.1 rfl (Nat.le_of_ble_eq_true rfl) dX11_rest_6 ⟨Nat.le_refl _, Nat.le_refl _⟩ (fun v2 u3 H locs hw1 hP hD hS => ?_)
  obtain ⟨f4, a5, g6⟩ := u3
  have hP : va_P D vwCl (xX K r f4 a5 g6 tx) H := hP
  have hD : va_D A (xX K r f4 a5 g6 tx) := hD
  have hI : xI f4 a5 := hw1.2.1
  have hG : gOK K g6.2 tt := hw1.2.2.1
  have eE7 : xEk ([704, 705], [10, 23], []) f a g f4 a5 g6 := hw1.2.2.2
  have hE : xEk ([16, 704, 705, 2565, 2566, 2786], [10, 23, 81, 94], []) f a g f4 a5 g6 := xEk_tr hE (xEk_w (by decide +kernel) eE7)
  refine kIG.callW (As := [.int v2]) (rest := []) ⟨hx, hb, hml, hown, hg⟩ (x_11_settle l r f4 a5 g6 tx tt hT hI hG v2  ) (cwV 1 hg (kgV wt4_170 wt4_172 wp2_11 wt1_1 wt4_173) rfl rfl rfl (by decide +kernel) ⟨by decide, by decide⟩) hV hK hP hD hS hA (0) 11 rfl rfl rfl hl.1 rfl (Nat.le_of_ble_eq_true rfl) dX11_rest_9 ⟨Nat.le_refl _, Nat.le_refl _⟩ (fun v9 u10 H locs hw8 hP hD hS => ?_)
  obtain ⟨f11, a12, g13⟩ := u10
  have hP : va_P D vwCl (xX K r f11 a12 g13 tx) H := hP
  have hD : va_D A (xX K r f11 a12 g13 tx) := hD
  have hI : xI f11 a12 := hw8.2.1
  have hG : gOK K g13.2 tt := hw8.2.2.1
  have eE14 : xEk ([16, 2565, 2566, 2786], [81, 94], []) f4 a5 g6 f11 a12 g13 := hw8.2.2.2
  have hE : xEk ([16, 704, 705, 2565, 2566, 2786], [10, 23, 81, 94], []) f a g f11 a12 g13 := xEk_tr hE (xEk_w (by decide +kernel) eE14)
  exact kI_ret (v := v9) hx hb hr hlocks rfl hK hS dX11_rest_12 (f11, a12, g13) hP hD ⟨(kb_any v9), hI, hG, hE⟩
set_option maxHeartbeats 4000000 in
set_option maxRecDepth 100000 in
theorem x_11_throwDown  (l : Launch) {D : va_G} {K : Nat → ClassId} (r : Nat → Nat) (f : Nat → Int32) (a : Nat → Nat → Int32) (g : xG) (tx tt : va_W) (hT : ∀ c ∈ tt, c ∈ tx) (hI : xI f a) (hG : gOK K g.2 tt) (x : Int32)    : kIG l yX11_throwDown (Cond.code yX11_throwDown cX11_throwDown 2 (some .int) :: kG) (rmD 4 0 0) D K [.ref (r 0), .int x] (xX K r f a g tx) (fun v (u : xS) => kb (-2147483648) v 2147483647 ∧ xI u.1 u.2.1 ∧ gOK K u.2.2.2 tt ∧ xEk ([16, 704, 705, 2565, 2566, 2786], [6, 23, 81, 94], []) f a g u.1 u.2.1 u.2.2) (fun u => xX K r u.1 u.2.1 u.2.2 tx) 0 0 := by
  refine kIE.of (cc := cX11_throwDown) (maxL := 2) (ret := (some .int)) (by decide) rfl (Nat.le_of_ble_eq_true rfl) ?_
  intro p e s m below meth c A hx hb hr hml hown hts hlocks hnm hK hP hD hS hA hV ls hl
  have hE : xEk ([16, 704, 705, 2565, 2566, 2786], [6, 23, 81, 94], []) f a g f a g := xEk_rf
  have hg : ∀ w ∈ kG, w.before _ s = true := fun w h => hts w (List.mem_cons_of_mem _ h)
  have hown : s.vm.findClass RX11 = some m.cls := hown
  have hl : lv_has ls 2 [(0, .ref (r 0)), (1, .int x)] := hl
  refine lv_aload_n hx hb dX11_throwDown_0 rfl (lv_at hl 0 rfl) ?_
  refine lv_aload_n hx hb dX11_throwDown_1 rfl (lv_at hl 0 rfl) ?_
  refine va_get (D := D) (ci := 11) (v := .ref (r 24)) (C := RX11) (T := TX11) (N := 17) hx hb hg inC11 hown hK hP 0 rfl rfl 2 (by decide) (hg _ wt2_188) (fun _ h9 => h9) rfl dX11_throwDown_2 ?_
  refine lv_iload_n hx hb dX11_throwDown_5 rfl (lv_at hl 1 rfl) ?_
  refine kIG.callW (As := [.int x]) (rest := [.ref (r 0)]) ⟨hx, hb, hml, hown, hg⟩ (x_0_razePart l r f a g tx tt hT hI hG x  ) (cwV 1 hg (kgV wt4_183 wt4_127 wt4_128 wt1_5 wt4_129) rfl rfl rfl (by decide +kernel) ⟨by decide, by decide⟩) hV hK hP hD hS hA (24) 0 rfl rfl rfl hl.1 rfl (Nat.le_of_ble_eq_true rfl) dX11_throwDown_6 ⟨Nat.le_refl _, Nat.le_refl _⟩ (fun v2 u3 H locs hw1 hP hD hS => ?_)
  obtain ⟨f4, a5, g6⟩ := u3
  have hP : va_P D vwCl (xX K r f4 a5 g6 tx) H := hP
  have hD : va_D A (xX K r f4 a5 g6 tx) := hD
  have hI : xI f4 a5 := hw1.2.1
  have hG : gOK K g6.2 tt := hw1.2.2.1
  have eE7 : xEk ([704, 705], [6, 23], []) f a g f4 a5 g6 := hw1.2.2.2
  have hE : xEk ([16, 704, 705, 2565, 2566, 2786], [6, 23, 81, 94], []) f a g f4 a5 g6 := xEk_tr hE (xEk_w (by decide +kernel) eE7)
  refine kIG.callW (As := [.int v2]) (rest := []) ⟨hx, hb, hml, hown, hg⟩ (x_11_settle l r f4 a5 g6 tx tt hT hI hG v2  ) (cwV 1 hg (kgV wt4_170 wt4_172 wp2_11 wt1_1 wt4_173) rfl rfl rfl (by decide +kernel) ⟨by decide, by decide⟩) hV hK hP hD hS hA (0) 11 rfl rfl rfl hl.1 rfl (Nat.le_of_ble_eq_true rfl) dX11_throwDown_9 ⟨Nat.le_refl _, Nat.le_refl _⟩ (fun v9 u10 H locs hw8 hP hD hS => ?_)
  obtain ⟨f11, a12, g13⟩ := u10
  have hP : va_P D vwCl (xX K r f11 a12 g13 tx) H := hP
  have hD : va_D A (xX K r f11 a12 g13 tx) := hD
  have hI : xI f11 a12 := hw8.2.1
  have hG : gOK K g13.2 tt := hw8.2.2.1
  have eE14 : xEk ([16, 2565, 2566, 2786], [81, 94], []) f4 a5 g6 f11 a12 g13 := hw8.2.2.2
  have hE : xEk ([16, 704, 705, 2565, 2566, 2786], [6, 23, 81, 94], []) f a g f11 a12 g13 := xEk_tr hE (xEk_w (by decide +kernel) eE14)
  exact kI_ret (v := v9) hx hb hr hlocks rfl hK hS dX11_throwDown_12 (f11, a12, g13) hP hD ⟨(kb_any v9), hI, hG, hE⟩
set_option maxHeartbeats 4000000 in
set_option maxRecDepth 100000 in
theorem x_11_tick  (l : Launch) {D : va_G} {K : Nat → ClassId} (r : Nat → Nat) (f : Nat → Int32) (a : Nat → Nat → Int32) (g : xG) (tx tt : va_W) (hT : ∀ c ∈ tt, c ∈ tx) (hI : xI f a) (hG : gOK K g.2 tt)     : kIG l yX11_tick (Cond.code yX11_tick cX11_tick 1 (some .int) :: kG) (rmD 6 0 0) D K [.ref (r 0)] (xX K r f a g tx) (fun v (u : xS) => kb (-2147483648) v 2147483647 ∧ xI u.1 u.2.1 ∧ gOK K u.2.2.2 tt ∧ xEk ([16, 704, 705, 2565, 2566, 2786], [6, 9, 10, 11, 19, 20, 23, 81, 94], []) f a g u.1 u.2.1 u.2.2) (fun u => xX K r u.1 u.2.1 u.2.2 tx) 0 0 := by
  refine kIE.of (cc := cX11_tick) (maxL := 1) (ret := (some .int)) (by decide) rfl (Nat.le_of_ble_eq_true rfl) ?_
  intro p e s m below meth c A hx hb hr hml hown hts hlocks hnm hK hP hD hS hA hV ls hl
  have hE : xEk ([16, 704, 705, 2565, 2566, 2786], [6, 9, 10, 11, 19, 20, 23, 81, 94], []) f a g f a g := xEk_rf
  have hg : ∀ w ∈ kG, w.before _ s = true := fun w h => hts w (List.mem_cons_of_mem _ h)
  have hown : s.vm.findClass RX11 = some m.cls := hown
  have hl : lv_has ls 1 [(0, .ref (r 0))] := hl
  refine lv_aload_n hx hb dX11_tick_0 rfl (lv_at hl 0 rfl) ?_
  refine lv_aload_n hx hb dX11_tick_1 rfl (lv_at hl 0 rfl) ?_
  refine va_get (D := D) (ci := 11) (v := .ref (r 24)) (C := RX11) (T := TX11) (N := 17) hx hb hg inC11 hown hK hP 0 rfl rfl 2 (by decide) (hg _ wt2_188) (fun _ h9 => h9) rfl dX11_tick_2 ?_
  refine kIG.callW (As := []) (rest := [.ref (r 0)]) ⟨hx, hb, hml, hown, hg⟩ (x_0_passTick l r f a g tx tt hT hI hG   ) (cwV 0 hg (kgV wt4_188 wt4_139 wt4_140 wt1_5 wt4_141) rfl rfl rfl (by decide +kernel) ⟨by decide, by decide⟩) hV hK hP hD hS hA (24) 0 rfl rfl rfl hl.1 rfl (Nat.le_of_ble_eq_true rfl) dX11_tick_5 ⟨Nat.le_refl _, Nat.le_refl _⟩ (fun v2 u3 H locs hw1 hP hD hS => ?_)
  obtain ⟨f4, a5, g6⟩ := u3
  have hP : va_P D vwCl (xX K r f4 a5 g6 tx) H := hP
  have hD : va_D A (xX K r f4 a5 g6 tx) := hD
  have hI : xI f4 a5 := hw1.2.1
  have hG : gOK K g6.2 tt := hw1.2.2.1
  have eE7 : xEk ([704, 705], [6, 9, 10, 11, 19, 20, 23], []) f a g f4 a5 g6 := hw1.2.2.2
  have hE : xEk ([16, 704, 705, 2565, 2566, 2786], [6, 9, 10, 11, 19, 20, 23, 81, 94], []) f a g f4 a5 g6 := xEk_tr hE (xEk_w (by decide +kernel) eE7)
  refine kIG.callW (As := [.int v2]) (rest := []) ⟨hx, hb, hml, hown, hg⟩ (x_11_settle l r f4 a5 g6 tx tt hT hI hG v2  ) (cwV 1 hg (kgV wt4_170 wt4_172 wp2_11 wt1_1 wt4_173) rfl rfl rfl (by decide +kernel) ⟨by decide, by decide⟩) hV hK hP hD hS hA (0) 11 rfl rfl rfl hl.1 rfl (Nat.le_of_ble_eq_true rfl) dX11_tick_8 ⟨Nat.le_refl _, Nat.le_refl _⟩ (fun v9 u10 H locs hw8 hP hD hS => ?_)
  obtain ⟨f11, a12, g13⟩ := u10
  have hP : va_P D vwCl (xX K r f11 a12 g13 tx) H := hP
  have hD : va_D A (xX K r f11 a12 g13 tx) := hD
  have hI : xI f11 a12 := hw8.2.1
  have hG : gOK K g13.2 tt := hw8.2.2.1
  have eE14 : xEk ([16, 2565, 2566, 2786], [81, 94], []) f4 a5 g6 f11 a12 g13 := hw8.2.2.2
  have hE : xEk ([16, 704, 705, 2565, 2566, 2786], [6, 9, 10, 11, 19, 20, 23, 81, 94], []) f a g f11 a12 g13 := xEk_tr hE (xEk_w (by decide +kernel) eE14)
  exact kI_ret (v := v9) hx hb hr hlocks rfl hK hS dX11_tick_11 (f11, a12, g13) hP hD ⟨(kb_any v9), hI, hG, hE⟩
set_option maxHeartbeats 4000000 in
set_option maxRecDepth 100000 in
theorem x_11_undo  (l : Launch) {D : va_G} {K : Nat → ClassId} (r : Nat → Nat) (f : Nat → Int32) (a : Nat → Nat → Int32) (g : xG) (tx tt : va_W) (hT : ∀ c ∈ tt, c ∈ tx) (hI : xI f a) (hG : gOK K g.2 tt)     : kIG l yX11_undo (Cond.code yX11_undo cX11_undo 1 (some .int) :: kG) (rmD 4 0 0) D K [.ref (r 0)] (xX K r f a g tx) (fun v (u : xS) => kb (-2147483648) v 2147483647 ∧ xI u.1 u.2.1 ∧ gOK K u.2.2.2 tt ∧ xEk ([16, 704, 705, 2565, 2566, 2786], [6, 9, 10, 11, 81, 94], []) f a g u.1 u.2.1 u.2.2) (fun u => xX K r u.1 u.2.1 u.2.2 tx) 0 0 := by
  refine kIE.of (cc := cX11_undo) (maxL := 1) (ret := (some .int)) (by decide) rfl (Nat.le_of_ble_eq_true rfl) ?_
  intro p e s m below meth c A hx hb hr hml hown hts hlocks hnm hK hP hD hS hA hV ls hl
  have hE : xEk ([16, 704, 705, 2565, 2566, 2786], [6, 9, 10, 11, 81, 94], []) f a g f a g := xEk_rf
  have hg : ∀ w ∈ kG, w.before _ s = true := fun w h => hts w (List.mem_cons_of_mem _ h)
  have hown : s.vm.findClass RX11 = some m.cls := hown
  have hl : lv_has ls 1 [(0, .ref (r 0))] := hl
  refine lv_aload_n hx hb dX11_undo_0 rfl (lv_at hl 0 rfl) ?_
  refine lv_aload_n hx hb dX11_undo_1 rfl (lv_at hl 0 rfl) ?_
  refine va_get (D := D) (ci := 11) (v := .ref (r 22)) (C := RX11) (T := TX11) (N := 17) hx hb hg inC11 hown hK hP 0 rfl rfl 1 (by decide) (hg _ wt2_187) (fun _ h9 => h9) rfl dX11_undo_2 ?_
  refine lv_aload_n hx hb dX11_undo_5 rfl (lv_at hl 0 rfl) ?_
  refine va_get (D := D) (ci := 11) (v := .ref (r 1)) (C := RX11) (T := TX11) (N := 17) hx hb hg inC11 hown hK hP 0 rfl rfl 0 (by decide) (hg _ wt2_186) (fun _ h9 => h9) rfl dX11_undo_6 ?_
  refine kIG.callW (As := [.ref (r 1)]) (rest := [.ref (r 0)]) ⟨hx, hb, hml, hown, hg⟩ (x_2_restoreLatest l r f a g tx tt hT hI hG   ) (cwV 1 hg (kgV wt4_193 wt4_194 wt4_195 wt1_4 wt4_196) rfl rfl rfl (by decide +kernel) ⟨by decide, by decide⟩) hV hK hP hD hS hA (22) 2 rfl rfl rfl hl.1 rfl (Nat.le_of_ble_eq_true rfl) dX11_undo_9 ⟨Nat.le_refl _, Nat.le_refl _⟩ (fun v2 u3 H locs hw1 hP hD hS => ?_)
  obtain ⟨f4, a5, g6⟩ := u3
  have hP : va_P D vwCl (xX K r f4 a5 g6 tx) H := hP
  have hD : va_D A (xX K r f4 a5 g6 tx) := hD
  have hI : xI f4 a5 := hw1.2.1
  have hG : gOK K g6.2 tt := hw1.2.2.1
  have eE7 : xEk ([704, 705], [6, 9, 10, 11], []) f a g f4 a5 g6 := hw1.2.2.2
  have hE : xEk ([16, 704, 705, 2565, 2566, 2786], [6, 9, 10, 11, 81, 94], []) f a g f4 a5 g6 := xEk_tr hE (xEk_w (by decide +kernel) eE7)
  refine kIG.callW (As := [.int v2]) (rest := []) ⟨hx, hb, hml, hown, hg⟩ (x_11_settle l r f4 a5 g6 tx tt hT hI hG v2  ) (cwV 1 hg (kgV wt4_170 wt4_172 wp2_11 wt1_1 wt4_173) rfl rfl rfl (by decide +kernel) ⟨by decide, by decide⟩) hV hK hP hD hS hA (0) 11 rfl rfl rfl hl.1 rfl (Nat.le_of_ble_eq_true rfl) dX11_undo_12 ⟨Nat.le_refl _, Nat.le_refl _⟩ (fun v9 u10 H locs hw8 hP hD hS => ?_)
  obtain ⟨f11, a12, g13⟩ := u10
  have hP : va_P D vwCl (xX K r f11 a12 g13 tx) H := hP
  have hD : va_D A (xX K r f11 a12 g13 tx) := hD
  have hI : xI f11 a12 := hw8.2.1
  have hG : gOK K g13.2 tt := hw8.2.2.1
  have eE14 : xEk ([16, 2565, 2566, 2786], [81, 94], []) f4 a5 g6 f11 a12 g13 := hw8.2.2.2
  have hE : xEk ([16, 704, 705, 2565, 2566, 2786], [6, 9, 10, 11, 81, 94], []) f a g f11 a12 g13 := xEk_tr hE (xEk_w (by decide +kernel) eE14)
  exact kI_ret (v := v9) hx hb hr hlocks rfl hK hS dX11_undo_15 (f11, a12, g13) hP hD ⟨(kb_any v9), hI, hG, hE⟩
set_option maxHeartbeats 4000000 in
set_option maxRecDepth 100000 in
theorem x_11_longest  (l : Launch) {D : va_G} {K : Nat → ClassId} (r : Nat → Nat) (f : Nat → Int32) (a : Nat → Nat → Int32) (g : xG) (tx tt : va_W) (hT : ∀ c ∈ tt, c ∈ tx) (hI : xI f a) (hG : gOK K g.2 tt)     : kIG l yX11_longest (Cond.code yX11_longest cX11_longest 1 (some .int) :: kG) (rmD 3 0 0) D K [.ref (r 0)] (xX K r f a g tx) (fun v (u : xS) => kb (-2147483648) v 2147483647 ∧ xI u.1 u.2.1 ∧ gOK K u.2.2.2 tt ∧ xEk ([], [21], []) f a g u.1 u.2.1 u.2.2) (fun u => xX K r u.1 u.2.1 u.2.2 tx) 0 0 := by
  refine kIE.of (cc := cX11_longest) (maxL := 1) (ret := (some .int)) (by decide) rfl (Nat.le_of_ble_eq_true rfl) ?_
  intro p e s m below meth c A hx hb hr hml hown hts hlocks hnm hK hP hD hS hA hV ls hl
  have hE : xEk ([], [21], []) f a g f a g := xEk_rf
  have hg : ∀ w ∈ kG, w.before _ s = true := fun w h => hts w (List.mem_cons_of_mem _ h)
  have hown : s.vm.findClass RX11 = some m.cls := hown
  have hl : lv_has ls 1 [(0, .ref (r 0))] := hl
  refine lv_aload_n hx hb dX11_longest_0 rfl (lv_at hl 0 rfl) ?_
  refine va_get (D := D) (ci := 11) (v := .ref (r 1)) (C := RX11) (T := TX11) (N := 17) hx hb hg inC11 hown hK hP 0 rfl rfl 0 (by decide) (hg _ wt2_186) (fun _ h9 => h9) rfl dX11_longest_1 ?_
  refine kIG.callW (As := []) (rest := []) ⟨hx, hb, hml, hown, hg⟩ (x_7_reckonChains l r f a g tx tt hT hI hG   ) (cwV 0 hg (kgV wt3_47 wt3_48 wt3_49 wt1_2 wt3_50) rfl rfl rfl (by decide +kernel) ⟨by decide, by decide⟩) hV hK hP hD hS hA (1) 7 rfl rfl rfl hl.1 rfl (Nat.le_of_ble_eq_true rfl) dX11_longest_4 ⟨Nat.le_refl _, Nat.le_refl _⟩ (fun v2 u3 H locs hw1 hP hD hS => ?_)
  obtain ⟨f4, a5, g6⟩ := u3
  have hP : va_P D vwCl (xX K r f4 a5 g6 tx) H := hP
  have hD : va_D A (xX K r f4 a5 g6 tx) := hD
  have hI : xI f4 a5 := hw1.2.1
  have hG : gOK K g6.2 tt := hw1.2.2.1
  have eE7 : xEk ([], [21], []) f a g f4 a5 g6 := hw1.2.2.2
  have hE : xEk ([], [21], []) f a g f4 a5 g6 := xEk_tr hE eE7
  exact kI_ret (v := v2) hx hb hr hlocks rfl hK hS dX11_longest_7 (f4, a5, g6) hP hD ⟨(kb_any v2), hI, hG, hE⟩
set_option maxHeartbeats 4000000 in
set_option maxRecDepth 100000 in
theorem x_11_rows  (l : Launch) {D : va_G} {K : Nat → ClassId} (r : Nat → Nat) (f : Nat → Int32) (a : Nat → Nat → Int32) (g : xG) (tx tt : va_W) (hT : ∀ c ∈ tt, c ∈ tx) (hI : xI f a) (hG : gOK K g.2 tt) (x : Int32) (y : Int32)    : kIG l yX11_rows (Cond.code yX11_rows cX11_rows 3 (some .int) :: kG) (rmD 5 0 0) D K [.ref (r 0), .int x, .int y] (xX K r f a g tx) (fun v (u : xS) => kb (-2147483648) v 2147483647 ∧ xI u.1 u.2.1 ∧ gOK K u.2.2.2 tt ∧ xEk ([2786], [88], []) f a g u.1 u.2.1 u.2.2) (fun u => xX K r u.1 u.2.1 u.2.2 tx) 0 0 := by
  refine kIE.of (cc := cX11_rows) (maxL := 3) (ret := (some .int)) (by decide) rfl (Nat.le_of_ble_eq_true rfl) ?_
  intro p e s m below meth c A hx hb hr hml hown hts hlocks hnm hK hP hD hS hA hV ls hl
  have hE : xEk ([2786], [88], []) f a g f a g := xEk_rf
  have hg : ∀ w ∈ kG, w.before _ s = true := fun w h => hts w (List.mem_cons_of_mem _ h)
  have hown : s.vm.findClass RX11 = some m.cls := hown
  have hl : lv_has ls 3 [(0, .ref (r 0)), (1, .int x), (2, .int y)] := hl
  refine lv_iload_n hx hb dX11_rows_0 rfl (lv_at hl 1 rfl) ?_
  refine lv_iconst (v := (-1)) hx hb dX11_rows_1 (by decide) ?_
  refine lv_icmp_ne (tgt := 15) hx hb dX11_rows_2 (by decide) (fun c1 => ?_) (fun c1 => ?_)
  · refine lv_aload_n hx hb dX11_rows_15 rfl (lv_at hl 0 rfl) ?_
    refine va_get (D := D) (ci := 11) (v := .ref (r 87)) (C := RX11) (T := TX11) (N := 17) hx hb hg inC11 hown hK hP 0 rfl rfl 7 (by decide) (hg _ wt2_193) (fun _ h9 => h9) rfl dX11_rows_16 ?_
    refine lv_iload_n hx hb dX11_rows_19 rfl (lv_at hl 1 rfl) ?_
    refine lv_iload_n hx hb dX11_rows_20 rfl (lv_at hl 2 rfl) ?_
    refine kIG.callW (As := [.int x, .int y]) (rest := []) ⟨hx, hb, hml, hown, hg⟩ (x_6_partAt l r f a g tx tt hT hI hG x y  ) (cwV 2 hg (kgV wt4_219 wt4_220 wt4_221 wt1_12 wt4_222) rfl rfl rfl (by decide +kernel) ⟨by decide, by decide⟩) hV hK hP hD hS hA (87) 6 rfl rfl rfl hl.1 rfl (Nat.le_of_ble_eq_true rfl) dX11_rows_21 ⟨Nat.le_refl _, Nat.le_refl _⟩ (fun v3 u4 H locs hw2 hP hD hS => ?_)
    obtain ⟨f5, a6, g7⟩ := u4
    have hP : va_P D vwCl (xX K r f5 a6 g7 tx) H := hP
    have hD : va_D A (xX K r f5 a6 g7 tx) := hD
    have hI : xI f5 a6 := hw2.2.1
    have hG : gOK K g7.2 tt := hw2.2.2.1
    have eE8 : xEk ([2786], [88], []) f a g f5 a6 g7 := hw2.2.2.2
    have hE : xEk ([2786], [88], []) f a g f5 a6 g7 := xEk_tr hE eE8
    exact kI_ret (v := v3) hx hb hr hlocks rfl hK hS dX11_rows_24 (f5, a6, g7) hP hD ⟨(kb_any v3), hI, hG, hE⟩
  · have b9 : kb (-1) x (-1) := kb_eq c1 kc_m1
    refine lv_aload_n hx hb dX11_rows_5 rfl (lv_at hl 0 rfl) ?_
    refine va_get (D := D) (ci := 11) (v := .ref (r 87)) (C := RX11) (T := TX11) (N := 17) hx hb hg inC11 hown hK hP 0 rfl rfl 7 (by decide) (hg _ wt2_193) (fun _ h9 => h9) rfl dX11_rows_6 ?_
    refine kIG.callW (As := []) (rest := []) ⟨hx, hb, hml, hown, hg⟩ (x_6_total l r f a g tx tt hT hI hG   ) (cwV 0 hg (kgV wt4_205 wt4_206 wt4_207 wt1_12 wt4_208) rfl rfl rfl (by decide +kernel) ⟨by decide, by decide⟩) hV hK hP hD hS hA (87) 6 rfl rfl rfl hl.1 rfl (Nat.le_of_ble_eq_true rfl) dX11_rows_9 ⟨Nat.le_refl _, Nat.le_refl _⟩ (fun v11 u12 H locs hw10 hP hD hS => ?_)
    obtain ⟨f13, a14, g15⟩ := u12
    have hP : va_P D vwCl (xX K r f13 a14 g15 tx) H := hP
    have hD : va_D A (xX K r f13 a14 g15 tx) := hD
    have hI : xI f13 a14 := hw10.2.1
    have hG : gOK K g15.2 tt := hw10.2.2.1
    have eE16 : xEk ([2786], [88], []) f a g f13 a14 g15 := hw10.2.2.2
    have hE : xEk ([2786], [88], []) f a g f13 a14 g15 := xEk_tr hE eE16
    refine lv_goto (tgt := 24) hx hb dX11_rows_12 (by decide) ?_
    exact kI_ret (v := v11) hx hb hr hlocks rfl hK hS dX11_rows_24 (f13, a14, g15) hP hD ⟨(kb_any v11), hI, hG, hE⟩
set_option maxHeartbeats 4000000 in
set_option maxRecDepth 100000 in
theorem x_11_plan  (l : Launch) {D : va_G} {K : Nat → ClassId} (r : Nat → Nat) (f : Nat → Int32) (a : Nat → Nat → Int32) (g : xG) (tx tt : va_W) (hT : ∀ c ∈ tt, c ∈ tx) (hI : xI f a) (hG : gOK K g.2 tt) (x : Int32)    : kIG l yX11_plan (Cond.code yX11_plan cX11_plan 2 (some .int) :: kG) (rmD 8 0 0) D K [.ref (r 0), .int x] (xX K r f a g tx) (fun v (u : xS) => kb (-2147483648) v 2147483647 ∧ xI u.1 u.2.1 ∧ gOK K u.2.2.2 tt ∧ xEk ([1888, 1894, 1900, 1905, 1906], [60, 61, 62, 63, 64, 65, 66, 67, 68, 69, 70, 71, 72, 77, 78, 79, 81], [73]) f a g u.1 u.2.1 u.2.2) (fun u => xX K r u.1 u.2.1 u.2.2 tx) 0 0 := by
  refine kIE.of (cc := cX11_plan) (maxL := 2) (ret := (some .int)) (by decide) rfl (Nat.le_of_ble_eq_true rfl) ?_
  intro p e s m below meth c A hx hb hr hml hown hts hlocks hnm hK hP hD hS hA hV ls hl
  have hE : xEk ([1888, 1894, 1900, 1905, 1906], [60, 61, 62, 63, 64, 65, 66, 67, 68, 69, 70, 71, 72, 77, 78, 79, 81], [73]) f a g f a g := xEk_rf
  have hg : ∀ w ∈ kG, w.before _ s = true := fun w h => hts w (List.mem_cons_of_mem _ h)
  have hown : s.vm.findClass RX11 = some m.cls := hown
  have hl : lv_has ls 2 [(0, .ref (r 0)), (1, .int x)] := hl
  refine lv_iload_n hx hb dX11_plan_0 rfl (lv_at hl 1 rfl) ?_
  refine lv_iconst (v := (-1)) hx hb dX11_plan_1 (by decide) ?_
  refine lv_icmp_ne (tgt := 13) hx hb dX11_plan_2 (by decide) (fun c1 => ?_) (fun c1 => ?_)
  · refine lv_aload_n hx hb dX11_plan_13 rfl (lv_at hl 0 rfl) ?_
    refine va_get (D := D) (ci := 11) (v := .ref (r 1)) (C := RX11) (T := TX11) (N := 17) hx hb hg inC11 hown hK hP 0 rfl rfl 0 (by decide) (hg _ wt2_186) (fun _ h9 => h9) rfl dX11_plan_14 ?_
    refine lv_iload_n hx hb dX11_plan_17 rfl (lv_at hl 1 rfl) ?_
    refine kIG.callW (As := [.int x]) (rest := []) ⟨hx, hb, hml, hown, hg⟩ (x_7_hasPart l r f a g tx tt hT hI hG x  ) (cwV 1 hg (kgV wt3_35 wt3_36 wt3_37 wt1_2 wt3_38) rfl rfl rfl (by decide +kernel) ⟨by decide, by decide⟩) hV hK hP hD hS hA (1) 7 rfl rfl rfl hl.1 rfl (Nat.le_of_ble_eq_true rfl) dX11_plan_18 ⟨Nat.le_refl _, Nat.le_refl _⟩ (fun v3 u4 H locs hw2 hP hD hS => ?_)
    have hP : va_P D vwCl (xX K r f a g tx) H := hP
    have hD : va_D A (xX K r f a g tx) := hD
    refine lv_if_eq (tgt := 35) hx hb dX11_plan_21 (by decide) (fun c5 => ?_) (fun c5 => ?_)
    · have b6 : kb 0 v3 0 := kb_eq c5 kc_0
      refine lv_iconst (v := (-1)) hx hb dX11_plan_35 (by decide) ?_
      exact kI_ret (v := (-1)) hx hb hr hlocks rfl hK hS dX11_plan_36 (f, a, g) hP hD ⟨(kb_w kc_m1 (by decide) (by decide)), hI, hG, hE⟩
    · have b7 : kb 1 v3 1 := kr_nel c5 hw2.1 kc_0 (by decide)
      have h8 := hw2.2.1 c5
      have b9 : kb 0 x 9 := ⟨h8.1, h8.2⟩
      refine lv_aload_n hx hb dX11_plan_24 rfl (lv_at hl 0 rfl) ?_
      refine va_get (D := D) (ci := 11) (v := .ref (r 80)) (C := RX11) (T := TX11) (N := 17) hx hb hg inC11 hown hK hP 0 rfl rfl 6 (by decide) (hg _ wt2_192) (fun _ h9 => h9) rfl dX11_plan_25 ?_
      refine lv_iload_n hx hb dX11_plan_28 rfl (lv_at hl 1 rfl) ?_
      refine kIG.callW (As := [.int x]) (rest := []) ⟨hx, hb, hml, hown, hg⟩ (x_9_planStood l r f a g tx tt hT hI hG x  ) (cwV 1 hg (kgV wt5_23 wt5_24 wt5_25 wt1_11 wt5_26) rfl rfl rfl (by decide +kernel) ⟨by decide, by decide⟩) hV hK hP hD hS hA (80) 9 rfl rfl rfl hl.1 rfl (Nat.le_of_ble_eq_true rfl) dX11_plan_29 ⟨Nat.le_refl _, Nat.le_refl _⟩ (fun v11 u12 H locs hw10 hP hD hS => ?_)
      obtain ⟨f13, a14, g15⟩ := u12
      have hP : va_P D vwCl (xX K r f13 a14 g15 tx) H := hP
      have hD : va_D A (xX K r f13 a14 g15 tx) := hD
      have hI : xI f13 a14 := hw10.2.1
      have hG : gOK K g15.2 tt := hw10.2.2.1
      have eE16 : xEk ([1888, 1894, 1900, 1905, 1906], [60, 61, 62, 63, 64, 65, 66, 67, 68, 69, 70, 71, 72, 77, 78, 79, 81], [73]) f a g f13 a14 g15 := hw10.2.2.2
      have hE : xEk ([1888, 1894, 1900, 1905, 1906], [60, 61, 62, 63, 64, 65, 66, 67, 68, 69, 70, 71, 72, 77, 78, 79, 81], [73]) f a g f13 a14 g15 := xEk_tr hE eE16
      refine lv_goto (tgt := 36) hx hb dX11_plan_32 (by decide) ?_
      exact kI_ret (v := v11) hx hb hr hlocks rfl hK hS dX11_plan_36 (f13, a14, g15) hP hD ⟨(kb_any v11), hI, hG, hE⟩
  · have b17 : kb (-1) x (-1) := kb_eq c1 kc_m1
    refine lv_aload_n hx hb dX11_plan_5 rfl (lv_at hl 0 rfl) ?_
    refine va_get (D := D) (ci := 11) (v := .ref (r 80)) (C := RX11) (T := TX11) (N := 17) hx hb hg inC11 hown hK hP 0 rfl rfl 6 (by decide) (hg _ wt2_192) (fun _ h9 => h9) rfl dX11_plan_6 ?_
    refine kIG.callW (As := []) (rest := []) ⟨hx, hb, hml, hown, hg⟩ (x_9_planTicks l r f a g tx tt hT hI hG   ) (cwV 0 hg (kgV wt4_228 wt4_229 wt4_230 wt1_11 wt4_231) rfl rfl rfl (by decide +kernel) ⟨by decide, by decide⟩) hV hK hP hD hS hA (80) 9 rfl rfl rfl hl.1 rfl (Nat.le_of_ble_eq_true rfl) dX11_plan_9 ⟨Nat.le_refl _, Nat.le_refl _⟩ (fun v19 u20 H locs hw18 hP hD hS => ?_)
    obtain ⟨f21, a22, g23⟩ := u20
    have hP : va_P D vwCl (xX K r f21 a22 g23 tx) H := hP
    have hD : va_D A (xX K r f21 a22 g23 tx) := hD
    have hI : xI f21 a22 := hw18.2.1
    have hG : gOK K g23.2 tt := hw18.2.2.1
    have eE24 : xEk ([1888, 1894, 1900, 1905, 1906], [60, 61, 62, 63, 64, 65, 66, 67, 68, 69, 70, 71, 72, 77, 78, 79, 81], [73]) f a g f21 a22 g23 := hw18.2.2.2
    have hE : xEk ([1888, 1894, 1900, 1905, 1906], [60, 61, 62, 63, 64, 65, 66, 67, 68, 69, 70, 71, 72, 77, 78, 79, 81], [73]) f a g f21 a22 g23 := xEk_tr hE eE24
    exact kI_ret (v := v19) hx hb hr hlocks rfl hK hS dX11_plan_12 (f21, a22, g23) hP hD ⟨(kb_any v19), hI, hG, hE⟩
set_option maxHeartbeats 4000000 in
set_option maxRecDepth 100000 in
theorem x_11_hands  (l : Launch) {D : va_G} {K : Nat → ClassId} (r : Nat → Nat) (f : Nat → Int32) (a : Nat → Nat → Int32) (g : xG) (tx tt : va_W) (hT : ∀ c ∈ tt, c ∈ tx) (hI : xI f a) (hG : gOK K g.2 tt) (x : Int32)    : kIG l yX11_hands (Cond.code yX11_hands cX11_hands 3 (some .int) :: kG) (rmD 7 0 0) D K [.ref (r 0), .int x] (xX K r f a g tx) (fun v (u : xS) => kb (-2147483648) v 2147483647 ∧ xI u.1 u.2.1 ∧ gOK K u.2.2.2 tt ∧ xEk ([1888, 1894, 1900, 1905, 1906, 2565], [60, 61, 62, 63, 64, 65, 66, 67, 68, 69, 70, 71, 72, 77, 78, 79, 83], [73]) f a g u.1 u.2.1 u.2.2) (fun u => xX K r u.1 u.2.1 u.2.2 tx) 0 0 := by
  refine kIE.of (cc := cX11_hands) (maxL := 3) (ret := (some .int)) (by decide) rfl (Nat.le_of_ble_eq_true rfl) ?_
  intro p e s m below meth c A hx hb hr hml hown hts hlocks hnm hK hP hD hS hA hV ls hl
  have hE : xEk ([1888, 1894, 1900, 1905, 1906, 2565], [60, 61, 62, 63, 64, 65, 66, 67, 68, 69, 70, 71, 72, 77, 78, 79, 83], [73]) f a g f a g := xEk_rf
  have hg : ∀ w ∈ kG, w.before _ s = true := fun w h => hts w (List.mem_cons_of_mem _ h)
  have hown : s.vm.findClass RX11 = some m.cls := hown
  have hl : lv_has ls 3 [(0, .ref (r 0)), (1, .int x)] := hl
  refine lv_iload_n hx hb dX11_hands_0 rfl (lv_at hl 1 rfl) ?_
  refine lv_if_eq (tgt := 11) hx hb dX11_hands_1 (by decide) (fun c1 => ?_) (fun c1 => ?_)
  · have b2 : kb 0 x 0 := kb_eq c1 kc_0
    refine lv_aload_n hx hb dX11_hands_11 rfl (lv_at hl 0 rfl) ?_
    refine va_get (D := D) (ci := 11) (v := .ref (r 80)) (C := RX11) (T := TX11) (N := 17) hx hb hg inC11 hown hK hP 0 rfl rfl 6 (by decide) (hg _ wt2_192) (fun _ h9 => h9) rfl dX11_hands_12 ?_
    refine kIG.callW (As := []) (rest := []) ⟨hx, hb, hml, hown, hg⟩ (x_9_fewestHands l r f a g tx tt hT hI hG   ) (cwV 0 hg (kgV wt5_32 wt5_33 wt5_34 wt1_11 wt5_35) rfl rfl rfl (by decide +kernel) ⟨by decide, by decide⟩) hV hK hP hD hS hA (80) 9 rfl rfl rfl hl.1 rfl (Nat.le_of_ble_eq_true rfl) dX11_hands_15 ⟨Nat.le_refl _, Nat.le_refl _⟩ (fun v4 u5 H locs hw3 hP hD hS => ?_)
    obtain ⟨f6, a7, g8⟩ := u5
    have hP : va_P D vwCl (xX K r f6 a7 g8 tx) H := hP
    have hD : va_D A (xX K r f6 a7 g8 tx) := hD
    have hI : xI f6 a7 := hw3.2.1
    have hG : gOK K g8.2 tt := hw3.2.2.1
    have eE9 : xEk ([1888, 1894, 1900, 1905, 1906, 2565], [60, 61, 62, 63, 64, 65, 66, 67, 68, 69, 70, 71, 72, 77, 78, 79, 83], [73]) f a g f6 a7 g8 := hw3.2.2.2
    have hE : xEk ([1888, 1894, 1900, 1905, 1906, 2565], [60, 61, 62, 63, 64, 65, 66, 67, 68, 69, 70, 71, 72, 77, 78, 79, 83], [73]) f a g f6 a7 g8 := xEk_tr hE eE9
    refine lv_istore_n (lv' := [(2, .int v4), (0, .ref (r 0)), (1, .int x)]) hx hb dX11_hands_18 rfl hl (by decide) rfl (fun ls hl => ?_)
    refine lv_iload_n hx hb dX11_hands_19 rfl (lv_at hl 2 rfl) ?_
    refine lv_if_ne (tgt := 35) hx hb dX11_hands_20 (by decide) (fun c10 => ?_) (fun c10 => ?_)
    · exact kb_nsame c10 b2 kc_0
    · refine lv_iload_n hx hb dX11_hands_23 rfl (lv_at hl 0 rfl) ?_
      refine lv_iconst (v := (-1)) hx hb dX11_hands_24 (by decide) ?_
      refine lv_icmp_eq (tgt := 35) hx hb dX11_hands_25 (by decide) (fun c11 => ?_) (fun c11 => ?_)
      · have b12 : kb (-1) v4 (-1) := kb_eq c11 kc_m1
        refine lv_iload_n hx hb dX11_hands_35 rfl (lv_at hl 0 rfl) ?_
        exact kI_ret (v := v4) hx hb hr hlocks rfl hK hS dX11_hands_36 (f6, a7, g8) hP hD ⟨(kb_w b12 (by decide) (by decide)), hI, hG, hE⟩
      · refine lv_iload_n hx hb dX11_hands_28 rfl (lv_at hl 0 rfl) ?_
        refine kN.callS (As := [.int v4]) (rest := []) ⟨hx, hb, hml, hown, hg⟩ (x_bitCount l v4 ) (va_cwS 1 hg (kgS wt5_42 wt4_99 wt1_21 wt4_100) rfl rfl rfl (by decide +kernel) ⟨by decide, by decide⟩) hP hS rfl hl.1 rfl (Nat.le_of_ble_eq_true rfl) dX11_hands_29 ⟨Nat.le_refl _, Nat.le_refl _⟩ (fun v14 H locs hw13 hP hS => ?_)
        have hP : va_P D vwCl (xX K r f6 a7 g8 tx) H := hP
        refine lv_goto (tgt := 36) hx hb dX11_hands_32 (by decide) ?_
        exact kI_ret (v := v14) hx hb hr hlocks rfl hK hS dX11_hands_36 (f6, a7, g8) hP hD ⟨(kb_w hw13 (by decide) (by decide)), hI, hG, hE⟩
  · refine lv_iload_n hx hb dX11_hands_4 rfl (lv_at hl 1 rfl) ?_
    refine lv_iconst (v := 1) hx hb dX11_hands_5 (by decide) ?_
    refine lv_icmp_eq (tgt := 11) hx hb dX11_hands_6 (by decide) (fun c15 => ?_) (fun c15 => ?_)
    · have b16 : kb 1 x 1 := kb_eq c15 kc_1
      refine lv_aload_n hx hb dX11_hands_11 rfl (lv_at hl 0 rfl) ?_
      refine va_get (D := D) (ci := 11) (v := .ref (r 80)) (C := RX11) (T := TX11) (N := 17) hx hb hg inC11 hown hK hP 0 rfl rfl 6 (by decide) (hg _ wt2_192) (fun _ h9 => h9) rfl dX11_hands_12 ?_
      refine kIG.callW (As := []) (rest := []) ⟨hx, hb, hml, hown, hg⟩ (x_9_fewestHands l r f a g tx tt hT hI hG   ) (cwV 0 hg (kgV wt5_32 wt5_33 wt5_34 wt1_11 wt5_35) rfl rfl rfl (by decide +kernel) ⟨by decide, by decide⟩) hV hK hP hD hS hA (80) 9 rfl rfl rfl hl.1 rfl (Nat.le_of_ble_eq_true rfl) dX11_hands_15 ⟨Nat.le_refl _, Nat.le_refl _⟩ (fun v18 u19 H locs hw17 hP hD hS => ?_)
      obtain ⟨f20, a21, g22⟩ := u19
      have hP : va_P D vwCl (xX K r f20 a21 g22 tx) H := hP
      have hD : va_D A (xX K r f20 a21 g22 tx) := hD
      have hI : xI f20 a21 := hw17.2.1
      have hG : gOK K g22.2 tt := hw17.2.2.1
      have eE23 : xEk ([1888, 1894, 1900, 1905, 1906, 2565], [60, 61, 62, 63, 64, 65, 66, 67, 68, 69, 70, 71, 72, 77, 78, 79, 83], [73]) f a g f20 a21 g22 := hw17.2.2.2
      have hE : xEk ([1888, 1894, 1900, 1905, 1906, 2565], [60, 61, 62, 63, 64, 65, 66, 67, 68, 69, 70, 71, 72, 77, 78, 79, 83], [73]) f a g f20 a21 g22 := xEk_tr hE eE23
      refine lv_istore_n (lv' := [(2, .int v18), (0, .ref (r 0)), (1, .int x)]) hx hb dX11_hands_18 rfl hl (by decide) rfl (fun ls hl => ?_)
      refine lv_iload_n hx hb dX11_hands_19 rfl (lv_at hl 2 rfl) ?_
      refine lv_if_ne (tgt := 35) hx hb dX11_hands_20 (by decide) (fun c24 => ?_) (fun c24 => ?_)
      · refine lv_iload_n hx hb dX11_hands_35 rfl (lv_at hl 0 rfl) ?_
        exact kI_ret (v := v18) hx hb hr hlocks rfl hK hS dX11_hands_36 (f20, a21, g22) hP hD ⟨(kb_any v18), hI, hG, hE⟩
      · exact kb_dj c24 b16 kc_0 (by decide)
    · refine lv_iconst (v := (-1)) hx hb dX11_hands_9 (by decide) ?_
      exact kI_ret (v := (-1)) hx hb hr hlocks rfl hK hS dX11_hands_10 (f, a, g) hP hD ⟨(kb_w kc_m1 (by decide) (by decide)), hI, hG, hE⟩
set_option maxHeartbeats 4000000 in
set_option maxRecDepth 100000 in
theorem x_11_taught  (l : Launch) {D : va_G} {K : Nat → ClassId} (r : Nat → Nat) (f : Nat → Int32) (a : Nat → Nat → Int32) (g : xG) (tx tt : va_W) (hT : ∀ c ∈ tt, c ∈ tx) (hI : xI f a) (hG : gOK K g.2 tt) (x : Int32)    : kIG l yX11_taught (Cond.code yX11_taught cX11_taught 2 (some .int) :: kG) (rmD 8 0 0) D K [.ref (r 0), .int x] (xX K r f a g tx) (fun v (u : xS) => kb (-2147483648) v 2147483647 ∧ xI u.1 u.2.1 ∧ gOK K u.2.2.2 tt ∧ xEk ([1858, 1859, 1888, 1894, 1900, 1905, 1906, 2566], [60, 61, 62, 63, 64, 65, 66, 67, 68, 69, 70, 71, 72, 77, 78, 79, 81, 82, 84], [73]) f a g u.1 u.2.1 u.2.2) (fun u => xX K r u.1 u.2.1 u.2.2 tx) 0 0 := by
  refine kIE.of (cc := cX11_taught) (maxL := 2) (ret := (some .int)) (by decide) rfl (Nat.le_of_ble_eq_true rfl) ?_
  intro p e s m below meth c A hx hb hr hml hown hts hlocks hnm hK hP hD hS hA hV ls hl
  have hE : xEk ([1858, 1859, 1888, 1894, 1900, 1905, 1906, 2566], [60, 61, 62, 63, 64, 65, 66, 67, 68, 69, 70, 71, 72, 77, 78, 79, 81, 82, 84], [73]) f a g f a g := xEk_rf
  have hg : ∀ w ∈ kG, w.before _ s = true := fun w h => hts w (List.mem_cons_of_mem _ h)
  have hown : s.vm.findClass RX11 = some m.cls := hown
  have hl : lv_has ls 2 [(0, .ref (r 0)), (1, .int x)] := hl
  refine lv_iload_n hx hb dX11_taught_0 rfl (lv_at hl 1 rfl) ?_
  refine lv_if_lt (tgt := 9) hx hb dX11_taught_1 (by decide) (fun c1 => ?_) (fun c1 => ?_)
  · have h2 := (kc_lt c1)
    have b3 : kb (-2147483648) x (-1) := kr_lt1 h2 (kb_any x) kc_0 (by decide)
    refine lv_iconst (v := (-1)) hx hb dX11_taught_9 (by decide) ?_
    refine lv_goto (tgt := 21) hx hb dX11_taught_10 (by decide) ?_
    exact kI_ret (v := (-1)) hx hb hr hlocks rfl hK hS dX11_taught_21 (f, a, g) hP hD ⟨(kb_w kc_m1 (by decide) (by decide)), hI, hG, hE⟩
  · have h4 := (kc_nlt c1)
    have b5 : kb 0 x 2147483647 := kr_le2 h4 kc_0 (kb_any x)
    refine lv_iload_n hx hb dX11_taught_4 rfl (lv_at hl 1 rfl) ?_
    refine lv_iconst (v := 2) hx hb dX11_taught_5 (by decide) ?_
    refine lv_icmp_le (tgt := 13) hx hb dX11_taught_6 (by decide) (fun c6 => ?_) (fun c6 => ?_)
    · have h7 := (kc_le c6)
      have b8 : kb 0 x 2 := kr_le1 h7 b5 kc_2
      refine lv_aload_n hx hb dX11_taught_13 rfl (lv_at hl 0 rfl) ?_
      refine va_get (D := D) (ci := 11) (v := .ref (r 80)) (C := RX11) (T := TX11) (N := 17) hx hb hg inC11 hown hK hP 0 rfl rfl 6 (by decide) (hg _ wt2_192) (fun _ h9 => h9) rfl dX11_taught_14 ?_
      refine lv_iload_n hx hb dX11_taught_17 rfl (lv_at hl 1 rfl) ?_
      refine kIG.callW (As := [.int x]) (rest := []) ⟨hx, hb, hml, hown, hg⟩ (x_9_bestLesson l r f a g tx tt hT hI hG x  ) (cwV 1 hg (kgV wt5_47 wt5_48 wt5_49 wt1_11 wt5_50) rfl rfl rfl (by decide +kernel) ⟨by decide, by decide⟩) hV hK hP hD hS hA (80) 9 rfl rfl rfl hl.1 rfl (Nat.le_of_ble_eq_true rfl) dX11_taught_18 ⟨Nat.le_refl _, Nat.le_refl _⟩ (fun v10 u11 H locs hw9 hP hD hS => ?_)
      obtain ⟨f12, a13, g14⟩ := u11
      have hP : va_P D vwCl (xX K r f12 a13 g14 tx) H := hP
      have hD : va_D A (xX K r f12 a13 g14 tx) := hD
      have hI : xI f12 a13 := hw9.2.1
      have hG : gOK K g14.2 tt := hw9.2.2.1
      have eE15 : xEk ([1858, 1859, 1888, 1894, 1900, 1905, 1906, 2566], [60, 61, 62, 63, 64, 65, 66, 67, 68, 69, 70, 71, 72, 77, 78, 79, 81, 82, 84], [73]) f a g f12 a13 g14 := hw9.2.2.2
      have hE : xEk ([1858, 1859, 1888, 1894, 1900, 1905, 1906, 2566], [60, 61, 62, 63, 64, 65, 66, 67, 68, 69, 70, 71, 72, 77, 78, 79, 81, 82, 84], [73]) f a g f12 a13 g14 := xEk_tr hE eE15
      exact kI_ret (v := v10) hx hb hr hlocks rfl hK hS dX11_taught_21 (f12, a13, g14) hP hD ⟨(kb_any v10), hI, hG, hE⟩
    · have h16 := (kc_nle c6)
      have b17 : kb 3 x 2147483647 := kr_lt2 h16 kc_2 b5 (by decide)
      refine lv_iconst (v := (-1)) hx hb dX11_taught_9 (by decide) ?_
      refine lv_goto (tgt := 21) hx hb dX11_taught_10 (by decide) ?_
      exact kI_ret (v := (-1)) hx hb hr hlocks rfl hK hS dX11_taught_21 (f, a, g) hP hD ⟨(kb_w kc_m1 (by decide) (by decide)), hI, hG, hE⟩
set_option maxHeartbeats 4000000 in
set_option maxRecDepth 100000 in
theorem x_11_unseen  (l : Launch) {D : va_G} {K : Nat → ClassId} (r : Nat → Nat) (f : Nat → Int32) (a : Nat → Nat → Int32) (g : xG) (tx tt : va_W) (hT : ∀ c ∈ tt, c ∈ tx) (hI : xI f a) (hG : gOK K g.2 tt) (x : Int32)    : kLG l yX11_unseen (Cond.code yX11_unseen cX11_unseen 2 (some .long) :: kG) (rmD 6 0 0) D K [.ref (r 0), .int x] (xX K r f a g tx) (fun v (u : xS) => kbl (-9223372036854775808) v 9223372036854775807 ∧ xI u.1 u.2.1 ∧ gOK K u.2.2.2 tt ∧ xEk ([1888, 1894, 1900, 1905, 1906], [60, 61, 62, 63, 64, 65, 66, 67, 68, 69, 70, 71, 72, 77, 78, 79], [73]) f a g u.1 u.2.1 u.2.2) (fun u => xX K r u.1 u.2.1 u.2.2 tx) 0 0 := by
  refine kLG.of (cc := cX11_unseen) (maxL := 2) (ret := (some .long)) (by decide) rfl (Nat.le_of_ble_eq_true rfl) ?_
  intro p e s m below meth c A hx hb hr hml hown hts hlocks hnm hK hP hD hS hA hV ls hl
  have hE : xEk ([1888, 1894, 1900, 1905, 1906], [60, 61, 62, 63, 64, 65, 66, 67, 68, 69, 70, 71, 72, 77, 78, 79], [73]) f a g f a g := xEk_rf
  have hg : ∀ w ∈ kG, w.before _ s = true := fun w h => hts w (List.mem_cons_of_mem _ h)
  have hown : s.vm.findClass RX11 = some m.cls := hown
  have hl : lv_has ls 2 [(0, .ref (r 0)), (1, .int x)] := hl
  refine lv_iload_n hx hb dX11_unseen_0 rfl (lv_at hl 1 rfl) ?_
  refine lv_if_lt (tgt := 10) hx hb dX11_unseen_1 (by decide) (fun c1 => ?_) (fun c1 => ?_)
  · have h2 := (kc_lt c1)
    have b3 : kb (-2147483648) x (-1) := kr_lt1 h2 (kb_any x) kc_0 (by decide)
    refine lv_ldc2 (v := (-1)) hx hb hown (hg _ wt5_64) dX11_unseen_10 ?_
    refine lv_goto (tgt := 24) hx hb dX11_unseen_13 (by decide) ?_
    exact kL_ret (v := (-1)) hx hb hr hlocks hK hS dX11_unseen_24 (f, a, g) hP hD ⟨(kbl_w kcl_m1 (by decide) (by decide)), hI, hG, hE⟩
  · have h4 := (kc_nlt c1)
    have b5 : kb 0 x 2147483647 := kr_le2 h4 kc_0 (kb_any x)
    refine lv_iload_n hx hb dX11_unseen_4 rfl (lv_at hl 1 rfl) ?_
    refine lv_bipush (v := 99) hx hb dX11_unseen_5 (by decide) ?_
    refine lv_icmp_le (tgt := 16) hx hb dX11_unseen_7 (by decide) (fun c6 => ?_) (fun c6 => ?_)
    · have h7 := (kc_le c6)
      have b8 : kb 0 x 99 := kr_le1 h7 b5 kc_99
      refine lv_aload_n hx hb dX11_unseen_16 rfl (lv_at hl 0 rfl) ?_
      refine va_get (D := D) (ci := 11) (v := .ref (r 58)) (C := RX11) (T := TX11) (N := 17) hx hb hg inC11 hown hK hP 0 rfl rfl 5 (by decide) (hg _ wt2_191) (fun _ h9 => h9) rfl dX11_unseen_17 ?_
      refine lv_iload_n hx hb dX11_unseen_20 rfl (lv_at hl 1 rfl) ?_
      refine kLG.callW (As := [.int x]) (rest := []) ⟨hx, hb, hml, hown, hg⟩ (x_3_chanceUnseen l r f a g tx tt hT hI hG x b8 ) (cwV 1 hg (kgV wt5_65 wt5_66 wt5_67 wt1_10 wt5_68) rfl rfl rfl (by decide +kernel) ⟨by decide, by decide⟩) hV hK hP hD hS hA (58) 3 rfl rfl rfl hl.1 rfl (Nat.le_of_ble_eq_true rfl) dX11_unseen_21 ⟨Nat.le_refl _, Nat.le_refl _⟩ (fun v10 u11 H locs hw9 hP hD hS => ?_)
      obtain ⟨f12, a13, g14⟩ := u11
      have hP : va_P D vwCl (xX K r f12 a13 g14 tx) H := hP
      have hD : va_D A (xX K r f12 a13 g14 tx) := hD
      have hI : xI f12 a13 := hw9.2.1
      have hG : gOK K g14.2 tt := hw9.2.2.1
      have eE15 : xEk ([1888, 1894, 1900, 1905, 1906], [60, 61, 62, 63, 64, 65, 66, 67, 68, 69, 70, 71, 72, 77, 78, 79], [73]) f a g f12 a13 g14 := hw9.2.2.2
      have hE : xEk ([1888, 1894, 1900, 1905, 1906], [60, 61, 62, 63, 64, 65, 66, 67, 68, 69, 70, 71, 72, 77, 78, 79], [73]) f a g f12 a13 g14 := xEk_tr hE eE15
      exact kL_ret (v := v10) hx hb hr hlocks hK hS dX11_unseen_24 (f12, a13, g14) hP hD ⟨(kbl_any v10), hI, hG, hE⟩
    · have h16 := (kc_nle c6)
      have b17 : kb 100 x 2147483647 := kr_lt2 h16 kc_99 b5 (by decide)
      refine lv_ldc2 (v := (-1)) hx hb hown (hg _ wt5_64) dX11_unseen_10 ?_
      refine lv_goto (tgt := 24) hx hb dX11_unseen_13 (by decide) ?_
      exact kL_ret (v := (-1)) hx hb hr hlocks hK hS dX11_unseen_24 (f, a, g) hP hD ⟨(kbl_w kcl_m1 (by decide) (by decide)), hI, hG, hE⟩
set_option maxHeartbeats 4000000 in
set_option maxRecDepth 100000 in
theorem x_11_sight  (l : Launch) {D : va_G} {K : Nat → ClassId} (r : Nat → Nat) (f : Nat → Int32) (a : Nat → Nat → Int32) (g : xG) (tx tt : va_W) (hT : ∀ c ∈ tt, c ∈ tx) (hI : xI f a) (hG : gOK K g.2 tt) (x : Int32) (y : Int32) (z : Int32)    : kIG l yX11_sight (Cond.code yX11_sight cX11_sight 4 (some .int) :: kG) (rmD 2 0 0) D K [.ref (r 0), .int x, .int y, .int z] (xX K r f a g tx) (fun v (u : xS) => kb (-2147483648) v 2147483647 ∧ xI u.1 u.2.1 ∧ gOK K u.2.2.2 tt ∧ xEk ([16, 44], [12, 13, 14, 94], []) f a g u.1 u.2.1 u.2.2 ∧ sgtP x y z v (f 32) (f 44) (u.1 44)) (fun u => xX K r u.1 u.2.1 u.2.2 tx) 0 0 := by
  refine kIE.of (cc := cX11_sight) (maxL := 4) (ret := (some .int)) (by decide) rfl (Nat.le_of_ble_eq_true rfl) ?_
  intro p e s m below meth c A hx hb hr hml hown hts hlocks hnm hK hP hD hS hA hV ls hl
  have hE : xEk ([16, 44], [12, 13, 14, 94], []) f a g f a g := xEk_rf
  have hg : ∀ w ∈ kG, w.before _ s = true := fun w h => hts w (List.mem_cons_of_mem _ h)
  have hown : s.vm.findClass RX11 = some m.cls := hown
  have hl : lv_has ls 4 [(0, .ref (r 0)), (1, .int x), (2, .int y), (3, .int z)] := hl
  obtain ⟨c44, ec44⟩ : ∃ z : Int32, z = f 44 := ⟨_, rfl⟩
  refine lv_iload_n hx hb dX11_sight_0 rfl (lv_at hl 1 rfl) ?_
  refine lv_if_lt (tgt := 19) hx hb dX11_sight_1 (by decide) (fun c1 => ?_) (fun c1 => ?_)
  · have h2 := (kc_lt c1)
    have b3 : kb (-2147483648) x (-1) := kr_lt1 h2 (kb_any x) kc_0 (by decide)
    refine lv_aload_n hx hb dX11_sight_19 rfl (lv_at hl 0 rfl) ?_
    refine lv_iconst (v := (-1)) hx hb dX11_sight_20 (by decide) ?_
    refine kIG.callW (As := [.int (-1)]) (rest := []) ⟨hx, hb, hml, hown, hg⟩ (x_11_refuse l r f a g tx tt hT hI hG (-1)  ) (cwV 1 hg (kgV wt3_7 wt3_9 wp1_0 wt1_1 wt3_10) rfl rfl rfl (by decide +kernel) ⟨by decide, by decide⟩) hV hK hP hD hS hA (0) 11 rfl rfl rfl hl.1 rfl (Nat.le_of_ble_eq_true rfl) dX11_sight_21 ⟨Nat.le_refl _, Nat.le_refl _⟩ (fun v5 u6 H locs hw4 hP hD hS => ?_)
    obtain ⟨f7, a8, g9⟩ := u6
    have hP : va_P D vwCl (xX K r f7 a8 g9 tx) H := hP
    have hD : va_D A (xX K r f7 a8 g9 tx) := hD
    have hI : xI f7 a8 := hw4.2.1
    have hG : gOK K g9.2 tt := hw4.2.2.1
    have eE10 : xEk ([16], [94], []) f a g f7 a8 g9 := hw4.2.2.2.1
    have hE : xEk ([16, 44], [12, 13, 14, 94], []) f a g f7 a8 g9 := xEk_tr hE (xEk_w (by decide +kernel) eE10)
    refine k_top (z := (-1)) hw4.2.2.2.2 ?_
    exact kI_ret (v := (-1)) hx hb hr hlocks rfl hK hS dX11_sight_24 (f7, a8, g9) hP hD ⟨(kb_w kc_m1 (by decide) (by decide)), hI, hG, hE, (Or.inl ⟨rfl, (fun q => by have w1 := (b3).1; have w2 := (b3).2; have w3 := ((kb_any z)).1; have w4 := ((kb_any z)).2; have q1 := q.1; have q2 := q.2; omega), ((((eE10.1 44 rfl).trans ec44.symm)).trans ec44)⟩)⟩
  · have h11 := (kc_nlt c1)
    have b12 : kb 0 x 2147483647 := kr_le2 h11 kc_0 (kb_any x)
    refine lv_iload_n hx hb dX11_sight_4 rfl (lv_at hl 1 rfl) ?_
    refine lv_bipush (v := 99) hx hb dX11_sight_5 (by decide) ?_
    refine lv_icmp_gt (tgt := 19) hx hb dX11_sight_7 (by decide) (fun c13 => ?_) (fun c13 => ?_)
    · have h14 := (kc_lt c13)
      have b15 : kb 100 x 2147483647 := kr_lt2 h14 kc_99 b12 (by decide)
      refine lv_aload_n hx hb dX11_sight_19 rfl (lv_at hl 0 rfl) ?_
      refine lv_iconst (v := (-1)) hx hb dX11_sight_20 (by decide) ?_
      refine kIG.callW (As := [.int (-1)]) (rest := []) ⟨hx, hb, hml, hown, hg⟩ (x_11_refuse l r f a g tx tt hT hI hG (-1)  ) (cwV 1 hg (kgV wt3_7 wt3_9 wp1_0 wt1_1 wt3_10) rfl rfl rfl (by decide +kernel) ⟨by decide, by decide⟩) hV hK hP hD hS hA (0) 11 rfl rfl rfl hl.1 rfl (Nat.le_of_ble_eq_true rfl) dX11_sight_21 ⟨Nat.le_refl _, Nat.le_refl _⟩ (fun v17 u18 H locs hw16 hP hD hS => ?_)
      obtain ⟨f19, a20, g21⟩ := u18
      have hP : va_P D vwCl (xX K r f19 a20 g21 tx) H := hP
      have hD : va_D A (xX K r f19 a20 g21 tx) := hD
      have hI : xI f19 a20 := hw16.2.1
      have hG : gOK K g21.2 tt := hw16.2.2.1
      have eE22 : xEk ([16], [94], []) f a g f19 a20 g21 := hw16.2.2.2.1
      have hE : xEk ([16, 44], [12, 13, 14, 94], []) f a g f19 a20 g21 := xEk_tr hE (xEk_w (by decide +kernel) eE22)
      refine k_top (z := (-1)) hw16.2.2.2.2 ?_
      exact kI_ret (v := (-1)) hx hb hr hlocks rfl hK hS dX11_sight_24 (f19, a20, g21) hP hD ⟨(kb_w kc_m1 (by decide) (by decide)), hI, hG, hE, (Or.inl ⟨rfl, (fun q => by have w1 := (b15).1; have w2 := (b15).2; have w3 := ((kb_any z)).1; have w4 := ((kb_any z)).2; have q1 := q.1; have q2 := q.2; omega), ((((eE22.1 44 rfl).trans ec44.symm)).trans ec44)⟩)⟩
    · have h23 := (kc_nlt c13)
      have b24 : kb 0 x 99 := kr_le1 h23 b12 kc_99
      refine lv_iload_n hx hb dX11_sight_10 rfl (lv_at hl 3 rfl) ?_
      refine lv_if_lt (tgt := 19) hx hb dX11_sight_11 (by decide) (fun c25 => ?_) (fun c25 => ?_)
      · have h26 := (kc_lt c25)
        have b27 : kb (-2147483648) z (-1) := kr_lt1 h26 (kb_any z) kc_0 (by decide)
        refine lv_aload_n hx hb dX11_sight_19 rfl (lv_at hl 0 rfl) ?_
        refine lv_iconst (v := (-1)) hx hb dX11_sight_20 (by decide) ?_
        refine kIG.callW (As := [.int (-1)]) (rest := []) ⟨hx, hb, hml, hown, hg⟩ (x_11_refuse l r f a g tx tt hT hI hG (-1)  ) (cwV 1 hg (kgV wt3_7 wt3_9 wp1_0 wt1_1 wt3_10) rfl rfl rfl (by decide +kernel) ⟨by decide, by decide⟩) hV hK hP hD hS hA (0) 11 rfl rfl rfl hl.1 rfl (Nat.le_of_ble_eq_true rfl) dX11_sight_21 ⟨Nat.le_refl _, Nat.le_refl _⟩ (fun v29 u30 H locs hw28 hP hD hS => ?_)
        obtain ⟨f31, a32, g33⟩ := u30
        have hP : va_P D vwCl (xX K r f31 a32 g33 tx) H := hP
        have hD : va_D A (xX K r f31 a32 g33 tx) := hD
        have hI : xI f31 a32 := hw28.2.1
        have hG : gOK K g33.2 tt := hw28.2.2.1
        have eE34 : xEk ([16], [94], []) f a g f31 a32 g33 := hw28.2.2.2.1
        have hE : xEk ([16, 44], [12, 13, 14, 94], []) f a g f31 a32 g33 := xEk_tr hE (xEk_w (by decide +kernel) eE34)
        refine k_top (z := (-1)) hw28.2.2.2.2 ?_
        exact kI_ret (v := (-1)) hx hb hr hlocks rfl hK hS dX11_sight_24 (f31, a32, g33) hP hD ⟨(kb_w kc_m1 (by decide) (by decide)), hI, hG, hE, (Or.inl ⟨rfl, (fun q => by have w1 := (b24).1; have w2 := (b24).2; have w3 := (b27).1; have w4 := (b27).2; have q1 := q.1; have q2 := q.2; omega), ((((eE34.1 44 rfl).trans ec44.symm)).trans ec44)⟩)⟩
      · have h35 := (kc_nlt c25)
        have b36 : kb 0 z 2147483647 := kr_le2 h35 kc_0 (kb_any z)
        refine lv_iload_n hx hb dX11_sight_14 rfl (lv_at hl 3 rfl) ?_
        refine lv_iconst (v := 1) hx hb dX11_sight_15 (by decide) ?_
        refine lv_icmp_le (tgt := 25) hx hb dX11_sight_16 (by decide) (fun c37 => ?_) (fun c37 => ?_)
        · have h38 := (kc_le c37)
          have b39 : kb 0 z 1 := kr_le1 h38 b36 kc_1
          refine lv_aload_n hx hb dX11_sight_25 rfl (lv_at hl 0 rfl) ?_
          refine va_get (D := D) (ci := 11) (v := .ref (r 1)) (C := RX11) (T := TX11) (N := 17) hx hb hg inC11 hown hK hP 0 rfl rfl 0 (by decide) (hg _ wt2_186) (fun _ h9 => h9) rfl dX11_sight_26 ?_
          refine lv_iload_n hx hb dX11_sight_29 rfl (lv_at hl 2 rfl) ?_
          refine kIG.callW (As := [.int y]) (rest := []) ⟨hx, hb, hml, hown, hg⟩ (x_7_hasPart l r f a g tx tt hT hI hG y  ) (cwV 1 hg (kgV wt3_35 wt3_36 wt3_37 wt1_2 wt3_38) rfl rfl rfl (by decide +kernel) ⟨by decide, by decide⟩) hV hK hP hD hS hA (1) 7 rfl rfl rfl hl.1 rfl (Nat.le_of_ble_eq_true rfl) dX11_sight_30 ⟨Nat.le_refl _, Nat.le_refl _⟩ (fun v41 u42 H locs hw40 hP hD hS => ?_)
          have hP : va_P D vwCl (xX K r f a g tx) H := hP
          have hD : va_D A (xX K r f a g tx) := hD
          refine lv_if_ne (tgt := 43) hx hb dX11_sight_33 (by decide) (fun c43 => ?_) (fun c43 => ?_)
          · have b44 : kb 1 v41 1 := kr_nel c43 hw40.1 kc_0 (by decide)
            have h45 := hw40.2.1 c43
            have b46 : kb 0 y 9 := ⟨h45.1, h45.2⟩
            refine lv_aload_n hx hb dX11_sight_43 rfl (lv_at hl 0 rfl) ?_
            refine va_get (D := D) (ci := 11) (v := .ref (r 1)) (C := RX11) (T := TX11) (N := 17) hx hb hg inC11 hown hK hP 0 rfl rfl 0 (by decide) (hg _ wt2_186) (fun _ h9 => h9) rfl dX11_sight_44 ?_
            refine va_get (D := D) (ci := 7) (v := .int (f 44)) (C := RX7) (T := TX7) (N := 20) hx hb hg inC7 hown hK hP 1 rfl rfl 12 (by decide) (hg _ wt1_137) (fun _ h9 => h9) rfl dX11_sight_47 ?_
            refine k_top (z := c44) ec44.symm ?_
            refine lv_if_lt (tgt := 65) hx hb dX11_sight_50 (by decide) (fun c47 => ?_) (fun c47 => ?_)
            · have h48 := (kc_lt c47)
              have b49 : kb (-2147483648) c44 (-1) := kr_lt1 h48 (kb_any c44) kc_0 (by decide)
              refine lv_aload_n hx hb dX11_sight_65 rfl (lv_at hl 0 rfl) ?_
              refine lv_bipush (v := (-5)) hx hb dX11_sight_66 (by decide) ?_
              refine kIG.callW (As := [.int (-5)]) (rest := []) ⟨hx, hb, hml, hown, hg⟩ (x_11_refuse l r f a g tx tt hT hI hG (-5)  ) (cwV 1 hg (kgV wt3_7 wt3_9 wp1_0 wt1_1 wt3_10) rfl rfl rfl (by decide +kernel) ⟨by decide, by decide⟩) hV hK hP hD hS hA (0) 11 rfl rfl rfl hl.1 rfl (Nat.le_of_ble_eq_true rfl) dX11_sight_68 ⟨Nat.le_refl _, Nat.le_refl _⟩ (fun v51 u52 H locs hw50 hP hD hS => ?_)
              obtain ⟨f53, a54, g55⟩ := u52
              have hP : va_P D vwCl (xX K r f53 a54 g55 tx) H := hP
              have hD : va_D A (xX K r f53 a54 g55 tx) := hD
              have hI : xI f53 a54 := hw50.2.1
              have hG : gOK K g55.2 tt := hw50.2.2.1
              have eE56 : xEk ([16], [94], []) f a g f53 a54 g55 := hw50.2.2.2.1
              have hE : xEk ([16, 44], [12, 13, 14, 94], []) f a g f53 a54 g55 := xEk_tr hE (xEk_w (by decide +kernel) eE56)
              refine k_top (z := (-5)) hw50.2.2.2.2 ?_
              exact kI_ret (v := (-5)) hx hb hr hlocks rfl hK hS dX11_sight_71 (f53, a54, g55) hP hD ⟨(kb_w kc_m5 (by decide) (by decide)), hI, hG, hE, (Or.inr (Or.inr (Or.inl ⟨rfl, ⟨b24, b39⟩, ⟨(b46).1, hw40.2.2.2 c43⟩, (by rw [← ec44]; have w1 := (b49).1; have w2 := (b49).2; omega), ((((eE56.1 44 rfl).trans ec44.symm)).trans ec44)⟩)))⟩
            · have h57 := (kc_nlt c47)
              have b58 : kb 0 c44 2147483647 := kr_le2 h57 kc_0 (kb_any c44)
              refine lv_aload_n hx hb dX11_sight_53 rfl (lv_at hl 0 rfl) ?_
              refine va_get (D := D) (ci := 11) (v := .ref (r 1)) (C := RX11) (T := TX11) (N := 17) hx hb hg inC11 hown hK hP 0 rfl rfl 0 (by decide) (hg _ wt2_186) (fun _ h9 => h9) rfl dX11_sight_54 ?_
              refine va_get (D := D) (ci := 7) (v := .int (f 44)) (C := RX7) (T := TX7) (N := 20) hx hb hg inC7 hown hK hP 1 rfl rfl 12 (by decide) (hg _ wt1_137) (fun _ h9 => h9) rfl dX11_sight_57 ?_
              refine k_top (z := c44) ec44.symm ?_
              refine lv_bipush (v := 8) hx hb dX11_sight_60 (by decide) ?_
              refine lv_icmp_lt (tgt := 72) hx hb dX11_sight_62 (by decide) (fun c59 => ?_) (fun c59 => ?_)
              · have h60 := (kc_lt c59)
                have b61 : kb 0 c44 7 := kr_lt1 h60 b58 kc_8 (by decide)
                refine lv_aload_n hx hb dX11_sight_72 rfl (lv_at hl 0 rfl) ?_
                refine va_get (D := D) (ci := 11) (v := .ref (r 1)) (C := RX11) (T := TX11) (N := 17) hx hb hg inC11 hown hK hP 0 rfl rfl 0 (by decide) (hg _ wt2_186) (fun _ h9 => h9) rfl dX11_sight_73 ?_
                refine va_get (D := D) (ci := 7) (v := .ref (r 12)) (C := RX7) (T := TX7) (N := 20) hx hb hg inC7 hown hK hP 1 rfl rfl 13 (by decide) (hg _ wt1_140) (fun _ h9 => h9) rfl dX11_sight_76 ?_
                refine lv_aload_n hx hb dX11_sight_79 rfl (lv_at hl 0 rfl) ?_
                refine va_get (D := D) (ci := 11) (v := .ref (r 1)) (C := RX11) (T := TX11) (N := 17) hx hb hg inC11 hown hK hP 0 rfl rfl 0 (by decide) (hg _ wt2_186) (fun _ h9 => h9) rfl dX11_sight_80 ?_
                refine va_get (D := D) (ci := 7) (v := .int (f 44)) (C := RX7) (T := TX7) (N := 20) hx hb hg inC7 hown hK hP 1 rfl rfl 12 (by decide) (hg _ wt1_137) (fun _ h9 => h9) rfl dX11_sight_83 ?_
                refine k_top (z := c44) ec44.symm ?_
                refine lv_iload_n hx hb dX11_sight_86 rfl (lv_at hl 1 rfl) ?_
                refine va_iast hx hb hK hP hD hS 12 0 rfl rfl (kb_in b61 (by decide) (by decide)) dX11_sight_87 (fun H locs hP hD hS => ?_)
                have hP : va_P D vwCl (xX K r f (va_up a 12 (upd (a 12) c44.toNatClampNeg x)) g tx) H := hP
                have hD : va_D A (xX K r f (va_up a 12 (upd (a 12) c44.toNatClampNeg x)) g tx) := hD
                refine k_gen (P := fun z => va_P D vwCl (xX K r f z g tx) H ∧ va_D A (xX K r f z g tx) ∧ (xI f z) ∧ (gOK K g.2 tt) ∧ (xEk ([16, 44], [12, 13, 14, 94], []) f a g f z g)) (va_up a 12 (upd (a 12) c44.toNatClampNeg x)) ⟨hP, hD, (xI_a hI (by decide)), hG, (xEk_a hE rfl)⟩ (fun a_62 ea_62 hq => ?_)
                obtain ⟨hP, hD, hI, hG, hE⟩ := hq
                refine lv_aload_n hx hb dX11_sight_88 rfl (lv_at hl 0 rfl) ?_
                refine va_get (D := D) (ci := 11) (v := .ref (r 1)) (C := RX11) (T := TX11) (N := 17) hx hb hg inC11 hown hK hP 0 rfl rfl 0 (by decide) (hg _ wt2_186) (fun _ h9 => h9) rfl dX11_sight_89 ?_
                refine va_get (D := D) (ci := 7) (v := .ref (r 13)) (C := RX7) (T := TX7) (N := 20) hx hb hg inC7 hown hK hP 1 rfl rfl 14 (by decide) (hg _ wt1_143) (fun _ h9 => h9) rfl dX11_sight_92 ?_
                refine lv_aload_n hx hb dX11_sight_95 rfl (lv_at hl 0 rfl) ?_
                refine va_get (D := D) (ci := 11) (v := .ref (r 1)) (C := RX11) (T := TX11) (N := 17) hx hb hg inC11 hown hK hP 0 rfl rfl 0 (by decide) (hg _ wt2_186) (fun _ h9 => h9) rfl dX11_sight_96 ?_
                refine va_get (D := D) (ci := 7) (v := .int (f 44)) (C := RX7) (T := TX7) (N := 20) hx hb hg inC7 hown hK hP 1 rfl rfl 12 (by decide) (hg _ wt1_137) (fun _ h9 => h9) rfl dX11_sight_99 ?_
                refine k_top (z := c44) ec44.symm ?_
                refine lv_iload_n hx hb dX11_sight_102 rfl (lv_at hl 2 rfl) ?_
                refine va_iast hx hb hK hP hD hS 13 0 rfl rfl (kb_in b61 (by decide) (by decide)) dX11_sight_103 (fun H locs hP hD hS => ?_)
                have hP : va_P D vwCl (xX K r f (va_up a_62 13 (upd (a_62 13) c44.toNatClampNeg y)) g tx) H := hP
                have hD : va_D A (xX K r f (va_up a_62 13 (upd (a_62 13) c44.toNatClampNeg y)) g tx) := hD
                refine k_gen (P := fun z => va_P D vwCl (xX K r f z g tx) H ∧ va_D A (xX K r f z g tx) ∧ (xI f z) ∧ (gOK K g.2 tt) ∧ (xEk ([16, 44], [12, 13, 14, 94], []) f a g f z g)) (va_up a_62 13 (upd (a_62 13) c44.toNatClampNeg y)) ⟨hP, hD, (xI_a hI (by decide)), hG, (xEk_a hE rfl)⟩ (fun a_63 ea_63 hq => ?_)
                obtain ⟨hP, hD, hI, hG, hE⟩ := hq
                refine lv_aload_n hx hb dX11_sight_104 rfl (lv_at hl 0 rfl) ?_
                refine va_get (D := D) (ci := 11) (v := .ref (r 1)) (C := RX11) (T := TX11) (N := 17) hx hb hg inC11 hown hK hP 0 rfl rfl 0 (by decide) (hg _ wt2_186) (fun _ h9 => h9) rfl dX11_sight_105 ?_
                refine va_get (D := D) (ci := 7) (v := .ref (r 14)) (C := RX7) (T := TX7) (N := 20) hx hb hg inC7 hown hK hP 1 rfl rfl 15 (by decide) (hg _ wt1_146) (fun _ h9 => h9) rfl dX11_sight_108 ?_
                refine lv_aload_n hx hb dX11_sight_111 rfl (lv_at hl 0 rfl) ?_
                refine va_get (D := D) (ci := 11) (v := .ref (r 1)) (C := RX11) (T := TX11) (N := 17) hx hb hg inC11 hown hK hP 0 rfl rfl 0 (by decide) (hg _ wt2_186) (fun _ h9 => h9) rfl dX11_sight_112 ?_
                refine va_get (D := D) (ci := 7) (v := .int (f 44)) (C := RX7) (T := TX7) (N := 20) hx hb hg inC7 hown hK hP 1 rfl rfl 12 (by decide) (hg _ wt1_137) (fun _ h9 => h9) rfl dX11_sight_115 ?_
                refine k_top (z := c44) ec44.symm ?_
                refine lv_iload_n hx hb dX11_sight_118 rfl (lv_at hl 3 rfl) ?_
                refine va_iast hx hb hK hP hD hS 14 0 rfl rfl (kb_in b61 (by decide) (by decide)) dX11_sight_119 (fun H locs hP hD hS => ?_)
                have hP : va_P D vwCl (xX K r f (va_up a_63 14 (upd (a_63 14) c44.toNatClampNeg z)) g tx) H := hP
                have hD : va_D A (xX K r f (va_up a_63 14 (upd (a_63 14) c44.toNatClampNeg z)) g tx) := hD
                refine k_gen (P := fun z => va_P D vwCl (xX K r f z g tx) H ∧ va_D A (xX K r f z g tx) ∧ (xI f z) ∧ (gOK K g.2 tt) ∧ (xEk ([16, 44], [12, 13, 14, 94], []) f a g f z g)) (va_up a_63 14 (upd (a_63 14) c44.toNatClampNeg z)) ⟨hP, hD, (xI_a hI (by decide)), hG, (xEk_a hE rfl)⟩ (fun a_64 ea_64 hq => ?_)
                obtain ⟨hP, hD, hI, hG, hE⟩ := hq
                refine lv_aload_n hx hb dX11_sight_120 rfl (lv_at hl 0 rfl) ?_
                refine va_get (D := D) (ci := 11) (v := .ref (r 1)) (C := RX11) (T := TX11) (N := 17) hx hb hg inC11 hown hK hP 0 rfl rfl 0 (by decide) (hg _ wt2_186) (fun _ h9 => h9) rfl dX11_sight_121 ?_
                refine lv_dup hx hb dX11_sight_124 rfl ?_
                refine va_get (D := D) (ci := 7) (v := .int (f 44)) (C := RX7) (T := TX7) (N := 20) hx hb hg inC7 hown hK hP 1 rfl rfl 12 (by decide) (hg _ wt1_137) (fun _ h9 => h9) rfl dX11_sight_125 ?_
                refine k_top (z := c44) ec44.symm ?_
                refine lv_iconst (v := 1) hx hb dX11_sight_128 (by decide) ?_
                refine lv_iadd hx hb dX11_sight_129 ?_
                refine lv_topi (fun t65 et65 => ?_)
                have b66 : kb 1 t65 8 := kb_eq et65 (kb_add b61 kc_1 (by decide) (by decide))
                have qt65 : t65.toInt = c44.toInt + 1 := by rw [et65]; exact kt_addc b61 kc_1 (by decide) (by decide)
                refine va_put (D := D) (ci := 7) (v := .int t65) (ty := .int) (C := RX7) (T := TX7) (N := 20) hx hb hg inC7 tyX7 tyX7_ok nmX7 hown hK hP hD hS 1 rfl rfl 12 (by decide) (hg _ wt1_137) (fun _ h9 => h9) rfl (by decide +kernel) rfl rfl (Nat.le_of_ble_eq_true rfl) dX11_sight_130 (fun H locs hP hD hS => ?_)
                have hP : va_P D vwCl (xX K r (upd f 44 t65) a_64 g tx) H := hP
                have hD : va_D A (xX K r (upd f 44 t65) a_64 g tx) := hD
                refine k_gen (P := fun z => va_P D vwCl (xX K r z a_64 g tx) H ∧ va_D A (xX K r z a_64 g tx) ∧ (xI z a_64) ∧ (gOK K g.2 tt) ∧ (xEk ([16, 44], [12, 13, 14, 94], []) f a g z a_64 g)) (upd f 44 t65) ⟨hP, hD, (xI_f hI (fI_st hI.1 44 (kb_any _) (by decide) (by decide))), hG, (xEk_f hE rfl)⟩ (fun f_67 ef_67 hq => ?_)
                obtain ⟨hP, hD, hI, hG, hE⟩ := hq
                refine lv_aload_n hx hb dX11_sight_133 rfl (lv_at hl 0 rfl) ?_
                refine lv_aload_n hx hb dX11_sight_134 rfl (lv_at hl 0 rfl) ?_
                refine va_get (D := D) (ci := 11) (v := .ref (r 1)) (C := RX11) (T := TX11) (N := 17) hx hb hg inC11 hown hK hP 0 rfl rfl 0 (by decide) (hg _ wt2_186) (fun _ h9 => h9) rfl dX11_sight_135 ?_
                refine va_get (D := D) (ci := 7) (v := .int (f_67 44)) (C := RX7) (T := TX7) (N := 20) hx hb hg inC7 hown hK hP 1 rfl rfl 12 (by decide) (hg _ wt1_137) (fun _ h9 => h9) rfl dX11_sight_138 ?_
                refine k_top (z := t65) (show f_67 44 = t65 from by rw [← ef_67]; rfl) ?_
                refine kIG.callW (As := [.int t65]) (rest := []) ⟨hx, hb, hml, hown, hg⟩ (x_11_agree l r f_67 a_64 g tx tt hT hI hG t65  ) (cwV 1 hg (kgV wt3_27 wt3_29 wp1_2 wt1_1 wt3_30) rfl rfl rfl (by decide +kernel) ⟨by decide, by decide⟩) hV hK hP hD hS hA (0) 11 rfl rfl rfl hl.1 rfl (Nat.le_of_ble_eq_true rfl) dX11_sight_141 ⟨Nat.le_refl _, Nat.le_refl _⟩ (fun v69 u70 H locs hw68 hP hD hS => ?_)
                obtain ⟨f71, a72, g73⟩ := u70
                have hP : va_P D vwCl (xX K r f71 a72 g73 tx) H := hP
                have hD : va_D A (xX K r f71 a72 g73 tx) := hD
                have hI : xI f71 a72 := hw68.2.1
                have hG : gOK K g73.2 tt := hw68.2.2.1
                have eE74 : xEk ([16], [], []) f_67 a_64 g f71 a72 g73 := hw68.2.2.2.1
                have hE : xEk ([16, 44], [12, 13, 14, 94], []) f a g f71 a72 g73 := xEk_tr hE (xEk_w (by decide +kernel) eE74)
                refine k_top (z := t65) hw68.2.2.2.2 ?_
                exact kI_ret (v := t65) hx hb hr hlocks rfl hK hS dX11_sight_144 (f71, a72, g73) hP hD ⟨(kb_w b66 (by decide) (by decide)), hI, hG, hE, (Or.inr (Or.inr (Or.inr ⟨(by rw [← ec44]; omega), ⟨b24, b39⟩, ⟨(b46).1, hw40.2.2.2 c43⟩, (by rw [← ec44]; exact b61), (by show (f71 44).toInt = (f 44).toInt + 1; have e1 := congrArg Int32.toInt (((eE74.1 44 rfl).trans (show f_67 44 = t65 from by rw [← ef_67]; rfl))); have e2 := congrArg Int32.toInt ec44; omega)⟩)))⟩
              · have h75 := (kc_nlt c59)
                have b76 : kb 8 c44 2147483647 := kr_le2 h75 kc_8 b58
                refine lv_aload_n hx hb dX11_sight_65 rfl (lv_at hl 0 rfl) ?_
                refine lv_bipush (v := (-5)) hx hb dX11_sight_66 (by decide) ?_
                refine kIG.callW (As := [.int (-5)]) (rest := []) ⟨hx, hb, hml, hown, hg⟩ (x_11_refuse l r f a g tx tt hT hI hG (-5)  ) (cwV 1 hg (kgV wt3_7 wt3_9 wp1_0 wt1_1 wt3_10) rfl rfl rfl (by decide +kernel) ⟨by decide, by decide⟩) hV hK hP hD hS hA (0) 11 rfl rfl rfl hl.1 rfl (Nat.le_of_ble_eq_true rfl) dX11_sight_68 ⟨Nat.le_refl _, Nat.le_refl _⟩ (fun v78 u79 H locs hw77 hP hD hS => ?_)
                obtain ⟨f80, a81, g82⟩ := u79
                have hP : va_P D vwCl (xX K r f80 a81 g82 tx) H := hP
                have hD : va_D A (xX K r f80 a81 g82 tx) := hD
                have hI : xI f80 a81 := hw77.2.1
                have hG : gOK K g82.2 tt := hw77.2.2.1
                have eE83 : xEk ([16], [94], []) f a g f80 a81 g82 := hw77.2.2.2.1
                have hE : xEk ([16, 44], [12, 13, 14, 94], []) f a g f80 a81 g82 := xEk_tr hE (xEk_w (by decide +kernel) eE83)
                refine k_top (z := (-5)) hw77.2.2.2.2 ?_
                exact kI_ret (v := (-5)) hx hb hr hlocks rfl hK hS dX11_sight_71 (f80, a81, g82) hP hD ⟨(kb_w kc_m5 (by decide) (by decide)), hI, hG, hE, (Or.inr (Or.inr (Or.inl ⟨rfl, ⟨b24, b39⟩, ⟨(b46).1, hw40.2.2.2 c43⟩, (by rw [← ec44]; have w1 := (b76).1; have w2 := (b76).2; omega), ((((eE83.1 44 rfl).trans ec44.symm)).trans ec44)⟩)))⟩
          · have b84 : kb 0 v41 0 := kb_eq c43 kc_0
            refine lv_aload_n hx hb dX11_sight_36 rfl (lv_at hl 0 rfl) ?_
            refine lv_bipush (v := (-2)) hx hb dX11_sight_37 (by decide) ?_
            refine kIG.callW (As := [.int (-2)]) (rest := []) ⟨hx, hb, hml, hown, hg⟩ (x_11_refuse l r f a g tx tt hT hI hG (-2)  ) (cwV 1 hg (kgV wt3_7 wt3_9 wp1_0 wt1_1 wt3_10) rfl rfl rfl (by decide +kernel) ⟨by decide, by decide⟩) hV hK hP hD hS hA (0) 11 rfl rfl rfl hl.1 rfl (Nat.le_of_ble_eq_true rfl) dX11_sight_39 ⟨Nat.le_refl _, Nat.le_refl _⟩ (fun v86 u87 H locs hw85 hP hD hS => ?_)
            obtain ⟨f88, a89, g90⟩ := u87
            have hP : va_P D vwCl (xX K r f88 a89 g90 tx) H := hP
            have hD : va_D A (xX K r f88 a89 g90 tx) := hD
            have hI : xI f88 a89 := hw85.2.1
            have hG : gOK K g90.2 tt := hw85.2.2.1
            have eE91 : xEk ([16], [94], []) f a g f88 a89 g90 := hw85.2.2.2.1
            have hE : xEk ([16, 44], [12, 13, 14, 94], []) f a g f88 a89 g90 := xEk_tr hE (xEk_w (by decide +kernel) eE91)
            refine k_top (z := (-2)) hw85.2.2.2.2 ?_
            exact kI_ret (v := (-2)) hx hb hr hlocks rfl hK hS dX11_sight_42 (f88, a89, g90) hP hD ⟨(kb_w kc_m2 (by decide) (by decide)), hI, hG, hE, (Or.inr (Or.inl ⟨rfl, ⟨b24, b39⟩, (fun q => (hw40.2.2.1 c43) q), ((((eE91.1 44 rfl).trans ec44.symm)).trans ec44)⟩))⟩
        · have h92 := (kc_nle c37)
          have b93 : kb 2 z 2147483647 := kr_lt2 h92 kc_1 b36 (by decide)
          refine lv_aload_n hx hb dX11_sight_19 rfl (lv_at hl 0 rfl) ?_
          refine lv_iconst (v := (-1)) hx hb dX11_sight_20 (by decide) ?_
          refine kIG.callW (As := [.int (-1)]) (rest := []) ⟨hx, hb, hml, hown, hg⟩ (x_11_refuse l r f a g tx tt hT hI hG (-1)  ) (cwV 1 hg (kgV wt3_7 wt3_9 wp1_0 wt1_1 wt3_10) rfl rfl rfl (by decide +kernel) ⟨by decide, by decide⟩) hV hK hP hD hS hA (0) 11 rfl rfl rfl hl.1 rfl (Nat.le_of_ble_eq_true rfl) dX11_sight_21 ⟨Nat.le_refl _, Nat.le_refl _⟩ (fun v95 u96 H locs hw94 hP hD hS => ?_)
          obtain ⟨f97, a98, g99⟩ := u96
          have hP : va_P D vwCl (xX K r f97 a98 g99 tx) H := hP
          have hD : va_D A (xX K r f97 a98 g99 tx) := hD
          have hI : xI f97 a98 := hw94.2.1
          have hG : gOK K g99.2 tt := hw94.2.2.1
          have eE100 : xEk ([16], [94], []) f a g f97 a98 g99 := hw94.2.2.2.1
          have hE : xEk ([16, 44], [12, 13, 14, 94], []) f a g f97 a98 g99 := xEk_tr hE (xEk_w (by decide +kernel) eE100)
          refine k_top (z := (-1)) hw94.2.2.2.2 ?_
          exact kI_ret (v := (-1)) hx hb hr hlocks rfl hK hS dX11_sight_24 (f97, a98, g99) hP hD ⟨(kb_w kc_m1 (by decide) (by decide)), hI, hG, hE, (Or.inl ⟨rfl, (fun q => by have w1 := (b24).1; have w2 := (b24).2; have w3 := (b93).1; have w4 := (b93).2; have q1 := q.1; have q2 := q.2; omega), ((((eE100.1 44 rfl).trans ec44.symm)).trans ec44)⟩)⟩
set_option maxHeartbeats 4000000 in
set_option maxRecDepth 100000 in
theorem x_11_forget  (l : Launch) {D : va_G} {K : Nat → ClassId} (r : Nat → Nat) (f : Nat → Int32) (a : Nat → Nat → Int32) (g : xG) (tx tt : va_W) (hT : ∀ c ∈ tt, c ∈ tx) (hI : xI f a) (hG : gOK K g.2 tt)     : kIG l yX11_forget (Cond.code yX11_forget cX11_forget 2 (some .int) :: kG) (rmD 1 0 0) D K [.ref (r 0)] (xX K r f a g tx) (fun v (u : xS) => kb (-2147483648) v 2147483647 ∧ xI u.1 u.2.1 ∧ gOK K u.2.2.2 tt ∧ xEk ([44], [], []) f a g u.1 u.2.1 u.2.2 ∧ v = f 44 ∧ u.1 44 = 0) (fun u => xX K r u.1 u.2.1 u.2.2 tx) 0 0 := by
  refine kIE.of (cc := cX11_forget) (maxL := 2) (ret := (some .int)) (by decide) rfl (Nat.le_of_ble_eq_true rfl) ?_
  intro p e s m below meth c A hx hb hr hml hown hts hlocks hnm hK hP hD hS hA hV ls hl
  have hE : xEk ([44], [], []) f a g f a g := xEk_rf
  have hg : ∀ w ∈ kG, w.before _ s = true := fun w h => hts w (List.mem_cons_of_mem _ h)
  have hown : s.vm.findClass RX11 = some m.cls := hown
  have hl : lv_has ls 2 [(0, .ref (r 0))] := hl
  obtain ⟨c44, ec44⟩ : ∃ z : Int32, z = f 44 := ⟨_, rfl⟩
  refine lv_aload_n hx hb dX11_forget_0 rfl (lv_at hl 0 rfl) ?_
  refine va_get (D := D) (ci := 11) (v := .ref (r 1)) (C := RX11) (T := TX11) (N := 17) hx hb hg inC11 hown hK hP 0 rfl rfl 0 (by decide) (hg _ wt2_186) (fun _ h9 => h9) rfl dX11_forget_1 ?_
  refine va_get (D := D) (ci := 7) (v := .int (f 44)) (C := RX7) (T := TX7) (N := 20) hx hb hg inC7 hown hK hP 1 rfl rfl 12 (by decide) (hg _ wt1_137) (fun _ h9 => h9) rfl dX11_forget_4 ?_
  refine k_top (z := c44) ec44.symm ?_
  refine lv_istore_n (lv' := [(1, .int c44), (0, .ref (r 0))]) hx hb dX11_forget_7 rfl hl (by decide) rfl (fun ls hl => ?_)
  refine lv_aload_n hx hb dX11_forget_8 rfl (lv_at hl 1 rfl) ?_
  refine va_get (D := D) (ci := 11) (v := .ref (r 1)) (C := RX11) (T := TX11) (N := 17) hx hb hg inC11 hown hK hP 0 rfl rfl 0 (by decide) (hg _ wt2_186) (fun _ h9 => h9) rfl dX11_forget_9 ?_
  refine lv_iconst (v := 0) hx hb dX11_forget_12 (by decide) ?_
  refine va_put (D := D) (ci := 7) (v := .int 0) (ty := .int) (C := RX7) (T := TX7) (N := 20) hx hb hg inC7 tyX7 tyX7_ok nmX7 hown hK hP hD hS 1 rfl rfl 12 (by decide) (hg _ wt1_137) (fun _ h9 => h9) rfl (by decide +kernel) rfl rfl (Nat.le_of_ble_eq_true rfl) dX11_forget_13 (fun H locs hP hD hS => ?_)
  have hP : va_P D vwCl (xX K r (upd f 44 0) a g tx) H := hP
  have hD : va_D A (xX K r (upd f 44 0) a g tx) := hD
  refine k_gen (P := fun z => va_P D vwCl (xX K r z a g tx) H ∧ va_D A (xX K r z a g tx) ∧ (xI z a) ∧ (gOK K g.2 tt) ∧ (xEk ([44], [], []) f a g z a g)) (upd f 44 0) ⟨hP, hD, (xI_f hI (fI_st hI.1 44 (kb_any _) (by decide) (by decide))), hG, (xEk_f hE rfl)⟩ (fun f_1 ef_1 hq => ?_)
  obtain ⟨hP, hD, hI, hG, hE⟩ := hq
  refine lv_iload_n hx hb dX11_forget_16 rfl (lv_at hl 0 rfl) ?_
  exact kI_ret (v := c44) hx hb hr hlocks rfl hK hS dX11_forget_17 (f_1, a, g) hP hD ⟨(kb_any c44), hI, hG, hE, ec44, (show f_1 44 = 0 from by rw [← ef_1]; rfl)⟩
set_option maxHeartbeats 4000000 in
set_option maxRecDepth 100000 in
theorem x_11_whose  (l : Launch) {D : va_G} {K : Nat → ClassId} (r : Nat → Nat) (f : Nat → Int32) (a : Nat → Nat → Int32) (g : xG) (tx tt : va_W) (hT : ∀ c ∈ tt, c ∈ tx) (hI : xI f a) (hG : gOK K g.2 tt) (x : Int32)    : kIG l yX11_whose (Cond.code yX11_whose cX11_whose 2 (some .int) :: kG) (rmD 7 0 0) D K [.ref (r 0), .int x] (xX K r f a g tx) (fun v (u : xS) => kb (-2147483648) v 2147483647 ∧ xI u.1 u.2.1 ∧ gOK K u.2.2.2 tt ∧ xEk ([1888, 1894, 1900, 1905, 1906, 2565], [60, 61, 62, 63, 64, 65, 66, 67, 68, 69, 70, 71, 72, 77, 78, 79, 83, 85], [73]) f a g u.1 u.2.1 u.2.2) (fun u => xX K r u.1 u.2.1 u.2.2 tx) 0 0 := by
  refine kIE.of (cc := cX11_whose) (maxL := 2) (ret := (some .int)) (by decide) rfl (Nat.le_of_ble_eq_true rfl) ?_
  intro p e s m below meth c A hx hb hr hml hown hts hlocks hnm hK hP hD hS hA hV ls hl
  have hE : xEk ([1888, 1894, 1900, 1905, 1906, 2565], [60, 61, 62, 63, 64, 65, 66, 67, 68, 69, 70, 71, 72, 77, 78, 79, 83, 85], [73]) f a g f a g := xEk_rf
  have hg : ∀ w ∈ kG, w.before _ s = true := fun w h => hts w (List.mem_cons_of_mem _ h)
  have hown : s.vm.findClass RX11 = some m.cls := hown
  have hl : lv_has ls 2 [(0, .ref (r 0)), (1, .int x)] := hl
  refine lv_aload_n hx hb dX11_whose_0 rfl (lv_at hl 0 rfl) ?_
  refine va_get (D := D) (ci := 11) (v := .ref (r 80)) (C := RX11) (T := TX11) (N := 17) hx hb hg inC11 hown hK hP 0 rfl rfl 6 (by decide) (hg _ wt2_192) (fun _ h9 => h9) rfl dX11_whose_1 ?_
  refine lv_iload_n hx hb dX11_whose_4 rfl (lv_at hl 1 rfl) ?_
  refine kIG.callW (As := [.int x]) (rest := []) ⟨hx, hb, hml, hown, hg⟩ (x_9_suspects l r f a g tx tt hT hI hG x  ) (cwV 1 hg (kgV wt5_89 wt5_90 wt5_91 wt1_11 wt5_92) rfl rfl rfl (by decide +kernel) ⟨by decide, by decide⟩) hV hK hP hD hS hA (80) 9 rfl rfl rfl hl.1 rfl (Nat.le_of_ble_eq_true rfl) dX11_whose_5 ⟨Nat.le_refl _, Nat.le_refl _⟩ (fun v2 u3 H locs hw1 hP hD hS => ?_)
  obtain ⟨f4, a5, g6⟩ := u3
  have hP : va_P D vwCl (xX K r f4 a5 g6 tx) H := hP
  have hD : va_D A (xX K r f4 a5 g6 tx) := hD
  have hI : xI f4 a5 := hw1.2.1
  have hG : gOK K g6.2 tt := hw1.2.2.1
  have eE7 : xEk ([1888, 1894, 1900, 1905, 1906, 2565], [60, 61, 62, 63, 64, 65, 66, 67, 68, 69, 70, 71, 72, 77, 78, 79, 83, 85], [73]) f a g f4 a5 g6 := hw1.2.2.2
  have hE : xEk ([1888, 1894, 1900, 1905, 1906, 2565], [60, 61, 62, 63, 64, 65, 66, 67, 68, 69, 70, 71, 72, 77, 78, 79, 83, 85], [73]) f a g f4 a5 g6 := xEk_tr hE eE7
  exact kI_ret (v := v2) hx hb hr hlocks rfl hK hS dX11_whose_8 (f4, a5, g6) hP hD ⟨(kb_any v2), hI, hG, hE⟩
set_option maxHeartbeats 4000000 in
set_option maxRecDepth 100000 in
theorem x_11_look  (l : Launch) {D : va_G} {K : Nat → ClassId} (r : Nat → Nat) (f : Nat → Int32) (a : Nat → Nat → Int32) (g : xG) (tx tt : va_W) (hT : ∀ c ∈ tt, c ∈ tx) (hI : xI f a) (hG : gOK K g.2 tt) (x : Int32)    : kIG l yX11_look (Cond.code yX11_look cX11_look 2 (some .int) :: kG) (rmD 8 0 0) D K [.ref (r 0), .int x] (xX K r f a g tx) (fun v (u : xS) => kb (-2147483648) v 2147483647 ∧ xI u.1 u.2.1 ∧ gOK K u.2.2.2 tt ∧ xEk ([1888, 1894, 1900, 1905, 1906, 2565], [60, 61, 62, 63, 64, 65, 66, 67, 68, 69, 70, 71, 72, 77, 78, 79, 83, 85, 86], [73]) f a g u.1 u.2.1 u.2.2) (fun u => xX K r u.1 u.2.1 u.2.2 tx) 0 0 := by
  refine kIE.of (cc := cX11_look) (maxL := 2) (ret := (some .int)) (by decide) rfl (Nat.le_of_ble_eq_true rfl) ?_
  intro p e s m below meth c A hx hb hr hml hown hts hlocks hnm hK hP hD hS hA hV ls hl
  have hE : xEk ([1888, 1894, 1900, 1905, 1906, 2565], [60, 61, 62, 63, 64, 65, 66, 67, 68, 69, 70, 71, 72, 77, 78, 79, 83, 85, 86], [73]) f a g f a g := xEk_rf
  have hg : ∀ w ∈ kG, w.before _ s = true := fun w h => hts w (List.mem_cons_of_mem _ h)
  have hown : s.vm.findClass RX11 = some m.cls := hown
  have hl : lv_has ls 2 [(0, .ref (r 0)), (1, .int x)] := hl
  refine lv_iload_n hx hb dX11_look_0 rfl (lv_at hl 1 rfl) ?_
  refine lv_if_eq (tgt := 9) hx hb dX11_look_1 (by decide) (fun c1 => ?_) (fun c1 => ?_)
  · have b2 : kb 0 x 0 := kb_eq c1 kc_0
    refine lv_aload_n hx hb dX11_look_9 rfl (lv_at hl 0 rfl) ?_
    refine va_get (D := D) (ci := 11) (v := .ref (r 80)) (C := RX11) (T := TX11) (N := 17) hx hb hg inC11 hown hK hP 0 rfl rfl 6 (by decide) (hg _ wt2_192) (fun _ h9 => h9) rfl dX11_look_10 ?_
    refine lv_iload_n hx hb dX11_look_13 rfl (lv_at hl 1 rfl) ?_
    refine kIG.callW (As := [.int x]) (rest := []) ⟨hx, hb, hml, hown, hg⟩ (x_9_nextLook l r f a g tx tt hT hI hG x  ) (cwV 1 hg (kgV wt5_105 wt5_106 wt5_107 wt1_11 wt5_108) rfl rfl rfl (by decide +kernel) ⟨by decide, by decide⟩) hV hK hP hD hS hA (80) 9 rfl rfl rfl hl.1 rfl (Nat.le_of_ble_eq_true rfl) dX11_look_14 ⟨Nat.le_refl _, Nat.le_refl _⟩ (fun v4 u5 H locs hw3 hP hD hS => ?_)
    obtain ⟨f6, a7, g8⟩ := u5
    have hP : va_P D vwCl (xX K r f6 a7 g8 tx) H := hP
    have hD : va_D A (xX K r f6 a7 g8 tx) := hD
    have hI : xI f6 a7 := hw3.2.1
    have hG : gOK K g8.2 tt := hw3.2.2.1
    have eE9 : xEk ([1888, 1894, 1900, 1905, 1906, 2565], [60, 61, 62, 63, 64, 65, 66, 67, 68, 69, 70, 71, 72, 77, 78, 79, 83, 85, 86], [73]) f a g f6 a7 g8 := hw3.2.2.2
    have hE : xEk ([1888, 1894, 1900, 1905, 1906, 2565], [60, 61, 62, 63, 64, 65, 66, 67, 68, 69, 70, 71, 72, 77, 78, 79, 83, 85, 86], [73]) f a g f6 a7 g8 := xEk_tr hE eE9
    refine lv_goto (tgt := 21) hx hb dX11_look_17 (by decide) ?_
    exact kI_ret (v := v4) hx hb hr hlocks rfl hK hS dX11_look_21 (f6, a7, g8) hP hD ⟨(kb_any v4), hI, hG, hE⟩
  · refine lv_iload_n hx hb dX11_look_4 rfl (lv_at hl 1 rfl) ?_
    refine lv_iconst (v := 1) hx hb dX11_look_5 (by decide) ?_
    refine lv_icmp_ne (tgt := 20) hx hb dX11_look_6 (by decide) (fun c10 => ?_) (fun c10 => ?_)
    · refine lv_iconst (v := (-1)) hx hb dX11_look_20 (by decide) ?_
      exact kI_ret (v := (-1)) hx hb hr hlocks rfl hK hS dX11_look_21 (f, a, g) hP hD ⟨(kb_w kc_m1 (by decide) (by decide)), hI, hG, hE⟩
    · have b11 : kb 1 x 1 := kb_eq c10 kc_1
      refine lv_aload_n hx hb dX11_look_9 rfl (lv_at hl 0 rfl) ?_
      refine va_get (D := D) (ci := 11) (v := .ref (r 80)) (C := RX11) (T := TX11) (N := 17) hx hb hg inC11 hown hK hP 0 rfl rfl 6 (by decide) (hg _ wt2_192) (fun _ h9 => h9) rfl dX11_look_10 ?_
      refine lv_iload_n hx hb dX11_look_13 rfl (lv_at hl 1 rfl) ?_
      refine kIG.callW (As := [.int x]) (rest := []) ⟨hx, hb, hml, hown, hg⟩ (x_9_nextLook l r f a g tx tt hT hI hG x  ) (cwV 1 hg (kgV wt5_105 wt5_106 wt5_107 wt1_11 wt5_108) rfl rfl rfl (by decide +kernel) ⟨by decide, by decide⟩) hV hK hP hD hS hA (80) 9 rfl rfl rfl hl.1 rfl (Nat.le_of_ble_eq_true rfl) dX11_look_14 ⟨Nat.le_refl _, Nat.le_refl _⟩ (fun v13 u14 H locs hw12 hP hD hS => ?_)
      obtain ⟨f15, a16, g17⟩ := u14
      have hP : va_P D vwCl (xX K r f15 a16 g17 tx) H := hP
      have hD : va_D A (xX K r f15 a16 g17 tx) := hD
      have hI : xI f15 a16 := hw12.2.1
      have hG : gOK K g17.2 tt := hw12.2.2.1
      have eE18 : xEk ([1888, 1894, 1900, 1905, 1906, 2565], [60, 61, 62, 63, 64, 65, 66, 67, 68, 69, 70, 71, 72, 77, 78, 79, 83, 85, 86], [73]) f a g f15 a16 g17 := hw12.2.2.2
      have hE : xEk ([1888, 1894, 1900, 1905, 1906, 2565], [60, 61, 62, 63, 64, 65, 66, 67, 68, 69, 70, 71, 72, 77, 78, 79, 83, 85, 86], [73]) f a g f15 a16 g17 := xEk_tr hE eE18
      refine lv_goto (tgt := 21) hx hb dX11_look_17 (by decide) ?_
      exact kI_ret (v := v13) hx hb hr hlocks rfl hK hS dX11_look_21 (f15, a16, g17) hP hD ⟨(kb_any v13), hI, hG, hE⟩
set_option maxHeartbeats 4000000 in
set_option maxRecDepth 100000 in
theorem x_11_nights  (l : Launch) {D : va_G} {K : Nat → ClassId} (r : Nat → Nat) (f : Nat → Int32) (a : Nat → Nat → Int32) (g : xG) (tx tt : va_W) (hT : ∀ c ∈ tt, c ∈ tx) (hI : xI f a) (hG : gOK K g.2 tt) (x : Int32) (y : Int32)    : kIG l yX11_nights (Cond.code yX11_nights cX11_nights 3 (some .int) :: kG) (rmD 6 0 0) D K [.ref (r 0), .int x, .int y] (xX K r f a g tx) (fun v (u : xS) => kb (-2147483648) v 2147483647 ∧ xI u.1 u.2.1 ∧ gOK K u.2.2.2 tt ∧ xEk ([16, 1888, 1894, 1900, 1905, 1906, 2849, 2850], [60, 61, 62, 63, 64, 65, 66, 67, 68, 69, 70, 71, 72, 77, 78, 79, 90, 91, 94], [73]) f a g u.1 u.2.1 u.2.2) (fun u => xX K r u.1 u.2.1 u.2.2 tx) 0 0 := by
  refine kIE.of (cc := cX11_nights) (maxL := 3) (ret := (some .int)) (by decide) rfl (Nat.le_of_ble_eq_true rfl) ?_
  intro p e s m below meth c A hx hb hr hml hown hts hlocks hnm hK hP hD hS hA hV ls hl
  have hE : xEk ([16, 1888, 1894, 1900, 1905, 1906, 2849, 2850], [60, 61, 62, 63, 64, 65, 66, 67, 68, 69, 70, 71, 72, 77, 78, 79, 90, 91, 94], [73]) f a g f a g := xEk_rf
  have hg : ∀ w ∈ kG, w.before _ s = true := fun w h => hts w (List.mem_cons_of_mem _ h)
  have hown : s.vm.findClass RX11 = some m.cls := hown
  have hl : lv_has ls 3 [(0, .ref (r 0)), (1, .int x), (2, .int y)] := hl
  refine lv_iload_n hx hb dX11_nights_0 rfl (lv_at hl 1 rfl) ?_
  refine lv_if_lt (tgt := 22) hx hb dX11_nights_1 (by decide) (fun c1 => ?_) (fun c1 => ?_)
  · have h2 := (kc_lt c1)
    have b3 : kb (-2147483648) x (-1) := kr_lt1 h2 (kb_any x) kc_0 (by decide)
    refine lv_aload_n hx hb dX11_nights_22 rfl (lv_at hl 0 rfl) ?_
    refine lv_iconst (v := (-1)) hx hb dX11_nights_23 (by decide) ?_
    refine kIG.callW (As := [.int (-1)]) (rest := []) ⟨hx, hb, hml, hown, hg⟩ (x_11_refuse l r f a g tx tt hT hI hG (-1)  ) (cwV 1 hg (kgV wt3_7 wt3_9 wp1_0 wt1_1 wt3_10) rfl rfl rfl (by decide +kernel) ⟨by decide, by decide⟩) hV hK hP hD hS hA (0) 11 rfl rfl rfl hl.1 rfl (Nat.le_of_ble_eq_true rfl) dX11_nights_24 ⟨Nat.le_refl _, Nat.le_refl _⟩ (fun v5 u6 H locs hw4 hP hD hS => ?_)
    obtain ⟨f7, a8, g9⟩ := u6
    have hP : va_P D vwCl (xX K r f7 a8 g9 tx) H := hP
    have hD : va_D A (xX K r f7 a8 g9 tx) := hD
    have hI : xI f7 a8 := hw4.2.1
    have hG : gOK K g9.2 tt := hw4.2.2.1
    have eE10 : xEk ([16], [94], []) f a g f7 a8 g9 := hw4.2.2.2.1
    have hE : xEk ([16, 1888, 1894, 1900, 1905, 1906, 2849, 2850], [60, 61, 62, 63, 64, 65, 66, 67, 68, 69, 70, 71, 72, 77, 78, 79, 90, 91, 94], [73]) f a g f7 a8 g9 := xEk_tr hE (xEk_w (by decide +kernel) eE10)
    refine k_top (z := (-1)) hw4.2.2.2.2 ?_
    exact kI_ret (v := (-1)) hx hb hr hlocks rfl hK hS dX11_nights_27 (f7, a8, g9) hP hD ⟨(kb_w kc_m1 (by decide) (by decide)), hI, hG, hE⟩
  · have h11 := (kc_nlt c1)
    have b12 : kb 0 x 2147483647 := kr_le2 h11 kc_0 (kb_any x)
    refine lv_iload_n hx hb dX11_nights_4 rfl (lv_at hl 1 rfl) ?_
    refine lv_ldcw (v := (1000000)) hx hb hown (hg _ wt5_118) dX11_nights_5 ?_
    refine lv_icmp_gt (tgt := 22) hx hb dX11_nights_8 (by decide) (fun c13 => ?_) (fun c13 => ?_)
    · have h14 := (kc_lt c13)
      have b15 : kb 1000001 x 2147483647 := kr_lt2 h14 kc_1000000 b12 (by decide)
      refine lv_aload_n hx hb dX11_nights_22 rfl (lv_at hl 0 rfl) ?_
      refine lv_iconst (v := (-1)) hx hb dX11_nights_23 (by decide) ?_
      refine kIG.callW (As := [.int (-1)]) (rest := []) ⟨hx, hb, hml, hown, hg⟩ (x_11_refuse l r f a g tx tt hT hI hG (-1)  ) (cwV 1 hg (kgV wt3_7 wt3_9 wp1_0 wt1_1 wt3_10) rfl rfl rfl (by decide +kernel) ⟨by decide, by decide⟩) hV hK hP hD hS hA (0) 11 rfl rfl rfl hl.1 rfl (Nat.le_of_ble_eq_true rfl) dX11_nights_24 ⟨Nat.le_refl _, Nat.le_refl _⟩ (fun v17 u18 H locs hw16 hP hD hS => ?_)
      obtain ⟨f19, a20, g21⟩ := u18
      have hP : va_P D vwCl (xX K r f19 a20 g21 tx) H := hP
      have hD : va_D A (xX K r f19 a20 g21 tx) := hD
      have hI : xI f19 a20 := hw16.2.1
      have hG : gOK K g21.2 tt := hw16.2.2.1
      have eE22 : xEk ([16], [94], []) f a g f19 a20 g21 := hw16.2.2.2.1
      have hE : xEk ([16, 1888, 1894, 1900, 1905, 1906, 2849, 2850], [60, 61, 62, 63, 64, 65, 66, 67, 68, 69, 70, 71, 72, 77, 78, 79, 90, 91, 94], [73]) f a g f19 a20 g21 := xEk_tr hE (xEk_w (by decide +kernel) eE22)
      refine k_top (z := (-1)) hw16.2.2.2.2 ?_
      exact kI_ret (v := (-1)) hx hb hr hlocks rfl hK hS dX11_nights_27 (f19, a20, g21) hP hD ⟨(kb_w kc_m1 (by decide) (by decide)), hI, hG, hE⟩
    · have h23 := (kc_nlt c13)
      have b24 : kb 0 x 1000000 := kr_le1 h23 b12 kc_1000000
      refine lv_iload_n hx hb dX11_nights_11 rfl (lv_at hl 2 rfl) ?_
      refine lv_iconst (v := 1) hx hb dX11_nights_12 (by decide) ?_
      refine lv_icmp_lt (tgt := 22) hx hb dX11_nights_13 (by decide) (fun c25 => ?_) (fun c25 => ?_)
      · have h26 := (kc_lt c25)
        have b27 : kb (-2147483648) y 0 := kr_lt1 h26 (kb_any y) kc_1 (by decide)
        refine lv_aload_n hx hb dX11_nights_22 rfl (lv_at hl 0 rfl) ?_
        refine lv_iconst (v := (-1)) hx hb dX11_nights_23 (by decide) ?_
        refine kIG.callW (As := [.int (-1)]) (rest := []) ⟨hx, hb, hml, hown, hg⟩ (x_11_refuse l r f a g tx tt hT hI hG (-1)  ) (cwV 1 hg (kgV wt3_7 wt3_9 wp1_0 wt1_1 wt3_10) rfl rfl rfl (by decide +kernel) ⟨by decide, by decide⟩) hV hK hP hD hS hA (0) 11 rfl rfl rfl hl.1 rfl (Nat.le_of_ble_eq_true rfl) dX11_nights_24 ⟨Nat.le_refl _, Nat.le_refl _⟩ (fun v29 u30 H locs hw28 hP hD hS => ?_)
        obtain ⟨f31, a32, g33⟩ := u30
        have hP : va_P D vwCl (xX K r f31 a32 g33 tx) H := hP
        have hD : va_D A (xX K r f31 a32 g33 tx) := hD
        have hI : xI f31 a32 := hw28.2.1
        have hG : gOK K g33.2 tt := hw28.2.2.1
        have eE34 : xEk ([16], [94], []) f a g f31 a32 g33 := hw28.2.2.2.1
        have hE : xEk ([16, 1888, 1894, 1900, 1905, 1906, 2849, 2850], [60, 61, 62, 63, 64, 65, 66, 67, 68, 69, 70, 71, 72, 77, 78, 79, 90, 91, 94], [73]) f a g f31 a32 g33 := xEk_tr hE (xEk_w (by decide +kernel) eE34)
        refine k_top (z := (-1)) hw28.2.2.2.2 ?_
        exact kI_ret (v := (-1)) hx hb hr hlocks rfl hK hS dX11_nights_27 (f31, a32, g33) hP hD ⟨(kb_w kc_m1 (by decide) (by decide)), hI, hG, hE⟩
      · have h35 := (kc_nlt c25)
        have b36 : kb 1 y 2147483647 := kr_le2 h35 kc_1 (kb_any y)
        refine lv_iload_n hx hb dX11_nights_16 rfl (lv_at hl 2 rfl) ?_
        refine lv_bipush (v := 20) hx hb dX11_nights_17 (by decide) ?_
        refine lv_icmp_le (tgt := 28) hx hb dX11_nights_19 (by decide) (fun c37 => ?_) (fun c37 => ?_)
        · have h38 := (kc_le c37)
          have b39 : kb 1 y 20 := kr_le1 h38 b36 kc_20
          refine lv_aload_n hx hb dX11_nights_28 rfl (lv_at hl 0 rfl) ?_
          refine lv_aload_n hx hb dX11_nights_29 rfl (lv_at hl 0 rfl) ?_
          refine va_get (D := D) (ci := 11) (v := .ref (r 89)) (C := RX11) (T := TX11) (N := 17) hx hb hg inC11 hown hK hP 0 rfl rfl 8 (by decide) (hg _ wt2_194) (fun _ h9 => h9) rfl dX11_nights_30 ?_
          refine lv_iload_n hx hb dX11_nights_33 rfl (lv_at hl 1 rfl) ?_
          refine lv_iload_n hx hb dX11_nights_34 rfl (lv_at hl 2 rfl) ?_
          refine kIG.callW (As := [.int x, .int y]) (rest := [.ref (r 0)]) ⟨hx, hb, hml, hown, hg⟩ (x_1_drawNights l r f a g tx tt hT hI hG x y b39 ) (cwV 2 hg (kgV wt5_119 wt5_120 wt5_121 wt1_13 wt5_122) rfl rfl rfl (by decide +kernel) ⟨by decide, by decide⟩) hV hK hP hD hS hA (89) 1 rfl rfl rfl hl.1 rfl (Nat.le_of_ble_eq_true rfl) dX11_nights_35 ⟨Nat.le_refl _, Nat.le_refl _⟩ (fun v41 u42 H locs hw40 hP hD hS => ?_)
          obtain ⟨f43, a44, g45⟩ := u42
          have hP : va_P D vwCl (xX K r f43 a44 g45 tx) H := hP
          have hD : va_D A (xX K r f43 a44 g45 tx) := hD
          have hI : xI f43 a44 := hw40.2.1
          have hG : gOK K g45.2 tt := hw40.2.2.1
          have eE46 : xEk ([1888, 1894, 1900, 1905, 1906, 2849, 2850], [60, 61, 62, 63, 64, 65, 66, 67, 68, 69, 70, 71, 72, 77, 78, 79, 90, 91], [73]) f a g f43 a44 g45 := hw40.2.2.2
          have hE : xEk ([16, 1888, 1894, 1900, 1905, 1906, 2849, 2850], [60, 61, 62, 63, 64, 65, 66, 67, 68, 69, 70, 71, 72, 77, 78, 79, 90, 91, 94], [73]) f a g f43 a44 g45 := xEk_tr hE (xEk_w (by decide +kernel) eE46)
          refine kIG.callW (As := [.int v41]) (rest := []) ⟨hx, hb, hml, hown, hg⟩ (x_11_agree l r f43 a44 g45 tx tt hT hI hG v41  ) (cwV 1 hg (kgV wt3_27 wt3_29 wp1_2 wt1_1 wt3_30) rfl rfl rfl (by decide +kernel) ⟨by decide, by decide⟩) hV hK hP hD hS hA (0) 11 rfl rfl rfl hl.1 rfl (Nat.le_of_ble_eq_true rfl) dX11_nights_38 ⟨Nat.le_refl _, Nat.le_refl _⟩ (fun v48 u49 H locs hw47 hP hD hS => ?_)
          obtain ⟨f50, a51, g52⟩ := u49
          have hP : va_P D vwCl (xX K r f50 a51 g52 tx) H := hP
          have hD : va_D A (xX K r f50 a51 g52 tx) := hD
          have hI : xI f50 a51 := hw47.2.1
          have hG : gOK K g52.2 tt := hw47.2.2.1
          have eE53 : xEk ([16], [], []) f43 a44 g45 f50 a51 g52 := hw47.2.2.2.1
          have hE : xEk ([16, 1888, 1894, 1900, 1905, 1906, 2849, 2850], [60, 61, 62, 63, 64, 65, 66, 67, 68, 69, 70, 71, 72, 77, 78, 79, 90, 91, 94], [73]) f a g f50 a51 g52 := xEk_tr hE (xEk_w (by decide +kernel) eE53)
          refine k_top (z := v41) hw47.2.2.2.2 ?_
          exact kI_ret (v := v41) hx hb hr hlocks rfl hK hS dX11_nights_41 (f50, a51, g52) hP hD ⟨(kb_any v41), hI, hG, hE⟩
        · have h54 := (kc_nle c37)
          have b55 : kb 21 y 2147483647 := kr_lt2 h54 kc_20 b36 (by decide)
          refine lv_aload_n hx hb dX11_nights_22 rfl (lv_at hl 0 rfl) ?_
          refine lv_iconst (v := (-1)) hx hb dX11_nights_23 (by decide) ?_
          refine kIG.callW (As := [.int (-1)]) (rest := []) ⟨hx, hb, hml, hown, hg⟩ (x_11_refuse l r f a g tx tt hT hI hG (-1)  ) (cwV 1 hg (kgV wt3_7 wt3_9 wp1_0 wt1_1 wt3_10) rfl rfl rfl (by decide +kernel) ⟨by decide, by decide⟩) hV hK hP hD hS hA (0) 11 rfl rfl rfl hl.1 rfl (Nat.le_of_ble_eq_true rfl) dX11_nights_24 ⟨Nat.le_refl _, Nat.le_refl _⟩ (fun v57 u58 H locs hw56 hP hD hS => ?_)
          obtain ⟨f59, a60, g61⟩ := u58
          have hP : va_P D vwCl (xX K r f59 a60 g61 tx) H := hP
          have hD : va_D A (xX K r f59 a60 g61 tx) := hD
          have hI : xI f59 a60 := hw56.2.1
          have hG : gOK K g61.2 tt := hw56.2.2.1
          have eE62 : xEk ([16], [94], []) f a g f59 a60 g61 := hw56.2.2.2.1
          have hE : xEk ([16, 1888, 1894, 1900, 1905, 1906, 2849, 2850], [60, 61, 62, 63, 64, 65, 66, 67, 68, 69, 70, 71, 72, 77, 78, 79, 90, 91, 94], [73]) f a g f59 a60 g61 := xEk_tr hE (xEk_w (by decide +kernel) eE62)
          refine k_top (z := (-1)) hw56.2.2.2.2 ?_
          exact kI_ret (v := (-1)) hx hb hr hlocks rfl hK hS dX11_nights_27 (f59, a60, g61) hP hD ⟨(kb_w kc_m1 (by decide) (by decide)), hI, hG, hE⟩
set_option maxHeartbeats 4000000 in
set_option maxRecDepth 100000 in
theorem x_11_drawn  (l : Launch) {D : va_G} {K : Nat → ClassId} (r : Nat → Nat) (f : Nat → Int32) (a : Nat → Nat → Int32) (g : xG) (tx tt : va_W) (hT : ∀ c ∈ tt, c ∈ tx) (hI : xI f a) (hG : gOK K g.2 tt) (x : Int32) (y : Int32)    : kIG l yX11_drawn (Cond.code yX11_drawn cX11_drawn 3 (some .int) :: kG) (rmD 2 0 0) D K [.ref (r 0), .int x, .int y] (xX K r f a g tx) (fun v (_ : Unit) => kb (-2147483648) v 2147483647) (fun _ => xX K r f a g tx) 0 0 := by
  refine kIE.of (cc := cX11_drawn) (maxL := 3) (ret := (some .int)) (by decide) rfl (Nat.le_of_ble_eq_true rfl) ?_
  intro p e s m below meth c A hx hb hr hml hown hts hlocks hnm hK hP hD hS hA hV ls hl
  have hg : ∀ w ∈ kG, w.before _ s = true := fun w h => hts w (List.mem_cons_of_mem _ h)
  have hown : s.vm.findClass RX11 = some m.cls := hown
  have hl : lv_has ls 3 [(0, .ref (r 0)), (1, .int x), (2, .int y)] := hl
  refine lv_aload_n hx hb dX11_drawn_0 rfl (lv_at hl 0 rfl) ?_
  refine va_get (D := D) (ci := 11) (v := .ref (r 89)) (C := RX11) (T := TX11) (N := 17) hx hb hg inC11 hown hK hP 0 rfl rfl 8 (by decide) (hg _ wt2_194) (fun _ h9 => h9) rfl dX11_drawn_1 ?_
  refine lv_iload_n hx hb dX11_drawn_4 rfl (lv_at hl 1 rfl) ?_
  refine lv_iload_n hx hb dX11_drawn_5 rfl (lv_at hl 2 rfl) ?_
  refine kIG.callW (As := [.int x, .int y]) (rest := []) ⟨hx, hb, hml, hown, hg⟩ (x_1_endOf l r f a g tx tt hT hI hG x y  ) (cwV 2 hg (kgV wt5_133 wt5_134 wt5_135 wt1_13 wt5_136) rfl rfl rfl (by decide +kernel) ⟨by decide, by decide⟩) hV hK hP hD hS hA (89) 1 rfl rfl rfl hl.1 rfl (Nat.le_of_ble_eq_true rfl) dX11_drawn_6 ⟨Nat.le_refl _, Nat.le_refl _⟩ (fun v2 u3 H locs hw1 hP hD hS => ?_)
  have hP : va_P D vwCl (xX K r f a g tx) H := hP
  have hD : va_D A (xX K r f a g tx) := hD
  exact kI_ret (v := v2) hx hb hr hlocks rfl hK hS dX11_drawn_9 () hP hD (kb_any v2)
set_option maxHeartbeats 4000000 in
set_option maxRecDepth 100000 in
theorem x_11_count  (l : Launch) {D : va_G} {K : Nat → ClassId} (r : Nat → Nat) (f : Nat → Int32) (a : Nat → Nat → Int32) (g : xG) (tx tt : va_W) (hT : ∀ c ∈ tt, c ∈ tx) (hI : xI f a) (hG : gOK K g.2 tt) (x : Int32)    : kIG l yX11_count (Cond.code yX11_count cX11_count 2 (some .int) :: kG) (rmD 2 0 0) D K [.ref (r 0), .int x] (xX K r f a g tx) (fun v (_ : Unit) => kb (-2147483648) v 2147483647) (fun _ => xX K r f a g tx) 0 0 := by
  refine kIE.of (cc := cX11_count) (maxL := 2) (ret := (some .int)) (by decide) rfl (Nat.le_of_ble_eq_true rfl) ?_
  intro p e s m below meth c A hx hb hr hml hown hts hlocks hnm hK hP hD hS hA hV ls hl
  have hg : ∀ w ∈ kG, w.before _ s = true := fun w h => hts w (List.mem_cons_of_mem _ h)
  have hown : s.vm.findClass RX11 = some m.cls := hown
  have hl : lv_has ls 2 [(0, .ref (r 0)), (1, .int x)] := hl
  refine lv_iload_n hx hb dX11_count_0 rfl (lv_at hl 1 rfl) ?_
  refine lv_bipush (v := 7) hx hb dX11_count_1 (by decide) ?_
  refine lv_icmp_lt (tgt := 22) hx hb dX11_count_3 (by decide) (fun c1 => ?_) (fun c1 => ?_)
  · have h2 := (kc_lt c1)
    have b3 : kb (-2147483648) x 6 := kr_lt1 h2 (kb_any x) kc_7 (by decide)
    refine lv_iload_n hx hb dX11_count_22 rfl (lv_at hl 1 rfl) ?_
    refine lv_bipush (v := 13) hx hb dX11_count_23 (by decide) ?_
    refine lv_icmp_lt (tgt := 47) hx hb dX11_count_25 (by decide) (fun c4 => ?_) (fun c4 => ?_)
    · have h5 := (kc_lt c4)
      refine lv_iload_n hx hb dX11_count_47 rfl (lv_at hl 1 rfl) ?_
      by_cases q6 : x = 0
      · have b7 : kb 0 x 0 := kb_eq q6 kc_0
        refine lv_tableIn (tgt := 116) hx hb dX11_count_48 (by rw [q6]; decide +kernel) (by rw [q6]; decide +kernel) (by rw [q6]; rfl) (by decide) ?_
        refine lv_aload_n hx hb dX11_count_116 rfl (lv_at hl 0 rfl) ?_
        refine va_get (D := D) (ci := 11) (v := .ref (r 1)) (C := RX11) (T := TX11) (N := 17) hx hb hg inC11 hown hK hP 0 rfl rfl 0 (by decide) (hg _ wt2_186) (fun _ h9 => h9) rfl dX11_count_117 ?_
        refine va_get (D := D) (ci := 7) (v := .int (f 32)) (C := RX7) (T := TX7) (N := 20) hx hb hg inC7 hown hK hP 1 rfl rfl 0 (by decide) (hg _ wt1_85) (fun _ h9 => h9) rfl dX11_count_120 ?_
        refine lv_topi (fun t8 et8 => ?_)
        have b9 : kb 0 t8 10 := kb_eq et8 (fI_at hI.1 32 (by decide) (by decide))
        exact kI_ret (v := t8) hx hb hr hlocks rfl hK hS dX11_count_123 () hP hD (kb_w b9 (by decide) (by decide))
      by_cases q10 : x = 1
      · have b11 : kb 1 x 1 := kb_eq q10 kc_1
        refine lv_tableIn (tgt := 124) hx hb dX11_count_48 (by rw [q10]; decide +kernel) (by rw [q10]; decide +kernel) (by rw [q10]; rfl) (by decide) ?_
        refine lv_aload_n hx hb dX11_count_124 rfl (lv_at hl 0 rfl) ?_
        refine va_get (D := D) (ci := 11) (v := .ref (r 1)) (C := RX11) (T := TX11) (N := 17) hx hb hg inC11 hown hK hP 0 rfl rfl 0 (by decide) (hg _ wt2_186) (fun _ h9 => h9) rfl dX11_count_125 ?_
        refine kIG.callW (As := []) (rest := []) ⟨hx, hb, hml, hown, hg⟩ (x_7_upMask l r f a g tx tt hT hI hG   ) (cwV 0 hg (kgV wt4_164 wt3_44 wt3_45 wt1_2 wt3_46) rfl rfl rfl (by decide +kernel) ⟨by decide, by decide⟩) hV hK hP hD hS hA (1) 7 rfl rfl rfl hl.1 rfl (Nat.le_of_ble_eq_true rfl) dX11_count_128 ⟨Nat.le_refl _, Nat.le_refl _⟩ (fun v13 u14 H locs hw12 hP hD hS => ?_)
        have hP : va_P D vwCl (xX K r f a g tx) H := hP
        have hD : va_D A (xX K r f a g tx) := hD
        refine kN.callS (As := [.int v13]) (rest := []) ⟨hx, hb, hml, hown, hg⟩ (x_bitCount l v13 ) (va_cwS 1 hg (kgS wt5_42 wt4_99 wt1_21 wt4_100) rfl rfl rfl (by decide +kernel) ⟨by decide, by decide⟩) hP hS rfl hl.1 rfl (Nat.le_of_ble_eq_true rfl) dX11_count_131 ⟨Nat.le_refl _, Nat.le_refl _⟩ (fun v16 H locs hw15 hP hS => ?_)
        have hP : va_P D vwCl (xX K r f a g tx) H := hP
        exact kI_ret (v := v16) hx hb hr hlocks rfl hK hS dX11_count_134 () hP hD (kb_w hw15 (by decide) (by decide))
      by_cases q17 : x = 2
      · have b18 : kb 2 x 2 := kb_eq q17 kc_2
        refine lv_tableIn (tgt := 135) hx hb dX11_count_48 (by rw [q17]; decide +kernel) (by rw [q17]; decide +kernel) (by rw [q17]; rfl) (by decide) ?_
        refine lv_aload_n hx hb dX11_count_135 rfl (lv_at hl 0 rfl) ?_
        refine va_get (D := D) (ci := 11) (v := .ref (r 1)) (C := RX11) (T := TX11) (N := 17) hx hb hg inC11 hown hK hP 0 rfl rfl 0 (by decide) (hg _ wt2_186) (fun _ h9 => h9) rfl dX11_count_136 ?_
        refine va_get (D := D) (ci := 7) (v := .int (f 38)) (C := RX7) (T := TX7) (N := 20) hx hb hg inC7 hown hK hP 1 rfl rfl 6 (by decide) (hg _ wt1_109) (fun _ h9 => h9) rfl dX11_count_139 ?_
        refine lv_topi (fun t19 et19 => ?_)
        exact kI_ret (v := t19) hx hb hr hlocks rfl hK hS dX11_count_142 () hP hD (kb_any t19)
      by_cases q20 : x = 3
      · have b21 : kb 3 x 3 := kb_eq q20 kc_3
        refine lv_tableIn (tgt := 143) hx hb dX11_count_48 (by rw [q20]; decide +kernel) (by rw [q20]; decide +kernel) (by rw [q20]; rfl) (by decide) ?_
        refine lv_aload_n hx hb dX11_count_143 rfl (lv_at hl 0 rfl) ?_
        refine va_get (D := D) (ci := 11) (v := .ref (r 1)) (C := RX11) (T := TX11) (N := 17) hx hb hg inC11 hown hK hP 0 rfl rfl 0 (by decide) (hg _ wt2_186) (fun _ h9 => h9) rfl dX11_count_144 ?_
        refine va_get (D := D) (ci := 7) (v := .int (f 44)) (C := RX7) (T := TX7) (N := 20) hx hb hg inC7 hown hK hP 1 rfl rfl 12 (by decide) (hg _ wt1_137) (fun _ h9 => h9) rfl dX11_count_147 ?_
        refine lv_topi (fun t22 et22 => ?_)
        exact kI_ret (v := t22) hx hb hr hlocks rfl hK hS dX11_count_150 () hP hD (kb_any t22)
      by_cases q23 : x = 4
      · have b24 : kb 4 x 4 := kb_eq q23 kc_4
        refine lv_tableIn (tgt := 151) hx hb dX11_count_48 (by rw [q23]; decide +kernel) (by rw [q23]; decide +kernel) (by rw [q23]; rfl) (by decide) ?_
        refine lv_aload_n hx hb dX11_count_151 rfl (lv_at hl 0 rfl) ?_
        refine va_get (D := D) (ci := 11) (v := .ref (r 1)) (C := RX11) (T := TX11) (N := 17) hx hb hg inC11 hown hK hP 0 rfl rfl 0 (by decide) (hg _ wt2_186) (fun _ h9 => h9) rfl dX11_count_152 ?_
        refine va_get (D := D) (ci := 7) (v := .int (f 49)) (C := RX7) (T := TX7) (N := 20) hx hb hg inC7 hown hK hP 1 rfl rfl 17 (by decide) (hg _ wt1_150) (fun _ h9 => h9) rfl dX11_count_155 ?_
        refine lv_topi (fun t25 et25 => ?_)
        exact kI_ret (v := t25) hx hb hr hlocks rfl hK hS dX11_count_158 () hP hD (kb_any t25)
      by_cases q26 : x = 5
      · have b27 : kb 5 x 5 := kb_eq q26 kc_5
        refine lv_tableIn (tgt := 159) hx hb dX11_count_48 (by rw [q26]; decide +kernel) (by rw [q26]; decide +kernel) (by rw [q26]; rfl) (by decide) ?_
        refine lv_aload_n hx hb dX11_count_159 rfl (lv_at hl 0 rfl) ?_
        refine va_get (D := D) (ci := 11) (v := .ref (r 22)) (C := RX11) (T := TX11) (N := 17) hx hb hg inC11 hown hK hP 0 rfl rfl 1 (by decide) (hg _ wt2_187) (fun _ h9 => h9) rfl dX11_count_160 ?_
        refine va_get (D := D) (ci := 2) (v := .int (f 704)) (C := RX2) (T := TX2) (N := 3) hx hb hg inC2 hown hK hP 22 rfl rfl 0 (by decide) (hg _ wt1_206) (fun _ h9 => h9) rfl dX11_count_163 ?_
        refine lv_topi (fun t28 et28 => ?_)
        exact kI_ret (v := t28) hx hb hr hlocks rfl hK hS dX11_count_166 () hP hD (kb_any t28)
      by_cases q29 : x = 6
      · have b30 : kb 6 x 6 := kb_eq q29 kc_6
        refine lv_tableIn (tgt := 167) hx hb dX11_count_48 (by rw [q29]; decide +kernel) (by rw [q29]; decide +kernel) (by rw [q29]; rfl) (by decide) ?_
        refine lv_aload_n hx hb dX11_count_167 rfl (lv_at hl 0 rfl) ?_
        refine va_get (D := D) (ci := 11) (v := .int (f 12)) (C := RX11) (T := TX11) (N := 17) hx hb hg inC11 hown hK hP 0 rfl rfl 12 (by decide) (hg _ wt2_198) (fun _ h9 => h9) rfl dX11_count_168 ?_
        refine lv_topi (fun t31 et31 => ?_)
        have b32 : kb 0 t31 400 := kb_eq et31 (fI_at hI.1 12 (by decide) (by decide))
        exact kI_ret (v := t31) hx hb hr hlocks rfl hK hS dX11_count_171 () hP hD (kb_w b32 (by decide) (by decide))
      by_cases q33 : x = 7
      · exact kb_dj q33 b3 kc_7 (by decide)
      by_cases q34 : x = 8
      · exact kb_dj q34 b3 kc_8 (by decide)
      by_cases q35 : x = 9
      · exact kb_dj q35 b3 kc_9 (by decide)
      by_cases q36 : x = 10
      · exact kb_dj q36 b3 kc_10 (by decide)
      by_cases q37 : x = 11
      · exact kb_dj q37 b3 kc_11 (by decide)
      by_cases q38 : x = 12
      · exact kb_dj q38 b3 kc_12 (by decide)
      refine lv_tableOut (tgt := 180) hx hb dX11_count_48 (by have gq6 := lv_neT q6 (a := 0) (by decide +kernel); have gq10 := lv_neT q10 (a := 1) (by decide +kernel); have gq17 := lv_neT q17 (a := 2) (by decide +kernel); have gq20 := lv_neT q20 (a := 3) (by decide +kernel); have gq23 := lv_neT q23 (a := 4) (by decide +kernel); have gq26 := lv_neT q26 (a := 5) (by decide +kernel); have gq29 := lv_neT q29 (a := 6) (by decide +kernel); have gq33 := lv_neT q33 (a := 7) (by decide +kernel); have gq34 := lv_neT q34 (a := 8) (by decide +kernel); have gq35 := lv_neT q35 (a := 9) (by decide +kernel); have gq36 := lv_neT q36 (a := 10) (by decide +kernel); have gq37 := lv_neT q37 (a := 11) (by decide +kernel); have gq38 := lv_neT q38 (a := 12) (by decide +kernel); omega) (by decide) ?_
      refine lv_iconst (v := (-1)) hx hb dX11_count_180 (by decide) ?_
      exact kI_ret (v := (-1)) hx hb hr hlocks rfl hK hS dX11_count_181 () hP hD (kb_w kc_m1 (by decide) (by decide))
    · have h39 := (kc_nlt c4)
      exact kb_no (kr_le1 h39 kc_13 b3) (by decide)
  · have h40 := (kc_nlt c1)
    have b41 : kb 7 x 2147483647 := kr_le2 h40 kc_7 (kb_any x)
    refine lv_iload_n hx hb dX11_count_6 rfl (lv_at hl 1 rfl) ?_
    refine lv_bipush (v := 11) hx hb dX11_count_7 (by decide) ?_
    refine lv_icmp_gt (tgt := 22) hx hb dX11_count_9 (by decide) (fun c42 => ?_) (fun c42 => ?_)
    · have h43 := (kc_lt c42)
      have b44 : kb 12 x 2147483647 := kr_lt2 h43 kc_11 b41 (by decide)
      refine lv_iload_n hx hb dX11_count_22 rfl (lv_at hl 1 rfl) ?_
      refine lv_bipush (v := 13) hx hb dX11_count_23 (by decide) ?_
      refine lv_icmp_lt (tgt := 47) hx hb dX11_count_25 (by decide) (fun c45 => ?_) (fun c45 => ?_)
      · have h46 := (kc_lt c45)
        have b47 : kb 12 x 12 := kr_lt1 h46 b44 kc_13 (by decide)
        refine lv_iload_n hx hb dX11_count_47 rfl (lv_at hl 1 rfl) ?_
        by_cases q48 : x = 0
        · exact kb_dj q48 b47 kc_0 (by decide)
        by_cases q49 : x = 1
        · exact kb_dj q49 b47 kc_1 (by decide)
        by_cases q50 : x = 2
        · exact kb_dj q50 b47 kc_2 (by decide)
        by_cases q51 : x = 3
        · exact kb_dj q51 b47 kc_3 (by decide)
        by_cases q52 : x = 4
        · exact kb_dj q52 b47 kc_4 (by decide)
        by_cases q53 : x = 5
        · exact kb_dj q53 b47 kc_5 (by decide)
        by_cases q54 : x = 6
        · exact kb_dj q54 b47 kc_6 (by decide)
        by_cases q55 : x = 7
        · exact kb_dj q55 b47 kc_7 (by decide)
        by_cases q56 : x = 8
        · exact kb_dj q56 b47 kc_8 (by decide)
        by_cases q57 : x = 9
        · exact kb_dj q57 b47 kc_9 (by decide)
        by_cases q58 : x = 10
        · exact kb_dj q58 b47 kc_10 (by decide)
        by_cases q59 : x = 11
        · exact kb_dj q59 b47 kc_11 (by decide)
        by_cases q60 : x = 12
        · refine lv_tableIn (tgt := 172) hx hb dX11_count_48 (by rw [q60]; decide +kernel) (by rw [q60]; decide +kernel) (by rw [q60]; rfl) (by decide) ?_
          refine lv_aload_n hx hb dX11_count_172 rfl (lv_at hl 0 rfl) ?_
          refine va_get (D := D) (ci := 11) (v := .ref (r 1)) (C := RX11) (T := TX11) (N := 17) hx hb hg inC11 hown hK hP 0 rfl rfl 0 (by decide) (hg _ wt2_186) (fun _ h9 => h9) rfl dX11_count_173 ?_
          refine va_get (D := D) (ci := 7) (v := .int (f 50)) (C := RX7) (T := TX7) (N := 20) hx hb hg inC7 hown hK hP 1 rfl rfl 18 (by decide) (hg _ wt1_153) (fun _ h9 => h9) rfl dX11_count_176 ?_
          refine lv_topi (fun t61 et61 => ?_)
          exact kI_ret (v := t61) hx hb hr hlocks rfl hK hS dX11_count_179 () hP hD (kb_any t61)
        refine lv_tableOut (tgt := 180) hx hb dX11_count_48 (by have gq48 := lv_neT q48 (a := 0) (by decide +kernel); have gq49 := lv_neT q49 (a := 1) (by decide +kernel); have gq50 := lv_neT q50 (a := 2) (by decide +kernel); have gq51 := lv_neT q51 (a := 3) (by decide +kernel); have gq52 := lv_neT q52 (a := 4) (by decide +kernel); have gq53 := lv_neT q53 (a := 5) (by decide +kernel); have gq54 := lv_neT q54 (a := 6) (by decide +kernel); have gq55 := lv_neT q55 (a := 7) (by decide +kernel); have gq56 := lv_neT q56 (a := 8) (by decide +kernel); have gq57 := lv_neT q57 (a := 9) (by decide +kernel); have gq58 := lv_neT q58 (a := 10) (by decide +kernel); have gq59 := lv_neT q59 (a := 11) (by decide +kernel); have gq60 := lv_neT q60 (a := 12) (by decide +kernel); omega) (by decide) ?_
        refine lv_iconst (v := (-1)) hx hb dX11_count_180 (by decide) ?_
        exact kI_ret (v := (-1)) hx hb hr hlocks rfl hK hS dX11_count_181 () hP hD (kb_w kc_m1 (by decide) (by decide))
      · have h62 := (kc_nlt c45)
        have b63 : kb 13 x 2147483647 := kr_le2 h62 kc_13 b44
        refine lv_iload_n hx hb dX11_count_28 rfl (lv_at hl 1 rfl) ?_
        refine lv_bipush (v := 16) hx hb dX11_count_29 (by decide) ?_
        refine lv_icmp_gt (tgt := 47) hx hb dX11_count_31 (by decide) (fun c64 => ?_) (fun c64 => ?_)
        · have h65 := (kc_lt c64)
          have b66 : kb 17 x 2147483647 := kr_lt2 h65 kc_16 b63 (by decide)
          refine lv_iload_n hx hb dX11_count_47 rfl (lv_at hl 1 rfl) ?_
          by_cases q67 : x = 0
          · exact kb_dj q67 b66 kc_0 (by decide)
          by_cases q68 : x = 1
          · exact kb_dj q68 b66 kc_1 (by decide)
          by_cases q69 : x = 2
          · exact kb_dj q69 b66 kc_2 (by decide)
          by_cases q70 : x = 3
          · exact kb_dj q70 b66 kc_3 (by decide)
          by_cases q71 : x = 4
          · exact kb_dj q71 b66 kc_4 (by decide)
          by_cases q72 : x = 5
          · exact kb_dj q72 b66 kc_5 (by decide)
          by_cases q73 : x = 6
          · exact kb_dj q73 b66 kc_6 (by decide)
          by_cases q74 : x = 7
          · exact kb_dj q74 b66 kc_7 (by decide)
          by_cases q75 : x = 8
          · exact kb_dj q75 b66 kc_8 (by decide)
          by_cases q76 : x = 9
          · exact kb_dj q76 b66 kc_9 (by decide)
          by_cases q77 : x = 10
          · exact kb_dj q77 b66 kc_10 (by decide)
          by_cases q78 : x = 11
          · exact kb_dj q78 b66 kc_11 (by decide)
          by_cases q79 : x = 12
          · exact kb_dj q79 b66 kc_12 (by decide)
          refine lv_tableOut (tgt := 180) hx hb dX11_count_48 (by have gq67 := lv_neT q67 (a := 0) (by decide +kernel); have gq68 := lv_neT q68 (a := 1) (by decide +kernel); have gq69 := lv_neT q69 (a := 2) (by decide +kernel); have gq70 := lv_neT q70 (a := 3) (by decide +kernel); have gq71 := lv_neT q71 (a := 4) (by decide +kernel); have gq72 := lv_neT q72 (a := 5) (by decide +kernel); have gq73 := lv_neT q73 (a := 6) (by decide +kernel); have gq74 := lv_neT q74 (a := 7) (by decide +kernel); have gq75 := lv_neT q75 (a := 8) (by decide +kernel); have gq76 := lv_neT q76 (a := 9) (by decide +kernel); have gq77 := lv_neT q77 (a := 10) (by decide +kernel); have gq78 := lv_neT q78 (a := 11) (by decide +kernel); have gq79 := lv_neT q79 (a := 12) (by decide +kernel); omega) (by decide) ?_
          refine lv_iconst (v := (-1)) hx hb dX11_count_180 (by decide) ?_
          exact kI_ret (v := (-1)) hx hb hr hlocks rfl hK hS dX11_count_181 () hP hD (kb_w kc_m1 (by decide) (by decide))
        · have h80 := (kc_nlt c64)
          have b81 : kb 13 x 16 := kr_le1 h80 b63 kc_16
          refine lv_aload_n hx hb dX11_count_34 rfl (lv_at hl 0 rfl) ?_
          refine va_get (D := D) (ci := 11) (v := .ref (r 1)) (C := RX11) (T := TX11) (N := 17) hx hb hg inC11 hown hK hP 0 rfl rfl 0 (by decide) (hg _ wt2_186) (fun _ h9 => h9) rfl dX11_count_35 ?_
          refine va_get (D := D) (ci := 7) (v := .ref (r 11)) (C := RX7) (T := TX7) (N := 20) hx hb hg inC7 hown hK hP 1 rfl rfl 11 (by decide) (hg _ wt1_134) (fun _ h9 => h9) rfl dX11_count_38 ?_
          refine lv_iload_n hx hb dX11_count_41 rfl (lv_at hl 1 rfl) ?_
          refine lv_bipush (v := 13) hx hb dX11_count_42 (by decide) ?_
          refine lv_isub hx hb dX11_count_44 ?_
          refine lv_topi (fun t82 et82 => ?_)
          have b83 : kb 0 t82 3 := kb_eq et82 (kb_sub b81 kc_13 (by decide) (by decide))
          have qt82 : t82.toInt = x.toInt - 13 := by rw [et82]; exact kt_subc b81 kc_13 (by decide) (by decide)
          refine va_iald hx hb hK hP 11 0 rfl rfl (kb_in b83 (by decide) (by decide)) dX11_count_45 ?_
          refine lv_topi (fun t84 et84 => ?_)
          exact kI_ret (v := t84) hx hb hr hlocks rfl hK hS dX11_count_46 () hP hD (kb_any t84)
    · have h85 := (kc_nlt c42)
      have b86 : kb 7 x 11 := kr_le1 h85 b41 kc_11
      refine lv_aload_n hx hb dX11_count_12 rfl (lv_at hl 0 rfl) ?_
      refine va_get (D := D) (ci := 11) (v := .ref (r 94)) (C := RX11) (T := TX11) (N := 17) hx hb hg inC11 hown hK hP 0 rfl rfl 11 (by decide) (hg _ wt2_197) (fun _ h9 => h9) rfl dX11_count_13 ?_
      refine lv_iload_n hx hb dX11_count_16 rfl (lv_at hl 1 rfl) ?_
      refine lv_bipush (v := 7) hx hb dX11_count_17 (by decide) ?_
      refine lv_isub hx hb dX11_count_19 ?_
      refine lv_topi (fun t87 et87 => ?_)
      have b88 : kb 0 t87 4 := kb_eq et87 (kb_sub b86 kc_7 (by decide) (by decide))
      have qt87 : t87.toInt = x.toInt - 7 := by rw [et87]; exact kt_subc b86 kc_7 (by decide) (by decide)
      refine va_iald hx hb hK hP 94 0 rfl rfl (kb_in b88 (by decide) (by decide)) dX11_count_20 ?_
      refine lv_topi (fun t89 et89 => ?_)
      exact kI_ret (v := t89) hx hb hr hlocks rfl hK hS dX11_count_21 () hP hD (kb_any t89)
set_option maxHeartbeats 4000000 in
set_option maxRecDepth 100000 in
theorem x_11_end  (l : Launch) {D : va_G} {K : Nat → ClassId} (r : Nat → Nat) (f : Nat → Int32) (a : Nat → Nat → Int32) (g : xG) (tx tt : va_W) (hT : ∀ c ∈ tt, c ∈ tx) (hI : xI f a) (hG : gOK K g.2 tt) (x : Int32)    : kIG l yX11_end (Cond.code yX11_end cX11_end 2 (some .int) :: kG) (rmD 1 0 0) D K [.ref (r 0), .int x] (xX K r f a g tx) (fun v (u : xS) => kb (-2147483648) v 2147483647 ∧ xI u.1 u.2.1 ∧ gOK K u.2.2.2 tt ∧ xEk ([12], [], []) f a g u.1 u.2.1 u.2.2 ∧ v = (if mLies x 0 (f 12) = 0 then -1 else x) ∧ u.1 12 = (if mLies x 0 (f 12) = 0 then f 12 else x)) (fun u => xX K r u.1 u.2.1 u.2.2 tx) 0 0 := by
  refine kIE.of (cc := cX11_end) (maxL := 2) (ret := (some .int)) (by decide) rfl (Nat.le_of_ble_eq_true rfl) ?_
  intro p e s m below meth c A hx hb hr hml hown hts hlocks hnm hK hP hD hS hA hV ls hl
  have hE : xEk ([12], [], []) f a g f a g := xEk_rf
  have hg : ∀ w ∈ kG, w.before _ s = true := fun w h => hts w (List.mem_cons_of_mem _ h)
  have hown : s.vm.findClass RX11 = some m.cls := hown
  have hl : lv_has ls 2 [(0, .ref (r 0)), (1, .int x)] := hl
  obtain ⟨c12, ec12⟩ : ∃ z : Int32, z = f 12 := ⟨_, rfl⟩
  have b1 : kb 0 c12 400 := kb_eq ec12 (fI_at hI.1 12 (by decide) (by decide))
  refine lv_iload_n hx hb dX11_end_0 rfl (lv_at hl 1 rfl) ?_
  refine lv_if_lt (tgt := 12) hx hb dX11_end_1 (by decide) (fun c2 => ?_) (fun c2 => ?_)
  · have h3 := (kc_lt c2)
    have b4 : kb (-2147483648) x (-1) := kr_lt1 h3 (kb_any x) kc_0 (by decide)
    refine lv_iconst (v := (-1)) hx hb dX11_end_12 (by decide) ?_
    exact kI_ret (v := (-1)) hx hb hr hlocks rfl hK hS dX11_end_13 (f, a, g) hP hD ⟨(kb_w kc_m1 (by decide) (by decide)), hI, hG, hE, (by rw [if_pos (endx_0 (Or.inl c2))]), (by rw [if_pos (endx_0 (Or.inl c2))])⟩
  · have h5 := (kc_nlt c2)
    have b6 : kb 0 x 2147483647 := kr_le2 h5 kc_0 (kb_any x)
    refine lv_iload_n hx hb dX11_end_4 rfl (lv_at hl 1 rfl) ?_
    refine lv_aload_n hx hb dX11_end_5 rfl (lv_at hl 0 rfl) ?_
    refine va_get (D := D) (ci := 11) (v := .int (f 12)) (C := RX11) (T := TX11) (N := 17) hx hb hg inC11 hown hK hP 0 rfl rfl 12 (by decide) (hg _ wt2_198) (fun _ h9 => h9) rfl dX11_end_6 ?_
    refine k_top (z := c12) ec12.symm ?_
    refine lv_icmp_le (tgt := 14) hx hb dX11_end_9 (by decide) (fun c7 => ?_) (fun c7 => ?_)
    · have h8 := (kc_le c7)
      have b9 : kb 0 x 400 := kr_le1 h8 b6 b1
      refine lv_aload_n hx hb dX11_end_14 rfl (lv_at hl 0 rfl) ?_
      refine lv_iload_n hx hb dX11_end_15 rfl (lv_at hl 1 rfl) ?_
      refine va_put (D := D) (ci := 11) (v := .int x) (ty := .int) (C := RX11) (T := TX11) (N := 17) hx hb hg inC11 tyX11 tyX11_ok nmX11 hown hK hP hD hS 0 rfl rfl 12 (by decide) (hg _ wt2_198) (fun _ h9 => h9) rfl (by decide +kernel) rfl rfl (Nat.le_of_ble_eq_true rfl) dX11_end_16 (fun H locs hP hD hS => ?_)
      have hP : va_P D vwCl (xX K r (upd f 12 x) a g tx) H := hP
      have hD : va_D A (xX K r (upd f 12 x) a g tx) := hD
      refine k_gen (P := fun z => va_P D vwCl (xX K r z a g tx) H ∧ va_D A (xX K r z a g tx) ∧ (xI z a) ∧ (gOK K g.2 tt) ∧ (xEk ([12], [], []) f a g z a g)) (upd f 12 x) ⟨hP, hD, (xI_f hI (fI_st hI.1 12 b9 (by decide) (by decide))), hG, (xEk_f hE rfl)⟩ (fun f_10 ef_10 hq => ?_)
      obtain ⟨hP, hD, hI, hG, hE⟩ := hq
      refine lv_iload_n hx hb dX11_end_19 rfl (lv_at hl 1 rfl) ?_
      exact kI_ret (v := x) hx hb hr hlocks rfl hK hS dX11_end_20 (f_10, a, g) hP hD ⟨(kb_w b9 (by decide) (by decide)), hI, hG, hE, (by rw [if_neg (endx_1 c2 (ec12 ▸ c7))]), (by rw [if_neg (endx_1 c2 (ec12 ▸ c7))]; exact (show f_10 12 = x from by rw [← ef_10]; rfl))⟩
    · have h11 := (kc_nle c7)
      have b12 : kb 1 x 2147483647 := kr_lt2 h11 b1 b6 (by decide)
      refine lv_iconst (v := (-1)) hx hb dX11_end_12 (by decide) ?_
      exact kI_ret (v := (-1)) hx hb hr hlocks rfl hK hS dX11_end_13 (f, a, g) hP hD ⟨(kb_w kc_m1 (by decide) (by decide)), hI, hG, hE, (by rw [if_pos (endx_0 (Or.inr (by rw [← ec12]; exact Int32.not_le.mp c7)))]), (by rw [if_pos (endx_0 (Or.inr (by rw [← ec12]; exact Int32.not_le.mp c7)))])⟩
