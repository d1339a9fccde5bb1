def mFeedV (t : Int32) : Int32 := if 380 < t.toInt then -1 else t + 20
def mFeedT (t : Int32) : Int32 := if 380 < t.toInt then t else t + 20
theorem dX12_row_0 : decode cX12_row 0 = .ok (.aload_n 0, 1) := by decide +kernel
theorem dX12_row_1 : decode cX12_row 1 = .ok (.getfield 138, 3) := by decide +kernel
theorem dX12_row_4 : decode cX12_row 4 = .ok (.istore_n 1, 1) := by decide +kernel
theorem dX12_row_5 : decode cX12_row 5 = .ok (.aload_n 0, 1) := by decide +kernel
theorem dX12_row_6 : decode cX12_row 6 = .ok (.iconst 0, 1) := by decide +kernel
theorem dX12_row_7 : decode cX12_row 7 = .ok (.putfield 138, 3) := by decide +kernel
theorem dX12_row_10 : decode cX12_row 10 = .ok (.iload_n 1, 1) := by decide +kernel
theorem dX12_row_11 : decode cX12_row 11 = .ok (.ifCond .ne 10, 3) := by decide +kernel
theorem dX12_row_14 : decode cX12_row 14 = .ok (.aload_n 0, 1) := by decide +kernel
theorem dX12_row_15 : decode cX12_row 15 = .ok (.bipush (-6), 2) := by decide +kernel
theorem dX12_row_17 : decode cX12_row 17 = .ok (.invokevirtual 100, 3) := by decide +kernel
theorem dX12_row_20 : decode cX12_row 20 = .ok (.ireturn, 1) := by decide +kernel
theorem dX12_row_21 : decode cX12_row 21 = .ok (.iconst 0, 1) := by decide +kernel
theorem dX12_row_22 : decode cX12_row 22 = .ok (.istore_n 2, 1) := by decide +kernel
theorem dX12_row_23 : decode cX12_row 23 = .ok (.aload_n 0, 1) := by decide +kernel
theorem dX12_row_24 : decode cX12_row 24 = .ok (.iload_n 1, 1) := by decide +kernel
theorem dX12_row_25 : decode cX12_row 25 = .ok (.iconst 4, 1) := by decide +kernel
theorem dX12_row_26 : decode cX12_row 26 = .ok (.irem, 1) := by decide +kernel
theorem dX12_row_27 : decode cX12_row 27 = .ok (.ifCond .ne 7, 3) := by decide +kernel
theorem dX12_row_30 : decode cX12_row 30 = .ok (.iconst 0, 1) := by decide +kernel
theorem dX12_row_31 : decode cX12_row 31 = .ok (.goto 4, 3) := by decide +kernel
theorem dX12_row_34 : decode cX12_row 34 = .ok (.iconst 1, 1) := by decide +kernel
theorem dX12_row_35 : decode cX12_row 35 = .ok (.putfield 141, 3) := by decide +kernel
theorem dX12_row_38 : decode cX12_row 38 = .ok (.iconst 0, 1) := by decide +kernel
theorem dX12_row_39 : decode cX12_row 39 = .ok (.istore_n 3, 1) := by decide +kernel
theorem dX12_row_40 : decode cX12_row 40 = .ok (.iload_n 3, 1) := by decide +kernel
theorem dX12_row_41 : decode cX12_row 41 = .ok (.iconst 4, 1) := by decide +kernel
theorem dX12_row_42 : decode cX12_row 42 = .ok (.iadd, 1) := by decide +kernel
theorem dX12_row_43 : decode cX12_row 43 = .ok (.iload_n 1, 1) := by decide +kernel
theorem dX12_row_44 : decode cX12_row 44 = .ok (.if_icmp .gt 138, 3) := by decide +kernel
theorem dX12_row_47 : decode cX12_row 47 = .ok (.aload_n 0, 1) := by decide +kernel
theorem dX12_row_48 : decode cX12_row 48 = .ok (.getfield 41, 3) := by decide +kernel
theorem dX12_row_51 : decode cX12_row 51 = .ok (.iload_n 3, 1) := by decide +kernel
theorem dX12_row_52 : decode cX12_row 52 = .ok (.iconst 1, 1) := by decide +kernel
theorem dX12_row_53 : decode cX12_row 53 = .ok (.iadd, 1) := by decide +kernel
theorem dX12_row_54 : decode cX12_row 54 = .ok (.baload, 1) := by decide +kernel
theorem dX12_row_55 : decode cX12_row 55 = .ok (.sipush 255, 3) := by decide +kernel
theorem dX12_row_58 : decode cX12_row 58 = .ok (.iand, 1) := by decide +kernel
theorem dX12_row_59 : decode cX12_row 59 = .ok (.istore 4, 2) := by decide +kernel
theorem dX12_row_61 : decode cX12_row 61 = .ok (.aload_n 0, 1) := by decide +kernel
theorem dX12_row_62 : decode cX12_row 62 = .ok (.getfield 24, 3) := by decide +kernel
theorem dX12_row_65 : decode cX12_row 65 = .ok (.bipush 102, 2) := by decide +kernel
theorem dX12_row_67 : decode cX12_row 67 = .ok (.iaload, 1) := by decide +kernel
theorem dX12_row_68 : decode cX12_row 68 = .ok (.bipush 10, 2) := by decide +kernel
theorem dX12_row_70 : decode cX12_row 70 = .ok (.if_icmp .ge 38, 3) := by decide +kernel
theorem dX12_row_73 : decode cX12_row 73 = .ok (.aload_n 0, 1) := by decide +kernel
theorem dX12_row_74 : decode cX12_row 74 = .ok (.aload_n 0, 1) := by decide +kernel
theorem dX12_row_75 : decode cX12_row 75 = .ok (.getfield 41, 3) := by decide +kernel
theorem dX12_row_78 : decode cX12_row 78 = .ok (.iload_n 3, 1) := by decide +kernel
theorem dX12_row_79 : decode cX12_row 79 = .ok (.baload, 1) := by decide +kernel
theorem dX12_row_80 : decode cX12_row 80 = .ok (.iload 4, 2) := by decide +kernel
theorem dX12_row_82 : decode cX12_row 82 = .ok (.aload_n 0, 1) := by decide +kernel
theorem dX12_row_83 : decode cX12_row 83 = .ok (.getfield 41, 3) := by decide +kernel
theorem dX12_row_86 : decode cX12_row 86 = .ok (.iload_n 3, 1) := by decide +kernel
theorem dX12_row_87 : decode cX12_row 87 = .ok (.iconst 2, 1) := by decide +kernel
theorem dX12_row_88 : decode cX12_row 88 = .ok (.iadd, 1) := by decide +kernel
theorem dX12_row_89 : decode cX12_row 89 = .ok (.baload, 1) := by decide +kernel
theorem dX12_row_90 : decode cX12_row 90 = .ok (.aload_n 0, 1) := by decide +kernel
theorem dX12_row_91 : decode cX12_row 91 = .ok (.getfield 41, 3) := by decide +kernel
theorem dX12_row_94 : decode cX12_row 94 = .ok (.iload_n 3, 1) := by decide +kernel
theorem dX12_row_95 : decode cX12_row 95 = .ok (.iconst 3, 1) := by decide +kernel
theorem dX12_row_96 : decode cX12_row 96 = .ok (.iadd, 1) := by decide +kernel
theorem dX12_row_97 : decode cX12_row 97 = .ok (.baload, 1) := by decide +kernel
theorem dX12_row_98 : decode cX12_row 98 = .ok (.invokevirtual 106, 3) := by decide +kernel
theorem dX12_row_101 : decode cX12_row 101 = .ok (.ifCond .eq 7, 3) := by decide +kernel
theorem dX12_row_104 : decode cX12_row 104 = .ok (.iconst 1, 1) := by decide +kernel
theorem dX12_row_105 : decode cX12_row 105 = .ok (.goto 4, 3) := by decide +kernel
theorem dX12_row_108 : decode cX12_row 108 = .ok (.iconst 0, 1) := by decide +kernel
theorem dX12_row_109 : decode cX12_row 109 = .ok (.istore 5, 2) := by decide +kernel
theorem dX12_row_111 : decode cX12_row 111 = .ok (.iload 5, 2) := by decide +kernel
theorem dX12_row_113 : decode cX12_row 113 = .ok (.ifCond .eq 31, 3) := by decide +kernel
theorem dX12_row_116 : decode cX12_row 116 = .ok (.aload_n 0, 1) := by decide +kernel
theorem dX12_row_117 : decode cX12_row 117 = .ok (.aload_n 0, 1) := by decide +kernel
theorem dX12_row_118 : decode cX12_row 118 = .ok (.getfield 41, 3) := by decide +kernel
theorem dX12_row_121 : decode cX12_row 121 = .ok (.iload_n 3, 1) := by decide +kernel
theorem dX12_row_122 : decode cX12_row 122 = .ok (.baload, 1) := by decide +kernel
theorem dX12_row_123 : decode cX12_row 123 = .ok (.iload 4, 2) := by decide +kernel
theorem dX12_row_125 : decode cX12_row 125 = .ok (.aload_n 0, 1) := by decide +kernel
theorem dX12_row_126 : decode cX12_row 126 = .ok (.getfield 41, 3) := by decide +kernel
theorem dX12_row_129 : decode cX12_row 129 = .ok (.iload_n 3, 1) := by decide +kernel
theorem dX12_row_130 : decode cX12_row 130 = .ok (.iconst 2, 1) := by decide +kernel
theorem dX12_row_131 : decode cX12_row 131 = .ok (.iadd, 1) := by decide +kernel
theorem dX12_row_132 : decode cX12_row 132 = .ok (.baload, 1) := by decide +kernel
theorem dX12_row_133 : decode cX12_row 133 = .ok (.aload_n 0, 1) := by decide +kernel
theorem dX12_row_134 : decode cX12_row 134 = .ok (.getfield 41, 3) := by decide +kernel
theorem dX12_row_137 : decode cX12_row 137 = .ok (.iload_n 3, 1) := by decide +kernel
theorem dX12_row_138 : decode cX12_row 138 = .ok (.iconst 3, 1) := by decide +kernel
theorem dX12_row_139 : decode cX12_row 139 = .ok (.iadd, 1) := by decide +kernel
theorem dX12_row_140 : decode cX12_row 140 = .ok (.baload, 1) := by decide +kernel
theorem dX12_row_141 : decode cX12_row 141 = .ok (.invokevirtual 110, 3) := by decide +kernel
theorem dX12_row_144 : decode cX12_row 144 = .ok (.iload_n 2, 1) := by decide +kernel
theorem dX12_row_145 : decode cX12_row 145 = .ok (.iload 5, 2) := by decide +kernel
theorem dX12_row_147 : decode cX12_row 147 = .ok (.ifCond .eq 7, 3) := by decide +kernel
theorem dX12_row_150 : decode cX12_row 150 = .ok (.iconst 1, 1) := by decide +kernel
theorem dX12_row_151 : decode cX12_row 151 = .ok (.goto 4, 3) := by decide +kernel
theorem dX12_row_154 : decode cX12_row 154 = .ok (.iconst 0, 1) := by decide +kernel
theorem dX12_row_155 : decode cX12_row 155 = .ok (.iadd, 1) := by decide +kernel
theorem dX12_row_156 : decode cX12_row 156 = .ok (.istore_n 2, 1) := by decide +kernel
theorem dX12_row_157 : decode cX12_row 157 = .ok (.aload_n 0, 1) := by decide +kernel
theorem dX12_row_158 : decode cX12_row 158 = .ok (.dup, 1) := by decide +kernel
theorem dX12_row_159 : decode cX12_row 159 = .ok (.getfield 141, 3) := by decide +kernel
theorem dX12_row_162 : decode cX12_row 162 = .ok (.iload 5, 2) := by decide +kernel
theorem dX12_row_164 : decode cX12_row 164 = .ok (.ifCond .eq 7, 3) := by decide +kernel
theorem dX12_row_167 : decode cX12_row 167 = .ok (.iconst 0, 1) := by decide +kernel
theorem dX12_row_168 : decode cX12_row 168 = .ok (.goto 4, 3) := by decide +kernel
theorem dX12_row_171 : decode cX12_row 171 = .ok (.iconst 1, 1) := by decide +kernel
theorem dX12_row_172 : decode cX12_row 172 = .ok (.iadd, 1) := by decide +kernel
theorem dX12_row_173 : decode cX12_row 173 = .ok (.putfield 141, 3) := by decide +kernel
theorem dX12_row_176 : decode cX12_row 176 = .ok (.iinc 3 4, 3) := by decide +kernel
theorem dX12_row_179 : decode cX12_row 179 = .ok (.goto (-139), 3) := by decide +kernel
theorem dX12_row_182 : decode cX12_row 182 = .ok (.aload_n 0, 1) := by decide +kernel
theorem dX12_row_183 : decode cX12_row 183 = .ok (.iload_n 2, 1) := by decide +kernel
theorem dX12_row_184 : decode cX12_row 184 = .ok (.invokevirtual 103, 3) := by decide +kernel
theorem dX12_row_187 : decode cX12_row 187 = .ok (.ireturn, 1) := by decide +kernel
theorem dX12_feed_0 : decode cX12_feed 0 = .ok (.aload_n 0, 1) := by decide +kernel
theorem dX12_feed_1 : decode cX12_feed 1 = .ok (.getfield 138, 3) := by decide +kernel
theorem dX12_feed_4 : decode cX12_feed 4 = .ok (.bipush 20, 2) := by decide +kernel
theorem dX12_feed_6 : decode cX12_feed 6 = .ok (.iadd, 1) := by decide +kernel
theorem dX12_feed_7 : decode cX12_feed 7 = .ok (.sipush 400, 3) := by decide +kernel
theorem dX12_feed_10 : decode cX12_feed 10 = .ok (.if_icmp .le 5, 3) := by decide +kernel
theorem dX12_feed_13 : decode cX12_feed 13 = .ok (.iconst (-1), 1) := by decide +kernel
theorem dX12_feed_14 : decode cX12_feed 14 = .ok (.ireturn, 1) := by decide +kernel
theorem dX12_feed_15 : decode cX12_feed 15 = .ok (.aload_n 0, 1) := by decide +kernel
theorem dX12_feed_16 : decode cX12_feed 16 = .ok (.getfield 44, 3) := by decide +kernel
theorem dX12_feed_19 : decode cX12_feed 19 = .ok (.iconst 0, 1) := by decide +kernel
theorem dX12_feed_20 : decode cX12_feed 20 = .ok (.iload_n 1, 1) := by decide +kernel
theorem dX12_feed_21 : decode cX12_feed 21 = .ok (.iastore, 1) := by decide +kernel
theorem dX12_feed_22 : decode cX12_feed 22 = .ok (.aload_n 0, 1) := by decide +kernel
theorem dX12_feed_23 : decode cX12_feed 23 = .ok (.getfield 44, 3) := by decide +kernel
theorem dX12_feed_26 : decode cX12_feed 26 = .ok (.iconst 1, 1) := by decide +kernel
theorem dX12_feed_27 : decode cX12_feed 27 = .ok (.iload_n 2, 1) := by decide +kernel
theorem dX12_feed_28 : decode cX12_feed 28 = .ok (.iastore, 1) := by decide +kernel
theorem dX12_feed_29 : decode cX12_feed 29 = .ok (.aload_n 0, 1) := by decide +kernel
theorem dX12_feed_30 : decode cX12_feed 30 = .ok (.getfield 44, 3) := by decide +kernel
theorem dX12_feed_33 : decode cX12_feed 33 = .ok (.iconst 2, 1) := by decide +kernel
theorem dX12_feed_34 : decode cX12_feed 34 = .ok (.iload_n 3, 1) := by decide +kernel
theorem dX12_feed_35 : decode cX12_feed 35 = .ok (.iastore, 1) := by decide +kernel
theorem dX12_feed_36 : decode cX12_feed 36 = .ok (.aload_n 0, 1) := by decide +kernel
theorem dX12_feed_37 : decode cX12_feed 37 = .ok (.getfield 44, 3) := by decide +kernel
theorem dX12_feed_40 : decode cX12_feed 40 = .ok (.iconst 3, 1) := by decide +kernel
theorem dX12_feed_41 : decode cX12_feed 41 = .ok (.iload 4, 2) := by decide +kernel
theorem dX12_feed_43 : decode cX12_feed 43 = .ok (.iastore, 1) := by decide +kernel
theorem dX12_feed_44 : decode cX12_feed 44 = .ok (.aload_n 0, 1) := by decide +kernel
theorem dX12_feed_45 : decode cX12_feed 45 = .ok (.getfield 44, 3) := by decide +kernel
theorem dX12_feed_48 : decode cX12_feed 48 = .ok (.iconst 4, 1) := by decide +kernel
theorem dX12_feed_49 : decode cX12_feed 49 = .ok (.iload 5, 2) := by decide +kernel
theorem dX12_feed_51 : decode cX12_feed 51 = .ok (.iastore, 1) := by decide +kernel
theorem dX12_feed_52 : decode cX12_feed 52 = .ok (.iconst 0, 1) := by decide +kernel
theorem dX12_feed_53 : decode cX12_feed 53 = .ok (.istore 6, 2) := by decide +kernel
theorem dX12_feed_55 : decode cX12_feed 55 = .ok (.iload 6, 2) := by decide +kernel
theorem dX12_feed_57 : decode cX12_feed 57 = .ok (.bipush 20, 2) := by decide +kernel
theorem dX12_feed_59 : decode cX12_feed 59 = .ok (.if_icmp .ge 42, 3) := by decide +kernel
theorem dX12_feed_62 : decode cX12_feed 62 = .ok (.aload_n 0, 1) := by decide +kernel
theorem dX12_feed_63 : decode cX12_feed 63 = .ok (.getfield 41, 3) := by decide +kernel
theorem dX12_feed_66 : decode cX12_feed 66 = .ok (.aload_n 0, 1) := by decide +kernel
theorem dX12_feed_67 : decode cX12_feed 67 = .ok (.getfield 138, 3) := by decide +kernel
theorem dX12_feed_70 : decode cX12_feed 70 = .ok (.iload 6, 2) := by decide +kernel
theorem dX12_feed_72 : decode cX12_feed 72 = .ok (.iadd, 1) := by decide +kernel
theorem dX12_feed_73 : decode cX12_feed 73 = .ok (.aload_n 0, 1) := by decide +kernel
theorem dX12_feed_74 : decode cX12_feed 74 = .ok (.getfield 44, 3) := by decide +kernel
theorem dX12_feed_77 : decode cX12_feed 77 = .ok (.iload 6, 2) := by decide +kernel
theorem dX12_feed_79 : decode cX12_feed 79 = .ok (.iconst 4, 1) := by decide +kernel
theorem dX12_feed_80 : decode cX12_feed 80 = .ok (.idiv, 1) := by decide +kernel
theorem dX12_feed_81 : decode cX12_feed 81 = .ok (.iaload, 1) := by decide +kernel
theorem dX12_feed_82 : decode cX12_feed 82 = .ok (.bipush 24, 2) := by decide +kernel
theorem dX12_feed_84 : decode cX12_feed 84 = .ok (.bipush 8, 2) := by decide +kernel
theorem dX12_feed_86 : decode cX12_feed 86 = .ok (.iload 6, 2) := by decide +kernel
theorem dX12_feed_88 : decode cX12_feed 88 = .ok (.iconst 4, 1) := by decide +kernel
theorem dX12_feed_89 : decode cX12_feed 89 = .ok (.irem, 1) := by decide +kernel
theorem dX12_feed_90 : decode cX12_feed 90 = .ok (.imul, 1) := by decide +kernel
theorem dX12_feed_91 : decode cX12_feed 91 = .ok (.isub, 1) := by decide +kernel
theorem dX12_feed_92 : decode cX12_feed 92 = .ok (.ishr, 1) := by decide +kernel
theorem dX12_feed_93 : decode cX12_feed 93 = .ok (.i2b, 1) := by decide +kernel
theorem dX12_feed_94 : decode cX12_feed 94 = .ok (.bastore, 1) := by decide +kernel
theorem dX12_feed_95 : decode cX12_feed 95 = .ok (.iinc 6 1, 3) := by decide +kernel
theorem dX12_feed_98 : decode cX12_feed 98 = .ok (.goto (-43), 3) := by decide +kernel
theorem dX12_feed_101 : decode cX12_feed 101 = .ok (.aload_n 0, 1) := by decide +kernel
theorem dX12_feed_102 : decode cX12_feed 102 = .ok (.dup, 1) := by decide +kernel
theorem dX12_feed_103 : decode cX12_feed 103 = .ok (.getfield 138, 3) := by decide +kernel
theorem dX12_feed_106 : decode cX12_feed 106 = .ok (.bipush 20, 2) := by decide +kernel
theorem dX12_feed_108 : decode cX12_feed 108 = .ok (.iadd, 1) := by decide +kernel
theorem dX12_feed_109 : decode cX12_feed 109 = .ok (.putfield 138, 3) := by decide +kernel
theorem dX12_feed_112 : decode cX12_feed 112 = .ok (.aload_n 0, 1) := by decide +kernel
theorem dX12_feed_113 : decode cX12_feed 113 = .ok (.getfield 138, 3) := by decide +kernel
theorem dX12_feed_116 : decode cX12_feed 116 = .ok (.ireturn, 1) := by decide +kernel
theorem dX12_end_0 : decode cX12_end 0 = .ok (.iload_n 1, 1) := by decide +kernel
theorem dX12_end_1 : decode cX12_end 1 = .ok (.iconst 0, 1) := by decide +kernel
theorem dX12_end_2 : decode cX12_end 2 = .ok (.aload_n 0, 1) := by decide +kernel
theorem dX12_end_3 : decode cX12_end 3 = .ok (.getfield 138, 3) := by decide +kernel
theorem dX12_end_6 : decode cX12_end 6 = .ok (.invokestatic 96, 3) := by decide +kernel
theorem dX12_end_9 : decode cX12_end 9 = .ok (.ifCond .ne 5, 3) := by decide +kernel
theorem dX12_end_12 : decode cX12_end 12 = .ok (.iconst (-1), 1) := by decide +kernel
theorem dX12_end_13 : decode cX12_end 13 = .ok (.ireturn, 1) := by decide +kernel
theorem dX12_end_14 : decode cX12_end 14 = .ok (.aload_n 0, 1) := by decide +kernel
theorem dX12_end_15 : decode cX12_end 15 = .ok (.iload_n 1, 1) := by decide +kernel
theorem dX12_end_16 : decode cX12_end 16 = .ok (.putfield 138, 3) := by decide +kernel
theorem dX12_end_19 : decode cX12_end 19 = .ok (.iload_n 1, 1) := by decide +kernel
theorem dX12_end_20 : decode cX12_end 20 = .ok (.ireturn, 1) := by decide +kernel
theorem kc_m6 : kb (-6) (-6) (-6) := ⟨by decide +kernel, by decide +kernel⟩
set_option maxHeartbeats 4000000 in
set_option maxRecDepth 100000 in
theorem m_feed  (l : Launch) {D : va_G} {K : Nat → ClassId} (o : Nat) (r : Nat → Nat) (f : Nat → Int32) (a : Nat → Nat → Int32) (g : Nat → Int64) (hI : mI f a) (x1 : Int32) (x2 : Int32) (x3 : Int32) (x4 : Int32) (x5 : Int32)    : kI l yX12_feed (Cond.code yX12_feed cX12_feed 7 (some .int) :: kG) (rmD 1 0 0) D (tysK K) [.ref o, .int x1, .int x2, .int x3, .int x4, .int x5] (mW K o r f a g) (fun v (u : mS) => kb (-2147483648) v 2147483647 ∧ mI u.1 u.2.1 ∧ mF (XR []) f a u.1 u.2.1 ∧ v = mFeedV (f 13) ∧ u.1 13 = mFeedT (f 13)) (fun u => mW K o r u.1 u.2.1 u.2.2) 0 0 := by
  refine kI.of (cc := cX12_feed) (maxL := 7) (ret := (some .int)) (by decide) rfl (Nat.le_of_ble_eq_true rfl) ?_
  intro p e s m below meth c A hx hb hr hml hown hts hlocks hnm hK hP hD hS hA ls hl
  have hE : mF (XR []) f a f a := mF_rf
  have hg : ∀ w ∈ kG, w.before _ s = true := fun w h => hts w (List.mem_cons_of_mem _ h)
  have hown : s.vm.findClass RX12 = some m.cls := hown
  have hl : lv_has ls 7 [(0, .ref o), (1, .int x1), (2, .int x2), (3, .int x3), (4, .int x4), (5, .int x5)] := hl
  obtain ⟨c13_f, ec13_f⟩ : ∃ z : Int32, z = f 13 := ⟨_, rfl⟩
  have b1 : kb 0 c13_f 400 := kb_eq ec13_f (fI_at hI.1 13 (by decide) (by decide))
  refine lv_aload_n hx hb dX12_feed_0 rfl (lv_at hl 0 rfl) ?_
  refine va_get (D := D) (ci := 12) (v := .int (f 13)) (C := RX12) (T := TX12) (N := 48) hx hb hg inC12 hown hK hP 0 rfl rfl 13 (by decide) (hg _ wt5_173) (fun _ h9 => h9) rfl dX12_feed_1 ?_
  refine k_top (z := c13_f) ec13_f.symm ?_
  refine lv_bipush (v := 20) hx hb dX12_feed_4 (by decide) ?_
  refine lv_iadd hx hb dX12_feed_6 ?_
  refine lv_topi (fun t2 et2 => ?_)
  have b3 : kb 20 t2 420 := kb_eq et2 (kb_add b1 kc_20 (by decide) (by decide))
  have qt2 : t2.toInt = c13_f.toInt + 20 := by rw [et2]; exact kt_addc b1 kc_20 (by decide) (by decide)
  refine lv_sipush (v := 400) hx hb dX12_feed_7 (by decide) ?_
  refine lv_icmp_le (tgt := 15) hx hb dX12_feed_10 (by decide) (fun c4 => ?_) (fun c4 => ?_)
  · have h5 := (kc_le c4)
    have b6 : kb 20 t2 400 := kr_le1 h5 b3 kc_400
    have b7 : kb 0 c13_f 380 := ⟨b1.1, by have h1 := b6.2; omega⟩
    refine lv_aload_n hx hb dX12_feed_15 rfl (lv_at hl 0 rfl) ?_
    refine va_get (D := D) (ci := 12) (v := .ref (r 12)) (C := RX12) (T := TX12) (N := 48) hx hb hg inC12 hown hK hP 0 rfl rfl 12 (by decide) (hg _ wt5_172) (fun _ h9 => h9) rfl dX12_feed_16 ?_
    refine lv_iconst (v := 0) hx hb dX12_feed_19 (by decide) ?_
    refine lv_iload_n hx hb dX12_feed_20 rfl (lv_at hl 1 rfl) ?_
    refine va_iast hx hb hK hP hD hS 8 0 rfl rfl (kb_in kc_0 (by decide) (by decide)) dX12_feed_21 (fun H locs hP hD hS => ?_)
    rw [cl_0] at hP hD
    have hP : va_P D vwCl (mW K o r f (va_up a 12 (upd (a 12) 0 x1)) g) H := hP
    have hD : va_D A (mW K o r f (va_up a 12 (upd (a 12) 0 x1)) g) := hD
    refine k_gen (P := fun z => va_P D vwCl (mW K o r f z g) H ∧ va_D A (mW K o r f z g) ∧ (mI f z) ∧ (mF (XR []) f a f z)) (va_up a 12 (upd (a 12) 0 x1)) ⟨hP, hD, (mI_s hI (aI_free hI.2.1 12 _ (fun j => ⟨by show (mBa 12 j).1 ≤ _; exact Int.le_refl _, by show _ ≤ (mBa 12 j).2; exact Int.le_refl _⟩)) (by decide) (by decide)), (mF_s hE (by decide) (by decide) (by decide))⟩ (fun a_8 ea_8 hq => ?_)
    obtain ⟨hP, hD, hI, hE⟩ := hq
    refine lv_aload_n hx hb dX12_feed_22 rfl (lv_at hl 0 rfl) ?_
    refine va_get (D := D) (ci := 12) (v := .ref (r 12)) (C := RX12) (T := TX12) (N := 48) hx hb hg inC12 hown hK hP 0 rfl rfl 12 (by decide) (hg _ wt5_172) (fun _ h9 => h9) rfl dX12_feed_23 ?_
    refine lv_iconst (v := 1) hx hb dX12_feed_26 (by decide) ?_
    refine lv_iload_n hx hb dX12_feed_27 rfl (lv_at hl 2 rfl) ?_
    refine va_iast hx hb hK hP hD hS 8 0 rfl rfl (kb_in kc_1 (by decide) (by decide)) dX12_feed_28 (fun H locs hP hD hS => ?_)
    rw [cl_1] at hP hD
    have hP : va_P D vwCl (mW K o r f (va_up a_8 12 (upd (a_8 12) 1 x2)) g) H := hP
    have hD : va_D A (mW K o r f (va_up a_8 12 (upd (a_8 12) 1 x2)) g) := hD
    refine k_gen (P := fun z => va_P D vwCl (mW K o r f z g) H ∧ va_D A (mW K o r f z g) ∧ (mI f z) ∧ (mF (XR []) f a f z)) (va_up a_8 12 (upd (a_8 12) 1 x2)) ⟨hP, hD, (mI_s hI (aI_free hI.2.1 12 _ (fun j => ⟨by show (mBa 12 j).1 ≤ _; exact Int.le_refl _, by show _ ≤ (mBa 12 j).2; exact Int.le_refl _⟩)) (by decide) (by decide)), (mF_s hE (by decide) (by decide) (by decide))⟩ (fun a_9 ea_9 hq => ?_)
    obtain ⟨hP, hD, hI, hE⟩ := hq
    refine lv_aload_n hx hb dX12_feed_29 rfl (lv_at hl 0 rfl) ?_
    refine va_get (D := D) (ci := 12) (v := .ref (r 12)) (C := RX12) (T := TX12) (N := 48) hx hb hg inC12 hown hK hP 0 rfl rfl 12 (by decide) (hg _ wt5_172) (fun _ h9 => h9) rfl dX12_feed_30 ?_
    refine lv_iconst (v := 2) hx hb dX12_feed_33 (by decide) ?_
    refine lv_iload_n hx hb dX12_feed_34 rfl (lv_at hl 3 rfl) ?_
    refine va_iast hx hb hK hP hD hS 8 0 rfl rfl (kb_in kc_2 (by decide) (by decide)) dX12_feed_35 (fun H locs hP hD hS => ?_)
    rw [cl_2] at hP hD
    have hP : va_P D vwCl (mW K o r f (va_up a_9 12 (upd (a_9 12) 2 x3)) g) H := hP
    have hD : va_D A (mW K o r f (va_up a_9 12 (upd (a_9 12) 2 x3)) g) := hD
    refine k_gen (P := fun z => va_P D vwCl (mW K o r f z g) H ∧ va_D A (mW K o r f z g) ∧ (mI f z) ∧ (mF (XR []) f a f z)) (va_up a_9 12 (upd (a_9 12) 2 x3)) ⟨hP, hD, (mI_s hI (aI_free hI.2.1 12 _ (fun j => ⟨by show (mBa 12 j).1 ≤ _; exact Int.le_refl _, by show _ ≤ (mBa 12 j).2; exact Int.le_refl _⟩)) (by decide) (by decide)), (mF_s hE (by decide) (by decide) (by decide))⟩ (fun a_10 ea_10 hq => ?_)
    obtain ⟨hP, hD, hI, hE⟩ := hq
    refine lv_aload_n hx hb dX12_feed_36 rfl (lv_at hl 0 rfl) ?_
    refine va_get (D := D) (ci := 12) (v := .ref (r 12)) (C := RX12) (T := TX12) (N := 48) hx hb hg inC12 hown hK hP 0 rfl rfl 12 (by decide) (hg _ wt5_172) (fun _ h9 => h9) rfl dX12_feed_37 ?_
    refine lv_iconst (v := 3) hx hb dX12_feed_40 (by decide) ?_
    refine lv_iload hx hb dX12_feed_41 (lv_at hl 4 rfl) ?_
    refine va_iast hx hb hK hP hD hS 8 0 rfl rfl (kb_in kc_3 (by decide) (by decide)) dX12_feed_43 (fun H locs hP hD hS => ?_)
    rw [cl_3] at hP hD
    have hP : va_P D vwCl (mW K o r f (va_up a_10 12 (upd (a_10 12) 3 x4)) g) H := hP
    have hD : va_D A (mW K o r f (va_up a_10 12 (upd (a_10 12) 3 x4)) g) := hD
    refine k_gen (P := fun z => va_P D vwCl (mW K o r f z g) H ∧ va_D A (mW K o r f z g) ∧ (mI f z) ∧ (mF (XR []) f a f z)) (va_up a_10 12 (upd (a_10 12) 3 x4)) ⟨hP, hD, (mI_s hI (aI_free hI.2.1 12 _ (fun j => ⟨by show (mBa 12 j).1 ≤ _; exact Int.le_refl _, by show _ ≤ (mBa 12 j).2; exact Int.le_refl _⟩)) (by decide) (by decide)), (mF_s hE (by decide) (by decide) (by decide))⟩ (fun a_11 ea_11 hq => ?_)
    obtain ⟨hP, hD, hI, hE⟩ := hq
    refine lv_aload_n hx hb dX12_feed_44 rfl (lv_at hl 0 rfl) ?_
    refine va_get (D := D) (ci := 12) (v := .ref (r 12)) (C := RX12) (T := TX12) (N := 48) hx hb hg inC12 hown hK hP 0 rfl rfl 12 (by decide) (hg _ wt5_172) (fun _ h9 => h9) rfl dX12_feed_45 ?_
    refine lv_iconst (v := 4) hx hb dX12_feed_48 (by decide) ?_
    refine lv_iload hx hb dX12_feed_49 (lv_at hl 5 rfl) ?_
    refine va_iast hx hb hK hP hD hS 8 0 rfl rfl (kb_in kc_4 (by decide) (by decide)) dX12_feed_51 (fun H locs hP hD hS => ?_)
    rw [cl_4] at hP hD
    have hP : va_P D vwCl (mW K o r f (va_up a_11 12 (upd (a_11 12) 4 x5)) g) H := hP
    have hD : va_D A (mW K o r f (va_up a_11 12 (upd (a_11 12) 4 x5)) g) := hD
    refine k_gen (P := fun z => va_P D vwCl (mW K o r f z g) H ∧ va_D A (mW K o r f z g) ∧ (mI f z) ∧ (mF (XR []) f a f z)) (va_up a_11 12 (upd (a_11 12) 4 x5)) ⟨hP, hD, (mI_s hI (aI_free hI.2.1 12 _ (fun j => ⟨by show (mBa 12 j).1 ≤ _; exact Int.le_refl _, by show _ ≤ (mBa 12 j).2; exact Int.le_refl _⟩)) (by decide) (by decide)), (mF_s hE (by decide) (by decide) (by decide))⟩ (fun a_12 ea_12 hq => ?_)
    obtain ⟨hP, hD, hI, hE⟩ := hq
    refine lv_iconst (v := 0) hx hb dX12_feed_52 (by decide) ?_
    refine lv_istore (lv' := [(6, .int 0), (0, .ref o), (1, .int x1), (2, .int x2), (3, .int x3), (4, .int x4), (5, .int x5)]) hx hb dX12_feed_53 hl (by decide) rfl (fun ls hl => ?_)
    have lp15 : ∀ (n16 : Nat) (B14 : Nat → Nat → Int32) (H : Heap) (locs : List Loc) (ls : Array Slot) (y13 : Int32), (20 < y13.toInt + (n16 : Int)) → (mI f B14) → (mF (XR []) f a f B14) → (kb 0 y13 20) → va_P D vwCl (mW K o r f B14 g) H → va_D A (mW K o r f B14 g) → va_S A s.heap H locs → lv_has ls 7 [(6, .int y13), (0, .ref o), (1, .int x1), (2, .int x2), (3, .int x3), (4, .int x4), (5, .int x5)] → W p l e (rmD 1 0 0) s m ([.ref o, .int x1, .int x2, .int x3, .int x4, .int x5] : List Value).toArray below meth c H locs 0 0 (kQi D (tysK K) (fun v (u : mS) => kb (-2147483648) v 2147483647 ∧ mI u.1 u.2.1 ∧ mF (XR []) f a u.1 u.2.1 ∧ v = mFeedV (f 13) ∧ u.1 13 = mFeedT (f 13)) (fun u => mW K o r u.1 u.2.1 u.2.2) A below ([.ref o, .int x1, .int x2, .int x3, .int x4, .int x5] : List Value).toArray s 0 0) (F0 m 55 ls []) := by
      intro n16
      induction n16 with
      | zero =>
        intro  B14  H locs ls y13 hmlp15 hI hE b17 hP hD hS hl
        exact (by have h1 := b17.2; have h2 := hmlp15; omega : False).elim
      | succ n16 ihlp15 =>
        intro  B14  H locs ls y13 hmlp15 hI hE b17 hP hD hS hl
        refine lv_iload hx hb dX12_feed_55 (lv_at hl 0 rfl) ?_
        refine lv_bipush (v := 20) hx hb dX12_feed_57 (by decide) ?_
        refine lv_icmp_ge (tgt := 101) hx hb dX12_feed_59 (by decide) (fun c18 => ?_) (fun c18 => ?_)
        · have h19 := (kc_le c18)
          have b20 : kb 20 y13 20 := kr_le2 h19 kc_20 b17
          refine lv_aload_n hx hb dX12_feed_101 rfl (lv_at hl 1 rfl) ?_
          refine lv_dup hx hb dX12_feed_102 rfl ?_
          refine va_get (D := D) (ci := 12) (v := .int (f 13)) (C := RX12) (T := TX12) (N := 48) hx hb hg inC12 hown hK hP 0 rfl rfl 13 (by decide) (hg _ wt5_173) (fun _ h9 => h9) rfl dX12_feed_103 ?_
          refine k_top (z := c13_f) ec13_f.symm ?_
          refine lv_bipush (v := 20) hx hb dX12_feed_106 (by decide) ?_
          refine lv_iadd hx hb dX12_feed_108 ?_
          refine k_top (z := t2) et2.symm ?_
          refine va_put (D := D) (ci := 12) (v := .int t2) (ty := .int) (C := RX12) (T := TX12) (N := 48) hx hb hg inC12 tyX12 tyX12_ok nmX12 hown hK hP hD hS 0 rfl rfl 13 (by decide) (hg _ wt5_173) (fun _ h9 => h9) rfl (by decide +kernel) rfl rfl (Nat.le_of_ble_eq_true rfl) dX12_feed_109 (fun H locs hP hD hS => ?_)
          have hP : va_P D vwCl (mW K o r (upd f 13 t2) B14 g) H := hP
          have hD : va_D A (mW K o r (upd f 13 t2) B14 g) := hD
          refine k_gen (P := fun z => va_P D vwCl (mW K o r z B14 g) H ∧ va_D A (mW K o r z B14 g) ∧ (mI z B14) ∧ (mF (XR []) f a z B14)) (upd f 13 t2) ⟨hP, hD, (mI_f hI (fI_st hI.1 13 b6 (by decide) (by decide))), (mF_f hE)⟩ (fun f_21 ef_21 hq => ?_)
          obtain ⟨hP, hD, hI, hE⟩ := hq
          refine lv_aload_n hx hb dX12_feed_112 rfl (lv_at hl 1 rfl) ?_
          refine va_get (D := D) (ci := 12) (v := .int (f_21 13)) (C := RX12) (T := TX12) (N := 48) hx hb hg inC12 hown hK hP 0 rfl rfl 13 (by decide) (hg _ wt5_173) (fun _ h9 => h9) rfl dX12_feed_113 ?_
          refine k_top (z := t2) (show f_21 13 = t2 from by rw [← ef_21]; rfl) ?_
          exact kI_ret (v := t2) hx hb hr hlocks rfl hK hS dX12_feed_116 (f_21, B14, g) hP hD ⟨(kb_w b6 (by decide) (by decide)), hI, hE, (by unfold mFeedV; rw [if_neg (by rw [← ec13_f]; have h1 := (b6).1; have h2 := (b6).2; omega), ← ec13_f]; exact et2), (by unfold mFeedT; rw [if_neg (by rw [← ec13_f]; have h1 := (b6).1; have h2 := (b6).2; omega), ← ec13_f, ← et2]; exact (show f_21 13 = t2 from by rw [← ef_21]; rfl))⟩
        · have h22 := (kc_nle c18)
          have b23 : kb 0 y13 19 := kr_lt1 h22 b17 kc_20 (by decide)
          refine lv_aload_n hx hb dX12_feed_62 rfl (lv_at hl 1 rfl) ?_
          refine va_get (D := D) (ci := 12) (v := .ref (r 11)) (C := RX12) (T := TX12) (N := 48) hx hb hg inC12 hown hK hP 0 rfl rfl 11 (by decide) (hg _ wt5_171) (fun _ h9 => h9) rfl dX12_feed_63 ?_
          refine lv_aload_n hx hb dX12_feed_66 rfl (lv_at hl 1 rfl) ?_
          refine va_get (D := D) (ci := 12) (v := .int (f 13)) (C := RX12) (T := TX12) (N := 48) hx hb hg inC12 hown hK hP 0 rfl rfl 13 (by decide) (hg _ wt5_173) (fun _ h9 => h9) rfl dX12_feed_67 ?_
          refine k_top (z := c13_f) ec13_f.symm ?_
          refine lv_iload hx hb dX12_feed_70 (lv_at hl 0 rfl) ?_
          refine lv_iadd hx hb dX12_feed_72 ?_
          refine lv_topi (fun t24 et24 => ?_)
          have b25 : kb 0 t24 399 := kb_eq et24 (kb_add b7 b23 (by decide) (by decide))
          have qt24 : t24.toInt = c13_f.toInt + y13.toInt := by rw [et24]; exact kt_add b7 b23 (by decide) (by decide)
          refine lv_aload_n hx hb dX12_feed_73 rfl (lv_at hl 1 rfl) ?_
          refine va_get (D := D) (ci := 12) (v := .ref (r 12)) (C := RX12) (T := TX12) (N := 48) hx hb hg inC12 hown hK hP 0 rfl rfl 12 (by decide) (hg _ wt5_172) (fun _ h9 => h9) rfl dX12_feed_74 ?_
          refine lv_iload hx hb dX12_feed_77 (lv_at hl 0 rfl) ?_
          refine lv_iconst (v := 4) hx hb dX12_feed_79 (by decide) ?_
          refine lv_idiv hx hb dX12_feed_80 (by decide +kernel) ?_
          refine lv_topi (fun t26 et26 => ?_)
          have b27 : kb 0 t26 4 := kb_eq et26 (kb_div (d := 4) b23 (by decide) rfl (by decide) (by decide))
          have qt26 : t26.toInt = y13.toInt / 4 := by rw [et26]; exact kt_div (d := 4) b23 (by decide) rfl (by decide) (by decide)
          refine va_iald hx hb hK hP 8 0 rfl rfl (kb_in b27 (by decide) (by decide)) dX12_feed_81 ?_
          refine lv_topi (fun t28 et28 => ?_)
          refine lv_bipush (v := 24) hx hb dX12_feed_82 (by decide) ?_
          refine lv_bipush (v := 8) hx hb dX12_feed_84 (by decide) ?_
          refine lv_iload hx hb dX12_feed_86 (lv_at hl 0 rfl) ?_
          refine lv_iconst (v := 4) hx hb dX12_feed_88 (by decide) ?_
          refine lv_irem hx hb dX12_feed_89 (by decide +kernel) ?_
          refine lv_topi (fun t29 et29 => ?_)
          have b30 : kb 0 t29 3 := kb_eq et29 (kb_rem (d := 4) b23 (by decide) rfl (by decide) (by decide))
          refine lv_imul hx hb dX12_feed_90 ?_
          refine lv_topi (fun t31 et31 => ?_)
          have b32 : kb 0 t31 24 := kb_eq et31 (kb_mul kc_8 b30 (by decide) (by decide) (by decide))
          have qt31 : t31.toInt = 8 * t29.toInt := by rw [et31]; exact kt_cmul kc_8 b30 (by decide) (by decide) (by decide)
          refine lv_isub hx hb dX12_feed_91 ?_
          refine lv_topi (fun t33 et33 => ?_)
          have b34 : kb 0 t33 24 := kb_eq et33 (kb_sub kc_24 b32 (by decide) (by decide))
          have qt33 : t33.toInt = 24 - t31.toInt := by rw [et33]; exact kt_csub kc_24 b32 (by decide) (by decide)
          refine lv_ishr hx hb dX12_feed_92 ?_
          refine lv_topi (fun t35 et35 => ?_)
          refine lv_i2b hx hb dX12_feed_93 rfl ?_
          refine lv_topi (fun t36 et36 => ?_)
          have b37 : kb (-128) t36 127 := kb_eq et36 (kb_i2b _)
          refine va_bast hx hb hK hP hD hS 7 1 rfl rfl (kb_in b25 (by decide) (by decide)) dX12_feed_94 (fun H locs hP hD hS => ?_)
          have hP : va_P D vwCl (mW K o r f (va_up B14 11 (upd (B14 11) t24.toNatClampNeg (vp_nar .byte t36))) g) H := hP
          have hD : va_D A (mW K o r f (va_up B14 11 (upd (B14 11) t24.toNatClampNeg (vp_nar .byte t36))) g) := hD
          refine k_gen (P := fun z => va_P D vwCl (mW K o r f z g) H ∧ va_D A (mW K o r f z g) ∧ (mI f z) ∧ (mF (XR []) f a f z)) (va_up B14 11 (upd (B14 11) t24.toNatClampNeg (vp_nar .byte t36))) ⟨hP, hD, (mI_s hI (aI_free hI.2.1 11 _ (fun j => ⟨by show (mBa 11 j).1 ≤ _; exact Int.le_refl _, by show _ ≤ (mBa 11 j).2; exact Int.le_refl _⟩)) (by decide) (by decide)), (mF_s hE (by decide) (by decide) (by decide))⟩ (fun a_38 ea_38 hq => ?_)
          obtain ⟨hP, hD, hI, hE⟩ := hq
          obtain ⟨t39, et39⟩ : ∃ z : Int32, z = y13 + Int32.ofInt 1 := ⟨_, rfl⟩
          have qt39 : t39.toInt = y13.toInt + 1 := by rw [et39]; exact km_inc b23 (by decide) (by decide)
          have b40 : kb 1 t39 20 := kb_inc (k := 1) qt39 b23
          refine lv_iinc (v := t39) (lv' := [(6, .int t39), (0, .ref o), (1, .int x1), (2, .int x2), (3, .int x3), (4, .int x4), (5, .int x5)]) hx hb dX12_feed_95 hl (k := 0) rfl et39.symm (by decide) rfl (fun ls hl => ?_)
          refine lv_goto (tgt := 55) hx hb dX12_feed_98 (by decide) ?_
          exact ihlp15  a_38 _ _ _ t39 (km_up hmlp15 qt39) hI hE (kb_w b40 (by decide) (by decide)) hP hD hS (lv_sub hl [0, 1, 2, 3, 4, 5, 6] rfl)
    exact lp15 (21)  a_12 _ _ _ 0 (by have h1 := (kc_0); unfold kb at h1; omega) hI hE (kb_w kc_0 (by decide) (by decide)) hP hD hS (lv_sub hl [0, 1, 2, 3, 4, 5, 6] rfl)
  · have h41 := (kc_nle c4)
    have b42 : kb 401 t2 420 := kr_lt2 h41 kc_400 b3 (by decide)
    refine lv_iconst (v := (-1)) hx hb dX12_feed_13 (by decide) ?_
    exact kI_ret (v := (-1)) hx hb hr hlocks rfl hK hS dX12_feed_14 (f, a, g) hP hD ⟨(kb_w kc_m1 (by decide) (by decide)), hI, hE, (by unfold mFeedV; rw [if_pos (by rw [← ec13_f]; have h1 := (b42).1; have h2 := (b42).2; omega)]), (by unfold mFeedT; rw [if_pos (by rw [← ec13_f]; have h1 := (b42).1; have h2 := (b42).2; omega)])⟩
set_option maxHeartbeats 4000000 in
set_option maxRecDepth 100000 in
theorem m_end  (l : Launch) {D : va_G} {K : Nat → ClassId} (o : Nat) (r : Nat → Nat) (f : Nat → Int32) (a : Nat → Nat → Int32) (g : Nat → Int64) (hI : mI f a) (x : Int32)    : kI l yX12_end (Cond.code yX12_end cX12_end 2 (some .int) :: kG) (rmD 2 0 0) D (tysK K) [.ref o, .int x] (mW K o r f a g) (fun v (u : mS) => kb (-2147483648) v 2147483647 ∧ mI u.1 u.2.1 ∧ mF (XR []) f a u.1 u.2.1 ∧ v = (if mLies x 0 (f 13) = 0 then -1 else x) ∧ u.1 13 = (if mLies x 0 (f 13) = 0 then f 13 else x) ∧ u.2.1 11 = a 11) (fun u => mW K o r u.1 u.2.1 u.2.2) 0 0 := by
  refine kI.of (cc := cX12_end) (maxL := 2) (ret := (some .int)) (by decide) rfl (Nat.le_of_ble_eq_true rfl) ?_
  intro p e s m below meth c A hx hb hr hml hown hts hlocks hnm hK hP hD hS hA ls hl
  have hE : mF (XR []) f a f a := mF_rf
  have hg : ∀ w ∈ kG, w.before _ s = true := fun w h => hts w (List.mem_cons_of_mem _ h)
  have hown : s.vm.findClass RX12 = some m.cls := hown
  have hl : lv_has ls 2 [(0, .ref o), (1, .int x)] := hl
  obtain ⟨c13_f, ec13_f⟩ : ∃ z : Int32, z = f 13 := ⟨_, rfl⟩
  have b1 : kb 0 c13_f 400 := kb_eq ec13_f (fI_at hI.1 13 (by decide) (by decide))
  refine lv_iload_n hx hb dX12_end_0 rfl (lv_at hl 1 rfl) ?_
  refine lv_iconst (v := 0) hx hb dX12_end_1 (by decide) ?_
  refine lv_aload_n hx hb dX12_end_2 rfl (lv_at hl 0 rfl) ?_
  refine va_get (D := D) (ci := 12) (v := .int (f 13)) (C := RX12) (T := TX12) (N := 48) hx hb hg inC12 hown hK hP 0 rfl rfl 13 (by decide) (hg _ wt5_173) (fun _ h9 => h9) rfl dX12_end_3 ?_
  refine k_top (z := c13_f) ec13_f.symm ?_
  refine kN.callS (As := [.int x, .int 0, .int c13_f]) (rest := []) ⟨hx, hb, hml, hown, hg⟩ (m_lies l x 0 c13_f ) (va_cwS 3 hg (kgS wt6_69 wt6_70 wt1_14 wt6_71) rfl rfl rfl (by decide +kernel) ⟨by decide, by decide⟩) hP hS rfl hl.1 rfl (Nat.le_of_ble_eq_true rfl) dX12_end_6 ⟨Nat.le_refl _, Nat.le_refl _⟩ (fun v3 H locs hw2 hP hS => ?_)
  refine lv_if_ne (tgt := 14) hx hb dX12_end_9 (by decide) (fun c5 => ?_) (fun c5 => ?_)
  · have b6 : kb 1 v3 1 := kr_nel c5 hw2.1 kc_0 (by decide)
    have h7 := mLies_ne (hw2.2 ▸ c5)
    have b8 : kb 0 x 2147483647 := kr_le2 h7.1 kc_0 (kb_any x)
    have b9 : kb 0 x 400 := kr_le1 h7.2 b8 b1
    refine lv_aload_n hx hb dX12_end_14 rfl (lv_at hl 0 rfl) ?_
    refine lv_iload_n hx hb dX12_end_15 rfl (lv_at hl 1 rfl) ?_
    refine va_put (D := D) (ci := 12) (v := .int x) (ty := .int) (C := RX12) (T := TX12) (N := 48) hx hb hg inC12 tyX12 tyX12_ok nmX12 hown hK hP hD hS 0 rfl rfl 13 (by decide) (hg _ wt5_173) (fun _ h9 => h9) rfl (by decide +kernel) rfl rfl (Nat.le_of_ble_eq_true rfl) dX12_end_16 (fun H locs hP hD hS => ?_)
    have hP : va_P D vwCl (mW K o r (upd f 13 x) a g) H := hP
    have hD : va_D A (mW K o r (upd f 13 x) a g) := hD
    refine k_gen (P := fun z => va_P D vwCl (mW K o r z a g) H ∧ va_D A (mW K o r z a g) ∧ (mI z a) ∧ (mF (XR []) f a z a)) (upd f 13 x) ⟨hP, hD, (mI_f hI (fI_st hI.1 13 b9 (by decide) (by decide))), (mF_f hE)⟩ (fun f_10 ef_10 hq => ?_)
    obtain ⟨hP, hD, hI, hE⟩ := hq
    refine lv_iload_n hx hb dX12_end_19 rfl (lv_at hl 1 rfl) ?_
    exact kI_ret (v := x) hx hb hr hlocks rfl hK hS dX12_end_20 (f_10, a, g) hP hD ⟨(kb_w b9 (by decide) (by decide)), hI, hE, (by rw [← ec13_f, if_neg (fun q => c5 (hw2.2.trans q))]), (by rw [← ec13_f, if_neg (fun q => c5 (hw2.2.trans q))]; exact (show f_10 13 = x from by rw [← ef_10]; rfl)), rfl⟩
  · have b11 : kb 0 v3 0 := kb_eq c5 kc_0
    refine lv_iconst (v := (-1)) hx hb dX12_end_12 (by decide) ?_
    exact kI_ret (v := (-1)) hx hb hr hlocks rfl hK hS dX12_end_13 (f, a, g) hP hD ⟨(kb_w kc_m1 (by decide) (by decide)), hI, hE, (by rw [← ec13_f, if_pos (hw2.2.symm.trans c5)]), (by rw [← ec13_f, if_pos (hw2.2.symm.trans c5)]; exact ec13_f.symm), rfl⟩
set_option maxHeartbeats 4000000 in
set_option maxRecDepth 100000 in
theorem m_row  (l : Launch) {D : va_G} {K : Nat → ClassId} (o : Nat) (r : Nat → Nat) (f : Nat → Int32) (a : Nat → Nat → Int32) (g : Nat → Int64) (hI : mI f a)     : kI l yX12_row (Cond.code yX12_row cX12_row 6 (some .int) :: kG) (rmD 3 0 0) D (tysK K) [.ref o] (mW K o r f a g) (fun v (u : mS) => kb (-2147483648) v 2147483647 ∧ mI u.1 u.2.1 ∧ mF (XR [(0, 63), (102, 103)]) f a u.1 u.2.1 ∧ u.1 13 = 0) (fun u => mW K o r u.1 u.2.1 u.2.2) 0 0 := by
  refine kI.of (cc := cX12_row) (maxL := 6) (ret := (some .int)) (by decide) rfl (Nat.le_of_ble_eq_true rfl) ?_
  intro p e s m below meth c A hx hb hr hml hown hts hlocks hnm hK hP hD hS hA ls hl
  have hE : mF (XR [(0, 63), (102, 103)]) f a f a := mF_rf
  have hg : ∀ w ∈ kG, w.before _ s = true := fun w h => hts w (List.mem_cons_of_mem _ h)
  have hown : s.vm.findClass RX12 = some m.cls := hown
  have hl : lv_has ls 6 [(0, .ref o)] := hl
  refine lv_aload_n hx hb dX12_row_0 rfl (lv_at hl 0 rfl) ?_
  refine va_get (D := D) (ci := 12) (v := .int (f 13)) (C := RX12) (T := TX12) (N := 48) hx hb hg inC12 hown hK hP 0 rfl rfl 13 (by decide) (hg _ wt5_173) (fun _ h9 => h9) rfl dX12_row_1 ?_
  refine lv_topi (fun t1 et1 => ?_)
  have b2 : kb 0 t1 400 := kb_eq et1 (fI_at hI.1 13 (by decide) (by decide))
  refine lv_istore_n (lv' := [(1, .int t1), (0, .ref o)]) hx hb dX12_row_4 rfl hl (by decide) rfl (fun ls hl => ?_)
  refine lv_aload_n hx hb dX12_row_5 rfl (lv_at hl 1 rfl) ?_
  refine lv_iconst (v := 0) hx hb dX12_row_6 (by decide) ?_
  refine va_put (D := D) (ci := 12) (v := .int 0) (ty := .int) (C := RX12) (T := TX12) (N := 48) hx hb hg inC12 tyX12 tyX12_ok nmX12 hown hK hP hD hS 0 rfl rfl 13 (by decide) (hg _ wt5_173) (fun _ h9 => h9) rfl (by decide +kernel) rfl rfl (Nat.le_of_ble_eq_true rfl) dX12_row_7 (fun H locs hP hD hS => ?_)
  have hP : va_P D vwCl (mW K o r (upd f 13 0) a g) H := hP
  have hD : va_D A (mW K o r (upd f 13 0) a g) := hD
  refine k_gen (P := fun z => va_P D vwCl (mW K o r z a g) H ∧ va_D A (mW K o r z a g) ∧ (mI z a) ∧ (mF (XR [(0, 63), (102, 103)]) f a z a)) (upd f 13 0) ⟨hP, hD, (mI_f hI (fI_st hI.1 13 kc_0 (by decide) (by decide))), (mF_f hE)⟩ (fun f_3 ef_3 hq => ?_)
  obtain ⟨hP, hD, hI, hE⟩ := hq
  have hk0 : f_3 13 = 0 := (show f_3 13 = 0 from by rw [← ef_3]; rfl)
  refine lv_iload_n hx hb dX12_row_10 rfl (lv_at hl 0 rfl) ?_
  refine lv_if_ne (tgt := 21) hx hb dX12_row_11 (by decide) (fun c4 => ?_) (fun c4 => ?_)
  · have b5 : kb 1 t1 400 := kr_nel c4 b2 kc_0 (by decide)
    refine lv_iconst (v := 0) hx hb dX12_row_21 (by decide) ?_
    refine lv_istore_n (lv' := [(2, .int 0), (1, .int t1), (0, .ref o)]) hx hb dX12_row_22 rfl hl (by decide) rfl (fun ls hl => ?_)
    refine lv_aload_n hx hb dX12_row_23 rfl (lv_at hl 2 rfl) ?_
    refine lv_iload_n hx hb dX12_row_24 rfl (lv_at hl 1 rfl) ?_
    refine lv_iconst (v := 4) hx hb dX12_row_25 (by decide) ?_
    refine lv_irem hx hb dX12_row_26 (by decide +kernel) ?_
    refine lv_topi (fun t6 et6 => ?_)
    have b7 : kb 0 t6 3 := kb_eq et6 (kb_rem (d := 4) b5 (by decide) rfl (by decide) (by decide))
    have jn11 : ∀ (H : Heap) (locs : List Loc) (ls : Array Slot) (z10 : Int32), (kb 0 z10 1) → va_P D vwCl (mW K o r f_3 a g) H → va_D A (mW K o r f_3 a g) → va_S A s.heap H locs → lv_has ls 6 [(2, .int 0), (1, .int t1), (0, .ref o)] → W p l e (rmD 3 0 0) s m ([.ref o] : List Value).toArray below meth c H locs 0 0 (kQi D (tysK K) (fun v (u : mS) => kb (-2147483648) v 2147483647 ∧ mI u.1 u.2.1 ∧ mF (XR [(0, 63), (102, 103)]) f a u.1 u.2.1 ∧ u.1 13 = 0) (fun u => mW K o r u.1 u.2.1 u.2.2) A below ([.ref o] : List Value).toArray s 0 0) (F0 m 35 ls [.int z10, .ref o]) := by
      intro  H locs ls z10 b12 hP hD hS hl
      refine va_put (D := D) (ci := 12) (v := .int z10) (ty := .int) (C := RX12) (T := TX12) (N := 48) hx hb hg inC12 tyX12 tyX12_ok nmX12 hown hK hP hD hS 0 rfl rfl 6 (by decide) (hg _ wt5_166) (fun _ h9 => h9) rfl (by decide +kernel) rfl rfl (Nat.le_of_ble_eq_true rfl) dX12_row_35 (fun H locs hP hD hS => ?_)
      have hP : va_P D vwCl (mW K o r (upd f_3 6 z10) a g) H := hP
      have hD : va_D A (mW K o r (upd f_3 6 z10) a g) := hD
      refine k_gen (P := fun z => va_P D vwCl (mW K o r z a g) H ∧ va_D A (mW K o r z a g) ∧ (mI z a) ∧ (mF (XR [(0, 63), (102, 103)]) f a z a) ∧ (z 13 = 0)) (upd f_3 6 z10) ⟨hP, hD, (mI_f hI (fI_st hI.1 6 (kb_any _) (by decide) (by decide))), (mF_f hE), ((pk_un (by decide)).trans hk0)⟩ (fun f_13 ef_13 hq => ?_)
      obtain ⟨hP, hD, hI, hE, hk0⟩ := hq
      refine lv_iconst (v := 0) hx hb dX12_row_38 (by decide) ?_
      refine lv_istore_n (lv' := [(3, .int 0), (2, .int 0), (1, .int t1), (0, .ref o)]) hx hb dX12_row_39 rfl hl (by decide) rfl (fun ls hl => ?_)
      have lp19 : ∀ (n20 : Nat) (F16 : Nat → Int32) (B17 : Nat → Nat → Int32) (G18 : Nat → Int64) (H : Heap) (locs : List Loc) (ls : Array Slot) (y14 : Int32) (y15 : Int32), (400 < y14.toInt + (n20 : Int)) → (mI F16 B17) → (mF (XR [(0, 63), (102, 103)]) f a F16 B17) → (F16 13 = 0) → (kb 0 y14 400) → va_P D vwCl (mW K o r F16 B17 G18) H → va_D A (mW K o r F16 B17 G18) → va_S A s.heap H locs → lv_has ls 6 [(3, .int y14), (2, .int y15), (1, .int t1), (0, .ref o)] → W p l e (rmD 3 0 0) s m ([.ref o] : List Value).toArray below meth c H locs 0 0 (kQi D (tysK K) (fun v (u : mS) => kb (-2147483648) v 2147483647 ∧ mI u.1 u.2.1 ∧ mF (XR [(0, 63), (102, 103)]) f a u.1 u.2.1 ∧ u.1 13 = 0) (fun u => mW K o r u.1 u.2.1 u.2.2) A below ([.ref o] : List Value).toArray s 0 0) (F0 m 40 ls []) := by
        intro n20
        induction n20 with
        | zero =>
          intro  F16 B17 G18  H locs ls y14 y15 hmlp19 hI hE hk0 b21 hP hD hS hl
          exact (by have h1 := b21.2; have h2 := hmlp19; omega : False).elim
        | succ n20 ihlp19 =>
          intro  F16 B17 G18  H locs ls y14 y15 hmlp19 hI hE hk0 b21 hP hD hS hl
          refine lv_iload_n hx hb dX12_row_40 rfl (lv_at hl 0 rfl) ?_
          refine lv_iconst (v := 4) hx hb dX12_row_41 (by decide) ?_
          refine lv_iadd hx hb dX12_row_42 ?_
          refine lv_topi (fun t22 et22 => ?_)
          have b23 : kb 4 t22 404 := kb_eq et22 (kb_add b21 kc_4 (by decide) (by decide))
          have qt22 : t22.toInt = y14.toInt + 4 := by rw [et22]; exact kt_addc b21 kc_4 (by decide) (by decide)
          refine lv_iload_n hx hb dX12_row_43 rfl (lv_at hl 2 rfl) ?_
          refine lv_icmp_gt (tgt := 182) hx hb dX12_row_44 (by decide) (fun c24 => ?_) (fun c24 => ?_)
          · have h25 := (kc_lt c24)
            refine lv_aload_n hx hb dX12_row_182 rfl (lv_at hl 3 rfl) ?_
            refine lv_iload_n hx hb dX12_row_183 rfl (lv_at hl 1 rfl) ?_
            refine kI.callV (As := [.int y15]) (rest := []) ⟨hx, hb, hml, hown, hg⟩ (m_settled l o r F16 B17 G18 hI y15  ) (cwV 1 hg (kgV wt6_84 wt6_86 wp3_7 wt1_14 wt6_87) rfl rfl rfl (by decide +kernel) ⟨by decide, by decide⟩) hK hP hD hS hA mIs [] rfl (wr := []) rfl rfl rfl (fun i h => by cases h) 0 12 rfl rfl rfl hl.1 rfl (Nat.le_of_ble_eq_true rfl) dX12_row_184 ⟨Nat.le_refl _, Nat.le_refl _⟩ (fun v27 u28 H locs hw26 hP hD hS => ?_)
            obtain ⟨f29, a30, g31⟩ := u28
            have hP : va_P D vwCl (mW K o r f29 a30 g31) H := hP
            have hD : va_D A (mW K o r f29 a30 g31) := hD
            have hI : mI f29 a30 := hw26.2.1
            have hE : mF (XR [(0, 63), (102, 103)]) f a f29 a30 := mF_tr hE (mF_w (XR_w (by decide)) (mF_of hw26.2.2.1))
            have eE32 : mE (XR []) F16 B17 f29 a30 := hw26.2.2.1
            have hk0 : f29 13 = 0 := (eE32.1 13 rfl).trans hk0
            refine k_top (z := y15) hw26.2.2.2 ?_
            exact kI_ret (v := y15) hx hb hr hlocks rfl hK hS dX12_row_187 (f29, a30, g31) hP hD ⟨(kb_any y15), hI, hE, hk0⟩
          · have h33 := (kc_nlt c24)
            have b34 : kb 4 t22 400 := kr_le1 h33 b23 b5
            have b35 : kb 4 t1 400 := kr_le2 h33 b23 b5
            have b36 : kb 0 y14 396 := ⟨b21.1, by have h1 := b34.2; omega⟩
            refine lv_aload_n hx hb dX12_row_47 rfl (lv_at hl 3 rfl) ?_
            refine va_get (D := D) (ci := 12) (v := .ref (r 11)) (C := RX12) (T := TX12) (N := 48) hx hb hg inC12 hown hK hP 0 rfl rfl 11 (by decide) (hg _ wt5_171) (fun _ h9 => h9) rfl dX12_row_48 ?_
            refine lv_iload_n hx hb dX12_row_51 rfl (lv_at hl 0 rfl) ?_
            refine lv_iconst (v := 1) hx hb dX12_row_52 (by decide) ?_
            refine lv_iadd hx hb dX12_row_53 ?_
            refine lv_topi (fun t37 et37 => ?_)
            have b38 : kb 1 t37 397 := kb_eq et37 (kb_add b36 kc_1 (by decide) (by decide))
            have qt37 : t37.toInt = y14.toInt + 1 := by rw [et37]; exact kt_addc b36 kc_1 (by decide) (by decide)
            refine va_bald hx hb hK hP 7 1 rfl rfl (kb_in b38 (by decide) (by decide)) dX12_row_54 ?_
            refine lv_topi (fun t39 et39 => ?_)
            refine lv_sipush (v := 255) hx hb dX12_row_55 (by decide) ?_
            refine lv_iand hx hb dX12_row_58 ?_
            refine lv_topi (fun t40 et40 => ?_)
            have b41 : kb 0 t40 255 := kb_eq et40 (kb_and 8 (by decide) (by decide))
            refine lv_istore (lv' := [(4, .int t40), (3, .int y14), (2, .int y15), (1, .int t1), (0, .ref o)]) hx hb dX12_row_59 hl (by decide) rfl (fun ls hl => ?_)
            refine lv_aload_n hx hb dX12_row_61 rfl (lv_at hl 4 rfl) ?_
            refine va_get (D := D) (ci := 12) (v := .ref (r 2)) (C := RX12) (T := TX12) (N := 48) hx hb hg inC12 hown hK hP 0 rfl rfl 2 (by decide) (hg _ wt5_162) (fun _ h9 => h9) rfl dX12_row_62 ?_
            refine lv_bipush (v := 102) hx hb dX12_row_65 (by decide) ?_
            refine va_iald hx hb hK hP 2 0 rfl rfl (kb_in kc_102 (by decide) (by decide)) dX12_row_67 ?_
            refine lv_topi (fun t42 et42 => ?_)
            rw [cl_102] at et42
            have b43 : kb 0 t42 10 := kb_eq et42 (aI_at hI.2.1 2 102 (by decide) (by decide))
            refine lv_bipush (v := 10) hx hb dX12_row_68 (by decide) ?_
            refine lv_icmp_ge (tgt := 108) hx hb dX12_row_70 (by decide) (fun c44 => ?_) (fun c44 => ?_)
            · have h45 := (kc_le c44)
              have b46 : kb 10 t42 10 := kr_le2 h45 kc_10 b43
              refine lv_iconst (v := 0) hx hb dX12_row_108 (by decide) ?_
              refine lv_istore (lv' := [(5, .int 0), (4, .int t40), (3, .int y14), (2, .int y15), (1, .int t1), (0, .ref o)]) hx hb dX12_row_109 hl (by decide) rfl (fun ls hl => ?_)
              refine lv_iload hx hb dX12_row_111 (lv_at hl 0 rfl) ?_
              refine lv_if_eq (tgt := 144) hx hb dX12_row_113 (by decide) (fun c47 => ?_) (fun c47 => ?_)
              · refine lv_iload_n hx hb dX12_row_144 rfl (lv_at hl 3 rfl) ?_
                refine lv_iload hx hb dX12_row_145 (lv_at hl 0 rfl) ?_
                refine lv_if_eq (tgt := 154) hx hb dX12_row_147 (by decide) (fun c48 => ?_) (fun c48 => ?_)
                · refine lv_iconst (v := 0) hx hb dX12_row_154 (by decide) ?_
                  refine lv_iadd hx hb dX12_row_155 ?_
                  refine lv_topi (fun t49 et49 => ?_)
                  have qt49 : t49.toInt = y15.toInt + 0 := by rw [et49]; exact kt_addc (kb_any y15) kc_0 (by decide) (by decide)
                  refine lv_istore_n (lv' := [(2, .int t49), (5, .int 0), (4, .int t40), (3, .int y14), (1, .int t1), (0, .ref o)]) hx hb dX12_row_156 rfl hl (by decide) rfl (fun ls hl => ?_)
                  refine lv_aload_n hx hb dX12_row_157 rfl (lv_at hl 5 rfl) ?_
                  refine lv_dup hx hb dX12_row_158 rfl ?_
                  refine va_get (D := D) (ci := 12) (v := .int (F16 6)) (C := RX12) (T := TX12) (N := 48) hx hb hg inC12 hown hK hP 0 rfl rfl 6 (by decide) (hg _ wt5_166) (fun _ h9 => h9) rfl dX12_row_159 ?_
                  refine lv_topi (fun t50 et50 => ?_)
                  refine lv_iload hx hb dX12_row_162 (lv_at hl 1 rfl) ?_
                  refine lv_if_eq (tgt := 171) hx hb dX12_row_164 (by decide) (fun c51 => ?_) (fun c51 => ?_)
                  · refine lv_iconst (v := 1) hx hb dX12_row_171 (by decide) ?_
                    refine lv_iadd hx hb dX12_row_172 ?_
                    refine lv_topi (fun t52 et52 => ?_)
                    refine va_put (D := D) (ci := 12) (v := .int t52) (ty := .int) (C := RX12) (T := TX12) (N := 48) hx hb hg inC12 tyX12 tyX12_ok nmX12 hown hK hP hD hS 0 rfl rfl 6 (by decide) (hg _ wt5_166) (fun _ h9 => h9) rfl (by decide +kernel) rfl rfl (Nat.le_of_ble_eq_true rfl) dX12_row_173 (fun H locs hP hD hS => ?_)
                    have hP : va_P D vwCl (mW K o r (upd F16 6 t52) B17 G18) H := hP
                    have hD : va_D A (mW K o r (upd F16 6 t52) B17 G18) := hD
                    refine k_gen (P := fun z => va_P D vwCl (mW K o r z B17 G18) H ∧ va_D A (mW K o r z B17 G18) ∧ (mI z B17) ∧ (mF (XR [(0, 63), (102, 103)]) f a z B17) ∧ (z 13 = 0)) (upd F16 6 t52) ⟨hP, hD, (mI_f hI (fI_st hI.1 6 (kb_any _) (by decide) (by decide))), (mF_f hE), ((pk_un (by decide)).trans hk0)⟩ (fun f_53 ef_53 hq => ?_)
                    obtain ⟨hP, hD, hI, hE, hk0⟩ := hq
                    obtain ⟨t54, et54⟩ : ∃ z : Int32, z = y14 + Int32.ofInt 4 := ⟨_, rfl⟩
                    have b55 : kb 4 t54 400 := kb_eq et54 (kb_add b36 (kb_ofInt 4 (by decide)) (by decide) (by decide))
                    have qt54 : t54.toInt = y14.toInt + 4 := by rw [et54]; exact km_add b36 (by decide) (by decide) (by decide)
                    refine lv_iinc (v := t54) (lv' := [(3, .int t54), (2, .int t49), (5, .int 0), (4, .int t40), (1, .int t1), (0, .ref o)]) hx hb dX12_row_176 hl (k := 3) rfl et54.symm (by decide) rfl (fun ls hl => ?_)
                    refine lv_goto (tgt := 40) hx hb dX12_row_179 (by decide) ?_
                    exact ihlp19  f_53 B17 G18 _ _ _ t54 t49 (km_upc (k := 4) hmlp19 qt54 (by decide)) hI hE hk0 (kb_w b55 (by decide) (by decide)) hP hD hS (lv_sub hl [0, 1, 4, 5] rfl)
                  · exact kb_nsame c51 kc_0 kc_0
                · exact kb_nsame c48 kc_0 kc_0
              · exact kb_nsame c47 kc_0 kc_0
            · have h56 := (kc_nle c44)
              have b57 : kb 0 t42 9 := kr_lt1 h56 b43 kc_10 (by decide)
              refine lv_aload_n hx hb dX12_row_73 rfl (lv_at hl 4 rfl) ?_
              refine lv_aload_n hx hb dX12_row_74 rfl (lv_at hl 4 rfl) ?_
              refine va_get (D := D) (ci := 12) (v := .ref (r 11)) (C := RX12) (T := TX12) (N := 48) hx hb hg inC12 hown hK hP 0 rfl rfl 11 (by decide) (hg _ wt5_171) (fun _ h9 => h9) rfl dX12_row_75 ?_
              refine lv_iload_n hx hb dX12_row_78 rfl (lv_at hl 1 rfl) ?_
              refine va_bald hx hb hK hP 7 1 rfl rfl (kb_in b36 (by decide) (by decide)) dX12_row_79 ?_
              refine lv_topi (fun t58 et58 => ?_)
              refine lv_iload hx hb dX12_row_80 (lv_at hl 0 rfl) ?_
              refine lv_aload_n hx hb dX12_row_82 rfl (lv_at hl 4 rfl) ?_
              refine va_get (D := D) (ci := 12) (v := .ref (r 11)) (C := RX12) (T := TX12) (N := 48) hx hb hg inC12 hown hK hP 0 rfl rfl 11 (by decide) (hg _ wt5_171) (fun _ h9 => h9) rfl dX12_row_83 ?_
              refine lv_iload_n hx hb dX12_row_86 rfl (lv_at hl 1 rfl) ?_
              refine lv_iconst (v := 2) hx hb dX12_row_87 (by decide) ?_
              refine lv_iadd hx hb dX12_row_88 ?_
              refine lv_topi (fun t59 et59 => ?_)
              have b60 : kb 2 t59 398 := kb_eq et59 (kb_add b36 kc_2 (by decide) (by decide))
              have qt59 : t59.toInt = y14.toInt + 2 := by rw [et59]; exact kt_addc b36 kc_2 (by decide) (by decide)
              refine va_bald hx hb hK hP 7 1 rfl rfl (kb_in b60 (by decide) (by decide)) dX12_row_89 ?_
              refine lv_topi (fun t61 et61 => ?_)
              refine lv_aload_n hx hb dX12_row_90 rfl (lv_at hl 4 rfl) ?_
              refine va_get (D := D) (ci := 12) (v := .ref (r 11)) (C := RX12) (T := TX12) (N := 48) hx hb hg inC12 hown hK hP 0 rfl rfl 11 (by decide) (hg _ wt5_171) (fun _ h9 => h9) rfl dX12_row_91 ?_
              refine lv_iload_n hx hb dX12_row_94 rfl (lv_at hl 1 rfl) ?_
              refine lv_iconst (v := 3) hx hb dX12_row_95 (by decide) ?_
              refine lv_iadd hx hb dX12_row_96 ?_
              refine lv_topi (fun t62 et62 => ?_)
              have b63 : kb 3 t62 399 := kb_eq et62 (kb_add b36 kc_3 (by decide) (by decide))
              have qt62 : t62.toInt = y14.toInt + 3 := by rw [et62]; exact kt_addc b36 kc_3 (by decide) (by decide)
              refine va_bald hx hb hK hP 7 1 rfl rfl (kb_in b63 (by decide) (by decide)) dX12_row_97 ?_
              refine lv_topi (fun t64 et64 => ?_)
              refine kI.callV (As := [.int t58, .int t40, .int t61, .int t64]) (rest := []) ⟨hx, hb, hml, hown, hg⟩ (m_canPart l o r F16 B17 G18 hI t58 t40 t61 t64  ) (cwV 4 hg (kgV wt6_92 wt6_94 wp3_8 wt1_14 wt6_95) rfl rfl rfl (by decide +kernel) ⟨by decide, by decide⟩) hK hP hD hS hA mIs [] rfl (wr := []) rfl rfl rfl (fun i h => by cases h) 0 12 rfl rfl rfl hl.1 rfl (Nat.le_of_ble_eq_true rfl) dX12_row_98 ⟨Nat.le_refl _, Nat.le_refl _⟩ (fun v66 u67 H locs hw65 hP hD hS => ?_)
              have hP : va_P D vwCl (mW K o r F16 B17 G18) H := hP
              have hD : va_D A (mW K o r F16 B17 G18) := hD
              refine lv_if_eq (tgt := 108) hx hb dX12_row_101 (by decide) (fun c68 => ?_) (fun c68 => ?_)
              · have b69 : kb 0 v66 0 := kb_eq c68 kc_0
                refine lv_iconst (v := 0) hx hb dX12_row_108 (by decide) ?_
                refine lv_istore (lv' := [(5, .int 0), (4, .int t40), (3, .int y14), (2, .int y15), (1, .int t1), (0, .ref o)]) hx hb dX12_row_109 hl (by decide) rfl (fun ls hl => ?_)
                refine lv_iload hx hb dX12_row_111 (lv_at hl 0 rfl) ?_
                refine lv_if_eq (tgt := 144) hx hb dX12_row_113 (by decide) (fun c70 => ?_) (fun c70 => ?_)
                · refine lv_iload_n hx hb dX12_row_144 rfl (lv_at hl 3 rfl) ?_
                  refine lv_iload hx hb dX12_row_145 (lv_at hl 0 rfl) ?_
                  refine lv_if_eq (tgt := 154) hx hb dX12_row_147 (by decide) (fun c71 => ?_) (fun c71 => ?_)
                  · refine lv_iconst (v := 0) hx hb dX12_row_154 (by decide) ?_
                    refine lv_iadd hx hb dX12_row_155 ?_
                    refine lv_topi (fun t72 et72 => ?_)
                    have qt72 : t72.toInt = y15.toInt + 0 := by rw [et72]; exact kt_addc (kb_any y15) kc_0 (by decide) (by decide)
                    refine lv_istore_n (lv' := [(2, .int t72), (5, .int 0), (4, .int t40), (3, .int y14), (1, .int t1), (0, .ref o)]) hx hb dX12_row_156 rfl hl (by decide) rfl (fun ls hl => ?_)
                    refine lv_aload_n hx hb dX12_row_157 rfl (lv_at hl 5 rfl) ?_
                    refine lv_dup hx hb dX12_row_158 rfl ?_
                    refine va_get (D := D) (ci := 12) (v := .int (F16 6)) (C := RX12) (T := TX12) (N := 48) hx hb hg inC12 hown hK hP 0 rfl rfl 6 (by decide) (hg _ wt5_166) (fun _ h9 => h9) rfl dX12_row_159 ?_
                    refine lv_topi (fun t73 et73 => ?_)
                    refine lv_iload hx hb dX12_row_162 (lv_at hl 1 rfl) ?_
                    refine lv_if_eq (tgt := 171) hx hb dX12_row_164 (by decide) (fun c74 => ?_) (fun c74 => ?_)
                    · refine lv_iconst (v := 1) hx hb dX12_row_171 (by decide) ?_
                      refine lv_iadd hx hb dX12_row_172 ?_
                      refine lv_topi (fun t75 et75 => ?_)
                      refine va_put (D := D) (ci := 12) (v := .int t75) (ty := .int) (C := RX12) (T := TX12) (N := 48) hx hb hg inC12 tyX12 tyX12_ok nmX12 hown hK hP hD hS 0 rfl rfl 6 (by decide) (hg _ wt5_166) (fun _ h9 => h9) rfl (by decide +kernel) rfl rfl (Nat.le_of_ble_eq_true rfl) dX12_row_173 (fun H locs hP hD hS => ?_)
                      have hP : va_P D vwCl (mW K o r (upd F16 6 t75) B17 G18) H := hP
                      have hD : va_D A (mW K o r (upd F16 6 t75) B17 G18) := hD
                      refine k_gen (P := fun z => va_P D vwCl (mW K o r z B17 G18) H ∧ va_D A (mW K o r z B17 G18) ∧ (mI z B17) ∧ (mF (XR [(0, 63), (102, 103)]) f a z B17) ∧ (z 13 = 0)) (upd F16 6 t75) ⟨hP, hD, (mI_f hI (fI_st hI.1 6 (kb_any _) (by decide) (by decide))), (mF_f hE), ((pk_un (by decide)).trans hk0)⟩ (fun f_76 ef_76 hq => ?_)
                      obtain ⟨hP, hD, hI, hE, hk0⟩ := hq
                      obtain ⟨t77, et77⟩ : ∃ z : Int32, z = y14 + Int32.ofInt 4 := ⟨_, rfl⟩
                      have b78 : kb 4 t77 400 := kb_eq et77 (kb_add b36 (kb_ofInt 4 (by decide)) (by decide) (by decide))
                      have qt77 : t77.toInt = y14.toInt + 4 := by rw [et77]; exact km_add b36 (by decide) (by decide) (by decide)
                      refine lv_iinc (v := t77) (lv' := [(3, .int t77), (2, .int t72), (5, .int 0), (4, .int t40), (1, .int t1), (0, .ref o)]) hx hb dX12_row_176 hl (k := 3) rfl et77.symm (by decide) rfl (fun ls hl => ?_)
                      refine lv_goto (tgt := 40) hx hb dX12_row_179 (by decide) ?_
                      exact ihlp19  f_76 B17 G18 _ _ _ t77 t72 (km_upc (k := 4) hmlp19 qt77 (by decide)) hI hE hk0 (kb_w b78 (by decide) (by decide)) hP hD hS (lv_sub hl [0, 1, 4, 5] rfl)
                    · exact kb_nsame c74 kc_0 kc_0
                  · exact kb_nsame c71 kc_0 kc_0
                · exact kb_nsame c70 kc_0 kc_0
              · have b79 : kb 1 v66 1 := kr_nel c68 hw65.1 kc_0 (by decide)
                have h80 := hw65.2 c68
                have b81 : kb 1 t58 99 := kb_of2 h80
                refine lv_iconst (v := 1) hx hb dX12_row_104 (by decide) ?_
                refine lv_goto (tgt := 109) hx hb dX12_row_105 (by decide) ?_
                refine lv_istore (lv' := [(5, .int 1), (4, .int t40), (3, .int y14), (2, .int y15), (1, .int t1), (0, .ref o)]) hx hb dX12_row_109 hl (by decide) rfl (fun ls hl => ?_)
                refine lv_iload hx hb dX12_row_111 (lv_at hl 0 rfl) ?_
                refine lv_if_eq (tgt := 144) hx hb dX12_row_113 (by decide) (fun c89 => ?_) (fun c89 => ?_)
                · exact kb_dj c89 kc_1 kc_0 (by decide)
                · refine lv_aload_n hx hb dX12_row_116 rfl (lv_at hl 5 rfl) ?_
                  refine lv_aload_n hx hb dX12_row_117 rfl (lv_at hl 5 rfl) ?_
                  refine va_get (D := D) (ci := 12) (v := .ref (r 11)) (C := RX12) (T := TX12) (N := 48) hx hb hg inC12 hown hK hP 0 rfl rfl 11 (by decide) (hg _ wt5_171) (fun _ h9 => h9) rfl dX12_row_118 ?_
                  refine lv_iload_n hx hb dX12_row_121 rfl (lv_at hl 2 rfl) ?_
                  refine va_bald hx hb hK hP 7 1 rfl rfl (kb_in b36 (by decide) (by decide)) dX12_row_122 ?_
                  refine k_top (z := t58) et58.symm ?_
                  refine lv_iload hx hb dX12_row_123 (lv_at hl 1 rfl) ?_
                  refine lv_aload_n hx hb dX12_row_125 rfl (lv_at hl 5 rfl) ?_
                  refine va_get (D := D) (ci := 12) (v := .ref (r 11)) (C := RX12) (T := TX12) (N := 48) hx hb hg inC12 hown hK hP 0 rfl rfl 11 (by decide) (hg _ wt5_171) (fun _ h9 => h9) rfl dX12_row_126 ?_
                  refine lv_iload_n hx hb dX12_row_129 rfl (lv_at hl 2 rfl) ?_
                  refine lv_iconst (v := 2) hx hb dX12_row_130 (by decide) ?_
                  refine lv_iadd hx hb dX12_row_131 ?_
                  refine k_top (z := t59) et59.symm ?_
                  refine va_bald hx hb hK hP 7 1 rfl rfl (kb_in b60 (by decide) (by decide)) dX12_row_132 ?_
                  refine k_top (z := t61) et61.symm ?_
                  refine lv_aload_n hx hb dX12_row_133 rfl (lv_at hl 5 rfl) ?_
                  refine va_get (D := D) (ci := 12) (v := .ref (r 11)) (C := RX12) (T := TX12) (N := 48) hx hb hg inC12 hown hK hP 0 rfl rfl 11 (by decide) (hg _ wt5_171) (fun _ h9 => h9) rfl dX12_row_134 ?_
                  refine lv_iload_n hx hb dX12_row_137 rfl (lv_at hl 2 rfl) ?_
                  refine lv_iconst (v := 3) hx hb dX12_row_138 (by decide) ?_
                  refine lv_iadd hx hb dX12_row_139 ?_
                  refine k_top (z := t62) et62.symm ?_
                  refine va_bald hx hb hK hP 7 1 rfl rfl (kb_in b63 (by decide) (by decide)) dX12_row_140 ?_
                  refine k_top (z := t64) et64.symm ?_
                  refine kV.callV (As := [.int t58, .int t40, .int t61, .int t64]) (rest := []) ⟨hx, hb, hml, hown, hg⟩ (m_addsPart l o r F16 B17 G18 hI t58 t40 t61 t64 b81 (kb_eq et42.symm b57)) (cwV 4 hg (kgV wt6_96 wt6_98 wp3_9 wt1_14 wt6_99) rfl rfl rfl (by decide +kernel) ⟨by decide, by decide⟩) hK hP hD hS hA mIs [] rfl (wr := []) rfl rfl rfl (fun i h => by cases h) 0 12 rfl rfl rfl hl.1 rfl (Nat.le_of_ble_eq_true rfl) dX12_row_141 ⟨Nat.le_refl _, Nat.le_refl _⟩ (fun u92 H locs hw90 hP hD hS => ?_)
                  obtain ⟨f93, a94, g95⟩ := u92
                  have hP : va_P D vwCl (mW K o r f93 a94 g95) H := hP
                  have hD : va_D A (mW K o r f93 a94 g95) := hD
                  have hI : mI f93 a94 := hw90.1
                  have hE : mF (XR [(0, 63), (102, 103)]) f a f93 a94 := mF_tr hE (mF_of hw90.2.1)
                  have eE96 : mE (XR [(0, 63), (102, 103)]) F16 B17 f93 a94 := hw90.2.1
                  have hk0 : f93 13 = 0 := (eE96.1 13 rfl).trans hk0
                  refine lv_iload_n hx hb dX12_row_144 rfl (lv_at hl 3 rfl) ?_
                  refine lv_iload hx hb dX12_row_145 (lv_at hl 0 rfl) ?_
                  refine lv_if_eq (tgt := 154) hx hb dX12_row_147 (by decide) (fun c97 => ?_) (fun c97 => ?_)
                  · exact kb_dj c97 kc_1 kc_0 (by decide)
                  · refine lv_iconst (v := 1) hx hb dX12_row_150 (by decide) ?_
                    refine lv_goto (tgt := 155) hx hb dX12_row_151 (by decide) ?_
                    refine lv_iadd hx hb dX12_row_155 ?_
                    refine lv_topi (fun t98 et98 => ?_)
                    refine lv_istore_n (lv' := [(2, .int t98), (5, .int 1), (4, .int t40), (3, .int y14), (1, .int t1), (0, .ref o)]) hx hb dX12_row_156 rfl hl (by decide) rfl (fun ls hl => ?_)
                    refine lv_aload_n hx hb dX12_row_157 rfl (lv_at hl 5 rfl) ?_
                    refine lv_dup hx hb dX12_row_158 rfl ?_
                    refine va_get (D := D) (ci := 12) (v := .int (f93 6)) (C := RX12) (T := TX12) (N := 48) hx hb hg inC12 hown hK hP 0 rfl rfl 6 (by decide) (hg _ wt5_166) (fun _ h9 => h9) rfl dX12_row_159 ?_
                    refine lv_topi (fun t99 et99 => ?_)
                    refine lv_iload hx hb dX12_row_162 (lv_at hl 1 rfl) ?_
                    refine lv_if_eq (tgt := 171) hx hb dX12_row_164 (by decide) (fun c100 => ?_) (fun c100 => ?_)
                    · exact kb_dj c100 kc_1 kc_0 (by decide)
                    · refine lv_iconst (v := 0) hx hb dX12_row_167 (by decide) ?_
                      refine lv_goto (tgt := 172) hx hb dX12_row_168 (by decide) ?_
                      refine lv_iadd hx hb dX12_row_172 ?_
                      refine lv_topi (fun t101 et101 => ?_)
                      have qt101 : t101.toInt = t99.toInt + 0 := by rw [et101]; exact kt_addc (kb_any t99) kc_0 (by decide) (by decide)
                      refine va_put (D := D) (ci := 12) (v := .int t101) (ty := .int) (C := RX12) (T := TX12) (N := 48) hx hb hg inC12 tyX12 tyX12_ok nmX12 hown hK hP hD hS 0 rfl rfl 6 (by decide) (hg _ wt5_166) (fun _ h9 => h9) rfl (by decide +kernel) rfl rfl (Nat.le_of_ble_eq_true rfl) dX12_row_173 (fun H locs hP hD hS => ?_)
                      have hP : va_P D vwCl (mW K o r (upd f93 6 t101) a94 g95) H := hP
                      have hD : va_D A (mW K o r (upd f93 6 t101) a94 g95) := hD
                      refine k_gen (P := fun z => va_P D vwCl (mW K o r z a94 g95) H ∧ va_D A (mW K o r z a94 g95) ∧ (mI z a94) ∧ (mF (XR [(0, 63), (102, 103)]) f a z a94) ∧ (z 13 = 0)) (upd f93 6 t101) ⟨hP, hD, (mI_f hI (fI_st hI.1 6 (kb_any _) (by decide) (by decide))), (mF_f hE), ((pk_un (by decide)).trans hk0)⟩ (fun f_102 ef_102 hq => ?_)
                      obtain ⟨hP, hD, hI, hE, hk0⟩ := hq
                      obtain ⟨t103, et103⟩ : ∃ z : Int32, z = y14 + Int32.ofInt 4 := ⟨_, rfl⟩
                      have b104 : kb 4 t103 400 := kb_eq et103 (kb_add b36 (kb_ofInt 4 (by decide)) (by decide) (by decide))
                      have qt103 : t103.toInt = y14.toInt + 4 := by rw [et103]; exact km_add b36 (by decide) (by decide) (by decide)
                      refine lv_iinc (v := t103) (lv' := [(3, .int t103), (2, .int t98), (5, .int 1), (4, .int t40), (1, .int t1), (0, .ref o)]) hx hb dX12_row_176 hl (k := 3) rfl et103.symm (by decide) rfl (fun ls hl => ?_)
                      refine lv_goto (tgt := 40) hx hb dX12_row_179 (by decide) ?_
                      exact ihlp19  f_102 a94 g95 _ _ _ t103 t98 (km_upc (k := 4) hmlp19 qt103 (by decide)) hI hE hk0 (kb_w b104 (by decide) (by decide)) hP hD hS (lv_sub hl [0, 1, 4, 5] rfl)
      exact lp19 (401)  f_13 a g _ _ _ 0 0 (by have h1 := (kc_0); unfold kb at h1; omega) hI hE hk0 (kb_w kc_0 (by decide) (by decide)) hP hD hS (lv_sub hl [0, 1, 2, 3] rfl)
    refine lv_if_ne (tgt := 34) hx hb dX12_row_27 (by decide) (fun c105 => ?_) (fun c105 => ?_)
    · have b106 : kb 1 t6 3 := kr_nel c105 b7 kc_0 (by decide)
      refine lv_iconst (v := 1) hx hb dX12_row_34 (by decide) ?_
      exact jn11 _ _ _ 1 (kb_w kc_1 (by decide) (by decide)) hP hD hS (lv_sub hl [0, 1, 2] rfl)
    · have b107 : kb 0 t6 0 := kb_eq c105 kc_0
      refine lv_iconst (v := 0) hx hb dX12_row_30 (by decide) ?_
      refine lv_goto (tgt := 35) hx hb dX12_row_31 (by decide) ?_
      exact jn11 _ _ _ 0 (kb_w kc_0 (by decide) (by decide)) hP hD hS (lv_sub hl [0, 1, 2] rfl)
  · have b108 : kb 0 t1 0 := kb_eq c4 kc_0
    refine lv_aload_n hx hb dX12_row_14 rfl (lv_at hl 1 rfl) ?_
    refine lv_bipush (v := (-6)) hx hb dX12_row_15 (by decide) ?_
    refine kI.callV (As := [.int (-6)]) (rest := []) ⟨hx, hb, hml, hown, hg⟩ (m_refuses l o r f_3 a g hI (-6) (kb_w kc_m6 (by decide) (by decide)) ) (cwV 1 hg (kgV wt6_72 wt6_74 wp3_5 wt1_14 wt6_75) rfl rfl rfl (by decide +kernel) ⟨by decide, by decide⟩) hK hP hD hS hA mIs [] rfl (wr := []) rfl rfl rfl (fun i h => by cases h) 0 12 rfl rfl rfl hl.1 rfl (Nat.le_of_ble_eq_true rfl) dX12_row_17 ⟨Nat.le_refl _, Nat.le_refl _⟩ (fun v110 u111 H locs hw109 hP hD hS => ?_)
    obtain ⟨f112, a113, g114⟩ := u111
    have hP : va_P D vwCl (mW K o r f112 a113 g114) H := hP
    have hD : va_D A (mW K o r f112 a113 g114) := hD
    have hI : mI f112 a113 := hw109.2.1
    have hE : mF (XR [(0, 63), (102, 103)]) f a f112 a113 := mF_tr hE (mF_w (XR_w (by decide)) (mF_of hw109.2.2.1))
    have eE115 : mE (XR []) f_3 a f112 a113 := hw109.2.2.1
    have hk0 : f112 13 = 0 := (eE115.1 13 rfl).trans hk0
    refine k_top (z := (-6)) hw109.2.2.2 ?_
    exact kI_ret (v := (-6)) hx hb hr hlocks rfl hK hS dX12_row_20 (f112, a113, g114) hP hD ⟨(kb_w kc_m6 (by decide) (by decide)), hI, hE, hk0⟩
