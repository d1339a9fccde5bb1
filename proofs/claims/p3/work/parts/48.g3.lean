/-- what force answers, what it does -/
def frcP (x v told frc frc' : Int32) : Prop := (v = -2 ∧ ¬ (-1 ≤ x.toInt ∧ x.toInt ≤ told.toInt - 1) ∧ frc' = frc) ∨ (v = frc ∧ (-1 ≤ x.toInt ∧ x.toInt ≤ told.toInt - 1) ∧ frc' = x)
theorem XR23 {i : Nat} (h : ¬ i < 23) : XR [(0, 23)] i = false := by
  unfold XR
  rw [List.any_cons, List.any_nil, Bool.or_false, Bool.and_eq_false_iff]
  exact Or.inr (decide_eq_false (by omega))
theorem ti_b {a a1 a2 a3 : Nat → Nat → Int32} {i : Nat} {x was : Int32} (e1 : va_up a 2 (upd (a 2) i x) = a1) (h : a2 2 = a1 2) (e3 : va_up a2 2 (upd (a2 2) i was) = a3) (ew : was = a 2 i) : ∀ j, a3 2 j = a 2 j := by
  intro j
  rw [← e3]
  show upd (a2 2) i was j = _
  by_cases c : j = i
  · rw [c, pk_us, ew]
  · rw [pk_un c, h, ← e1]
    show upd (a 2) i x j = _
    rw [pk_un c]
theorem dX12_takesBack_0 : decode cX12_takesBack 0 = .ok (.iconst 0, 1) := by decide +kernel
theorem dX12_takesBack_1 : decode cX12_takesBack 1 = .ok (.istore_n 2, 1) := by decide +kernel
theorem dX12_takesBack_2 : decode cX12_takesBack 2 = .ok (.iload_n 2, 1) := by decide +kernel
theorem dX12_takesBack_3 : decode cX12_takesBack 3 = .ok (.bipush 23, 2) := by decide +kernel
theorem dX12_takesBack_5 : decode cX12_takesBack 5 = .ok (.if_icmp .ge 26, 3) := by decide +kernel
theorem dX12_takesBack_8 : decode cX12_takesBack 8 = .ok (.aload_n 0, 1) := by decide +kernel
theorem dX12_takesBack_9 : decode cX12_takesBack 9 = .ok (.getfield 24, 3) := by decide +kernel
theorem dX12_takesBack_12 : decode cX12_takesBack 12 = .ok (.iload_n 2, 1) := by decide +kernel
theorem dX12_takesBack_13 : decode cX12_takesBack 13 = .ok (.aload_n 0, 1) := by decide +kernel
theorem dX12_takesBack_14 : decode cX12_takesBack 14 = .ok (.getfield 34, 3) := by decide +kernel
theorem dX12_takesBack_17 : decode cX12_takesBack 17 = .ok (.bipush 23, 2) := by decide +kernel
theorem dX12_takesBack_19 : decode cX12_takesBack 19 = .ok (.iload_n 1, 1) := by decide +kernel
theorem dX12_takesBack_20 : decode cX12_takesBack 20 = .ok (.imul, 1) := by decide +kernel
theorem dX12_takesBack_21 : decode cX12_takesBack 21 = .ok (.iload_n 2, 1) := by decide +kernel
theorem dX12_takesBack_22 : decode cX12_takesBack 22 = .ok (.iadd, 1) := by decide +kernel
theorem dX12_takesBack_23 : decode cX12_takesBack 23 = .ok (.iaload, 1) := by decide +kernel
theorem dX12_takesBack_24 : decode cX12_takesBack 24 = .ok (.iastore, 1) := by decide +kernel
theorem dX12_takesBack_25 : decode cX12_takesBack 25 = .ok (.iinc 2 1, 3) := by decide +kernel
theorem dX12_takesBack_28 : decode cX12_takesBack 28 = .ok (.goto (-26), 3) := by decide +kernel
theorem dX12_takesBack_31 : decode cX12_takesBack 31 = .ok (.return_, 1) := by decide +kernel
theorem dX12_terms_0 : decode cX12_terms 0 = .ok (.iload_n 1, 1) := by decide +kernel
theorem dX12_terms_1 : decode cX12_terms 1 = .ok (.iload_n 2, 1) := by decide +kernel
theorem dX12_terms_2 : decode cX12_terms 2 = .ok (.invokestatic 134, 3) := by decide +kernel
theorem dX12_terms_5 : decode cX12_terms 5 = .ok (.ifCond .ne 9, 3) := by decide +kernel
theorem dX12_terms_8 : decode cX12_terms 8 = .ok (.aload_n 0, 1) := by decide +kernel
theorem dX12_terms_9 : decode cX12_terms 9 = .ok (.iconst (-1), 1) := by decide +kernel
theorem dX12_terms_10 : decode cX12_terms 10 = .ok (.invokevirtual 100, 3) := by decide +kernel
theorem dX12_terms_13 : decode cX12_terms 13 = .ok (.ireturn, 1) := by decide +kernel
theorem dX12_terms_14 : decode cX12_terms 14 = .ok (.iload_n 1, 1) := by decide +kernel
theorem dX12_terms_15 : decode cX12_terms 15 = .ok (.ifCond .ne 8, 3) := by decide +kernel
theorem dX12_terms_18 : decode cX12_terms 18 = .ok (.bipush 22, 2) := by decide +kernel
theorem dX12_terms_20 : decode cX12_terms 20 = .ok (.goto 9, 3) := by decide +kernel
theorem dX12_terms_23 : decode cX12_terms 23 = .ok (.bipush 99, 2) := by decide +kernel
theorem dX12_terms_25 : decode cX12_terms 25 = .ok (.iload_n 1, 1) := by decide +kernel
theorem dX12_terms_26 : decode cX12_terms 26 = .ok (.iadd, 1) := by decide +kernel
theorem dX12_terms_27 : decode cX12_terms 27 = .ok (.iconst 1, 1) := by decide +kernel
theorem dX12_terms_28 : decode cX12_terms 28 = .ok (.isub, 1) := by decide +kernel
theorem dX12_terms_29 : decode cX12_terms 29 = .ok (.istore_n 3, 1) := by decide +kernel
theorem dX12_terms_30 : decode cX12_terms 30 = .ok (.aload_n 0, 1) := by decide +kernel
theorem dX12_terms_31 : decode cX12_terms 31 = .ok (.getfield 24, 3) := by decide +kernel
theorem dX12_terms_34 : decode cX12_terms 34 = .ok (.iload_n 3, 1) := by decide +kernel
theorem dX12_terms_35 : decode cX12_terms 35 = .ok (.iaload, 1) := by decide +kernel
theorem dX12_terms_36 : decode cX12_terms 36 = .ok (.istore 4, 2) := by decide +kernel
theorem dX12_terms_38 : decode cX12_terms 38 = .ok (.aload_n 0, 1) := by decide +kernel
theorem dX12_terms_39 : decode cX12_terms 39 = .ok (.getfield 24, 3) := by decide +kernel
theorem dX12_terms_42 : decode cX12_terms 42 = .ok (.iload_n 3, 1) := by decide +kernel
theorem dX12_terms_43 : decode cX12_terms 43 = .ok (.iload_n 2, 1) := by decide +kernel
theorem dX12_terms_44 : decode cX12_terms 44 = .ok (.iastore, 1) := by decide +kernel
theorem dX12_terms_45 : decode cX12_terms 45 = .ok (.aload_n 0, 1) := by decide +kernel
theorem dX12_terms_46 : decode cX12_terms 46 = .ok (.iload 4, 2) := by decide +kernel
theorem dX12_terms_48 : decode cX12_terms 48 = .ok (.invokevirtual 103, 3) := by decide +kernel
theorem dX12_terms_51 : decode cX12_terms 51 = .ok (.ireturn, 1) := by decide +kernel
theorem dX12_force_0 : decode cX12_force 0 = .ok (.iload_n 1, 1) := by decide +kernel
theorem dX12_force_1 : decode cX12_force 1 = .ok (.iconst (-1), 1) := by decide +kernel
theorem dX12_force_2 : decode cX12_force 2 = .ok (.aload_n 0, 1) := by decide +kernel
theorem dX12_force_3 : decode cX12_force 3 = .ok (.getfield 24, 3) := by decide +kernel
theorem dX12_force_6 : decode cX12_force 6 = .ok (.bipush 105, 2) := by decide +kernel
theorem dX12_force_8 : decode cX12_force 8 = .ok (.iaload, 1) := by decide +kernel
theorem dX12_force_9 : decode cX12_force 9 = .ok (.iconst 1, 1) := by decide +kernel
theorem dX12_force_10 : decode cX12_force 10 = .ok (.isub, 1) := by decide +kernel
theorem dX12_force_11 : decode cX12_force 11 = .ok (.invokestatic 96, 3) := by decide +kernel
theorem dX12_force_14 : decode cX12_force 14 = .ok (.ifCond .ne 10, 3) := by decide +kernel
theorem dX12_force_17 : decode cX12_force 17 = .ok (.aload_n 0, 1) := by decide +kernel
theorem dX12_force_18 : decode cX12_force 18 = .ok (.bipush (-2), 2) := by decide +kernel
theorem dX12_force_20 : decode cX12_force 20 = .ok (.invokevirtual 100, 3) := by decide +kernel
theorem dX12_force_23 : decode cX12_force 23 = .ok (.ireturn, 1) := by decide +kernel
theorem dX12_force_24 : decode cX12_force 24 = .ok (.aload_n 0, 1) := by decide +kernel
theorem dX12_force_25 : decode cX12_force 25 = .ok (.getfield 24, 3) := by decide +kernel
theorem dX12_force_28 : decode cX12_force 28 = .ok (.bipush 106, 2) := by decide +kernel
theorem dX12_force_30 : decode cX12_force 30 = .ok (.iaload, 1) := by decide +kernel
theorem dX12_force_31 : decode cX12_force 31 = .ok (.istore_n 2, 1) := by decide +kernel
theorem dX12_force_32 : decode cX12_force 32 = .ok (.aload_n 0, 1) := by decide +kernel
theorem dX12_force_33 : decode cX12_force 33 = .ok (.getfield 24, 3) := by decide +kernel
theorem dX12_force_36 : decode cX12_force 36 = .ok (.bipush 106, 2) := by decide +kernel
theorem dX12_force_38 : decode cX12_force 38 = .ok (.iload_n 1, 1) := by decide +kernel
theorem dX12_force_39 : decode cX12_force 39 = .ok (.iastore, 1) := by decide +kernel
theorem dX12_force_40 : decode cX12_force 40 = .ok (.aload_n 0, 1) := by decide +kernel
theorem dX12_force_41 : decode cX12_force 41 = .ok (.iload_n 2, 1) := by decide +kernel
theorem dX12_force_42 : decode cX12_force 42 = .ok (.invokevirtual 14, 3) := by decide +kernel
theorem dX12_force_45 : decode cX12_force 45 = .ok (.ireturn, 1) := by decide +kernel
theorem dX12_worksBy_0 : decode cX12_worksBy 0 = .ok (.aload_n 0, 1) := by decide +kernel
theorem dX12_worksBy_1 : decode cX12_worksBy 1 = .ok (.iconst 1, 1) := by decide +kernel
theorem dX12_worksBy_2 : decode cX12_worksBy 2 = .ok (.iload_n 1, 1) := by decide +kernel
theorem dX12_worksBy_3 : decode cX12_worksBy 3 = .ok (.iload_n 2, 1) := by decide +kernel
theorem dX12_worksBy_4 : decode cX12_worksBy 4 = .ok (.bipush 20, 2) := by decide +kernel
theorem dX12_worksBy_6 : decode cX12_worksBy 6 = .ok (.aload_n 0, 1) := by decide +kernel
theorem dX12_worksBy_7 : decode cX12_worksBy 7 = .ok (.iload_n 1, 1) := by decide +kernel
theorem dX12_worksBy_8 : decode cX12_worksBy 8 = .ok (.iload_n 2, 1) := by decide +kernel
theorem dX12_worksBy_9 : decode cX12_worksBy 9 = .ok (.invokevirtual 305, 3) := by decide +kernel
theorem dX12_worksBy_12 : decode cX12_worksBy 12 = .ok (.ifCond .eq 15, 3) := by decide +kernel
theorem dX12_worksBy_15 : decode cX12_worksBy 15 = .ok (.aload_n 0, 1) := by decide +kernel
theorem dX12_worksBy_16 : decode cX12_worksBy 16 = .ok (.getfield 24, 3) := by decide +kernel
theorem dX12_worksBy_19 : decode cX12_worksBy 19 = .ok (.bipush 69, 2) := by decide +kernel
theorem dX12_worksBy_21 : decode cX12_worksBy 21 = .ok (.iload_n 1, 1) := by decide +kernel
theorem dX12_worksBy_22 : decode cX12_worksBy 22 = .ok (.iadd, 1) := by decide +kernel
theorem dX12_worksBy_23 : decode cX12_worksBy 23 = .ok (.iaload, 1) := by decide +kernel
theorem dX12_worksBy_24 : decode cX12_worksBy 24 = .ok (.goto 4, 3) := by decide +kernel
theorem dX12_worksBy_27 : decode cX12_worksBy 27 = .ok (.iconst 0, 1) := by decide +kernel
theorem dX12_worksBy_28 : decode cX12_worksBy 28 = .ok (.invokevirtual 311, 3) := by decide +kernel
theorem dX12_worksBy_31 : decode cX12_worksBy 31 = .ok (.ireturn, 1) := by decide +kernel
theorem dX12_tiresBy_0 : decode cX12_tiresBy 0 = .ok (.aload_n 0, 1) := by decide +kernel
theorem dX12_tiresBy_1 : decode cX12_tiresBy 1 = .ok (.iconst 2, 1) := by decide +kernel
theorem dX12_tiresBy_2 : decode cX12_tiresBy 2 = .ok (.iload_n 1, 1) := by decide +kernel
theorem dX12_tiresBy_3 : decode cX12_tiresBy 3 = .ok (.iload_n 2, 1) := by decide +kernel
theorem dX12_tiresBy_4 : decode cX12_tiresBy 4 = .ok (.bipush 20, 2) := by decide +kernel
theorem dX12_tiresBy_6 : decode cX12_tiresBy 6 = .ok (.iconst 1, 1) := by decide +kernel
theorem dX12_tiresBy_7 : decode cX12_tiresBy 7 = .ok (.invokevirtual 311, 3) := by decide +kernel
theorem dX12_tiresBy_10 : decode cX12_tiresBy 10 = .ok (.ireturn, 1) := by decide +kernel
theorem dX12_showsIn_0 : decode cX12_showsIn 0 = .ok (.aload_n 0, 1) := by decide +kernel
theorem dX12_showsIn_1 : decode cX12_showsIn 1 = .ok (.iconst 3, 1) := by decide +kernel
theorem dX12_showsIn_2 : decode cX12_showsIn 2 = .ok (.iload_n 1, 1) := by decide +kernel
theorem dX12_showsIn_3 : decode cX12_showsIn 3 = .ok (.iload_n 2, 1) := by decide +kernel
theorem dX12_showsIn_4 : decode cX12_showsIn 4 = .ok (.bipush 10, 2) := by decide +kernel
theorem dX12_showsIn_6 : decode cX12_showsIn 6 = .ok (.iconst 1, 1) := by decide +kernel
theorem dX12_showsIn_7 : decode cX12_showsIn 7 = .ok (.invokevirtual 311, 3) := by decide +kernel
theorem dX12_showsIn_10 : decode cX12_showsIn 10 = .ok (.ireturn, 1) := by decide +kernel
theorem dX12_isBarred_0 : decode cX12_isBarred 0 = .ok (.aload_n 0, 1) := by decide +kernel
theorem dX12_isBarred_1 : decode cX12_isBarred 1 = .ok (.iconst 4, 1) := by decide +kernel
theorem dX12_isBarred_2 : decode cX12_isBarred 2 = .ok (.iload_n 1, 1) := by decide +kernel
theorem dX12_isBarred_3 : decode cX12_isBarred 3 = .ok (.iload_n 2, 1) := by decide +kernel
theorem dX12_isBarred_4 : decode cX12_isBarred 4 = .ok (.iconst 1, 1) := by decide +kernel
theorem dX12_isBarred_5 : decode cX12_isBarred 5 = .ok (.iconst 0, 1) := by decide +kernel
theorem dX12_isBarred_6 : decode cX12_isBarred 6 = .ok (.invokevirtual 311, 3) := by decide +kernel
theorem dX12_isBarred_9 : decode cX12_isBarred 9 = .ok (.iconst 1, 1) := by decide +kernel
theorem dX12_isBarred_10 : decode cX12_isBarred 10 = .ok (.if_icmp .ne 7, 3) := by decide +kernel
theorem dX12_isBarred_13 : decode cX12_isBarred 13 = .ok (.iconst 1, 1) := by decide +kernel
theorem dX12_isBarred_14 : decode cX12_isBarred 14 = .ok (.goto 4, 3) := by decide +kernel
theorem dX12_isBarred_17 : decode cX12_isBarred 17 = .ok (.iconst 0, 1) := by decide +kernel
theorem dX12_isBarred_18 : decode cX12_isBarred 18 = .ok (.ireturn, 1) := by decide +kernel
theorem dX12_asks_0 : decode cX12_asks 0 = .ok (.aload_n 0, 1) := by decide +kernel
theorem dX12_asks_1 : decode cX12_asks 1 = .ok (.iload_n 1, 1) := by decide +kernel
theorem dX12_asks_2 : decode cX12_asks 2 = .ok (.invokevirtual 131, 3) := by decide +kernel
theorem dX12_asks_5 : decode cX12_asks 5 = .ok (.ifCond .eq 11, 3) := by decide +kernel
theorem dX12_asks_8 : decode cX12_asks 8 = .ok (.aload_n 0, 1) := by decide +kernel
theorem dX12_asks_9 : decode cX12_asks 9 = .ok (.iload_n 2, 1) := by decide +kernel
theorem dX12_asks_10 : decode cX12_asks 10 = .ok (.invokevirtual 122, 3) := by decide +kernel
theorem dX12_asks_13 : decode cX12_asks 13 = .ok (.ifCond .ne 5, 3) := by decide +kernel
theorem dX12_asks_16 : decode cX12_asks 16 = .ok (.iconst (-1), 1) := by decide +kernel
theorem dX12_asks_17 : decode cX12_asks 17 = .ok (.ireturn, 1) := by decide +kernel
theorem dX12_asks_18 : decode cX12_asks 18 = .ok (.iload_n 3, 1) := by decide +kernel
theorem dX12_asks_19 : decode cX12_asks 19 = .ok (.tableswitch 65 0 3 #[29, 36, 43, 50], 29) := by decide +kernel
theorem dX12_asks_48 : decode cX12_asks 48 = .ok (.aload_n 0, 1) := by decide +kernel
theorem dX12_asks_49 : decode cX12_asks 49 = .ok (.iload_n 1, 1) := by decide +kernel
theorem dX12_asks_50 : decode cX12_asks 50 = .ok (.iload_n 2, 1) := by decide +kernel
theorem dX12_asks_51 : decode cX12_asks 51 = .ok (.invokevirtual 315, 3) := by decide +kernel
theorem dX12_asks_54 : decode cX12_asks 54 = .ok (.ireturn, 1) := by decide +kernel
theorem dX12_asks_55 : decode cX12_asks 55 = .ok (.aload_n 0, 1) := by decide +kernel
theorem dX12_asks_56 : decode cX12_asks 56 = .ok (.iload_n 1, 1) := by decide +kernel
theorem dX12_asks_57 : decode cX12_asks 57 = .ok (.iload_n 2, 1) := by decide +kernel
theorem dX12_asks_58 : decode cX12_asks 58 = .ok (.invokevirtual 318, 3) := by decide +kernel
theorem dX12_asks_61 : decode cX12_asks 61 = .ok (.ireturn, 1) := by decide +kernel
theorem dX12_asks_62 : decode cX12_asks 62 = .ok (.aload_n 0, 1) := by decide +kernel
theorem dX12_asks_63 : decode cX12_asks 63 = .ok (.iload_n 1, 1) := by decide +kernel
theorem dX12_asks_64 : decode cX12_asks 64 = .ok (.iload_n 2, 1) := by decide +kernel
theorem dX12_asks_65 : decode cX12_asks 65 = .ok (.invokevirtual 321, 3) := by decide +kernel
theorem dX12_asks_68 : decode cX12_asks 68 = .ok (.ireturn, 1) := by decide +kernel
theorem dX12_asks_69 : decode cX12_asks 69 = .ok (.aload_n 0, 1) := by decide +kernel
theorem dX12_asks_70 : decode cX12_asks 70 = .ok (.iload_n 1, 1) := by decide +kernel
theorem dX12_asks_71 : decode cX12_asks 71 = .ok (.iload_n 2, 1) := by decide +kernel
theorem dX12_asks_72 : decode cX12_asks 72 = .ok (.invokevirtual 324, 3) := by decide +kernel
theorem dX12_asks_75 : decode cX12_asks 75 = .ok (.ifCond .eq 7, 3) := by decide +kernel
theorem dX12_asks_78 : decode cX12_asks 78 = .ok (.iconst 1, 1) := by decide +kernel
theorem dX12_asks_79 : decode cX12_asks 79 = .ok (.goto 4, 3) := by decide +kernel
theorem dX12_asks_82 : decode cX12_asks 82 = .ok (.iconst 0, 1) := by decide +kernel
theorem dX12_asks_83 : decode cX12_asks 83 = .ok (.ireturn, 1) := by decide +kernel
theorem dX12_asks_84 : decode cX12_asks 84 = .ok (.iconst (-1), 1) := by decide +kernel
theorem dX12_asks_85 : decode cX12_asks 85 = .ok (.ireturn, 1) := by decide +kernel
theorem dX12_ticks_0 : decode cX12_ticks 0 = .ok (.aload_n 0, 1) := by decide +kernel
theorem dX12_ticks_1 : decode cX12_ticks 1 = .ok (.invokevirtual 118, 3) := by decide +kernel
theorem dX12_ticks_4 : decode cX12_ticks 4 = .ok (.istore_n 2, 1) := by decide +kernel
theorem dX12_ticks_5 : decode cX12_ticks 5 = .ok (.iconst 0, 1) := by decide +kernel
theorem dX12_ticks_6 : decode cX12_ticks 6 = .ok (.istore_n 3, 1) := by decide +kernel
theorem dX12_ticks_7 : decode cX12_ticks 7 = .ok (.iload_n 3, 1) := by decide +kernel
theorem dX12_ticks_8 : decode cX12_ticks 8 = .ok (.aload_n 0, 1) := by decide +kernel
theorem dX12_ticks_9 : decode cX12_ticks 9 = .ok (.getfield 24, 3) := by decide +kernel
theorem dX12_ticks_12 : decode cX12_ticks 12 = .ok (.bipush 103, 2) := by decide +kernel
theorem dX12_ticks_14 : decode cX12_ticks 14 = .ok (.iaload, 1) := by decide +kernel
theorem dX12_ticks_15 : decode cX12_ticks 15 = .ok (.if_icmp .ge 96, 3) := by decide +kernel
theorem dX12_ticks_18 : decode cX12_ticks 18 = .ok (.iload_n 1, 1) := by decide +kernel
theorem dX12_ticks_19 : decode cX12_ticks 19 = .ok (.iload_n 3, 1) := by decide +kernel
theorem dX12_ticks_20 : decode cX12_ticks 20 = .ok (.invokestatic 302, 3) := by decide +kernel
theorem dX12_ticks_23 : decode cX12_ticks 23 = .ok (.ifCond .eq 20, 3) := by decide +kernel
theorem dX12_ticks_26 : decode cX12_ticks 26 = .ok (.aload_n 0, 1) := by decide +kernel
theorem dX12_ticks_27 : decode cX12_ticks 27 = .ok (.getfield 24, 3) := by decide +kernel
theorem dX12_ticks_30 : decode cX12_ticks 30 = .ok (.bipush 16, 2) := by decide +kernel
theorem dX12_ticks_32 : decode cX12_ticks 32 = .ok (.iload_n 3, 1) := by decide +kernel
theorem dX12_ticks_33 : decode cX12_ticks 33 = .ok (.iadd, 1) := by decide +kernel
theorem dX12_ticks_34 : decode cX12_ticks 34 = .ok (.iaload, 1) := by decide +kernel
theorem dX12_ticks_35 : decode cX12_ticks 35 = .ok (.iconst (-1), 1) := by decide +kernel
theorem dX12_ticks_36 : decode cX12_ticks 36 = .ok (.if_icmp .eq 7, 3) := by decide +kernel
theorem dX12_ticks_39 : decode cX12_ticks 39 = .ok (.iconst 1, 1) := by decide +kernel
theorem dX12_ticks_40 : decode cX12_ticks 40 = .ok (.goto 4, 3) := by decide +kernel
theorem dX12_ticks_43 : decode cX12_ticks 43 = .ok (.iconst 0, 1) := by decide +kernel
theorem dX12_ticks_44 : decode cX12_ticks 44 = .ok (.istore 4, 2) := by decide +kernel
theorem dX12_ticks_46 : decode cX12_ticks 46 = .ok (.aload_n 0, 1) := by decide +kernel
theorem dX12_ticks_47 : decode cX12_ticks 47 = .ok (.getfield 62, 3) := by decide +kernel
theorem dX12_ticks_50 : decode cX12_ticks 50 = .ok (.iload_n 3, 1) := by decide +kernel
theorem dX12_ticks_51 : decode cX12_ticks 51 = .ok (.iload 4, 2) := by decide +kernel
theorem dX12_ticks_53 : decode cX12_ticks 53 = .ok (.ifCond .eq 20, 3) := by decide +kernel
theorem dX12_ticks_56 : decode cX12_ticks 56 = .ok (.aload_n 0, 1) := by decide +kernel
theorem dX12_ticks_57 : decode cX12_ticks 57 = .ok (.iload_n 3, 1) := by decide +kernel
theorem dX12_ticks_58 : decode cX12_ticks 58 = .ok (.aload_n 0, 1) := by decide +kernel
theorem dX12_ticks_59 : decode cX12_ticks 59 = .ok (.getfield 24, 3) := by decide +kernel
theorem dX12_ticks_62 : decode cX12_ticks 62 = .ok (.bipush 16, 2) := by decide +kernel
theorem dX12_ticks_64 : decode cX12_ticks 64 = .ok (.iload_n 3, 1) := by decide +kernel
theorem dX12_ticks_65 : decode cX12_ticks 65 = .ok (.iadd, 1) := by decide +kernel
theorem dX12_ticks_66 : decode cX12_ticks 66 = .ok (.iaload, 1) := by decide +kernel
theorem dX12_ticks_67 : decode cX12_ticks 67 = .ok (.invokevirtual 315, 3) := by decide +kernel
theorem dX12_ticks_70 : decode cX12_ticks 70 = .ok (.goto 4, 3) := by decide +kernel
theorem dX12_ticks_73 : decode cX12_ticks 73 = .ok (.iconst 0, 1) := by decide +kernel
theorem dX12_ticks_74 : decode cX12_ticks 74 = .ok (.iastore, 1) := by decide +kernel
theorem dX12_ticks_75 : decode cX12_ticks 75 = .ok (.aload_n 0, 1) := by decide +kernel
theorem dX12_ticks_76 : decode cX12_ticks 76 = .ok (.getfield 65, 3) := by decide +kernel
theorem dX12_ticks_79 : decode cX12_ticks 79 = .ok (.iload_n 3, 1) := by decide +kernel
theorem dX12_ticks_80 : decode cX12_ticks 80 = .ok (.iload 4, 2) := by decide +kernel
theorem dX12_ticks_82 : decode cX12_ticks 82 = .ok (.ifCond .eq 20, 3) := by decide +kernel
theorem dX12_ticks_85 : decode cX12_ticks 85 = .ok (.aload_n 0, 1) := by decide +kernel
theorem dX12_ticks_86 : decode cX12_ticks 86 = .ok (.iload_n 3, 1) := by decide +kernel
theorem dX12_ticks_87 : decode cX12_ticks 87 = .ok (.aload_n 0, 1) := by decide +kernel
theorem dX12_ticks_88 : decode cX12_ticks 88 = .ok (.getfield 24, 3) := by decide +kernel
theorem dX12_ticks_91 : decode cX12_ticks 91 = .ok (.bipush 16, 2) := by decide +kernel
theorem dX12_ticks_93 : decode cX12_ticks 93 = .ok (.iload_n 3, 1) := by decide +kernel
theorem dX12_ticks_94 : decode cX12_ticks 94 = .ok (.iadd, 1) := by decide +kernel
theorem dX12_ticks_95 : decode cX12_ticks 95 = .ok (.iaload, 1) := by decide +kernel
theorem dX12_ticks_96 : decode cX12_ticks 96 = .ok (.invokevirtual 318, 3) := by decide +kernel
theorem dX12_ticks_99 : decode cX12_ticks 99 = .ok (.goto 5, 3) := by decide +kernel
theorem dX12_ticks_102 : decode cX12_ticks 102 = .ok (.bipush (-2), 2) := by decide +kernel
theorem dX12_ticks_104 : decode cX12_ticks 104 = .ok (.iastore, 1) := by decide +kernel
theorem dX12_ticks_105 : decode cX12_ticks 105 = .ok (.iinc 3 1, 3) := by decide +kernel
theorem dX12_ticks_108 : decode cX12_ticks 108 = .ok (.goto (-101), 3) := by decide +kernel
theorem dX12_ticks_111 : decode cX12_ticks 111 = .ok (.iconst 0, 1) := by decide +kernel
theorem dX12_ticks_112 : decode cX12_ticks 112 = .ok (.istore_n 3, 1) := by decide +kernel
theorem dX12_ticks_113 : decode cX12_ticks 113 = .ok (.iload_n 3, 1) := by decide +kernel
theorem dX12_ticks_114 : decode cX12_ticks 114 = .ok (.aload_n 0, 1) := by decide +kernel
theorem dX12_ticks_115 : decode cX12_ticks 115 = .ok (.getfield 24, 3) := by decide +kernel
theorem dX12_ticks_118 : decode cX12_ticks 118 = .ok (.bipush 103, 2) := by decide +kernel
theorem dX12_ticks_120 : decode cX12_ticks 120 = .ok (.iaload, 1) := by decide +kernel
theorem dX12_ticks_121 : decode cX12_ticks 121 = .ok (.if_icmp .ge 100, 3) := by decide +kernel
theorem dX12_ticks_124 : decode cX12_ticks 124 = .ok (.iload_n 1, 1) := by decide +kernel
theorem dX12_ticks_125 : decode cX12_ticks 125 = .ok (.iload_n 3, 1) := by decide +kernel
theorem dX12_ticks_126 : decode cX12_ticks 126 = .ok (.invokestatic 302, 3) := by decide +kernel
theorem dX12_ticks_129 : decode cX12_ticks 129 = .ok (.ifCond .ne 6, 3) := by decide +kernel
theorem dX12_ticks_132 : decode cX12_ticks 132 = .ok (.goto 83, 3) := by decide +kernel
theorem dX12_ticks_135 : decode cX12_ticks 135 = .ok (.aload_n 0, 1) := by decide +kernel
theorem dX12_ticks_136 : decode cX12_ticks 136 = .ok (.getfield 24, 3) := by decide +kernel
theorem dX12_ticks_139 : decode cX12_ticks 139 = .ok (.bipush 16, 2) := by decide +kernel
theorem dX12_ticks_141 : decode cX12_ticks 141 = .ok (.iload_n 3, 1) := by decide +kernel
theorem dX12_ticks_142 : decode cX12_ticks 142 = .ok (.iadd, 1) := by decide +kernel
theorem dX12_ticks_143 : decode cX12_ticks 143 = .ok (.iaload, 1) := by decide +kernel
theorem dX12_ticks_144 : decode cX12_ticks 144 = .ok (.istore 4, 2) := by decide +kernel
theorem dX12_ticks_146 : decode cX12_ticks 146 = .ok (.iload 4, 2) := by decide +kernel
theorem dX12_ticks_148 : decode cX12_ticks 148 = .ok (.iconst (-1), 1) := by decide +kernel
theorem dX12_ticks_149 : decode cX12_ticks 149 = .ok (.if_icmp .eq 32, 3) := by decide +kernel
theorem dX12_ticks_152 : decode cX12_ticks 152 = .ok (.aload_n 0, 1) := by decide +kernel
theorem dX12_ticks_153 : decode cX12_ticks 153 = .ok (.getfield 24, 3) := by decide +kernel
theorem dX12_ticks_156 : decode cX12_ticks 156 = .ok (.iconst 0, 1) := by decide +kernel
theorem dX12_ticks_157 : decode cX12_ticks 157 = .ok (.iload 4, 2) := by decide +kernel
theorem dX12_ticks_159 : decode cX12_ticks 159 = .ok (.iadd, 1) := by decide +kernel
theorem dX12_ticks_160 : decode cX12_ticks 160 = .ok (.iconst 0, 1) := by decide +kernel
theorem dX12_ticks_161 : decode cX12_ticks 161 = .ok (.aload_n 0, 1) := by decide +kernel
theorem dX12_ticks_162 : decode cX12_ticks 162 = .ok (.getfield 24, 3) := by decide +kernel
theorem dX12_ticks_165 : decode cX12_ticks 165 = .ok (.iconst 0, 1) := by decide +kernel
theorem dX12_ticks_166 : decode cX12_ticks 166 = .ok (.iload 4, 2) := by decide +kernel
theorem dX12_ticks_168 : decode cX12_ticks 168 = .ok (.iadd, 1) := by decide +kernel
theorem dX12_ticks_169 : decode cX12_ticks 169 = .ok (.iaload, 1) := by decide +kernel
theorem dX12_ticks_170 : decode cX12_ticks 170 = .ok (.aload_n 0, 1) := by decide +kernel
theorem dX12_ticks_171 : decode cX12_ticks 171 = .ok (.getfield 62, 3) := by decide +kernel
theorem dX12_ticks_174 : decode cX12_ticks 174 = .ok (.iload_n 3, 1) := by decide +kernel
theorem dX12_ticks_175 : decode cX12_ticks 175 = .ok (.iaload, 1) := by decide +kernel
theorem dX12_ticks_176 : decode cX12_ticks 176 = .ok (.isub, 1) := by decide +kernel
theorem dX12_ticks_177 : decode cX12_ticks 177 = .ok (.invokestatic 327, 3) := by decide +kernel
theorem dX12_ticks_180 : decode cX12_ticks 180 = .ok (.iastore, 1) := by decide +kernel
theorem dX12_ticks_181 : decode cX12_ticks 181 = .ok (.aload_n 0, 1) := by decide +kernel
theorem dX12_ticks_182 : decode cX12_ticks 182 = .ok (.getfield 24, 3) := by decide +kernel
theorem dX12_ticks_185 : decode cX12_ticks 185 = .ok (.bipush 10, 2) := by decide +kernel
theorem dX12_ticks_187 : decode cX12_ticks 187 = .ok (.iload_n 3, 1) := by decide +kernel
theorem dX12_ticks_188 : decode cX12_ticks 188 = .ok (.iadd, 1) := by decide +kernel
theorem dX12_ticks_189 : decode cX12_ticks 189 = .ok (.iconst 0, 1) := by decide +kernel
theorem dX12_ticks_190 : decode cX12_ticks 190 = .ok (.bipush 99, 2) := by decide +kernel
theorem dX12_ticks_192 : decode cX12_ticks 192 = .ok (.aload_n 0, 1) := by decide +kernel
theorem dX12_ticks_193 : decode cX12_ticks 193 = .ok (.getfield 24, 3) := by decide +kernel
theorem dX12_ticks_196 : decode cX12_ticks 196 = .ok (.bipush 10, 2) := by decide +kernel
theorem dX12_ticks_198 : decode cX12_ticks 198 = .ok (.iload_n 3, 1) := by decide +kernel
theorem dX12_ticks_199 : decode cX12_ticks 199 = .ok (.iadd, 1) := by decide +kernel
theorem dX12_ticks_200 : decode cX12_ticks 200 = .ok (.iaload, 1) := by decide +kernel
theorem dX12_ticks_201 : decode cX12_ticks 201 = .ok (.aload_n 0, 1) := by decide +kernel
theorem dX12_ticks_202 : decode cX12_ticks 202 = .ok (.getfield 65, 3) := by decide +kernel
theorem dX12_ticks_205 : decode cX12_ticks 205 = .ok (.iload_n 3, 1) := by decide +kernel
theorem dX12_ticks_206 : decode cX12_ticks 206 = .ok (.iaload, 1) := by decide +kernel
theorem dX12_ticks_207 : decode cX12_ticks 207 = .ok (.iadd, 1) := by decide +kernel
theorem dX12_ticks_208 : decode cX12_ticks 208 = .ok (.invokestatic 330, 3) := by decide +kernel
theorem dX12_ticks_211 : decode cX12_ticks 211 = .ok (.invokestatic 327, 3) := by decide +kernel
theorem dX12_ticks_214 : decode cX12_ticks 214 = .ok (.iastore, 1) := by decide +kernel
theorem dX12_ticks_215 : decode cX12_ticks 215 = .ok (.iinc 3 1, 3) := by decide +kernel
theorem dX12_ticks_218 : decode cX12_ticks 218 = .ok (.goto (-105), 3) := by decide +kernel
theorem dX12_ticks_221 : decode cX12_ticks 221 = .ok (.iconst 0, 1) := by decide +kernel
theorem dX12_ticks_222 : decode cX12_ticks 222 = .ok (.istore_n 3, 1) := by decide +kernel
theorem dX12_ticks_223 : decode cX12_ticks 223 = .ok (.iload_n 3, 1) := by decide +kernel
theorem dX12_ticks_224 : decode cX12_ticks 224 = .ok (.aload_n 0, 1) := by decide +kernel
theorem dX12_ticks_225 : decode cX12_ticks 225 = .ok (.getfield 24, 3) := by decide +kernel
theorem dX12_ticks_228 : decode cX12_ticks 228 = .ok (.bipush 103, 2) := by decide +kernel
theorem dX12_ticks_230 : decode cX12_ticks 230 = .ok (.iaload, 1) := by decide +kernel
theorem dX12_ticks_231 : decode cX12_ticks 231 = .ok (.if_icmp .ge 48, 3) := by decide +kernel
theorem dX12_ticks_234 : decode cX12_ticks 234 = .ok (.aload_n 0, 1) := by decide +kernel
theorem dX12_ticks_235 : decode cX12_ticks 235 = .ok (.getfield 24, 3) := by decide +kernel
theorem dX12_ticks_238 : decode cX12_ticks 238 = .ok (.bipush 16, 2) := by decide +kernel
theorem dX12_ticks_240 : decode cX12_ticks 240 = .ok (.iload_n 3, 1) := by decide +kernel
theorem dX12_ticks_241 : decode cX12_ticks 241 = .ok (.iadd, 1) := by decide +kernel
theorem dX12_ticks_242 : decode cX12_ticks 242 = .ok (.iaload, 1) := by decide +kernel
theorem dX12_ticks_243 : decode cX12_ticks 243 = .ok (.iconst (-1), 1) := by decide +kernel
theorem dX12_ticks_244 : decode cX12_ticks 244 = .ok (.if_icmp .eq 29, 3) := by decide +kernel
theorem dX12_ticks_247 : decode cX12_ticks 247 = .ok (.aload_n 0, 1) := by decide +kernel
theorem dX12_ticks_248 : decode cX12_ticks 248 = .ok (.aload_n 0, 1) := by decide +kernel
theorem dX12_ticks_249 : decode cX12_ticks 249 = .ok (.getfield 24, 3) := by decide +kernel
theorem dX12_ticks_252 : decode cX12_ticks 252 = .ok (.bipush 16, 2) := by decide +kernel
theorem dX12_ticks_254 : decode cX12_ticks 254 = .ok (.iload_n 3, 1) := by decide +kernel
theorem dX12_ticks_255 : decode cX12_ticks 255 = .ok (.iadd, 1) := by decide +kernel
theorem dX12_ticks_256 : decode cX12_ticks 256 = .ok (.iaload, 1) := by decide +kernel
theorem dX12_ticks_257 : decode cX12_ticks 257 = .ok (.invokevirtual 114, 3) := by decide +kernel
theorem dX12_ticks_260 : decode cX12_ticks 260 = .ok (.ifCond .eq 13, 3) := by decide +kernel
theorem dX12_ticks_263 : decode cX12_ticks 263 = .ok (.aload_n 0, 1) := by decide +kernel
theorem dX12_ticks_264 : decode cX12_ticks 264 = .ok (.getfield 24, 3) := by decide +kernel
theorem dX12_ticks_267 : decode cX12_ticks 267 = .ok (.bipush 16, 2) := by decide +kernel
theorem dX12_ticks_269 : decode cX12_ticks 269 = .ok (.iload_n 3, 1) := by decide +kernel
theorem dX12_ticks_270 : decode cX12_ticks 270 = .ok (.iadd, 1) := by decide +kernel
theorem dX12_ticks_271 : decode cX12_ticks 271 = .ok (.iconst (-1), 1) := by decide +kernel
theorem dX12_ticks_272 : decode cX12_ticks 272 = .ok (.iastore, 1) := by decide +kernel
theorem dX12_ticks_273 : decode cX12_ticks 273 = .ok (.iinc 3 1, 3) := by decide +kernel
theorem dX12_ticks_276 : decode cX12_ticks 276 = .ok (.goto (-53), 3) := by decide +kernel
theorem dX12_ticks_279 : decode cX12_ticks 279 = .ok (.aload_n 0, 1) := by decide +kernel
theorem dX12_ticks_280 : decode cX12_ticks 280 = .ok (.getfield 24, 3) := by decide +kernel
theorem dX12_ticks_283 : decode cX12_ticks 283 = .ok (.bipush 22, 2) := by decide +kernel
theorem dX12_ticks_285 : decode cX12_ticks 285 = .ok (.dup2, 1) := by decide +kernel
theorem dX12_ticks_286 : decode cX12_ticks 286 = .ok (.iaload, 1) := by decide +kernel
theorem dX12_ticks_287 : decode cX12_ticks 287 = .ok (.iconst 1, 1) := by decide +kernel
theorem dX12_ticks_288 : decode cX12_ticks 288 = .ok (.iadd, 1) := by decide +kernel
theorem dX12_ticks_289 : decode cX12_ticks 289 = .ok (.iastore, 1) := by decide +kernel
theorem dX12_ticks_290 : decode cX12_ticks 290 = .ok (.aload_n 0, 1) := by decide +kernel
theorem dX12_ticks_291 : decode cX12_ticks 291 = .ok (.invokevirtual 118, 3) := by decide +kernel
theorem dX12_ticks_294 : decode cX12_ticks 294 = .ok (.iload_n 2, 1) := by decide +kernel
theorem dX12_ticks_295 : decode cX12_ticks 295 = .ok (.iconst (-1), 1) := by decide +kernel
theorem dX12_ticks_296 : decode cX12_ticks 296 = .ok (.ixor, 1) := by decide +kernel
theorem dX12_ticks_297 : decode cX12_ticks 297 = .ok (.iand, 1) := by decide +kernel
theorem dX12_ticks_298 : decode cX12_ticks 298 = .ok (.invokestatic 287, 3) := by decide +kernel
theorem dX12_ticks_301 : decode cX12_ticks 301 = .ok (.ireturn, 1) := by decide +kernel
theorem dX12_keeps_0 : decode cX12_keeps 0 = .ok (.bipush 24, 2) := by decide +kernel
theorem dX12_keeps_2 : decode cX12_keeps 2 = .ok (.istore_n 2, 1) := by decide +kernel
theorem dX12_keeps_3 : decode cX12_keeps 3 = .ok (.aload_n 0, 1) := by decide +kernel
theorem dX12_keeps_4 : decode cX12_keeps 4 = .ok (.getfield 11, 3) := by decide +kernel
theorem dX12_keeps_7 : decode cX12_keeps 7 = .ok (.bipush 16, 2) := by decide +kernel
theorem dX12_keeps_9 : decode cX12_keeps 9 = .ok (.if_icmp .ne 43, 3) := by decide +kernel
theorem dX12_keeps_12 : decode cX12_keeps 12 = .ok (.iconst 0, 1) := by decide +kernel
theorem dX12_keeps_13 : decode cX12_keeps 13 = .ok (.istore_n 3, 1) := by decide +kernel
theorem dX12_keeps_14 : decode cX12_keeps 14 = .ok (.iload_n 3, 1) := by decide +kernel
theorem dX12_keeps_15 : decode cX12_keeps 15 = .ok (.bipush 15, 2) := by decide +kernel
theorem dX12_keeps_17 : decode cX12_keeps 17 = .ok (.iload_n 2, 1) := by decide +kernel
theorem dX12_keeps_18 : decode cX12_keeps 18 = .ok (.imul, 1) := by decide +kernel
theorem dX12_keeps_19 : decode cX12_keeps 19 = .ok (.if_icmp .ge 23, 3) := by decide +kernel
theorem dX12_keeps_22 : decode cX12_keeps 22 = .ok (.aload_n 0, 1) := by decide +kernel
theorem dX12_keeps_23 : decode cX12_keeps 23 = .ok (.getfield 68, 3) := by decide +kernel
theorem dX12_keeps_26 : decode cX12_keeps 26 = .ok (.iload_n 3, 1) := by decide +kernel
theorem dX12_keeps_27 : decode cX12_keeps 27 = .ok (.aload_n 0, 1) := by decide +kernel
theorem dX12_keeps_28 : decode cX12_keeps 28 = .ok (.getfield 68, 3) := by decide +kernel
theorem dX12_keeps_31 : decode cX12_keeps 31 = .ok (.iload_n 3, 1) := by decide +kernel
theorem dX12_keeps_32 : decode cX12_keeps 32 = .ok (.iload_n 2, 1) := by decide +kernel
theorem dX12_keeps_33 : decode cX12_keeps 33 = .ok (.iadd, 1) := by decide +kernel
theorem dX12_keeps_34 : decode cX12_keeps 34 = .ok (.iaload, 1) := by decide +kernel
theorem dX12_keeps_35 : decode cX12_keeps 35 = .ok (.iastore, 1) := by decide +kernel
theorem dX12_keeps_36 : decode cX12_keeps 36 = .ok (.iinc 3 1, 3) := by decide +kernel
theorem dX12_keeps_39 : decode cX12_keeps 39 = .ok (.goto (-25), 3) := by decide +kernel
theorem dX12_keeps_42 : decode cX12_keeps 42 = .ok (.aload_n 0, 1) := by decide +kernel
theorem dX12_keeps_43 : decode cX12_keeps 43 = .ok (.dup, 1) := by decide +kernel
theorem dX12_keeps_44 : decode cX12_keeps 44 = .ok (.getfield 11, 3) := by decide +kernel
theorem dX12_keeps_47 : decode cX12_keeps 47 = .ok (.iconst 1, 1) := by decide +kernel
theorem dX12_keeps_48 : decode cX12_keeps 48 = .ok (.isub, 1) := by decide +kernel
theorem dX12_keeps_49 : decode cX12_keeps 49 = .ok (.putfield 11, 3) := by decide +kernel
theorem dX12_keeps_52 : decode cX12_keeps 52 = .ok (.iconst 0, 1) := by decide +kernel
theorem dX12_keeps_53 : decode cX12_keeps 53 = .ok (.istore_n 3, 1) := by decide +kernel
theorem dX12_keeps_54 : decode cX12_keeps 54 = .ok (.iload_n 3, 1) := by decide +kernel
theorem dX12_keeps_55 : decode cX12_keeps 55 = .ok (.bipush 23, 2) := by decide +kernel
theorem dX12_keeps_57 : decode cX12_keeps 57 = .ok (.if_icmp .ge 28, 3) := by decide +kernel
theorem dX12_keeps_60 : decode cX12_keeps 60 = .ok (.aload_n 0, 1) := by decide +kernel
theorem dX12_keeps_61 : decode cX12_keeps 61 = .ok (.getfield 68, 3) := by decide +kernel
theorem dX12_keeps_64 : decode cX12_keeps 64 = .ok (.iload_n 2, 1) := by decide +kernel
theorem dX12_keeps_65 : decode cX12_keeps 65 = .ok (.aload_n 0, 1) := by decide +kernel
theorem dX12_keeps_66 : decode cX12_keeps 66 = .ok (.getfield 11, 3) := by decide +kernel
theorem dX12_keeps_69 : decode cX12_keeps 69 = .ok (.imul, 1) := by decide +kernel
theorem dX12_keeps_70 : decode cX12_keeps 70 = .ok (.iload_n 3, 1) := by decide +kernel
theorem dX12_keeps_71 : decode cX12_keeps 71 = .ok (.iadd, 1) := by decide +kernel
theorem dX12_keeps_72 : decode cX12_keeps 72 = .ok (.aload_n 0, 1) := by decide +kernel
theorem dX12_keeps_73 : decode cX12_keeps 73 = .ok (.getfield 24, 3) := by decide +kernel
theorem dX12_keeps_76 : decode cX12_keeps 76 = .ok (.iload_n 3, 1) := by decide +kernel
theorem dX12_keeps_77 : decode cX12_keeps 77 = .ok (.iaload, 1) := by decide +kernel
theorem dX12_keeps_78 : decode cX12_keeps 78 = .ok (.iastore, 1) := by decide +kernel
theorem dX12_keeps_79 : decode cX12_keeps 79 = .ok (.iinc 3 1, 3) := by decide +kernel
theorem dX12_keeps_82 : decode cX12_keeps 82 = .ok (.goto (-28), 3) := by decide +kernel
theorem dX12_keeps_85 : decode cX12_keeps 85 = .ok (.aload_n 0, 1) := by decide +kernel
theorem dX12_keeps_86 : decode cX12_keeps 86 = .ok (.getfield 68, 3) := by decide +kernel
theorem dX12_keeps_89 : decode cX12_keeps 89 = .ok (.iload_n 2, 1) := by decide +kernel
theorem dX12_keeps_90 : decode cX12_keeps 90 = .ok (.aload_n 0, 1) := by decide +kernel
theorem dX12_keeps_91 : decode cX12_keeps 91 = .ok (.getfield 11, 3) := by decide +kernel
theorem dX12_keeps_94 : decode cX12_keeps 94 = .ok (.imul, 1) := by decide +kernel
theorem dX12_keeps_95 : decode cX12_keeps 95 = .ok (.bipush 23, 2) := by decide +kernel
theorem dX12_keeps_97 : decode cX12_keeps 97 = .ok (.iadd, 1) := by decide +kernel
theorem dX12_keeps_98 : decode cX12_keeps 98 = .ok (.iload_n 1, 1) := by decide +kernel
theorem dX12_keeps_99 : decode cX12_keeps 99 = .ok (.iastore, 1) := by decide +kernel
theorem dX12_keeps_100 : decode cX12_keeps 100 = .ok (.aload_n 0, 1) := by decide +kernel
theorem dX12_keeps_101 : decode cX12_keeps 101 = .ok (.dup, 1) := by decide +kernel
theorem dX12_keeps_102 : decode cX12_keeps 102 = .ok (.getfield 11, 3) := by decide +kernel
theorem dX12_keeps_105 : decode cX12_keeps 105 = .ok (.iconst 1, 1) := by decide +kernel
theorem dX12_keeps_106 : decode cX12_keeps 106 = .ok (.iadd, 1) := by decide +kernel
theorem dX12_keeps_107 : decode cX12_keeps 107 = .ok (.putfield 11, 3) := by decide +kernel
theorem dX12_keeps_110 : decode cX12_keeps 110 = .ok (.return_, 1) := by decide +kernel
theorem dX12_undo_0 : decode cX12_undo 0 = .ok (.aload_n 0, 1) := by decide +kernel
theorem dX12_undo_1 : decode cX12_undo 1 = .ok (.getfield 11, 3) := by decide +kernel
theorem dX12_undo_4 : decode cX12_undo 4 = .ok (.ifCond .ne 10, 3) := by decide +kernel
theorem dX12_undo_7 : decode cX12_undo 7 = .ok (.aload_n 0, 1) := by decide +kernel
theorem dX12_undo_8 : decode cX12_undo 8 = .ok (.bipush (-3), 2) := by decide +kernel
theorem dX12_undo_10 : decode cX12_undo 10 = .ok (.invokevirtual 100, 3) := by decide +kernel
theorem dX12_undo_13 : decode cX12_undo 13 = .ok (.ireturn, 1) := by decide +kernel
theorem dX12_undo_14 : decode cX12_undo 14 = .ok (.aload_n 0, 1) := by decide +kernel
theorem dX12_undo_15 : decode cX12_undo 15 = .ok (.dup, 1) := by decide +kernel
theorem dX12_undo_16 : decode cX12_undo 16 = .ok (.getfield 11, 3) := by decide +kernel
theorem dX12_undo_19 : decode cX12_undo 19 = .ok (.iconst 1, 1) := by decide +kernel
theorem dX12_undo_20 : decode cX12_undo 20 = .ok (.isub, 1) := by decide +kernel
theorem dX12_undo_21 : decode cX12_undo 21 = .ok (.putfield 11, 3) := by decide +kernel
theorem dX12_undo_24 : decode cX12_undo 24 = .ok (.bipush 24, 2) := by decide +kernel
theorem dX12_undo_26 : decode cX12_undo 26 = .ok (.aload_n 0, 1) := by decide +kernel
theorem dX12_undo_27 : decode cX12_undo 27 = .ok (.getfield 11, 3) := by decide +kernel
theorem dX12_undo_30 : decode cX12_undo 30 = .ok (.imul, 1) := by decide +kernel
theorem dX12_undo_31 : decode cX12_undo 31 = .ok (.istore_n 1, 1) := by decide +kernel
theorem dX12_undo_32 : decode cX12_undo 32 = .ok (.iconst 0, 1) := by decide +kernel
theorem dX12_undo_33 : decode cX12_undo 33 = .ok (.istore_n 2, 1) := by decide +kernel
theorem dX12_undo_34 : decode cX12_undo 34 = .ok (.iload_n 2, 1) := by decide +kernel
theorem dX12_undo_35 : decode cX12_undo 35 = .ok (.bipush 23, 2) := by decide +kernel
theorem dX12_undo_37 : decode cX12_undo 37 = .ok (.if_icmp .ge 23, 3) := by decide +kernel
theorem dX12_undo_40 : decode cX12_undo 40 = .ok (.aload_n 0, 1) := by decide +kernel
theorem dX12_undo_41 : decode cX12_undo 41 = .ok (.getfield 24, 3) := by decide +kernel
theorem dX12_undo_44 : decode cX12_undo 44 = .ok (.iload_n 2, 1) := by decide +kernel
theorem dX12_undo_45 : decode cX12_undo 45 = .ok (.aload_n 0, 1) := by decide +kernel
theorem dX12_undo_46 : decode cX12_undo 46 = .ok (.getfield 68, 3) := by decide +kernel
theorem dX12_undo_49 : decode cX12_undo 49 = .ok (.iload_n 1, 1) := by decide +kernel
theorem dX12_undo_50 : decode cX12_undo 50 = .ok (.iload_n 2, 1) := by decide +kernel
theorem dX12_undo_51 : decode cX12_undo 51 = .ok (.iadd, 1) := by decide +kernel
theorem dX12_undo_52 : decode cX12_undo 52 = .ok (.iaload, 1) := by decide +kernel
theorem dX12_undo_53 : decode cX12_undo 53 = .ok (.iastore, 1) := by decide +kernel
theorem dX12_undo_54 : decode cX12_undo 54 = .ok (.iinc 2 1, 3) := by decide +kernel
theorem dX12_undo_57 : decode cX12_undo 57 = .ok (.goto (-23), 3) := by decide +kernel
theorem dX12_undo_60 : decode cX12_undo 60 = .ok (.aload_n 0, 1) := by decide +kernel
theorem dX12_undo_61 : decode cX12_undo 61 = .ok (.aload_n 0, 1) := by decide +kernel
theorem dX12_undo_62 : decode cX12_undo 62 = .ok (.getfield 68, 3) := by decide +kernel
theorem dX12_undo_65 : decode cX12_undo 65 = .ok (.iload_n 1, 1) := by decide +kernel
theorem dX12_undo_66 : decode cX12_undo 66 = .ok (.bipush 23, 2) := by decide +kernel
theorem dX12_undo_68 : decode cX12_undo 68 = .ok (.iadd, 1) := by decide +kernel
theorem dX12_undo_69 : decode cX12_undo 69 = .ok (.iaload, 1) := by decide +kernel
theorem dX12_undo_70 : decode cX12_undo 70 = .ok (.invokevirtual 14, 3) := by decide +kernel
theorem dX12_undo_73 : decode cX12_undo 73 = .ok (.ireturn, 1) := by decide +kernel
theorem dX12_goodOr_0 : decode cX12_goodOr 0 = .ok (.iload_n 1, 1) := by decide +kernel
theorem dX12_goodOr_1 : decode cX12_goodOr 1 = .ok (.ifCond .ge 11, 3) := by decide +kernel
theorem dX12_goodOr_4 : decode cX12_goodOr 4 = .ok (.aload_n 0, 1) := by decide +kernel
theorem dX12_goodOr_5 : decode cX12_goodOr 5 = .ok (.iload_n 1, 1) := by decide +kernel
theorem dX12_goodOr_6 : decode cX12_goodOr 6 = .ok (.invokevirtual 100, 3) := by decide +kernel
theorem dX12_goodOr_9 : decode cX12_goodOr 9 = .ok (.goto 8, 3) := by decide +kernel
theorem dX12_goodOr_12 : decode cX12_goodOr 12 = .ok (.aload_n 0, 1) := by decide +kernel
theorem dX12_goodOr_13 : decode cX12_goodOr 13 = .ok (.iload_n 1, 1) := by decide +kernel
theorem dX12_goodOr_14 : decode cX12_goodOr 14 = .ok (.invokevirtual 14, 3) := by decide +kernel
theorem dX12_goodOr_17 : decode cX12_goodOr 17 = .ok (.ireturn, 1) := by decide +kernel
theorem dX12_sendsKept_0 : decode cX12_sendsKept 0 = .ok (.aload_n 0, 1) := by decide +kernel
theorem dX12_sendsKept_1 : decode cX12_sendsKept 1 = .ok (.iload_n 1, 1) := by decide +kernel
theorem dX12_sendsKept_2 : decode cX12_sendsKept 2 = .ok (.invokevirtual 131, 3) := by decide +kernel
theorem dX12_sendsKept_5 : decode cX12_sendsKept 5 = .ok (.ifCond .eq 11, 3) := by decide +kernel
theorem dX12_sendsKept_8 : decode cX12_sendsKept 8 = .ok (.aload_n 0, 1) := by decide +kernel
theorem dX12_sendsKept_9 : decode cX12_sendsKept 9 = .ok (.iload_n 2, 1) := by decide +kernel
theorem dX12_sendsKept_10 : decode cX12_sendsKept 10 = .ok (.invokevirtual 122, 3) := by decide +kernel
theorem dX12_sendsKept_13 : decode cX12_sendsKept 13 = .ok (.ifCond .ne 6, 3) := by decide +kernel
theorem dX12_sendsKept_16 : decode cX12_sendsKept 16 = .ok (.bipush (-2), 2) := by decide +kernel
theorem dX12_sendsKept_18 : decode cX12_sendsKept 18 = .ok (.ireturn, 1) := by decide +kernel
theorem dX12_sendsKept_19 : decode cX12_sendsKept 19 = .ok (.aload_n 0, 1) := by decide +kernel
theorem dX12_sendsKept_20 : decode cX12_sendsKept 20 = .ok (.iload_n 2, 1) := by decide +kernel
theorem dX12_sendsKept_21 : decode cX12_sendsKept 21 = .ok (.invokevirtual 125, 3) := by decide +kernel
theorem dX12_sendsKept_24 : decode cX12_sendsKept 24 = .ok (.ifCond .eq 12, 3) := by decide +kernel
theorem dX12_sendsKept_27 : decode cX12_sendsKept 27 = .ok (.aload_n 0, 1) := by decide +kernel
theorem dX12_sendsKept_28 : decode cX12_sendsKept 28 = .ok (.iload_n 1, 1) := by decide +kernel
theorem dX12_sendsKept_29 : decode cX12_sendsKept 29 = .ok (.iload_n 2, 1) := by decide +kernel
theorem dX12_sendsKept_30 : decode cX12_sendsKept 30 = .ok (.invokevirtual 324, 3) := by decide +kernel
theorem dX12_sendsKept_33 : decode cX12_sendsKept 33 = .ok (.ifCond .eq 6, 3) := by decide +kernel
theorem dX12_sendsKept_36 : decode cX12_sendsKept 36 = .ok (.bipush (-3), 2) := by decide +kernel
theorem dX12_sendsKept_38 : decode cX12_sendsKept 38 = .ok (.ireturn, 1) := by decide +kernel
theorem dX12_sendsKept_39 : decode cX12_sendsKept 39 = .ok (.aload_n 0, 1) := by decide +kernel
theorem dX12_sendsKept_40 : decode cX12_sendsKept 40 = .ok (.iconst 0, 1) := by decide +kernel
theorem dX12_sendsKept_41 : decode cX12_sendsKept 41 = .ok (.invokevirtual 333, 3) := by decide +kernel
theorem dX12_sendsKept_44 : decode cX12_sendsKept 44 = .ok (.aload_n 0, 1) := by decide +kernel
theorem dX12_sendsKept_45 : decode cX12_sendsKept 45 = .ok (.getfield 24, 3) := by decide +kernel
theorem dX12_sendsKept_48 : decode cX12_sendsKept 48 = .ok (.bipush 16, 2) := by decide +kernel
theorem dX12_sendsKept_50 : decode cX12_sendsKept 50 = .ok (.iload_n 1, 1) := by decide +kernel
theorem dX12_sendsKept_51 : decode cX12_sendsKept 51 = .ok (.iadd, 1) := by decide +kernel
theorem dX12_sendsKept_52 : decode cX12_sendsKept 52 = .ok (.iload_n 2, 1) := by decide +kernel
theorem dX12_sendsKept_53 : decode cX12_sendsKept 53 = .ok (.iastore, 1) := by decide +kernel
theorem dX12_sendsKept_54 : decode cX12_sendsKept 54 = .ok (.aload_n 0, 1) := by decide +kernel
theorem dX12_sendsKept_55 : decode cX12_sendsKept 55 = .ok (.getfield 24, 3) := by decide +kernel
theorem dX12_sendsKept_58 : decode cX12_sendsKept 58 = .ok (.iconst 0, 1) := by decide +kernel
theorem dX12_sendsKept_59 : decode cX12_sendsKept 59 = .ok (.iload_n 2, 1) := by decide +kernel
theorem dX12_sendsKept_60 : decode cX12_sendsKept 60 = .ok (.iadd, 1) := by decide +kernel
theorem dX12_sendsKept_61 : decode cX12_sendsKept 61 = .ok (.iaload, 1) := by decide +kernel
theorem dX12_sendsKept_62 : decode cX12_sendsKept 62 = .ok (.ireturn, 1) := by decide +kernel
theorem dX12_restsKept_0 : decode cX12_restsKept 0 = .ok (.aload_n 0, 1) := by decide +kernel
theorem dX12_restsKept_1 : decode cX12_restsKept 1 = .ok (.iload_n 1, 1) := by decide +kernel
theorem dX12_restsKept_2 : decode cX12_restsKept 2 = .ok (.invokevirtual 131, 3) := by decide +kernel
theorem dX12_restsKept_5 : decode cX12_restsKept 5 = .ok (.ifCond .ne 6, 3) := by decide +kernel
theorem dX12_restsKept_8 : decode cX12_restsKept 8 = .ok (.bipush (-2), 2) := by decide +kernel
theorem dX12_restsKept_10 : decode cX12_restsKept 10 = .ok (.ireturn, 1) := by decide +kernel
theorem dX12_restsKept_11 : decode cX12_restsKept 11 = .ok (.aload_n 0, 1) := by decide +kernel
theorem dX12_restsKept_12 : decode cX12_restsKept 12 = .ok (.getfield 24, 3) := by decide +kernel
theorem dX12_restsKept_15 : decode cX12_restsKept 15 = .ok (.bipush 16, 2) := by decide +kernel
theorem dX12_restsKept_17 : decode cX12_restsKept 17 = .ok (.iload_n 1, 1) := by decide +kernel
theorem dX12_restsKept_18 : decode cX12_restsKept 18 = .ok (.iadd, 1) := by decide +kernel
theorem dX12_restsKept_19 : decode cX12_restsKept 19 = .ok (.iaload, 1) := by decide +kernel
theorem dX12_restsKept_20 : decode cX12_restsKept 20 = .ok (.istore_n 2, 1) := by decide +kernel
theorem dX12_restsKept_21 : decode cX12_restsKept 21 = .ok (.iload_n 2, 1) := by decide +kernel
theorem dX12_restsKept_22 : decode cX12_restsKept 22 = .ok (.iconst (-1), 1) := by decide +kernel
theorem dX12_restsKept_23 : decode cX12_restsKept 23 = .ok (.if_icmp .ne 6, 3) := by decide +kernel
theorem dX12_restsKept_26 : decode cX12_restsKept 26 = .ok (.bipush (-3), 2) := by decide +kernel
theorem dX12_restsKept_28 : decode cX12_restsKept 28 = .ok (.ireturn, 1) := by decide +kernel
theorem dX12_restsKept_29 : decode cX12_restsKept 29 = .ok (.aload_n 0, 1) := by decide +kernel
theorem dX12_restsKept_30 : decode cX12_restsKept 30 = .ok (.iconst 1, 1) := by decide +kernel
theorem dX12_restsKept_31 : decode cX12_restsKept 31 = .ok (.invokevirtual 333, 3) := by decide +kernel
theorem dX12_restsKept_34 : decode cX12_restsKept 34 = .ok (.aload_n 0, 1) := by decide +kernel
theorem dX12_restsKept_35 : decode cX12_restsKept 35 = .ok (.getfield 24, 3) := by decide +kernel
theorem dX12_restsKept_38 : decode cX12_restsKept 38 = .ok (.bipush 16, 2) := by decide +kernel
theorem dX12_restsKept_40 : decode cX12_restsKept 40 = .ok (.iload_n 1, 1) := by decide +kernel
theorem dX12_restsKept_41 : decode cX12_restsKept 41 = .ok (.iadd, 1) := by decide +kernel
theorem dX12_restsKept_42 : decode cX12_restsKept 42 = .ok (.iconst (-1), 1) := by decide +kernel
theorem dX12_restsKept_43 : decode cX12_restsKept 43 = .ok (.iastore, 1) := by decide +kernel
theorem dX12_restsKept_44 : decode cX12_restsKept 44 = .ok (.iload_n 2, 1) := by decide +kernel
theorem dX12_restsKept_45 : decode cX12_restsKept 45 = .ok (.ireturn, 1) := by decide +kernel
theorem dX12_throwsKept_0 : decode cX12_throwsKept 0 = .ok (.aload_n 0, 1) := by decide +kernel
theorem dX12_throwsKept_1 : decode cX12_throwsKept 1 = .ok (.iload_n 1, 1) := by decide +kernel
theorem dX12_throwsKept_2 : decode cX12_throwsKept 2 = .ok (.invokevirtual 122, 3) := by decide +kernel
theorem dX12_throwsKept_5 : decode cX12_throwsKept 5 = .ok (.ifCond .ne 6, 3) := by decide +kernel
theorem dX12_throwsKept_8 : decode cX12_throwsKept 8 = .ok (.bipush (-2), 2) := by decide +kernel
theorem dX12_throwsKept_10 : decode cX12_throwsKept 10 = .ok (.ireturn, 1) := by decide +kernel
theorem dX12_throwsKept_11 : decode cX12_throwsKept 11 = .ok (.aload_n 0, 1) := by decide +kernel
theorem dX12_throwsKept_12 : decode cX12_throwsKept 12 = .ok (.iload_n 1, 1) := by decide +kernel
theorem dX12_throwsKept_13 : decode cX12_throwsKept 13 = .ok (.invokevirtual 339, 3) := by decide +kernel
theorem dX12_throwsKept_16 : decode cX12_throwsKept 16 = .ok (.ifCond .ne 6, 3) := by decide +kernel
theorem dX12_throwsKept_19 : decode cX12_throwsKept 19 = .ok (.bipush (-3), 2) := by decide +kernel
theorem dX12_throwsKept_21 : decode cX12_throwsKept 21 = .ok (.ireturn, 1) := by decide +kernel
theorem dX12_throwsKept_22 : decode cX12_throwsKept 22 = .ok (.aload_n 0, 1) := by decide +kernel
theorem dX12_throwsKept_23 : decode cX12_throwsKept 23 = .ok (.iconst 2, 1) := by decide +kernel
theorem dX12_throwsKept_24 : decode cX12_throwsKept 24 = .ok (.invokevirtual 333, 3) := by decide +kernel
theorem dX12_throwsKept_27 : decode cX12_throwsKept 27 = .ok (.aload_n 0, 1) := by decide +kernel
theorem dX12_throwsKept_28 : decode cX12_throwsKept 28 = .ok (.getfield 24, 3) := by decide +kernel
theorem dX12_throwsKept_31 : decode cX12_throwsKept 31 = .ok (.iconst 0, 1) := by decide +kernel
theorem dX12_throwsKept_32 : decode cX12_throwsKept 32 = .ok (.iload_n 1, 1) := by decide +kernel
theorem dX12_throwsKept_33 : decode cX12_throwsKept 33 = .ok (.iadd, 1) := by decide +kernel
theorem dX12_throwsKept_34 : decode cX12_throwsKept 34 = .ok (.aload_n 0, 1) := by decide +kernel
theorem dX12_throwsKept_35 : decode cX12_throwsKept 35 = .ok (.getfield 24, 3) := by decide +kernel
theorem dX12_throwsKept_38 : decode cX12_throwsKept 38 = .ok (.bipush 23, 2) := by decide +kernel
theorem dX12_throwsKept_40 : decode cX12_throwsKept 40 = .ok (.iload_n 1, 1) := by decide +kernel
theorem dX12_throwsKept_41 : decode cX12_throwsKept 41 = .ok (.iadd, 1) := by decide +kernel
theorem dX12_throwsKept_42 : decode cX12_throwsKept 42 = .ok (.iaload, 1) := by decide +kernel
theorem dX12_throwsKept_43 : decode cX12_throwsKept 43 = .ok (.iastore, 1) := by decide +kernel
theorem dX12_throwsKept_44 : decode cX12_throwsKept 44 = .ok (.aload_n 0, 1) := by decide +kernel
theorem dX12_throwsKept_45 : decode cX12_throwsKept 45 = .ok (.getfield 24, 3) := by decide +kernel
theorem dX12_throwsKept_48 : decode cX12_throwsKept 48 = .ok (.bipush 23, 2) := by decide +kernel
theorem dX12_throwsKept_50 : decode cX12_throwsKept 50 = .ok (.iload_n 1, 1) := by decide +kernel
theorem dX12_throwsKept_51 : decode cX12_throwsKept 51 = .ok (.iadd, 1) := by decide +kernel
theorem dX12_throwsKept_52 : decode cX12_throwsKept 52 = .ok (.iaload, 1) := by decide +kernel
theorem dX12_throwsKept_53 : decode cX12_throwsKept 53 = .ok (.ireturn, 1) := by decide +kernel
theorem dX12_ticksKept_0 : decode cX12_ticksKept 0 = .ok (.aload_n 0, 1) := by decide +kernel
theorem dX12_ticksKept_1 : decode cX12_ticksKept 1 = .ok (.getfield 24, 3) := by decide +kernel
theorem dX12_ticksKept_4 : decode cX12_ticksKept 4 = .ok (.bipush 22, 2) := by decide +kernel
theorem dX12_ticksKept_6 : decode cX12_ticksKept 6 = .ok (.iaload, 1) := by decide +kernel
theorem dX12_ticksKept_7 : decode cX12_ticksKept 7 = .ok (.sipush 999, 3) := by decide +kernel
theorem dX12_ticksKept_10 : decode cX12_ticksKept 10 = .ok (.if_icmp .ne 6, 3) := by decide +kernel
theorem dX12_ticksKept_13 : decode cX12_ticksKept 13 = .ok (.bipush (-3), 2) := by decide +kernel
theorem dX12_ticksKept_15 : decode cX12_ticksKept 15 = .ok (.ireturn, 1) := by decide +kernel
theorem dX12_ticksKept_16 : decode cX12_ticksKept 16 = .ok (.aload_n 0, 1) := by decide +kernel
theorem dX12_ticksKept_17 : decode cX12_ticksKept 17 = .ok (.iconst 3, 1) := by decide +kernel
theorem dX12_ticksKept_18 : decode cX12_ticksKept 18 = .ok (.invokevirtual 333, 3) := by decide +kernel
theorem dX12_ticksKept_21 : decode cX12_ticksKept 21 = .ok (.aload_n 0, 1) := by decide +kernel
theorem dX12_ticksKept_22 : decode cX12_ticksKept 22 = .ok (.aload_n 0, 1) := by decide +kernel
theorem dX12_ticksKept_23 : decode cX12_ticksKept 23 = .ok (.invokevirtual 342, 3) := by decide +kernel
theorem dX12_ticksKept_26 : decode cX12_ticksKept 26 = .ok (.invokevirtual 345, 3) := by decide +kernel
theorem dX12_ticksKept_29 : decode cX12_ticksKept 29 = .ok (.ireturn, 1) := by decide +kernel
theorem dX12_send_0 : decode cX12_send 0 = .ok (.aload_n 0, 1) := by decide +kernel
theorem dX12_send_1 : decode cX12_send 1 = .ok (.aload_n 0, 1) := by decide +kernel
theorem dX12_send_2 : decode cX12_send 2 = .ok (.iload_n 1, 1) := by decide +kernel
theorem dX12_send_3 : decode cX12_send 3 = .ok (.iload_n 2, 1) := by decide +kernel
theorem dX12_send_4 : decode cX12_send 4 = .ok (.invokevirtual 348, 3) := by decide +kernel
theorem dX12_send_7 : decode cX12_send 7 = .ok (.invokevirtual 351, 3) := by decide +kernel
theorem dX12_send_10 : decode cX12_send 10 = .ok (.ireturn, 1) := by decide +kernel
theorem dX12_rest_0 : decode cX12_rest 0 = .ok (.aload_n 0, 1) := by decide +kernel
theorem dX12_rest_1 : decode cX12_rest 1 = .ok (.aload_n 0, 1) := by decide +kernel
theorem dX12_rest_2 : decode cX12_rest 2 = .ok (.iload_n 1, 1) := by decide +kernel
theorem dX12_rest_3 : decode cX12_rest 3 = .ok (.invokevirtual 354, 3) := by decide +kernel
theorem dX12_rest_6 : decode cX12_rest 6 = .ok (.invokevirtual 351, 3) := by decide +kernel
theorem dX12_rest_9 : decode cX12_rest 9 = .ok (.ireturn, 1) := by decide +kernel
theorem dX12_throwDown_0 : decode cX12_throwDown 0 = .ok (.aload_n 0, 1) := by decide +kernel
theorem dX12_throwDown_1 : decode cX12_throwDown 1 = .ok (.aload_n 0, 1) := by decide +kernel
theorem dX12_throwDown_2 : decode cX12_throwDown 2 = .ok (.iload_n 1, 1) := by decide +kernel
theorem dX12_throwDown_3 : decode cX12_throwDown 3 = .ok (.invokevirtual 357, 3) := by decide +kernel
theorem dX12_throwDown_6 : decode cX12_throwDown 6 = .ok (.invokevirtual 351, 3) := by decide +kernel
theorem dX12_throwDown_9 : decode cX12_throwDown 9 = .ok (.ireturn, 1) := by decide +kernel
theorem dX12_tick_0 : decode cX12_tick 0 = .ok (.aload_n 0, 1) := by decide +kernel
theorem dX12_tick_1 : decode cX12_tick 1 = .ok (.aload_n 0, 1) := by decide +kernel
theorem dX12_tick_2 : decode cX12_tick 2 = .ok (.invokevirtual 360, 3) := by decide +kernel
theorem dX12_tick_5 : decode cX12_tick 5 = .ok (.invokevirtual 351, 3) := by decide +kernel
theorem dX12_tick_8 : decode cX12_tick 8 = .ok (.ireturn, 1) := by decide +kernel
theorem dX12_canFollow_0 : decode cX12_canFollow 0 = .ok (.iload_n 1, 1) := by decide +kernel
theorem dX12_canFollow_1 : decode cX12_canFollow 1 = .ok (.iload_n 2, 1) := by decide +kernel
theorem dX12_canFollow_2 : decode cX12_canFollow 2 = .ok (.invokestatic 302, 3) := by decide +kernel
theorem dX12_canFollow_5 : decode cX12_canFollow 5 = .ok (.ifCond .ne 23, 3) := by decide +kernel
theorem dX12_canFollow_8 : decode cX12_canFollow 8 = .ok (.aload_n 0, 1) := by decide +kernel
theorem dX12_canFollow_9 : decode cX12_canFollow 9 = .ok (.getfield 24, 3) := by decide +kernel
theorem dX12_canFollow_12 : decode cX12_canFollow 12 = .ok (.bipush 33, 2) := by decide +kernel
theorem dX12_canFollow_14 : decode cX12_canFollow 14 = .ok (.iload_n 2, 1) := by decide +kernel
theorem dX12_canFollow_15 : decode cX12_canFollow 15 = .ok (.iadd, 1) := by decide +kernel
theorem dX12_canFollow_16 : decode cX12_canFollow 16 = .ok (.iaload, 1) := by decide +kernel
theorem dX12_canFollow_17 : decode cX12_canFollow 17 = .ok (.iload_n 1, 1) := by decide +kernel
theorem dX12_canFollow_18 : decode cX12_canFollow 18 = .ok (.iconst (-1), 1) := by decide +kernel
theorem dX12_canFollow_19 : decode cX12_canFollow 19 = .ok (.ixor, 1) := by decide +kernel
theorem dX12_canFollow_20 : decode cX12_canFollow 20 = .ok (.iand, 1) := by decide +kernel
theorem dX12_canFollow_21 : decode cX12_canFollow 21 = .ok (.ifCond .ne 7, 3) := by decide +kernel
theorem dX12_canFollow_24 : decode cX12_canFollow 24 = .ok (.iconst 1, 1) := by decide +kernel
theorem dX12_canFollow_25 : decode cX12_canFollow 25 = .ok (.goto 4, 3) := by decide +kernel
theorem dX12_canFollow_28 : decode cX12_canFollow 28 = .ok (.iconst 0, 1) := by decide +kernel
theorem dX12_canFollow_29 : decode cX12_canFollow 29 = .ok (.ireturn, 1) := by decide +kernel
theorem dX12_laysOrders_0 : decode cX12_laysOrders 0 = .ok (.aload_n 0, 1) := by decide +kernel
theorem dX12_laysOrders_1 : decode cX12_laysOrders 1 = .ok (.invokevirtual 363, 3) := by decide +kernel
theorem dX12_laysOrders_4 : decode cX12_laysOrders 4 = .ok (.istore_n 1, 1) := by decide +kernel
theorem dX12_laysOrders_5 : decode cX12_laysOrders 5 = .ok (.aload_n 0, 1) := by decide +kernel
theorem dX12_laysOrders_6 : decode cX12_laysOrders 6 = .ok (.getfield 77, 3) := by decide +kernel
theorem dX12_laysOrders_9 : decode cX12_laysOrders 9 = .ok (.iload_n 1, 1) := by decide +kernel
theorem dX12_laysOrders_10 : decode cX12_laysOrders 10 = .ok (.iconst 1, 1) := by decide +kernel
theorem dX12_laysOrders_11 : decode cX12_laysOrders 11 = .ok (.iastore, 1) := by decide +kernel
theorem dX12_laysOrders_12 : decode cX12_laysOrders 12 = .ok (.iload_n 1, 1) := by decide +kernel
theorem dX12_laysOrders_13 : decode cX12_laysOrders 13 = .ok (.iconst 1, 1) := by decide +kernel
theorem dX12_laysOrders_14 : decode cX12_laysOrders 14 = .ok (.isub, 1) := by decide +kernel
theorem dX12_laysOrders_15 : decode cX12_laysOrders 15 = .ok (.istore_n 2, 1) := by decide +kernel
theorem dX12_laysOrders_16 : decode cX12_laysOrders 16 = .ok (.iload_n 2, 1) := by decide +kernel
theorem dX12_laysOrders_17 : decode cX12_laysOrders 17 = .ok (.ifCond .lt 67, 3) := by decide +kernel
theorem dX12_laysOrders_20 : decode cX12_laysOrders 20 = .ok (.iconst 0, 1) := by decide +kernel
theorem dX12_laysOrders_21 : decode cX12_laysOrders 21 = .ok (.istore_n 3, 1) := by decide +kernel
theorem dX12_laysOrders_22 : decode cX12_laysOrders 22 = .ok (.iconst 0, 1) := by decide +kernel
theorem dX12_laysOrders_23 : decode cX12_laysOrders 23 = .ok (.istore 4, 2) := by decide +kernel
theorem dX12_laysOrders_25 : decode cX12_laysOrders 25 = .ok (.iload 4, 2) := by decide +kernel
theorem dX12_laysOrders_27 : decode cX12_laysOrders 27 = .ok (.aload_n 0, 1) := by decide +kernel
theorem dX12_laysOrders_28 : decode cX12_laysOrders 28 = .ok (.getfield 24, 3) := by decide +kernel
theorem dX12_laysOrders_31 : decode cX12_laysOrders 31 = .ok (.bipush 102, 2) := by decide +kernel
theorem dX12_laysOrders_33 : decode cX12_laysOrders 33 = .ok (.iaload, 1) := by decide +kernel
theorem dX12_laysOrders_34 : decode cX12_laysOrders 34 = .ok (.if_icmp .ge 37, 3) := by decide +kernel
theorem dX12_laysOrders_37 : decode cX12_laysOrders 37 = .ok (.iload_n 3, 1) := by decide +kernel
theorem dX12_laysOrders_38 : decode cX12_laysOrders 38 = .ok (.aload_n 0, 1) := by decide +kernel
theorem dX12_laysOrders_39 : decode cX12_laysOrders 39 = .ok (.iload_n 2, 1) := by decide +kernel
theorem dX12_laysOrders_40 : decode cX12_laysOrders 40 = .ok (.iload 4, 2) := by decide +kernel
theorem dX12_laysOrders_42 : decode cX12_laysOrders 42 = .ok (.invokevirtual 366, 3) := by decide +kernel
theorem dX12_laysOrders_45 : decode cX12_laysOrders 45 = .ok (.ifCond .eq 17, 3) := by decide +kernel
theorem dX12_laysOrders_48 : decode cX12_laysOrders 48 = .ok (.aload_n 0, 1) := by decide +kernel
theorem dX12_laysOrders_49 : decode cX12_laysOrders 49 = .ok (.getfield 77, 3) := by decide +kernel
theorem dX12_laysOrders_52 : decode cX12_laysOrders 52 = .ok (.iload_n 2, 1) := by decide +kernel
theorem dX12_laysOrders_53 : decode cX12_laysOrders 53 = .ok (.iconst 1, 1) := by decide +kernel
theorem dX12_laysOrders_54 : decode cX12_laysOrders 54 = .ok (.iload 4, 2) := by decide +kernel
theorem dX12_laysOrders_56 : decode cX12_laysOrders 56 = .ok (.ishl, 1) := by decide +kernel
theorem dX12_laysOrders_57 : decode cX12_laysOrders 57 = .ok (.ior, 1) := by decide +kernel
theorem dX12_laysOrders_58 : decode cX12_laysOrders 58 = .ok (.iaload, 1) := by decide +kernel
theorem dX12_laysOrders_59 : decode cX12_laysOrders 59 = .ok (.goto 4, 3) := by decide +kernel
theorem dX12_laysOrders_62 : decode cX12_laysOrders 62 = .ok (.iconst 0, 1) := by decide +kernel
theorem dX12_laysOrders_63 : decode cX12_laysOrders 63 = .ok (.iadd, 1) := by decide +kernel
theorem dX12_laysOrders_64 : decode cX12_laysOrders 64 = .ok (.istore_n 3, 1) := by decide +kernel
theorem dX12_laysOrders_65 : decode cX12_laysOrders 65 = .ok (.iinc 4 1, 3) := by decide +kernel
theorem dX12_laysOrders_68 : decode cX12_laysOrders 68 = .ok (.goto (-43), 3) := by decide +kernel
theorem dX12_laysOrders_71 : decode cX12_laysOrders 71 = .ok (.aload_n 0, 1) := by decide +kernel
theorem dX12_laysOrders_72 : decode cX12_laysOrders 72 = .ok (.getfield 77, 3) := by decide +kernel
theorem dX12_laysOrders_75 : decode cX12_laysOrders 75 = .ok (.iload_n 2, 1) := by decide +kernel
theorem dX12_laysOrders_76 : decode cX12_laysOrders 76 = .ok (.iload_n 3, 1) := by decide +kernel
theorem dX12_laysOrders_77 : decode cX12_laysOrders 77 = .ok (.iastore, 1) := by decide +kernel
theorem dX12_laysOrders_78 : decode cX12_laysOrders 78 = .ok (.iinc 2 (-1), 3) := by decide +kernel
theorem dX12_laysOrders_81 : decode cX12_laysOrders 81 = .ok (.goto (-65), 3) := by decide +kernel
theorem dX12_laysOrders_84 : decode cX12_laysOrders 84 = .ok (.return_, 1) := by decide +kernel
theorem dX12_begins_0 : decode cX12_begins 0 = .ok (.aload_n 0, 1) := by decide +kernel
theorem dX12_begins_1 : decode cX12_begins 1 = .ok (.iconst 0, 1) := by decide +kernel
theorem dX12_begins_2 : decode cX12_begins 2 = .ok (.invokevirtual 372, 3) := by decide +kernel
theorem dX12_begins_5 : decode cX12_begins 5 = .ok (.iconst 0, 1) := by decide +kernel
theorem dX12_begins_6 : decode cX12_begins 6 = .ok (.istore_n 1, 1) := by decide +kernel
theorem dX12_begins_7 : decode cX12_begins 7 = .ok (.iload_n 1, 1) := by decide +kernel
theorem dX12_begins_8 : decode cX12_begins 8 = .ok (.bipush 6, 2) := by decide +kernel
theorem dX12_begins_10 : decode cX12_begins 10 = .ok (.if_icmp .ge 19, 3) := by decide +kernel
theorem dX12_begins_13 : decode cX12_begins 13 = .ok (.aload_n 0, 1) := by decide +kernel
theorem dX12_begins_14 : decode cX12_begins 14 = .ok (.getfield 24, 3) := by decide +kernel
theorem dX12_begins_17 : decode cX12_begins 17 = .ok (.bipush 16, 2) := by decide +kernel
theorem dX12_begins_19 : decode cX12_begins 19 = .ok (.iload_n 1, 1) := by decide +kernel
theorem dX12_begins_20 : decode cX12_begins 20 = .ok (.iadd, 1) := by decide +kernel
theorem dX12_begins_21 : decode cX12_begins 21 = .ok (.iconst (-1), 1) := by decide +kernel
theorem dX12_begins_22 : decode cX12_begins 22 = .ok (.iastore, 1) := by decide +kernel
theorem dX12_begins_23 : decode cX12_begins 23 = .ok (.iinc 1 1, 3) := by decide +kernel
theorem dX12_begins_26 : decode cX12_begins 26 = .ok (.goto (-19), 3) := by decide +kernel
theorem dX12_begins_29 : decode cX12_begins 29 = .ok (.return_, 1) := by decide +kernel
theorem dX12_bestPart_0 : decode cX12_bestPart 0 = .ok (.iconst (-1), 1) := by decide +kernel
theorem dX12_bestPart_1 : decode cX12_bestPart 1 = .ok (.istore_n 2, 1) := by decide +kernel
theorem dX12_bestPart_2 : decode cX12_bestPart 2 = .ok (.iconst 0, 1) := by decide +kernel
theorem dX12_bestPart_3 : decode cX12_bestPart 3 = .ok (.istore_n 3, 1) := by decide +kernel
theorem dX12_bestPart_4 : decode cX12_bestPart 4 = .ok (.iload_n 3, 1) := by decide +kernel
theorem dX12_bestPart_5 : decode cX12_bestPart 5 = .ok (.aload_n 0, 1) := by decide +kernel
theorem dX12_bestPart_6 : decode cX12_bestPart 6 = .ok (.getfield 24, 3) := by decide +kernel
theorem dX12_bestPart_9 : decode cX12_bestPart 9 = .ok (.bipush 102, 2) := by decide +kernel
theorem dX12_bestPart_11 : decode cX12_bestPart 11 = .ok (.iaload, 1) := by decide +kernel
theorem dX12_bestPart_12 : decode cX12_bestPart 12 = .ok (.if_icmp .ge 60, 3) := by decide +kernel
theorem dX12_bestPart_15 : decode cX12_bestPart 15 = .ok (.aload_n 0, 1) := by decide +kernel
theorem dX12_bestPart_16 : decode cX12_bestPart 16 = .ok (.iload_n 3, 1) := by decide +kernel
theorem dX12_bestPart_17 : decode cX12_bestPart 17 = .ok (.invokevirtual 125, 3) := by decide +kernel
theorem dX12_bestPart_20 : decode cX12_bestPart 20 = .ok (.ifCond .eq 46, 3) := by decide +kernel
theorem dX12_bestPart_23 : decode cX12_bestPart 23 = .ok (.iload_n 2, 1) := by decide +kernel
theorem dX12_bestPart_24 : decode cX12_bestPart 24 = .ok (.iconst (-1), 1) := by decide +kernel
theorem dX12_bestPart_25 : decode cX12_bestPart 25 = .ok (.if_icmp .eq 21, 3) := by decide +kernel
theorem dX12_bestPart_28 : decode cX12_bestPart 28 = .ok (.aload_n 0, 1) := by decide +kernel
theorem dX12_bestPart_29 : decode cX12_bestPart 29 = .ok (.getfield 74, 3) := by decide +kernel
theorem dX12_bestPart_32 : decode cX12_bestPart 32 = .ok (.iload_n 3, 1) := by decide +kernel
theorem dX12_bestPart_33 : decode cX12_bestPart 33 = .ok (.iaload, 1) := by decide +kernel
theorem dX12_bestPart_34 : decode cX12_bestPart 34 = .ok (.aload_n 0, 1) := by decide +kernel
theorem dX12_bestPart_35 : decode cX12_bestPart 35 = .ok (.getfield 74, 3) := by decide +kernel
theorem dX12_bestPart_38 : decode cX12_bestPart 38 = .ok (.iload_n 2, 1) := by decide +kernel
theorem dX12_bestPart_39 : decode cX12_bestPart 39 = .ok (.iaload, 1) := by decide +kernel
theorem dX12_bestPart_40 : decode cX12_bestPart 40 = .ok (.if_icmp .gt 6, 3) := by decide +kernel
theorem dX12_bestPart_43 : decode cX12_bestPart 43 = .ok (.goto 23, 3) := by decide +kernel
theorem dX12_bestPart_46 : decode cX12_bestPart 46 = .ok (.aload_n 0, 1) := by decide +kernel
theorem dX12_bestPart_47 : decode cX12_bestPart 47 = .ok (.iload_n 1, 1) := by decide +kernel
theorem dX12_bestPart_48 : decode cX12_bestPart 48 = .ok (.iload_n 3, 1) := by decide +kernel
theorem dX12_bestPart_49 : decode cX12_bestPart 49 = .ok (.invokevirtual 324, 3) := by decide +kernel
theorem dX12_bestPart_52 : decode cX12_bestPart 52 = .ok (.ifCond .ne 14, 3) := by decide +kernel
theorem dX12_bestPart_55 : decode cX12_bestPart 55 = .ok (.aload_n 0, 1) := by decide +kernel
theorem dX12_bestPart_56 : decode cX12_bestPart 56 = .ok (.iload_n 1, 1) := by decide +kernel
theorem dX12_bestPart_57 : decode cX12_bestPart 57 = .ok (.iload_n 3, 1) := by decide +kernel
theorem dX12_bestPart_58 : decode cX12_bestPart 58 = .ok (.invokevirtual 315, 3) := by decide +kernel
theorem dX12_bestPart_61 : decode cX12_bestPart 61 = .ok (.ifCond .le 5, 3) := by decide +kernel
theorem dX12_bestPart_64 : decode cX12_bestPart 64 = .ok (.iload_n 3, 1) := by decide +kernel
theorem dX12_bestPart_65 : decode cX12_bestPart 65 = .ok (.istore_n 2, 1) := by decide +kernel
theorem dX12_bestPart_66 : decode cX12_bestPart 66 = .ok (.iinc 3 1, 3) := by decide +kernel
theorem dX12_bestPart_69 : decode cX12_bestPart 69 = .ok (.goto (-65), 3) := by decide +kernel
theorem dX12_bestPart_72 : decode cX12_bestPart 72 = .ok (.iload_n 2, 1) := by decide +kernel
theorem dX12_bestPart_73 : decode cX12_bestPart 73 = .ok (.ireturn, 1) := by decide +kernel
theorem dX12_sendsAll_0 : decode cX12_sendsAll 0 = .ok (.aload_n 0, 1) := by decide +kernel
theorem dX12_sendsAll_1 : decode cX12_sendsAll 1 = .ok (.invokevirtual 128, 3) := by decide +kernel
theorem dX12_sendsAll_4 : decode cX12_sendsAll 4 = .ok (.iconst 0, 1) := by decide +kernel
theorem dX12_sendsAll_5 : decode cX12_sendsAll 5 = .ok (.istore_n 2, 1) := by decide +kernel
theorem dX12_sendsAll_6 : decode cX12_sendsAll 6 = .ok (.iload_n 2, 1) := by decide +kernel
theorem dX12_sendsAll_7 : decode cX12_sendsAll 7 = .ok (.aload_n 0, 1) := by decide +kernel
theorem dX12_sendsAll_8 : decode cX12_sendsAll 8 = .ok (.getfield 24, 3) := by decide +kernel
theorem dX12_sendsAll_11 : decode cX12_sendsAll 11 = .ok (.bipush 103, 2) := by decide +kernel
theorem dX12_sendsAll_13 : decode cX12_sendsAll 13 = .ok (.iaload, 1) := by decide +kernel
theorem dX12_sendsAll_14 : decode cX12_sendsAll 14 = .ok (.if_icmp .ge 44, 3) := by decide +kernel
theorem dX12_sendsAll_17 : decode cX12_sendsAll 17 = .ok (.iload_n 1, 1) := by decide +kernel
theorem dX12_sendsAll_18 : decode cX12_sendsAll 18 = .ok (.iload_n 2, 1) := by decide +kernel
theorem dX12_sendsAll_19 : decode cX12_sendsAll 19 = .ok (.invokestatic 302, 3) := by decide +kernel
theorem dX12_sendsAll_22 : decode cX12_sendsAll 22 = .ok (.ifCond .eq 30, 3) := by decide +kernel
theorem dX12_sendsAll_25 : decode cX12_sendsAll 25 = .ok (.aload_n 0, 1) := by decide +kernel
theorem dX12_sendsAll_26 : decode cX12_sendsAll 26 = .ok (.getfield 24, 3) := by decide +kernel
theorem dX12_sendsAll_29 : decode cX12_sendsAll 29 = .ok (.bipush 16, 2) := by decide +kernel
theorem dX12_sendsAll_31 : decode cX12_sendsAll 31 = .ok (.iload_n 2, 1) := by decide +kernel
theorem dX12_sendsAll_32 : decode cX12_sendsAll 32 = .ok (.iadd, 1) := by decide +kernel
theorem dX12_sendsAll_33 : decode cX12_sendsAll 33 = .ok (.iaload, 1) := by decide +kernel
theorem dX12_sendsAll_34 : decode cX12_sendsAll 34 = .ok (.iconst (-1), 1) := by decide +kernel
theorem dX12_sendsAll_35 : decode cX12_sendsAll 35 = .ok (.if_icmp .ne 17, 3) := by decide +kernel
theorem dX12_sendsAll_38 : decode cX12_sendsAll 38 = .ok (.aload_n 0, 1) := by decide +kernel
theorem dX12_sendsAll_39 : decode cX12_sendsAll 39 = .ok (.getfield 24, 3) := by decide +kernel
theorem dX12_sendsAll_42 : decode cX12_sendsAll 42 = .ok (.bipush 16, 2) := by decide +kernel
theorem dX12_sendsAll_44 : decode cX12_sendsAll 44 = .ok (.iload_n 2, 1) := by decide +kernel
theorem dX12_sendsAll_45 : decode cX12_sendsAll 45 = .ok (.iadd, 1) := by decide +kernel
theorem dX12_sendsAll_46 : decode cX12_sendsAll 46 = .ok (.aload_n 0, 1) := by decide +kernel
theorem dX12_sendsAll_47 : decode cX12_sendsAll 47 = .ok (.iload_n 2, 1) := by decide +kernel
theorem dX12_sendsAll_48 : decode cX12_sendsAll 48 = .ok (.invokevirtual 375, 3) := by decide +kernel
theorem dX12_sendsAll_51 : decode cX12_sendsAll 51 = .ok (.iastore, 1) := by decide +kernel
theorem dX12_sendsAll_52 : decode cX12_sendsAll 52 = .ok (.iinc 2 1, 3) := by decide +kernel
theorem dX12_sendsAll_55 : decode cX12_sendsAll 55 = .ok (.goto (-49), 3) := by decide +kernel
theorem dX12_sendsAll_58 : decode cX12_sendsAll 58 = .ok (.return_, 1) := by decide +kernel
theorem dX12_areStanding_0 : decode cX12_areStanding 0 = .ok (.iload_n 1, 1) := by decide +kernel
theorem dX12_areStanding_1 : decode cX12_areStanding 1 = .ok (.aload_n 0, 1) := by decide +kernel
theorem dX12_areStanding_2 : decode cX12_areStanding 2 = .ok (.invokevirtual 118, 3) := by decide +kernel
theorem dX12_areStanding_5 : decode cX12_areStanding 5 = .ok (.iconst (-1), 1) := by decide +kernel
theorem dX12_areStanding_6 : decode cX12_areStanding 6 = .ok (.ixor, 1) := by decide +kernel
theorem dX12_areStanding_7 : decode cX12_areStanding 7 = .ok (.iand, 1) := by decide +kernel
theorem dX12_areStanding_8 : decode cX12_areStanding 8 = .ok (.ifCond .ne 7, 3) := by decide +kernel
theorem dX12_areStanding_11 : decode cX12_areStanding 11 = .ok (.iconst 1, 1) := by decide +kernel
theorem dX12_areStanding_12 : decode cX12_areStanding 12 = .ok (.goto 4, 3) := by decide +kernel
theorem dX12_areStanding_15 : decode cX12_areStanding 15 = .ok (.iconst 0, 1) := by decide +kernel
theorem dX12_areStanding_16 : decode cX12_areStanding 16 = .ok (.ireturn, 1) := by decide +kernel
theorem dX12_planned_0 : decode cX12_planned 0 = .ok (.aload_n 0, 1) := by decide +kernel
theorem dX12_planned_1 : decode cX12_planned 1 = .ok (.invokevirtual 378, 3) := by decide +kernel
theorem dX12_planned_4 : decode cX12_planned 4 = .ok (.iconst 0, 1) := by decide +kernel
theorem dX12_planned_5 : decode cX12_planned 5 = .ok (.istore 4, 2) := by decide +kernel
theorem dX12_planned_7 : decode cX12_planned 7 = .ok (.iload 4, 2) := by decide +kernel
theorem dX12_planned_9 : decode cX12_planned 9 = .ok (.iload_n 3, 1) := by decide +kernel
theorem dX12_planned_10 : decode cX12_planned 10 = .ok (.if_icmp .ge 28, 3) := by decide +kernel
theorem dX12_planned_13 : decode cX12_planned 13 = .ok (.aload_n 0, 1) := by decide +kernel
theorem dX12_planned_14 : decode cX12_planned 14 = .ok (.iload_n 2, 1) := by decide +kernel
theorem dX12_planned_15 : decode cX12_planned 15 = .ok (.invokevirtual 381, 3) := by decide +kernel
theorem dX12_planned_18 : decode cX12_planned 18 = .ok (.ifCond .ne 20, 3) := by decide +kernel
theorem dX12_planned_21 : decode cX12_planned 21 = .ok (.aload_n 0, 1) := by decide +kernel
theorem dX12_planned_22 : decode cX12_planned 22 = .ok (.iload_n 1, 1) := by decide +kernel
theorem dX12_planned_23 : decode cX12_planned 23 = .ok (.invokevirtual 384, 3) := by decide +kernel
theorem dX12_planned_26 : decode cX12_planned 26 = .ok (.aload_n 0, 1) := by decide +kernel
theorem dX12_planned_27 : decode cX12_planned 27 = .ok (.iload_n 1, 1) := by decide +kernel
theorem dX12_planned_28 : decode cX12_planned 28 = .ok (.invokevirtual 345, 3) := by decide +kernel
theorem dX12_planned_31 : decode cX12_planned 31 = .ok (.pop, 1) := by decide +kernel
theorem dX12_planned_32 : decode cX12_planned 32 = .ok (.iinc 4 1, 3) := by decide +kernel
theorem dX12_planned_35 : decode cX12_planned 35 = .ok (.goto (-28), 3) := by decide +kernel
theorem dX12_planned_38 : decode cX12_planned 38 = .ok (.aload_n 0, 1) := by decide +kernel
theorem dX12_planned_39 : decode cX12_planned 39 = .ok (.iload_n 2, 1) := by decide +kernel
theorem dX12_planned_40 : decode cX12_planned 40 = .ok (.invokevirtual 381, 3) := by decide +kernel
theorem dX12_planned_43 : decode cX12_planned 43 = .ok (.ifCond .eq 8, 3) := by decide +kernel
theorem dX12_planned_46 : decode cX12_planned 46 = .ok (.iload 4, 2) := by decide +kernel
theorem dX12_planned_48 : decode cX12_planned 48 = .ok (.goto 4, 3) := by decide +kernel
theorem dX12_planned_51 : decode cX12_planned 51 = .ok (.iconst (-1), 1) := by decide +kernel
theorem dX12_planned_52 : decode cX12_planned 52 = .ok (.istore 5, 2) := by decide +kernel
theorem dX12_planned_54 : decode cX12_planned 54 = .ok (.aload_n 0, 1) := by decide +kernel
theorem dX12_planned_55 : decode cX12_planned 55 = .ok (.iconst 0, 1) := by decide +kernel
theorem dX12_planned_56 : decode cX12_planned 56 = .ok (.invokevirtual 387, 3) := by decide +kernel
theorem dX12_planned_59 : decode cX12_planned 59 = .ok (.iload 5, 2) := by decide +kernel
theorem dX12_planned_61 : decode cX12_planned 61 = .ok (.ireturn, 1) := by decide +kernel
theorem dX12_plan_0 : decode cX12_plan 0 = .ok (.iload_n 1, 1) := by decide +kernel
theorem dX12_plan_1 : decode cX12_plan 1 = .ok (.iconst (-1), 1) := by decide +kernel
theorem dX12_plan_2 : decode cX12_plan 2 = .ok (.if_icmp .eq 13, 3) := by decide +kernel
theorem dX12_plan_5 : decode cX12_plan 5 = .ok (.aload_n 0, 1) := by decide +kernel
theorem dX12_plan_6 : decode cX12_plan 6 = .ok (.iload_n 1, 1) := by decide +kernel
theorem dX12_plan_7 : decode cX12_plan 7 = .ok (.invokevirtual 122, 3) := by decide +kernel
theorem dX12_plan_10 : decode cX12_plan 10 = .ok (.ifCond .ne 5, 3) := by decide +kernel
theorem dX12_plan_13 : decode cX12_plan 13 = .ok (.iconst (-1), 1) := by decide +kernel
theorem dX12_plan_14 : decode cX12_plan 14 = .ok (.ireturn, 1) := by decide +kernel
theorem dX12_plan_15 : decode cX12_plan 15 = .ok (.aload_n 0, 1) := by decide +kernel
theorem dX12_plan_16 : decode cX12_plan 16 = .ok (.aload_n 0, 1) := by decide +kernel
theorem dX12_plan_17 : decode cX12_plan 17 = .ok (.invokevirtual 342, 3) := by decide +kernel
theorem dX12_plan_20 : decode cX12_plan 20 = .ok (.iload_n 1, 1) := by decide +kernel
theorem dX12_plan_21 : decode cX12_plan 21 = .ok (.iconst (-1), 1) := by decide +kernel
theorem dX12_plan_22 : decode cX12_plan 22 = .ok (.if_icmp .ne 10, 3) := by decide +kernel
theorem dX12_plan_25 : decode cX12_plan 25 = .ok (.aload_n 0, 1) := by decide +kernel
theorem dX12_plan_26 : decode cX12_plan 26 = .ok (.invokevirtual 363, 3) := by decide +kernel
theorem dX12_plan_29 : decode cX12_plan 29 = .ok (.goto 6, 3) := by decide +kernel
theorem dX12_plan_32 : decode cX12_plan 32 = .ok (.iconst 1, 1) := by decide +kernel
theorem dX12_plan_33 : decode cX12_plan 33 = .ok (.iload_n 1, 1) := by decide +kernel
theorem dX12_plan_34 : decode cX12_plan 34 = .ok (.ishl, 1) := by decide +kernel
theorem dX12_plan_35 : decode cX12_plan 35 = .ok (.sipush 200, 3) := by decide +kernel
theorem dX12_plan_38 : decode cX12_plan 38 = .ok (.invokevirtual 390, 3) := by decide +kernel
theorem dX12_plan_41 : decode cX12_plan 41 = .ok (.ireturn, 1) := by decide +kernel
theorem dX12_hands_0 : decode cX12_hands 0 = .ok (.iload_n 1, 1) := by decide +kernel
theorem dX12_hands_1 : decode cX12_hands 1 = .ok (.iconst 0, 1) := by decide +kernel
theorem dX12_hands_2 : decode cX12_hands 2 = .ok (.iconst 1, 1) := by decide +kernel
theorem dX12_hands_3 : decode cX12_hands 3 = .ok (.invokestatic 96, 3) := by decide +kernel
theorem dX12_hands_6 : decode cX12_hands 6 = .ok (.ifCond .ne 5, 3) := by decide +kernel
theorem dX12_hands_9 : decode cX12_hands 9 = .ok (.iconst (-1), 1) := by decide +kernel
theorem dX12_hands_10 : decode cX12_hands 10 = .ok (.ireturn, 1) := by decide +kernel
theorem dX12_hands_11 : decode cX12_hands 11 = .ok (.iconst (-1), 1) := by decide +kernel
theorem dX12_hands_12 : decode cX12_hands 12 = .ok (.istore_n 2, 1) := by decide +kernel
theorem dX12_hands_13 : decode cX12_hands 13 = .ok (.iconst 0, 1) := by decide +kernel
theorem dX12_hands_14 : decode cX12_hands 14 = .ok (.istore_n 3, 1) := by decide +kernel
theorem dX12_hands_15 : decode cX12_hands 15 = .ok (.iload_n 3, 1) := by decide +kernel
theorem dX12_hands_16 : decode cX12_hands 16 = .ok (.aload_n 0, 1) := by decide +kernel
theorem dX12_hands_17 : decode cX12_hands 17 = .ok (.invokevirtual 342, 3) := by decide +kernel
theorem dX12_hands_20 : decode cX12_hands 20 = .ok (.if_icmp .gt 50, 3) := by decide +kernel
theorem dX12_hands_23 : decode cX12_hands 23 = .ok (.iload_n 2, 1) := by decide +kernel
theorem dX12_hands_24 : decode cX12_hands 24 = .ok (.iconst (-1), 1) := by decide +kernel
theorem dX12_hands_25 : decode cX12_hands 25 = .ok (.if_icmp .eq 17, 3) := by decide +kernel
theorem dX12_hands_28 : decode cX12_hands 28 = .ok (.iload_n 3, 1) := by decide +kernel
theorem dX12_hands_29 : decode cX12_hands 29 = .ok (.invokestatic 287, 3) := by decide +kernel
theorem dX12_hands_32 : decode cX12_hands 32 = .ok (.iload_n 2, 1) := by decide +kernel
theorem dX12_hands_33 : decode cX12_hands 33 = .ok (.invokestatic 287, 3) := by decide +kernel
theorem dX12_hands_36 : decode cX12_hands 36 = .ok (.if_icmp .lt 6, 3) := by decide +kernel
theorem dX12_hands_39 : decode cX12_hands 39 = .ok (.goto 25, 3) := by decide +kernel
theorem dX12_hands_42 : decode cX12_hands 42 = .ok (.aload_n 0, 1) := by decide +kernel
theorem dX12_hands_43 : decode cX12_hands 43 = .ok (.iload_n 3, 1) := by decide +kernel
theorem dX12_hands_44 : decode cX12_hands 44 = .ok (.aload_n 0, 1) := by decide +kernel
theorem dX12_hands_45 : decode cX12_hands 45 = .ok (.invokevirtual 363, 3) := by decide +kernel
theorem dX12_hands_48 : decode cX12_hands 48 = .ok (.aload_n 0, 1) := by decide +kernel
theorem dX12_hands_49 : decode cX12_hands 49 = .ok (.getfield 24, 3) := by decide +kernel
theorem dX12_hands_52 : decode cX12_hands 52 = .ok (.bipush 99, 2) := by decide +kernel
theorem dX12_hands_54 : decode cX12_hands 54 = .ok (.iaload, 1) := by decide +kernel
theorem dX12_hands_55 : decode cX12_hands 55 = .ok (.invokevirtual 390, 3) := by decide +kernel
theorem dX12_hands_58 : decode cX12_hands 58 = .ok (.iconst (-1), 1) := by decide +kernel
theorem dX12_hands_59 : decode cX12_hands 59 = .ok (.if_icmp .eq 5, 3) := by decide +kernel
theorem dX12_hands_62 : decode cX12_hands 62 = .ok (.iload_n 3, 1) := by decide +kernel
theorem dX12_hands_63 : decode cX12_hands 63 = .ok (.istore_n 2, 1) := by decide +kernel
theorem dX12_hands_64 : decode cX12_hands 64 = .ok (.iinc 3 1, 3) := by decide +kernel
theorem dX12_hands_67 : decode cX12_hands 67 = .ok (.goto (-52), 3) := by decide +kernel
theorem dX12_hands_70 : decode cX12_hands 70 = .ok (.iload_n 2, 1) := by decide +kernel
theorem dX12_hands_71 : decode cX12_hands 71 = .ok (.iconst (-1), 1) := by decide +kernel
theorem dX12_hands_72 : decode cX12_hands 72 = .ok (.if_icmp .eq 8, 3) := by decide +kernel
theorem dX12_hands_75 : decode cX12_hands 75 = .ok (.iload_n 1, 1) := by decide +kernel
theorem dX12_hands_76 : decode cX12_hands 76 = .ok (.iconst 1, 1) := by decide +kernel
theorem dX12_hands_77 : decode cX12_hands 77 = .ok (.if_icmp .ne 7, 3) := by decide +kernel
theorem dX12_hands_80 : decode cX12_hands 80 = .ok (.iload_n 2, 1) := by decide +kernel
theorem dX12_hands_81 : decode cX12_hands 81 = .ok (.goto 7, 3) := by decide +kernel
theorem dX12_hands_84 : decode cX12_hands 84 = .ok (.iload_n 2, 1) := by decide +kernel
theorem dX12_hands_85 : decode cX12_hands 85 = .ok (.invokestatic 287, 3) := by decide +kernel
theorem dX12_hands_88 : decode cX12_hands 88 = .ok (.ireturn, 1) := by decide +kernel
theorem dX12_taughtIn_0 : decode cX12_taughtIn 0 = .ok (.aload_n 0, 1) := by decide +kernel
theorem dX12_taughtIn_1 : decode cX12_taughtIn 1 = .ok (.getfield 24, 3) := by decide +kernel
theorem dX12_taughtIn_4 : decode cX12_taughtIn 4 = .ok (.bipush 63, 2) := by decide +kernel
theorem dX12_taughtIn_6 : decode cX12_taughtIn 6 = .ok (.iload_n 1, 1) := by decide +kernel
theorem dX12_taughtIn_7 : decode cX12_taughtIn 7 = .ok (.iadd, 1) := by decide +kernel
theorem dX12_taughtIn_8 : decode cX12_taughtIn 8 = .ok (.iaload, 1) := by decide +kernel
theorem dX12_taughtIn_9 : decode cX12_taughtIn 9 = .ok (.istore_n 3, 1) := by decide +kernel
theorem dX12_taughtIn_10 : decode cX12_taughtIn 10 = .ok (.aload_n 0, 1) := by decide +kernel
theorem dX12_taughtIn_11 : decode cX12_taughtIn 11 = .ok (.getfield 24, 3) := by decide +kernel
theorem dX12_taughtIn_14 : decode cX12_taughtIn 14 = .ok (.bipush 63, 2) := by decide +kernel
theorem dX12_taughtIn_16 : decode cX12_taughtIn 16 = .ok (.iload_n 1, 1) := by decide +kernel
theorem dX12_taughtIn_17 : decode cX12_taughtIn 17 = .ok (.iadd, 1) := by decide +kernel
theorem dX12_taughtIn_18 : decode cX12_taughtIn 18 = .ok (.iload_n 3, 1) := by decide +kernel
theorem dX12_taughtIn_19 : decode cX12_taughtIn 19 = .ok (.iconst 1, 1) := by decide +kernel
theorem dX12_taughtIn_20 : decode cX12_taughtIn 20 = .ok (.iload_n 2, 1) := by decide +kernel
theorem dX12_taughtIn_21 : decode cX12_taughtIn 21 = .ok (.ishl, 1) := by decide +kernel
theorem dX12_taughtIn_22 : decode cX12_taughtIn 22 = .ok (.ior, 1) := by decide +kernel
theorem dX12_taughtIn_23 : decode cX12_taughtIn 23 = .ok (.iastore, 1) := by decide +kernel
theorem dX12_taughtIn_24 : decode cX12_taughtIn 24 = .ok (.aload_n 0, 1) := by decide +kernel
theorem dX12_taughtIn_25 : decode cX12_taughtIn 25 = .ok (.aload_n 0, 1) := by decide +kernel
theorem dX12_taughtIn_26 : decode cX12_taughtIn 26 = .ok (.invokevirtual 342, 3) := by decide +kernel
theorem dX12_taughtIn_29 : decode cX12_taughtIn 29 = .ok (.aload_n 0, 1) := by decide +kernel
theorem dX12_taughtIn_30 : decode cX12_taughtIn 30 = .ok (.invokevirtual 363, 3) := by decide +kernel
theorem dX12_taughtIn_33 : decode cX12_taughtIn 33 = .ok (.sipush 200, 3) := by decide +kernel
theorem dX12_taughtIn_36 : decode cX12_taughtIn 36 = .ok (.invokevirtual 390, 3) := by decide +kernel
theorem dX12_taughtIn_39 : decode cX12_taughtIn 39 = .ok (.istore 4, 2) := by decide +kernel
theorem dX12_taughtIn_41 : decode cX12_taughtIn 41 = .ok (.aload_n 0, 1) := by decide +kernel
theorem dX12_taughtIn_42 : decode cX12_taughtIn 42 = .ok (.getfield 24, 3) := by decide +kernel
theorem dX12_taughtIn_45 : decode cX12_taughtIn 45 = .ok (.bipush 63, 2) := by decide +kernel
theorem dX12_taughtIn_47 : decode cX12_taughtIn 47 = .ok (.iload_n 1, 1) := by decide +kernel
theorem dX12_taughtIn_48 : decode cX12_taughtIn 48 = .ok (.iadd, 1) := by decide +kernel
theorem dX12_taughtIn_49 : decode cX12_taughtIn 49 = .ok (.iload_n 3, 1) := by decide +kernel
theorem dX12_taughtIn_50 : decode cX12_taughtIn 50 = .ok (.iastore, 1) := by decide +kernel
theorem dX12_taughtIn_51 : decode cX12_taughtIn 51 = .ok (.iload 4, 2) := by decide +kernel
theorem dX12_taughtIn_53 : decode cX12_taughtIn 53 = .ok (.iconst (-1), 1) := by decide +kernel
theorem dX12_taughtIn_54 : decode cX12_taughtIn 54 = .ok (.if_icmp .ne 8, 3) := by decide +kernel
theorem dX12_taughtIn_57 : decode cX12_taughtIn 57 = .ok (.ldc 157, 2) := by decide +kernel
theorem dX12_taughtIn_59 : decode cX12_taughtIn 59 = .ok (.goto 5, 3) := by decide +kernel
theorem dX12_taughtIn_62 : decode cX12_taughtIn 62 = .ok (.iload 4, 2) := by decide +kernel
theorem dX12_taughtIn_64 : decode cX12_taughtIn 64 = .ok (.ireturn, 1) := by decide +kernel
theorem dX12_taught_0 : decode cX12_taught 0 = .ok (.iload_n 1, 1) := by decide +kernel
theorem dX12_taught_1 : decode cX12_taught 1 = .ok (.iconst 0, 1) := by decide +kernel
theorem dX12_taught_2 : decode cX12_taught 2 = .ok (.iconst 2, 1) := by decide +kernel
theorem dX12_taught_3 : decode cX12_taught 3 = .ok (.invokestatic 96, 3) := by decide +kernel
theorem dX12_taught_6 : decode cX12_taught 6 = .ok (.ifCond .ne 5, 3) := by decide +kernel
theorem dX12_taught_9 : decode cX12_taught 9 = .ok (.iconst (-1), 1) := by decide +kernel
theorem dX12_taught_10 : decode cX12_taught 10 = .ok (.ireturn, 1) := by decide +kernel
theorem dX12_taught_11 : decode cX12_taught 11 = .ok (.aload_n 0, 1) := by decide +kernel
theorem dX12_taught_12 : decode cX12_taught 12 = .ok (.iconst (-1), 1) := by decide +kernel
theorem dX12_taught_13 : decode cX12_taught 13 = .ok (.invokevirtual 394, 3) := by decide +kernel
theorem dX12_taught_16 : decode cX12_taught 16 = .ok (.istore_n 2, 1) := by decide +kernel
theorem dX12_taught_17 : decode cX12_taught 17 = .ok (.iload_n 2, 1) := by decide +kernel
theorem dX12_taught_18 : decode cX12_taught 18 = .ok (.iconst (-1), 1) := by decide +kernel
theorem dX12_taught_19 : decode cX12_taught 19 = .ok (.if_icmp .ne 8, 3) := by decide +kernel
theorem dX12_taught_22 : decode cX12_taught 22 = .ok (.ldc 157, 2) := by decide +kernel
theorem dX12_taught_24 : decode cX12_taught 24 = .ok (.goto 4, 3) := by decide +kernel
theorem dX12_taught_27 : decode cX12_taught 27 = .ok (.iload_n 2, 1) := by decide +kernel
theorem dX12_taught_28 : decode cX12_taught 28 = .ok (.istore_n 3, 1) := by decide +kernel
theorem dX12_taught_29 : decode cX12_taught 29 = .ok (.iconst (-1), 1) := by decide +kernel
theorem dX12_taught_30 : decode cX12_taught 30 = .ok (.istore 4, 2) := by decide +kernel
theorem dX12_taught_32 : decode cX12_taught 32 = .ok (.iconst 0, 1) := by decide +kernel
theorem dX12_taught_33 : decode cX12_taught 33 = .ok (.istore 5, 2) := by decide +kernel
theorem dX12_taught_35 : decode cX12_taught 35 = .ok (.iload 5, 2) := by decide +kernel
theorem dX12_taught_37 : decode cX12_taught 37 = .ok (.aload_n 0, 1) := by decide +kernel
theorem dX12_taught_38 : decode cX12_taught 38 = .ok (.getfield 24, 3) := by decide +kernel
theorem dX12_taught_41 : decode cX12_taught 41 = .ok (.bipush 103, 2) := by decide +kernel
theorem dX12_taught_43 : decode cX12_taught 43 = .ok (.iaload, 1) := by decide +kernel
theorem dX12_taught_44 : decode cX12_taught 44 = .ok (.if_icmp .ge 76, 3) := by decide +kernel
theorem dX12_taught_47 : decode cX12_taught 47 = .ok (.iconst 0, 1) := by decide +kernel
theorem dX12_taught_48 : decode cX12_taught 48 = .ok (.istore 6, 2) := by decide +kernel
theorem dX12_taught_50 : decode cX12_taught 50 = .ok (.iload 6, 2) := by decide +kernel
theorem dX12_taught_52 : decode cX12_taught 52 = .ok (.iconst 4, 1) := by decide +kernel
theorem dX12_taught_53 : decode cX12_taught 53 = .ok (.if_icmp .ge 61, 3) := by decide +kernel
theorem dX12_taught_56 : decode cX12_taught 56 = .ok (.aload_n 0, 1) := by decide +kernel
theorem dX12_taught_57 : decode cX12_taught 57 = .ok (.getfield 24, 3) := by decide +kernel
theorem dX12_taught_60 : decode cX12_taught 60 = .ok (.bipush 63, 2) := by decide +kernel
theorem dX12_taught_62 : decode cX12_taught 62 = .ok (.iload 5, 2) := by decide +kernel
theorem dX12_taught_64 : decode cX12_taught 64 = .ok (.iadd, 1) := by decide +kernel
theorem dX12_taught_65 : decode cX12_taught 65 = .ok (.iaload, 1) := by decide +kernel
theorem dX12_taught_66 : decode cX12_taught 66 = .ok (.iload 6, 2) := by decide +kernel
theorem dX12_taught_68 : decode cX12_taught 68 = .ok (.invokestatic 302, 3) := by decide +kernel
theorem dX12_taught_71 : decode cX12_taught 71 = .ok (.ifCond .eq 6, 3) := by decide +kernel
theorem dX12_taught_74 : decode cX12_taught 74 = .ok (.goto 34, 3) := by decide +kernel
theorem dX12_taught_77 : decode cX12_taught 77 = .ok (.aload_n 0, 1) := by decide +kernel
theorem dX12_taught_78 : decode cX12_taught 78 = .ok (.iload 5, 2) := by decide +kernel
theorem dX12_taught_80 : decode cX12_taught 80 = .ok (.iload 6, 2) := by decide +kernel
theorem dX12_taught_82 : decode cX12_taught 82 = .ok (.invokevirtual 397, 3) := by decide +kernel
theorem dX12_taught_85 : decode cX12_taught 85 = .ok (.istore 7, 2) := by decide +kernel
theorem dX12_taught_87 : decode cX12_taught 87 = .ok (.iload 7, 2) := by decide +kernel
theorem dX12_taught_89 : decode cX12_taught 89 = .ok (.iload_n 3, 1) := by decide +kernel
theorem dX12_taught_90 : decode cX12_taught 90 = .ok (.if_icmp .lt 6, 3) := by decide +kernel
theorem dX12_taught_93 : decode cX12_taught 93 = .ok (.goto 15, 3) := by decide +kernel
theorem dX12_taught_96 : decode cX12_taught 96 = .ok (.iload 7, 2) := by decide +kernel
theorem dX12_taught_98 : decode cX12_taught 98 = .ok (.istore_n 3, 1) := by decide +kernel
theorem dX12_taught_99 : decode cX12_taught 99 = .ok (.iconst 4, 1) := by decide +kernel
theorem dX12_taught_100 : decode cX12_taught 100 = .ok (.iload 5, 2) := by decide +kernel
theorem dX12_taught_102 : decode cX12_taught 102 = .ok (.imul, 1) := by decide +kernel
theorem dX12_taught_103 : decode cX12_taught 103 = .ok (.iload 6, 2) := by decide +kernel
theorem dX12_taught_105 : decode cX12_taught 105 = .ok (.iadd, 1) := by decide +kernel
theorem dX12_taught_106 : decode cX12_taught 106 = .ok (.istore 4, 2) := by decide +kernel
theorem dX12_taught_108 : decode cX12_taught 108 = .ok (.iinc 6 1, 3) := by decide +kernel
theorem dX12_taught_111 : decode cX12_taught 111 = .ok (.goto (-61), 3) := by decide +kernel
theorem dX12_taught_114 : decode cX12_taught 114 = .ok (.iinc 5 1, 3) := by decide +kernel
theorem dX12_taught_117 : decode cX12_taught 117 = .ok (.goto (-82), 3) := by decide +kernel
theorem dX12_taught_120 : decode cX12_taught 120 = .ok (.iload 4, 2) := by decide +kernel
theorem dX12_taught_122 : decode cX12_taught 122 = .ok (.iconst (-1), 1) := by decide +kernel
theorem dX12_taught_123 : decode cX12_taught 123 = .ok (.if_icmp .ne 5, 3) := by decide +kernel
theorem dX12_taught_126 : decode cX12_taught 126 = .ok (.iconst (-1), 1) := by decide +kernel
theorem dX12_taught_127 : decode cX12_taught 127 = .ok (.ireturn, 1) := by decide +kernel
theorem dX12_taught_128 : decode cX12_taught 128 = .ok (.iload_n 1, 1) := by decide +kernel
theorem dX12_taught_129 : decode cX12_taught 129 = .ok (.ifCond .ne 10, 3) := by decide +kernel
theorem dX12_taught_132 : decode cX12_taught 132 = .ok (.iload 4, 2) := by decide +kernel
theorem dX12_taught_134 : decode cX12_taught 134 = .ok (.iconst 4, 1) := by decide +kernel
theorem dX12_taught_135 : decode cX12_taught 135 = .ok (.idiv, 1) := by decide +kernel
theorem dX12_taught_136 : decode cX12_taught 136 = .ok (.goto 16, 3) := by decide +kernel
theorem dX12_taught_139 : decode cX12_taught 139 = .ok (.iload_n 1, 1) := by decide +kernel
theorem dX12_taught_140 : decode cX12_taught 140 = .ok (.iconst 1, 1) := by decide +kernel
theorem dX12_taught_141 : decode cX12_taught 141 = .ok (.if_icmp .ne 10, 3) := by decide +kernel
theorem dX12_taught_144 : decode cX12_taught 144 = .ok (.iload 4, 2) := by decide +kernel
theorem dX12_taught_146 : decode cX12_taught 146 = .ok (.iconst 4, 1) := by decide +kernel
theorem dX12_taught_147 : decode cX12_taught 147 = .ok (.irem, 1) := by decide +kernel
theorem dX12_taught_148 : decode cX12_taught 148 = .ok (.goto 4, 3) := by decide +kernel
theorem dX12_taught_151 : decode cX12_taught 151 = .ok (.iload_n 3, 1) := by decide +kernel
theorem dX12_taught_152 : decode cX12_taught 152 = .ok (.ireturn, 1) := by decide +kernel
theorem dX12_unseen_0 : decode cX12_unseen 0 = .ok (.iload_n 1, 1) := by decide +kernel
theorem dX12_unseen_1 : decode cX12_unseen 1 = .ok (.iconst 0, 1) := by decide +kernel
theorem dX12_unseen_2 : decode cX12_unseen 2 = .ok (.bipush 99, 2) := by decide +kernel
theorem dX12_unseen_4 : decode cX12_unseen 4 = .ok (.invokestatic 96, 3) := by decide +kernel
theorem dX12_unseen_7 : decode cX12_unseen 7 = .ok (.ifCond .ne 7, 3) := by decide +kernel
theorem dX12_unseen_10 : decode cX12_unseen 10 = .ok (.ldc2_w 400, 3) := by decide +kernel
theorem dX12_unseen_13 : decode cX12_unseen 13 = .ok (.lreturn, 1) := by decide +kernel
theorem dX12_unseen_14 : decode cX12_unseen 14 = .ok (.aload_n 0, 1) := by decide +kernel
theorem dX12_unseen_15 : decode cX12_unseen 15 = .ok (.invokevirtual 378, 3) := by decide +kernel
theorem dX12_unseen_18 : decode cX12_unseen 18 = .ok (.ldc2_w 402, 3) := by decide +kernel
theorem dX12_unseen_21 : decode cX12_unseen 21 = .ok (.lstore_n 2, 1) := by decide +kernel
theorem dX12_unseen_22 : decode cX12_unseen 22 = .ok (.iconst 0, 1) := by decide +kernel
theorem dX12_unseen_23 : decode cX12_unseen 23 = .ok (.istore 4, 2) := by decide +kernel
theorem dX12_unseen_25 : decode cX12_unseen 25 = .ok (.iload 4, 2) := by decide +kernel
theorem dX12_unseen_27 : decode cX12_unseen 27 = .ok (.iload_n 1, 1) := by decide +kernel
theorem dX12_unseen_28 : decode cX12_unseen 28 = .ok (.if_icmp .ge 99, 3) := by decide +kernel
theorem dX12_unseen_31 : decode cX12_unseen 31 = .ok (.aload_n 0, 1) := by decide +kernel
theorem dX12_unseen_32 : decode cX12_unseen 32 = .ok (.aload_n 0, 1) := by decide +kernel
theorem dX12_unseen_33 : decode cX12_unseen 33 = .ok (.invokevirtual 363, 3) := by decide +kernel
theorem dX12_unseen_36 : decode cX12_unseen 36 = .ok (.invokevirtual 381, 3) := by decide +kernel
theorem dX12_unseen_39 : decode cX12_unseen 39 = .ok (.ifCond .ne 88, 3) := by decide +kernel
theorem dX12_unseen_42 : decode cX12_unseen 42 = .ok (.aload_n 0, 1) := by decide +kernel
theorem dX12_unseen_43 : decode cX12_unseen 43 = .ok (.aload_n 0, 1) := by decide +kernel
theorem dX12_unseen_44 : decode cX12_unseen 44 = .ok (.invokevirtual 342, 3) := by decide +kernel
theorem dX12_unseen_47 : decode cX12_unseen 47 = .ok (.invokevirtual 384, 3) := by decide +kernel
theorem dX12_unseen_50 : decode cX12_unseen 50 = .ok (.iconst 0, 1) := by decide +kernel
theorem dX12_unseen_51 : decode cX12_unseen 51 = .ok (.istore 5, 2) := by decide +kernel
theorem dX12_unseen_53 : decode cX12_unseen 53 = .ok (.iload 5, 2) := by decide +kernel
theorem dX12_unseen_55 : decode cX12_unseen 55 = .ok (.aload_n 0, 1) := by decide +kernel
theorem dX12_unseen_56 : decode cX12_unseen 56 = .ok (.getfield 24, 3) := by decide +kernel
theorem dX12_unseen_59 : decode cX12_unseen 59 = .ok (.bipush 103, 2) := by decide +kernel
theorem dX12_unseen_61 : decode cX12_unseen 61 = .ok (.iaload, 1) := by decide +kernel
theorem dX12_unseen_62 : decode cX12_unseen 62 = .ok (.if_icmp .ge 50, 3) := by decide +kernel
theorem dX12_unseen_65 : decode cX12_unseen 65 = .ok (.aload_n 0, 1) := by decide +kernel
theorem dX12_unseen_66 : decode cX12_unseen 66 = .ok (.getfield 24, 3) := by decide +kernel
theorem dX12_unseen_69 : decode cX12_unseen 69 = .ok (.bipush 16, 2) := by decide +kernel
theorem dX12_unseen_71 : decode cX12_unseen 71 = .ok (.iload 5, 2) := by decide +kernel
theorem dX12_unseen_73 : decode cX12_unseen 73 = .ok (.iadd, 1) := by decide +kernel
theorem dX12_unseen_74 : decode cX12_unseen 74 = .ok (.iaload, 1) := by decide +kernel
theorem dX12_unseen_75 : decode cX12_unseen 75 = .ok (.iconst (-1), 1) := by decide +kernel
theorem dX12_unseen_76 : decode cX12_unseen 76 = .ok (.if_icmp .eq 30, 3) := by decide +kernel
theorem dX12_unseen_79 : decode cX12_unseen 79 = .ok (.lload_n 2, 1) := by decide +kernel
theorem dX12_unseen_80 : decode cX12_unseen 80 = .ok (.bipush 10, 2) := by decide +kernel
theorem dX12_unseen_82 : decode cX12_unseen 82 = .ok (.aload_n 0, 1) := by decide +kernel
theorem dX12_unseen_83 : decode cX12_unseen 83 = .ok (.iload 5, 2) := by decide +kernel
theorem dX12_unseen_85 : decode cX12_unseen 85 = .ok (.aload_n 0, 1) := by decide +kernel
theorem dX12_unseen_86 : decode cX12_unseen 86 = .ok (.getfield 24, 3) := by decide +kernel
theorem dX12_unseen_89 : decode cX12_unseen 89 = .ok (.bipush 16, 2) := by decide +kernel
theorem dX12_unseen_91 : decode cX12_unseen 91 = .ok (.iload 5, 2) := by decide +kernel
theorem dX12_unseen_93 : decode cX12_unseen 93 = .ok (.iadd, 1) := by decide +kernel
theorem dX12_unseen_94 : decode cX12_unseen 94 = .ok (.iaload, 1) := by decide +kernel
theorem dX12_unseen_95 : decode cX12_unseen 95 = .ok (.invokevirtual 321, 3) := by decide +kernel
theorem dX12_unseen_98 : decode cX12_unseen 98 = .ok (.isub, 1) := by decide +kernel
theorem dX12_unseen_99 : decode cX12_unseen 99 = .ok (.i2l, 1) := by decide +kernel
theorem dX12_unseen_100 : decode cX12_unseen 100 = .ok (.lmul, 1) := by decide +kernel
theorem dX12_unseen_101 : decode cX12_unseen 101 = .ok (.ldc2_w 404, 3) := by decide +kernel
theorem dX12_unseen_104 : decode cX12_unseen 104 = .ok (.ldiv, 1) := by decide +kernel
theorem dX12_unseen_105 : decode cX12_unseen 105 = .ok (.lstore_n 2, 1) := by decide +kernel
theorem dX12_unseen_106 : decode cX12_unseen 106 = .ok (.iinc 5 1, 3) := by decide +kernel
theorem dX12_unseen_109 : decode cX12_unseen 109 = .ok (.goto (-56), 3) := by decide +kernel
theorem dX12_unseen_112 : decode cX12_unseen 112 = .ok (.aload_n 0, 1) := by decide +kernel
theorem dX12_unseen_113 : decode cX12_unseen 113 = .ok (.aload_n 0, 1) := by decide +kernel
theorem dX12_unseen_114 : decode cX12_unseen 114 = .ok (.invokevirtual 342, 3) := by decide +kernel
theorem dX12_unseen_117 : decode cX12_unseen 117 = .ok (.invokevirtual 345, 3) := by decide +kernel
theorem dX12_unseen_120 : decode cX12_unseen 120 = .ok (.pop, 1) := by decide +kernel
theorem dX12_unseen_121 : decode cX12_unseen 121 = .ok (.iinc 4 1, 3) := by decide +kernel
theorem dX12_unseen_124 : decode cX12_unseen 124 = .ok (.goto (-99), 3) := by decide +kernel
theorem dX12_unseen_127 : decode cX12_unseen 127 = .ok (.aload_n 0, 1) := by decide +kernel
theorem dX12_unseen_128 : decode cX12_unseen 128 = .ok (.iconst 0, 1) := by decide +kernel
theorem dX12_unseen_129 : decode cX12_unseen 129 = .ok (.invokevirtual 387, 3) := by decide +kernel
theorem dX12_unseen_132 : decode cX12_unseen 132 = .ok (.lload_n 2, 1) := by decide +kernel
theorem dX12_unseen_133 : decode cX12_unseen 133 = .ok (.lreturn, 1) := by decide +kernel
theorem dX12_sight_0 : decode cX12_sight 0 = .ok (.iload_n 1, 1) := by decide +kernel
theorem dX12_sight_1 : decode cX12_sight 1 = .ok (.iconst 0, 1) := by decide +kernel
theorem dX12_sight_2 : decode cX12_sight 2 = .ok (.bipush 99, 2) := by decide +kernel
theorem dX12_sight_4 : decode cX12_sight 4 = .ok (.invokestatic 96, 3) := by decide +kernel
theorem dX12_sight_7 : decode cX12_sight 7 = .ok (.ifCond .eq 12, 3) := by decide +kernel
theorem dX12_sight_10 : decode cX12_sight 10 = .ok (.iload_n 3, 1) := by decide +kernel
theorem dX12_sight_11 : decode cX12_sight 11 = .ok (.iconst 0, 1) := by decide +kernel
theorem dX12_sight_12 : decode cX12_sight 12 = .ok (.iconst 1, 1) := by decide +kernel
theorem dX12_sight_13 : decode cX12_sight 13 = .ok (.invokestatic 96, 3) := by decide +kernel
theorem dX12_sight_16 : decode cX12_sight 16 = .ok (.ifCond .ne 9, 3) := by decide +kernel
theorem dX12_sight_19 : decode cX12_sight 19 = .ok (.aload_n 0, 1) := by decide +kernel
theorem dX12_sight_20 : decode cX12_sight 20 = .ok (.iconst (-1), 1) := by decide +kernel
theorem dX12_sight_21 : decode cX12_sight 21 = .ok (.invokevirtual 100, 3) := by decide +kernel
theorem dX12_sight_24 : decode cX12_sight 24 = .ok (.ireturn, 1) := by decide +kernel
theorem dX12_sight_25 : decode cX12_sight 25 = .ok (.aload_n 0, 1) := by decide +kernel
theorem dX12_sight_26 : decode cX12_sight 26 = .ok (.iload_n 2, 1) := by decide +kernel
theorem dX12_sight_27 : decode cX12_sight 27 = .ok (.invokevirtual 122, 3) := by decide +kernel
theorem dX12_sight_30 : decode cX12_sight 30 = .ok (.ifCond .ne 10, 3) := by decide +kernel
theorem dX12_sight_33 : decode cX12_sight 33 = .ok (.aload_n 0, 1) := by decide +kernel
theorem dX12_sight_34 : decode cX12_sight 34 = .ok (.bipush (-2), 2) := by decide +kernel
theorem dX12_sight_36 : decode cX12_sight 36 = .ok (.invokevirtual 100, 3) := by decide +kernel
theorem dX12_sight_39 : decode cX12_sight 39 = .ok (.ireturn, 1) := by decide +kernel
theorem dX12_sight_40 : decode cX12_sight 40 = .ok (.aload_n 0, 1) := by decide +kernel
theorem dX12_sight_41 : decode cX12_sight 41 = .ok (.getfield 24, 3) := by decide +kernel
theorem dX12_sight_44 : decode cX12_sight 44 = .ok (.bipush 104, 2) := by decide +kernel
theorem dX12_sight_46 : decode cX12_sight 46 = .ok (.iaload, 1) := by decide +kernel
theorem dX12_sight_47 : decode cX12_sight 47 = .ok (.istore 4, 2) := by decide +kernel
theorem dX12_sight_49 : decode cX12_sight 49 = .ok (.iload 4, 2) := by decide +kernel
theorem dX12_sight_51 : decode cX12_sight 51 = .ok (.bipush 8, 2) := by decide +kernel
theorem dX12_sight_53 : decode cX12_sight 53 = .ok (.if_icmp .ne 10, 3) := by decide +kernel
theorem dX12_sight_56 : decode cX12_sight 56 = .ok (.aload_n 0, 1) := by decide +kernel
theorem dX12_sight_57 : decode cX12_sight 57 = .ok (.bipush (-5), 2) := by decide +kernel
theorem dX12_sight_59 : decode cX12_sight 59 = .ok (.invokevirtual 100, 3) := by decide +kernel
theorem dX12_sight_62 : decode cX12_sight 62 = .ok (.ireturn, 1) := by decide +kernel
theorem dX12_sight_63 : decode cX12_sight 63 = .ok (.aload_n 0, 1) := by decide +kernel
theorem dX12_sight_64 : decode cX12_sight 64 = .ok (.getfield 24, 3) := by decide +kernel
theorem dX12_sight_67 : decode cX12_sight 67 = .ok (.bipush 75, 2) := by decide +kernel
theorem dX12_sight_69 : decode cX12_sight 69 = .ok (.iconst 3, 1) := by decide +kernel
theorem dX12_sight_70 : decode cX12_sight 70 = .ok (.iload 4, 2) := by decide +kernel
theorem dX12_sight_72 : decode cX12_sight 72 = .ok (.imul, 1) := by decide +kernel
theorem dX12_sight_73 : decode cX12_sight 73 = .ok (.iadd, 1) := by decide +kernel
theorem dX12_sight_74 : decode cX12_sight 74 = .ok (.iload_n 1, 1) := by decide +kernel
theorem dX12_sight_75 : decode cX12_sight 75 = .ok (.iastore, 1) := by decide +kernel
theorem dX12_sight_76 : decode cX12_sight 76 = .ok (.aload_n 0, 1) := by decide +kernel
theorem dX12_sight_77 : decode cX12_sight 77 = .ok (.getfield 24, 3) := by decide +kernel
theorem dX12_sight_80 : decode cX12_sight 80 = .ok (.bipush 75, 2) := by decide +kernel
theorem dX12_sight_82 : decode cX12_sight 82 = .ok (.iconst 3, 1) := by decide +kernel
theorem dX12_sight_83 : decode cX12_sight 83 = .ok (.iload 4, 2) := by decide +kernel
theorem dX12_sight_85 : decode cX12_sight 85 = .ok (.imul, 1) := by decide +kernel
theorem dX12_sight_86 : decode cX12_sight 86 = .ok (.iadd, 1) := by decide +kernel
theorem dX12_sight_87 : decode cX12_sight 87 = .ok (.iconst 1, 1) := by decide +kernel
theorem dX12_sight_88 : decode cX12_sight 88 = .ok (.iadd, 1) := by decide +kernel
theorem dX12_sight_89 : decode cX12_sight 89 = .ok (.iload_n 2, 1) := by decide +kernel
theorem dX12_sight_90 : decode cX12_sight 90 = .ok (.iastore, 1) := by decide +kernel
theorem dX12_sight_91 : decode cX12_sight 91 = .ok (.aload_n 0, 1) := by decide +kernel
theorem dX12_sight_92 : decode cX12_sight 92 = .ok (.getfield 24, 3) := by decide +kernel
theorem dX12_sight_95 : decode cX12_sight 95 = .ok (.bipush 75, 2) := by decide +kernel
theorem dX12_sight_97 : decode cX12_sight 97 = .ok (.iconst 3, 1) := by decide +kernel
theorem dX12_sight_98 : decode cX12_sight 98 = .ok (.iload 4, 2) := by decide +kernel
theorem dX12_sight_100 : decode cX12_sight 100 = .ok (.imul, 1) := by decide +kernel
theorem dX12_sight_101 : decode cX12_sight 101 = .ok (.iadd, 1) := by decide +kernel
theorem dX12_sight_102 : decode cX12_sight 102 = .ok (.iconst 2, 1) := by decide +kernel
theorem dX12_sight_103 : decode cX12_sight 103 = .ok (.iadd, 1) := by decide +kernel
theorem dX12_sight_104 : decode cX12_sight 104 = .ok (.iload_n 3, 1) := by decide +kernel
theorem dX12_sight_105 : decode cX12_sight 105 = .ok (.iastore, 1) := by decide +kernel
theorem dX12_sight_106 : decode cX12_sight 106 = .ok (.aload_n 0, 1) := by decide +kernel
theorem dX12_sight_107 : decode cX12_sight 107 = .ok (.getfield 24, 3) := by decide +kernel
theorem dX12_sight_110 : decode cX12_sight 110 = .ok (.bipush 104, 2) := by decide +kernel
theorem dX12_sight_112 : decode cX12_sight 112 = .ok (.dup2, 1) := by decide +kernel
theorem dX12_sight_113 : decode cX12_sight 113 = .ok (.iaload, 1) := by decide +kernel
theorem dX12_sight_114 : decode cX12_sight 114 = .ok (.iconst 1, 1) := by decide +kernel
theorem dX12_sight_115 : decode cX12_sight 115 = .ok (.iadd, 1) := by decide +kernel
theorem dX12_sight_116 : decode cX12_sight 116 = .ok (.iastore, 1) := by decide +kernel
theorem dX12_sight_117 : decode cX12_sight 117 = .ok (.aload_n 0, 1) := by decide +kernel
theorem dX12_sight_118 : decode cX12_sight 118 = .ok (.iload 4, 2) := by decide +kernel
theorem dX12_sight_120 : decode cX12_sight 120 = .ok (.iconst 1, 1) := by decide +kernel
theorem dX12_sight_121 : decode cX12_sight 121 = .ok (.iadd, 1) := by decide +kernel
theorem dX12_sight_122 : decode cX12_sight 122 = .ok (.invokevirtual 14, 3) := by decide +kernel
theorem dX12_sight_125 : decode cX12_sight 125 = .ok (.ireturn, 1) := by decide +kernel
theorem dX12_forget_0 : decode cX12_forget 0 = .ok (.aload_n 0, 1) := by decide +kernel
theorem dX12_forget_1 : decode cX12_forget 1 = .ok (.getfield 24, 3) := by decide +kernel
theorem dX12_forget_4 : decode cX12_forget 4 = .ok (.bipush 104, 2) := by decide +kernel
theorem dX12_forget_6 : decode cX12_forget 6 = .ok (.iaload, 1) := by decide +kernel
theorem dX12_forget_7 : decode cX12_forget 7 = .ok (.istore_n 1, 1) := by decide +kernel
theorem dX12_forget_8 : decode cX12_forget 8 = .ok (.aload_n 0, 1) := by decide +kernel
theorem dX12_forget_9 : decode cX12_forget 9 = .ok (.getfield 24, 3) := by decide +kernel
theorem dX12_forget_12 : decode cX12_forget 12 = .ok (.bipush 104, 2) := by decide +kernel
theorem dX12_forget_14 : decode cX12_forget 14 = .ok (.iconst 0, 1) := by decide +kernel
theorem dX12_forget_15 : decode cX12_forget 15 = .ok (.iastore, 1) := by decide +kernel
theorem dX12_forget_16 : decode cX12_forget 16 = .ok (.iload_n 1, 1) := by decide +kernel
theorem dX12_forget_17 : decode cX12_forget 17 = .ok (.ireturn, 1) := by decide +kernel
theorem dX12_areSo_0 : decode cX12_areSo 0 = .ok (.iconst 1, 1) := by decide +kernel
theorem dX12_areSo_1 : decode cX12_areSo 1 = .ok (.istore_n 2, 1) := by decide +kernel
theorem dX12_areSo_2 : decode cX12_areSo 2 = .ok (.iconst 0, 1) := by decide +kernel
theorem dX12_areSo_3 : decode cX12_areSo 3 = .ok (.istore_n 3, 1) := by decide +kernel
theorem dX12_areSo_4 : decode cX12_areSo 4 = .ok (.iload_n 3, 1) := by decide +kernel
theorem dX12_areSo_5 : decode cX12_areSo 5 = .ok (.aload_n 0, 1) := by decide +kernel
theorem dX12_areSo_6 : decode cX12_areSo 6 = .ok (.getfield 24, 3) := by decide +kernel
theorem dX12_areSo_9 : decode cX12_areSo 9 = .ok (.bipush 104, 2) := by decide +kernel
theorem dX12_areSo_11 : decode cX12_areSo 11 = .ok (.iaload, 1) := by decide +kernel
theorem dX12_areSo_12 : decode cX12_areSo 12 = .ok (.if_icmp .ge 76, 3) := by decide +kernel
theorem dX12_areSo_15 : decode cX12_areSo 15 = .ok (.iload_n 2, 1) := by decide +kernel
theorem dX12_areSo_16 : decode cX12_areSo 16 = .ok (.ifCond .eq 64, 3) := by decide +kernel
theorem dX12_areSo_19 : decode cX12_areSo 19 = .ok (.aload_n 0, 1) := by decide +kernel
theorem dX12_areSo_20 : decode cX12_areSo 20 = .ok (.getfield 24, 3) := by decide +kernel
theorem dX12_areSo_23 : decode cX12_areSo 23 = .ok (.bipush 75, 2) := by decide +kernel
theorem dX12_areSo_25 : decode cX12_areSo 25 = .ok (.iconst 3, 1) := by decide +kernel
theorem dX12_areSo_26 : decode cX12_areSo 26 = .ok (.iload_n 3, 1) := by decide +kernel
theorem dX12_areSo_27 : decode cX12_areSo 27 = .ok (.imul, 1) := by decide +kernel
theorem dX12_areSo_28 : decode cX12_areSo 28 = .ok (.iadd, 1) := by decide +kernel
theorem dX12_areSo_29 : decode cX12_areSo 29 = .ok (.iaload, 1) := by decide +kernel
theorem dX12_areSo_30 : decode cX12_areSo 30 = .ok (.iload_n 1, 1) := by decide +kernel
theorem dX12_areSo_31 : decode cX12_areSo 31 = .ok (.if_icmp .ne 45, 3) := by decide +kernel
theorem dX12_areSo_34 : decode cX12_areSo 34 = .ok (.aload_n 0, 1) := by decide +kernel
theorem dX12_areSo_35 : decode cX12_areSo 35 = .ok (.aload_n 0, 1) := by decide +kernel
theorem dX12_areSo_36 : decode cX12_areSo 36 = .ok (.getfield 24, 3) := by decide +kernel
theorem dX12_areSo_39 : decode cX12_areSo 39 = .ok (.bipush 75, 2) := by decide +kernel
theorem dX12_areSo_41 : decode cX12_areSo 41 = .ok (.iconst 3, 1) := by decide +kernel
theorem dX12_areSo_42 : decode cX12_areSo 42 = .ok (.iload_n 3, 1) := by decide +kernel
theorem dX12_areSo_43 : decode cX12_areSo 43 = .ok (.imul, 1) := by decide +kernel
theorem dX12_areSo_44 : decode cX12_areSo 44 = .ok (.iadd, 1) := by decide +kernel
theorem dX12_areSo_45 : decode cX12_areSo 45 = .ok (.iconst 1, 1) := by decide +kernel
theorem dX12_areSo_46 : decode cX12_areSo 46 = .ok (.iadd, 1) := by decide +kernel
theorem dX12_areSo_47 : decode cX12_areSo 47 = .ok (.iaload, 1) := by decide +kernel
theorem dX12_areSo_48 : decode cX12_areSo 48 = .ok (.invokevirtual 114, 3) := by decide +kernel
theorem dX12_areSo_51 : decode cX12_areSo 51 = .ok (.aload_n 0, 1) := by decide +kernel
theorem dX12_areSo_52 : decode cX12_areSo 52 = .ok (.getfield 24, 3) := by decide +kernel
theorem dX12_areSo_55 : decode cX12_areSo 55 = .ok (.bipush 75, 2) := by decide +kernel
theorem dX12_areSo_57 : decode cX12_areSo 57 = .ok (.iconst 3, 1) := by decide +kernel
theorem dX12_areSo_58 : decode cX12_areSo 58 = .ok (.iload_n 3, 1) := by decide +kernel
theorem dX12_areSo_59 : decode cX12_areSo 59 = .ok (.imul, 1) := by decide +kernel
theorem dX12_areSo_60 : decode cX12_areSo 60 = .ok (.iadd, 1) := by decide +kernel
theorem dX12_areSo_61 : decode cX12_areSo 61 = .ok (.iconst 2, 1) := by decide +kernel
theorem dX12_areSo_62 : decode cX12_areSo 62 = .ok (.iadd, 1) := by decide +kernel
theorem dX12_areSo_63 : decode cX12_areSo 63 = .ok (.iaload, 1) := by decide +kernel
theorem dX12_areSo_64 : decode cX12_areSo 64 = .ok (.iconst 1, 1) := by decide +kernel
theorem dX12_areSo_65 : decode cX12_areSo 65 = .ok (.if_icmp .ne 7, 3) := by decide +kernel
theorem dX12_areSo_68 : decode cX12_areSo 68 = .ok (.iconst 1, 1) := by decide +kernel
theorem dX12_areSo_69 : decode cX12_areSo 69 = .ok (.goto 4, 3) := by decide +kernel
theorem dX12_areSo_72 : decode cX12_areSo 72 = .ok (.iconst 0, 1) := by decide +kernel
theorem dX12_areSo_73 : decode cX12_areSo 73 = .ok (.if_icmp .ne 7, 3) := by decide +kernel
theorem dX12_areSo_76 : decode cX12_areSo 76 = .ok (.iconst 1, 1) := by decide +kernel
theorem dX12_areSo_77 : decode cX12_areSo 77 = .ok (.goto 4, 3) := by decide +kernel
theorem dX12_areSo_80 : decode cX12_areSo 80 = .ok (.iconst 0, 1) := by decide +kernel
theorem dX12_areSo_81 : decode cX12_areSo 81 = .ok (.istore_n 2, 1) := by decide +kernel
theorem dX12_areSo_82 : decode cX12_areSo 82 = .ok (.iinc 3 1, 3) := by decide +kernel
theorem dX12_areSo_85 : decode cX12_areSo 85 = .ok (.goto (-81), 3) := by decide +kernel
theorem dX12_areSo_88 : decode cX12_areSo 88 = .ok (.iload_n 2, 1) := by decide +kernel
theorem dX12_areSo_89 : decode cX12_areSo 89 = .ok (.ireturn, 1) := by decide +kernel
theorem dX12_lastSight_0 : decode cX12_lastSight 0 = .ok (.iconst 0, 1) := by decide +kernel
theorem dX12_lastSight_1 : decode cX12_lastSight 1 = .ok (.istore_n 1, 1) := by decide +kernel
theorem dX12_lastSight_2 : decode cX12_lastSight 2 = .ok (.iconst 0, 1) := by decide +kernel
theorem dX12_lastSight_3 : decode cX12_lastSight 3 = .ok (.istore_n 2, 1) := by decide +kernel
theorem dX12_lastSight_4 : decode cX12_lastSight 4 = .ok (.iload_n 2, 1) := by decide +kernel
theorem dX12_lastSight_5 : decode cX12_lastSight 5 = .ok (.aload_n 0, 1) := by decide +kernel
theorem dX12_lastSight_6 : decode cX12_lastSight 6 = .ok (.getfield 24, 3) := by decide +kernel
theorem dX12_lastSight_9 : decode cX12_lastSight 9 = .ok (.bipush 104, 2) := by decide +kernel
theorem dX12_lastSight_11 : decode cX12_lastSight 11 = .ok (.iaload, 1) := by decide +kernel
theorem dX12_lastSight_12 : decode cX12_lastSight 12 = .ok (.if_icmp .ge 25, 3) := by decide +kernel
theorem dX12_lastSight_15 : decode cX12_lastSight 15 = .ok (.iload_n 1, 1) := by decide +kernel
theorem dX12_lastSight_16 : decode cX12_lastSight 16 = .ok (.aload_n 0, 1) := by decide +kernel
theorem dX12_lastSight_17 : decode cX12_lastSight 17 = .ok (.getfield 24, 3) := by decide +kernel
theorem dX12_lastSight_20 : decode cX12_lastSight 20 = .ok (.bipush 75, 2) := by decide +kernel
theorem dX12_lastSight_22 : decode cX12_lastSight 22 = .ok (.iconst 3, 1) := by decide +kernel
theorem dX12_lastSight_23 : decode cX12_lastSight 23 = .ok (.iload_n 2, 1) := by decide +kernel
theorem dX12_lastSight_24 : decode cX12_lastSight 24 = .ok (.imul, 1) := by decide +kernel
theorem dX12_lastSight_25 : decode cX12_lastSight 25 = .ok (.iadd, 1) := by decide +kernel
theorem dX12_lastSight_26 : decode cX12_lastSight 26 = .ok (.iaload, 1) := by decide +kernel
theorem dX12_lastSight_27 : decode cX12_lastSight 27 = .ok (.invokestatic 327, 3) := by decide +kernel
theorem dX12_lastSight_30 : decode cX12_lastSight 30 = .ok (.istore_n 1, 1) := by decide +kernel
theorem dX12_lastSight_31 : decode cX12_lastSight 31 = .ok (.iinc 2 1, 3) := by decide +kernel
theorem dX12_lastSight_34 : decode cX12_lastSight 34 = .ok (.goto (-30), 3) := by decide +kernel
theorem dX12_lastSight_37 : decode cX12_lastSight 37 = .ok (.iload_n 1, 1) := by decide +kernel
theorem dX12_lastSight_38 : decode cX12_lastSight 38 = .ok (.ireturn, 1) := by decide +kernel
theorem dX12_goesOn_0 : decode cX12_goesOn 0 = .ok (.aload_n 0, 1) := by decide +kernel
theorem dX12_goesOn_1 : decode cX12_goesOn 1 = .ok (.aload_n 0, 1) := by decide +kernel
theorem dX12_goesOn_2 : decode cX12_goesOn 2 = .ok (.invokevirtual 363, 3) := by decide +kernel
theorem dX12_goesOn_5 : decode cX12_goesOn 5 = .ok (.invokevirtual 381, 3) := by decide +kernel
theorem dX12_goesOn_8 : decode cX12_goesOn 8 = .ok (.ifCond .eq 4, 3) := by decide +kernel
theorem dX12_goesOn_11 : decode cX12_goesOn 11 = .ok (.return_, 1) := by decide +kernel
theorem dX12_goesOn_12 : decode cX12_goesOn 12 = .ok (.aload_n 0, 1) := by decide +kernel
theorem dX12_goesOn_13 : decode cX12_goesOn 13 = .ok (.iload_n 1, 1) := by decide +kernel
theorem dX12_goesOn_14 : decode cX12_goesOn 14 = .ok (.invokevirtual 384, 3) := by decide +kernel
theorem dX12_goesOn_17 : decode cX12_goesOn 17 = .ok (.aload_n 0, 1) := by decide +kernel
theorem dX12_goesOn_18 : decode cX12_goesOn 18 = .ok (.iload_n 1, 1) := by decide +kernel
theorem dX12_goesOn_19 : decode cX12_goesOn 19 = .ok (.invokevirtual 345, 3) := by decide +kernel
theorem dX12_goesOn_22 : decode cX12_goesOn 22 = .ok (.pop, 1) := by decide +kernel
theorem dX12_goesOn_23 : decode cX12_goesOn 23 = .ok (.return_, 1) := by decide +kernel
theorem dX12_canBeWhose_0 : decode cX12_canBeWhose 0 = .ok (.aload_n 0, 1) := by decide +kernel
theorem dX12_canBeWhose_1 : decode cX12_canBeWhose 1 = .ok (.invokevirtual 378, 3) := by decide +kernel
theorem dX12_canBeWhose_4 : decode cX12_canBeWhose 4 = .ok (.aload_n 0, 1) := by decide +kernel
theorem dX12_canBeWhose_5 : decode cX12_canBeWhose 5 = .ok (.invokevirtual 406, 3) := by decide +kernel
theorem dX12_canBeWhose_8 : decode cX12_canBeWhose 8 = .ok (.istore_n 2, 1) := by decide +kernel
theorem dX12_canBeWhose_9 : decode cX12_canBeWhose 9 = .ok (.aload_n 0, 1) := by decide +kernel
theorem dX12_canBeWhose_10 : decode cX12_canBeWhose 10 = .ok (.iconst 0, 1) := by decide +kernel
theorem dX12_canBeWhose_11 : decode cX12_canBeWhose 11 = .ok (.invokevirtual 409, 3) := by decide +kernel
theorem dX12_canBeWhose_14 : decode cX12_canBeWhose 14 = .ok (.istore_n 3, 1) := by decide +kernel
theorem dX12_canBeWhose_15 : decode cX12_canBeWhose 15 = .ok (.iconst 1, 1) := by decide +kernel
theorem dX12_canBeWhose_16 : decode cX12_canBeWhose 16 = .ok (.istore 4, 2) := by decide +kernel
theorem dX12_canBeWhose_18 : decode cX12_canBeWhose 18 = .ok (.iload 4, 2) := by decide +kernel
theorem dX12_canBeWhose_20 : decode cX12_canBeWhose 20 = .ok (.iload_n 2, 1) := by decide +kernel
theorem dX12_canBeWhose_21 : decode cX12_canBeWhose 21 = .ok (.if_icmp .gt 25, 3) := by decide +kernel
theorem dX12_canBeWhose_24 : decode cX12_canBeWhose 24 = .ok (.iload_n 3, 1) := by decide +kernel
theorem dX12_canBeWhose_25 : decode cX12_canBeWhose 25 = .ok (.ifCond .eq 21, 3) := by decide +kernel
theorem dX12_canBeWhose_28 : decode cX12_canBeWhose 28 = .ok (.aload_n 0, 1) := by decide +kernel
theorem dX12_canBeWhose_29 : decode cX12_canBeWhose 29 = .ok (.iload_n 1, 1) := by decide +kernel
theorem dX12_canBeWhose_30 : decode cX12_canBeWhose 30 = .ok (.invokevirtual 412, 3) := by decide +kernel
theorem dX12_canBeWhose_33 : decode cX12_canBeWhose 33 = .ok (.aload_n 0, 1) := by decide +kernel
theorem dX12_canBeWhose_34 : decode cX12_canBeWhose 34 = .ok (.iload 4, 2) := by decide +kernel
theorem dX12_canBeWhose_36 : decode cX12_canBeWhose 36 = .ok (.invokevirtual 409, 3) := by decide +kernel
theorem dX12_canBeWhose_39 : decode cX12_canBeWhose 39 = .ok (.istore_n 3, 1) := by decide +kernel
theorem dX12_canBeWhose_40 : decode cX12_canBeWhose 40 = .ok (.iinc 4 1, 3) := by decide +kernel
theorem dX12_canBeWhose_43 : decode cX12_canBeWhose 43 = .ok (.goto (-25), 3) := by decide +kernel
theorem dX12_canBeWhose_46 : decode cX12_canBeWhose 46 = .ok (.aload_n 0, 1) := by decide +kernel
theorem dX12_canBeWhose_47 : decode cX12_canBeWhose 47 = .ok (.iconst 0, 1) := by decide +kernel
theorem dX12_canBeWhose_48 : decode cX12_canBeWhose 48 = .ok (.invokevirtual 387, 3) := by decide +kernel
theorem dX12_canBeWhose_51 : decode cX12_canBeWhose 51 = .ok (.iload_n 3, 1) := by decide +kernel
theorem dX12_canBeWhose_52 : decode cX12_canBeWhose 52 = .ok (.ireturn, 1) := by decide +kernel
theorem dX12_whose_0 : decode cX12_whose 0 = .ok (.iload_n 1, 1) := by decide +kernel
theorem dX12_whose_1 : decode cX12_whose 1 = .ok (.iconst (-1), 1) := by decide +kernel
theorem dX12_whose_2 : decode cX12_whose 2 = .ok (.if_icmp .ge 5, 3) := by decide +kernel
theorem dX12_whose_5 : decode cX12_whose 5 = .ok (.iconst (-1), 1) := by decide +kernel
theorem dX12_whose_6 : decode cX12_whose 6 = .ok (.ireturn, 1) := by decide +kernel
theorem dX12_whose_7 : decode cX12_whose 7 = .ok (.iconst 0, 1) := by decide +kernel
theorem dX12_whose_8 : decode cX12_whose 8 = .ok (.istore_n 2, 1) := by decide +kernel
theorem dX12_whose_9 : decode cX12_whose 9 = .ok (.iconst 0, 1) := by decide +kernel
theorem dX12_whose_10 : decode cX12_whose 10 = .ok (.istore_n 3, 1) := by decide +kernel
theorem dX12_whose_11 : decode cX12_whose 11 = .ok (.iload_n 3, 1) := by decide +kernel
theorem dX12_whose_12 : decode cX12_whose 12 = .ok (.aload_n 0, 1) := by decide +kernel
theorem dX12_whose_13 : decode cX12_whose 13 = .ok (.invokevirtual 342, 3) := by decide +kernel
theorem dX12_whose_16 : decode cX12_whose 16 = .ok (.if_icmp .gt 30, 3) := by decide +kernel
theorem dX12_whose_19 : decode cX12_whose 19 = .ok (.aload_n 0, 1) := by decide +kernel
theorem dX12_whose_20 : decode cX12_whose 20 = .ok (.iload_n 3, 1) := by decide +kernel
theorem dX12_whose_21 : decode cX12_whose 21 = .ok (.invokevirtual 415, 3) := by decide +kernel
theorem dX12_whose_24 : decode cX12_whose 24 = .ok (.ifCond .ne 6, 3) := by decide +kernel
theorem dX12_whose_27 : decode cX12_whose 27 = .ok (.goto 13, 3) := by decide +kernel
theorem dX12_whose_30 : decode cX12_whose 30 = .ok (.iload_n 2, 1) := by decide +kernel
theorem dX12_whose_31 : decode cX12_whose 31 = .ok (.iload_n 1, 1) := by decide +kernel
theorem dX12_whose_32 : decode cX12_whose 32 = .ok (.if_icmp .ne 5, 3) := by decide +kernel
theorem dX12_whose_35 : decode cX12_whose 35 = .ok (.iload_n 3, 1) := by decide +kernel
theorem dX12_whose_36 : decode cX12_whose 36 = .ok (.ireturn, 1) := by decide +kernel
theorem dX12_whose_37 : decode cX12_whose 37 = .ok (.iinc 2 1, 3) := by decide +kernel
theorem dX12_whose_40 : decode cX12_whose 40 = .ok (.iinc 3 1, 3) := by decide +kernel
theorem dX12_whose_43 : decode cX12_whose 43 = .ok (.goto (-32), 3) := by decide +kernel
theorem dX12_whose_46 : decode cX12_whose 46 = .ok (.iload_n 1, 1) := by decide +kernel
theorem dX12_whose_47 : decode cX12_whose 47 = .ok (.iconst (-1), 1) := by decide +kernel
theorem dX12_whose_48 : decode cX12_whose 48 = .ok (.if_icmp .ne 7, 3) := by decide +kernel
theorem dX12_whose_51 : decode cX12_whose 51 = .ok (.iload_n 2, 1) := by decide +kernel
theorem dX12_whose_52 : decode cX12_whose 52 = .ok (.goto 4, 3) := by decide +kernel
theorem dX12_whose_55 : decode cX12_whose 55 = .ok (.iconst (-1), 1) := by decide +kernel
theorem dX12_whose_56 : decode cX12_whose 56 = .ok (.ireturn, 1) := by decide +kernel
theorem dX12_shows_0 : decode cX12_shows 0 = .ok (.aload_n 0, 1) := by decide +kernel
theorem dX12_shows_1 : decode cX12_shows 1 = .ok (.invokevirtual 378, 3) := by decide +kernel
theorem dX12_shows_4 : decode cX12_shows 4 = .ok (.iconst 0, 1) := by decide +kernel
theorem dX12_shows_5 : decode cX12_shows 5 = .ok (.istore_n 2, 1) := by decide +kernel
theorem dX12_shows_6 : decode cX12_shows 6 = .ok (.iload_n 2, 1) := by decide +kernel
theorem dX12_shows_7 : decode cX12_shows 7 = .ok (.bipush 40, 2) := by decide +kernel
theorem dX12_shows_9 : decode cX12_shows 9 = .ok (.if_icmp .gt 35, 3) := by decide +kernel
theorem dX12_shows_12 : decode cX12_shows 12 = .ok (.aload_n 0, 1) := by decide +kernel
theorem dX12_shows_13 : decode cX12_shows 13 = .ok (.getfield 80, 3) := by decide +kernel
theorem dX12_shows_16 : decode cX12_shows 16 = .ok (.bipush 11, 2) := by decide +kernel
theorem dX12_shows_18 : decode cX12_shows 18 = .ok (.iload_n 2, 1) := by decide +kernel
theorem dX12_shows_19 : decode cX12_shows 19 = .ok (.imul, 1) := by decide +kernel
theorem dX12_shows_20 : decode cX12_shows 20 = .ok (.aload_n 0, 1) := by decide +kernel
theorem dX12_shows_21 : decode cX12_shows 21 = .ok (.invokevirtual 118, 3) := by decide +kernel
theorem dX12_shows_24 : decode cX12_shows 24 = .ok (.invokestatic 287, 3) := by decide +kernel
theorem dX12_shows_27 : decode cX12_shows 27 = .ok (.iadd, 1) := by decide +kernel
theorem dX12_shows_28 : decode cX12_shows 28 = .ok (.dup2, 1) := by decide +kernel
theorem dX12_shows_29 : decode cX12_shows 29 = .ok (.iaload, 1) := by decide +kernel
theorem dX12_shows_30 : decode cX12_shows 30 = .ok (.iconst 1, 1) := by decide +kernel
theorem dX12_shows_31 : decode cX12_shows 31 = .ok (.iadd, 1) := by decide +kernel
theorem dX12_shows_32 : decode cX12_shows 32 = .ok (.iastore, 1) := by decide +kernel
theorem dX12_shows_33 : decode cX12_shows 33 = .ok (.aload_n 0, 1) := by decide +kernel
theorem dX12_shows_34 : decode cX12_shows 34 = .ok (.iload_n 1, 1) := by decide +kernel
theorem dX12_shows_35 : decode cX12_shows 35 = .ok (.invokevirtual 412, 3) := by decide +kernel
theorem dX12_shows_38 : decode cX12_shows 38 = .ok (.iinc 2 1, 3) := by decide +kernel
theorem dX12_shows_41 : decode cX12_shows 41 = .ok (.goto (-35), 3) := by decide +kernel
theorem dX12_shows_44 : decode cX12_shows 44 = .ok (.aload_n 0, 1) := by decide +kernel
theorem dX12_shows_45 : decode cX12_shows 45 = .ok (.iconst 0, 1) := by decide +kernel
theorem dX12_shows_46 : decode cX12_shows 46 = .ok (.invokevirtual 387, 3) := by decide +kernel
theorem dX12_shows_49 : decode cX12_shows 49 = .ok (.return_, 1) := by decide +kernel
theorem dX12_look_0 : decode cX12_look 0 = .ok (.iload_n 1, 1) := by decide +kernel
theorem dX12_look_1 : decode cX12_look 1 = .ok (.iconst 0, 1) := by decide +kernel
theorem dX12_look_2 : decode cX12_look 2 = .ok (.iconst 1, 1) := by decide +kernel
theorem dX12_look_3 : decode cX12_look 3 = .ok (.invokestatic 96, 3) := by decide +kernel
theorem dX12_look_6 : decode cX12_look 6 = .ok (.ifCond .ne 5, 3) := by decide +kernel
theorem dX12_look_9 : decode cX12_look 9 = .ok (.iconst (-1), 1) := by decide +kernel
theorem dX12_look_10 : decode cX12_look 10 = .ok (.ireturn, 1) := by decide +kernel
theorem dX12_look_11 : decode cX12_look 11 = .ok (.iconst 0, 1) := by decide +kernel
theorem dX12_look_12 : decode cX12_look 12 = .ok (.istore_n 2, 1) := by decide +kernel
theorem dX12_look_13 : decode cX12_look 13 = .ok (.iconst 0, 1) := by decide +kernel
theorem dX12_look_14 : decode cX12_look 14 = .ok (.istore_n 3, 1) := by decide +kernel
theorem dX12_look_15 : decode cX12_look 15 = .ok (.iload_n 3, 1) := by decide +kernel
theorem dX12_look_16 : decode cX12_look 16 = .ok (.sipush 451, 3) := by decide +kernel
theorem dX12_look_19 : decode cX12_look 19 = .ok (.if_icmp .ge 16, 3) := by decide +kernel
theorem dX12_look_22 : decode cX12_look 22 = .ok (.aload_n 0, 1) := by decide +kernel
theorem dX12_look_23 : decode cX12_look 23 = .ok (.getfield 80, 3) := by decide +kernel
theorem dX12_look_26 : decode cX12_look 26 = .ok (.iload_n 3, 1) := by decide +kernel
theorem dX12_look_27 : decode cX12_look 27 = .ok (.iconst 0, 1) := by decide +kernel
theorem dX12_look_28 : decode cX12_look 28 = .ok (.iastore, 1) := by decide +kernel
theorem dX12_look_29 : decode cX12_look 29 = .ok (.iinc 3 1, 3) := by decide +kernel
theorem dX12_look_32 : decode cX12_look 32 = .ok (.goto (-17), 3) := by decide +kernel
theorem dX12_look_35 : decode cX12_look 35 = .ok (.iconst 0, 1) := by decide +kernel
theorem dX12_look_36 : decode cX12_look 36 = .ok (.istore_n 3, 1) := by decide +kernel
theorem dX12_look_37 : decode cX12_look 37 = .ok (.iload_n 3, 1) := by decide +kernel
theorem dX12_look_38 : decode cX12_look 38 = .ok (.aload_n 0, 1) := by decide +kernel
theorem dX12_look_39 : decode cX12_look 39 = .ok (.invokevirtual 342, 3) := by decide +kernel
theorem dX12_look_42 : decode cX12_look 42 = .ok (.if_icmp .gt 28, 3) := by decide +kernel
theorem dX12_look_45 : decode cX12_look 45 = .ok (.aload_n 0, 1) := by decide +kernel
theorem dX12_look_46 : decode cX12_look 46 = .ok (.iload_n 3, 1) := by decide +kernel
theorem dX12_look_47 : decode cX12_look 47 = .ok (.invokevirtual 415, 3) := by decide +kernel
theorem dX12_look_50 : decode cX12_look 50 = .ok (.ifCond .ne 6, 3) := by decide +kernel
theorem dX12_look_53 : decode cX12_look 53 = .ok (.goto 11, 3) := by decide +kernel
theorem dX12_look_56 : decode cX12_look 56 = .ok (.iinc 2 1, 3) := by decide +kernel
theorem dX12_look_59 : decode cX12_look 59 = .ok (.aload_n 0, 1) := by decide +kernel
theorem dX12_look_60 : decode cX12_look 60 = .ok (.iload_n 3, 1) := by decide +kernel
theorem dX12_look_61 : decode cX12_look 61 = .ok (.invokevirtual 418, 3) := by decide +kernel
theorem dX12_look_64 : decode cX12_look 64 = .ok (.iinc 3 1, 3) := by decide +kernel
theorem dX12_look_67 : decode cX12_look 67 = .ok (.goto (-30), 3) := by decide +kernel
theorem dX12_look_70 : decode cX12_look 70 = .ok (.iconst (-1), 1) := by decide +kernel
theorem dX12_look_71 : decode cX12_look 71 = .ok (.istore_n 3, 1) := by decide +kernel
theorem dX12_look_72 : decode cX12_look 72 = .ok (.ldc 157, 2) := by decide +kernel
theorem dX12_look_74 : decode cX12_look 74 = .ok (.istore 4, 2) := by decide +kernel
theorem dX12_look_76 : decode cX12_look 76 = .ok (.iconst 0, 1) := by decide +kernel
theorem dX12_look_77 : decode cX12_look 77 = .ok (.istore 5, 2) := by decide +kernel
theorem dX12_look_79 : decode cX12_look 79 = .ok (.iload 5, 2) := by decide +kernel
theorem dX12_look_81 : decode cX12_look 81 = .ok (.bipush 40, 2) := by decide +kernel
theorem dX12_look_83 : decode cX12_look 83 = .ok (.if_icmp .gt 69, 3) := by decide +kernel
theorem dX12_look_86 : decode cX12_look 86 = .ok (.iload_n 2, 1) := by decide +kernel
theorem dX12_look_87 : decode cX12_look 87 = .ok (.ifCond .le 65, 3) := by decide +kernel
theorem dX12_look_90 : decode cX12_look 90 = .ok (.iconst 0, 1) := by decide +kernel
theorem dX12_look_91 : decode cX12_look 91 = .ok (.istore 6, 2) := by decide +kernel
theorem dX12_look_93 : decode cX12_look 93 = .ok (.iconst 0, 1) := by decide +kernel
theorem dX12_look_94 : decode cX12_look 94 = .ok (.istore 7, 2) := by decide +kernel
theorem dX12_look_96 : decode cX12_look 96 = .ok (.iload 7, 2) := by decide +kernel
theorem dX12_look_98 : decode cX12_look 98 = .ok (.bipush 10, 2) := by decide +kernel
theorem dX12_look_100 : decode cX12_look 100 = .ok (.if_icmp .gt 29, 3) := by decide +kernel
theorem dX12_look_103 : decode cX12_look 103 = .ok (.iload 6, 2) := by decide +kernel
theorem dX12_look_105 : decode cX12_look 105 = .ok (.aload_n 0, 1) := by decide +kernel
theorem dX12_look_106 : decode cX12_look 106 = .ok (.getfield 80, 3) := by decide +kernel
theorem dX12_look_109 : decode cX12_look 109 = .ok (.bipush 11, 2) := by decide +kernel
theorem dX12_look_111 : decode cX12_look 111 = .ok (.iload 5, 2) := by decide +kernel
theorem dX12_look_113 : decode cX12_look 113 = .ok (.imul, 1) := by decide +kernel
theorem dX12_look_114 : decode cX12_look 114 = .ok (.iload 7, 2) := by decide +kernel
theorem dX12_look_116 : decode cX12_look 116 = .ok (.iadd, 1) := by decide +kernel
theorem dX12_look_117 : decode cX12_look 117 = .ok (.iaload, 1) := by decide +kernel
theorem dX12_look_118 : decode cX12_look 118 = .ok (.invokestatic 327, 3) := by decide +kernel
theorem dX12_look_121 : decode cX12_look 121 = .ok (.istore 6, 2) := by decide +kernel
theorem dX12_look_123 : decode cX12_look 123 = .ok (.iinc 7 1, 3) := by decide +kernel
theorem dX12_look_126 : decode cX12_look 126 = .ok (.goto (-30), 3) := by decide +kernel
theorem dX12_look_129 : decode cX12_look 129 = .ok (.iload 6, 2) := by decide +kernel
theorem dX12_look_131 : decode cX12_look 131 = .ok (.iload 4, 2) := by decide +kernel
theorem dX12_look_133 : decode cX12_look 133 = .ok (.if_icmp .lt 6, 3) := by decide +kernel
theorem dX12_look_136 : decode cX12_look 136 = .ok (.goto 10, 3) := by decide +kernel
theorem dX12_look_139 : decode cX12_look 139 = .ok (.iload 6, 2) := by decide +kernel
theorem dX12_look_141 : decode cX12_look 141 = .ok (.istore 4, 2) := by decide +kernel
theorem dX12_look_143 : decode cX12_look 143 = .ok (.iload 5, 2) := by decide +kernel
theorem dX12_look_145 : decode cX12_look 145 = .ok (.istore_n 3, 1) := by decide +kernel
theorem dX12_look_146 : decode cX12_look 146 = .ok (.iinc 5 1, 3) := by decide +kernel
theorem dX12_look_149 : decode cX12_look 149 = .ok (.goto (-70), 3) := by decide +kernel
theorem dX12_look_152 : decode cX12_look 152 = .ok (.iload_n 3, 1) := by decide +kernel
theorem dX12_look_153 : decode cX12_look 153 = .ok (.iconst (-1), 1) := by decide +kernel
theorem dX12_look_154 : decode cX12_look 154 = .ok (.if_icmp .eq 7, 3) := by decide +kernel
theorem dX12_look_157 : decode cX12_look 157 = .ok (.iload_n 1, 1) := by decide +kernel
theorem dX12_look_158 : decode cX12_look 158 = .ok (.ifCond .ne 7, 3) := by decide +kernel
theorem dX12_look_161 : decode cX12_look 161 = .ok (.iload_n 3, 1) := by decide +kernel
theorem dX12_look_162 : decode cX12_look 162 = .ok (.goto 5, 3) := by decide +kernel
theorem dX12_look_165 : decode cX12_look 165 = .ok (.iload 4, 2) := by decide +kernel
theorem dX12_look_167 : decode cX12_look 167 = .ok (.ireturn, 1) := by decide +kernel
theorem dX12_draws_0 : decode cX12_draws 0 = .ok (.aload_n 0, 1) := by decide +kernel
theorem dX12_draws_1 : decode cX12_draws 1 = .ok (.ldc2_w 452, 3) := by decide +kernel
theorem dX12_draws_4 : decode cX12_draws 4 = .ok (.aload_n 0, 1) := by decide +kernel
theorem dX12_draws_5 : decode cX12_draws 5 = .ok (.getfield 454, 3) := by decide +kernel
theorem dX12_draws_8 : decode cX12_draws 8 = .ok (.i2l, 1) := by decide +kernel
theorem dX12_draws_9 : decode cX12_draws 9 = .ok (.lmul, 1) := by decide +kernel
theorem dX12_draws_10 : decode cX12_draws 10 = .ok (.ldc2_w 457, 3) := by decide +kernel
theorem dX12_draws_13 : decode cX12_draws 13 = .ok (.ladd, 1) := by decide +kernel
theorem dX12_draws_14 : decode cX12_draws 14 = .ok (.ldc2_w 459, 3) := by decide +kernel
theorem dX12_draws_17 : decode cX12_draws 17 = .ok (.lrem, 1) := by decide +kernel
theorem dX12_draws_18 : decode cX12_draws 18 = .ok (.l2i, 1) := by decide +kernel
theorem dX12_draws_19 : decode cX12_draws 19 = .ok (.putfield 454, 3) := by decide +kernel
theorem dX12_draws_22 : decode cX12_draws 22 = .ok (.aload_n 0, 1) := by decide +kernel
theorem dX12_draws_23 : decode cX12_draws 23 = .ok (.getfield 454, 3) := by decide +kernel
theorem dX12_draws_26 : decode cX12_draws 26 = .ok (.iload_n 1, 1) := by decide +kernel
theorem dX12_draws_27 : decode cX12_draws 27 = .ok (.irem, 1) := by decide +kernel
theorem dX12_draws_28 : decode cX12_draws 28 = .ok (.ireturn, 1) := by decide +kernel
theorem dX12_nights_0 : decode cX12_nights 0 = .ok (.iload_n 1, 1) := by decide +kernel
theorem dX12_nights_1 : decode cX12_nights 1 = .ok (.iconst 0, 1) := by decide +kernel
theorem dX12_nights_2 : decode cX12_nights 2 = .ok (.ldc 157, 2) := by decide +kernel
theorem dX12_nights_4 : decode cX12_nights 4 = .ok (.invokestatic 96, 3) := by decide +kernel
theorem dX12_nights_7 : decode cX12_nights 7 = .ok (.ifCond .eq 13, 3) := by decide +kernel
theorem dX12_nights_10 : decode cX12_nights 10 = .ok (.iload_n 2, 1) := by decide +kernel
theorem dX12_nights_11 : decode cX12_nights 11 = .ok (.iconst 1, 1) := by decide +kernel
theorem dX12_nights_12 : decode cX12_nights 12 = .ok (.bipush 20, 2) := by decide +kernel
theorem dX12_nights_14 : decode cX12_nights 14 = .ok (.invokestatic 96, 3) := by decide +kernel
theorem dX12_nights_17 : decode cX12_nights 17 = .ok (.ifCond .ne 9, 3) := by decide +kernel
theorem dX12_nights_20 : decode cX12_nights 20 = .ok (.aload_n 0, 1) := by decide +kernel
theorem dX12_nights_21 : decode cX12_nights 21 = .ok (.iconst (-1), 1) := by decide +kernel
theorem dX12_nights_22 : decode cX12_nights 22 = .ok (.invokevirtual 100, 3) := by decide +kernel
theorem dX12_nights_25 : decode cX12_nights 25 = .ok (.ireturn, 1) := by decide +kernel
theorem dX12_nights_26 : decode cX12_nights 26 = .ok (.aload_n 0, 1) := by decide +kernel
theorem dX12_nights_27 : decode cX12_nights 27 = .ok (.iload_n 1, 1) := by decide +kernel
theorem dX12_nights_28 : decode cX12_nights 28 = .ok (.putfield 454, 3) := by decide +kernel
theorem dX12_nights_31 : decode cX12_nights 31 = .ok (.aload_n 0, 1) := by decide +kernel
theorem dX12_nights_32 : decode cX12_nights 32 = .ok (.aload_n 0, 1) := by decide +kernel
theorem dX12_nights_33 : decode cX12_nights 33 = .ok (.getfield 24, 3) := by decide +kernel
theorem dX12_nights_36 : decode cX12_nights 36 = .ok (.bipush 102, 2) := by decide +kernel
theorem dX12_nights_38 : decode cX12_nights 38 = .ok (.iaload, 1) := by decide +kernel
theorem dX12_nights_39 : decode cX12_nights 39 = .ok (.putfield 93, 3) := by decide +kernel
theorem dX12_nights_42 : decode cX12_nights 42 = .ok (.aload_n 0, 1) := by decide +kernel
theorem dX12_nights_43 : decode cX12_nights 43 = .ok (.aload_n 0, 1) := by decide +kernel
theorem dX12_nights_44 : decode cX12_nights 44 = .ok (.getfield 24, 3) := by decide +kernel
theorem dX12_nights_47 : decode cX12_nights 47 = .ok (.bipush 103, 2) := by decide +kernel
theorem dX12_nights_49 : decode cX12_nights 49 = .ok (.iaload, 1) := by decide +kernel
theorem dX12_nights_50 : decode cX12_nights 50 = .ok (.putfield 461, 3) := by decide +kernel
theorem dX12_nights_53 : decode cX12_nights 53 = .ok (.iconst 0, 1) := by decide +kernel
theorem dX12_nights_54 : decode cX12_nights 54 = .ok (.istore_n 3, 1) := by decide +kernel
theorem dX12_nights_55 : decode cX12_nights 55 = .ok (.iconst 0, 1) := by decide +kernel
theorem dX12_nights_56 : decode cX12_nights 56 = .ok (.istore 4, 2) := by decide +kernel
theorem dX12_nights_58 : decode cX12_nights 58 = .ok (.iload 4, 2) := by decide +kernel
theorem dX12_nights_60 : decode cX12_nights 60 = .ok (.iload_n 2, 1) := by decide +kernel
theorem dX12_nights_61 : decode cX12_nights 61 = .ok (.if_icmp .ge 135, 3) := by decide +kernel
theorem dX12_nights_64 : decode cX12_nights 64 = .ok (.aload_n 0, 1) := by decide +kernel
theorem dX12_nights_65 : decode cX12_nights 65 = .ok (.invokevirtual 378, 3) := by decide +kernel
theorem dX12_nights_68 : decode cX12_nights 68 = .ok (.iconst 0, 1) := by decide +kernel
theorem dX12_nights_69 : decode cX12_nights 69 = .ok (.istore 5, 2) := by decide +kernel
theorem dX12_nights_71 : decode cX12_nights 71 = .ok (.iload 5, 2) := by decide +kernel
theorem dX12_nights_73 : decode cX12_nights 73 = .ok (.aload_n 0, 1) := by decide +kernel
theorem dX12_nights_74 : decode cX12_nights 74 = .ok (.getfield 24, 3) := by decide +kernel
theorem dX12_nights_77 : decode cX12_nights 77 = .ok (.bipush 99, 2) := by decide +kernel
theorem dX12_nights_79 : decode cX12_nights 79 = .ok (.iaload, 1) := by decide +kernel
theorem dX12_nights_80 : decode cX12_nights 80 = .ok (.if_icmp .ge 56, 3) := by decide +kernel
theorem dX12_nights_83 : decode cX12_nights 83 = .ok (.aload_n 0, 1) := by decide +kernel
theorem dX12_nights_84 : decode cX12_nights 84 = .ok (.aload_n 0, 1) := by decide +kernel
theorem dX12_nights_85 : decode cX12_nights 85 = .ok (.invokevirtual 342, 3) := by decide +kernel
theorem dX12_nights_88 : decode cX12_nights 88 = .ok (.invokevirtual 384, 3) := by decide +kernel
theorem dX12_nights_91 : decode cX12_nights 91 = .ok (.aload_n 0, 1) := by decide +kernel
theorem dX12_nights_92 : decode cX12_nights 92 = .ok (.bipush 10, 2) := by decide +kernel
theorem dX12_nights_94 : decode cX12_nights 94 = .ok (.invokevirtual 464, 3) := by decide +kernel
theorem dX12_nights_97 : decode cX12_nights 97 = .ok (.aload_n 0, 1) := by decide +kernel
theorem dX12_nights_98 : decode cX12_nights 98 = .ok (.getfield 24, 3) := by decide +kernel
theorem dX12_nights_101 : decode cX12_nights 101 = .ok (.bipush 100, 2) := by decide +kernel
theorem dX12_nights_103 : decode cX12_nights 103 = .ok (.iaload, 1) := by decide +kernel
theorem dX12_nights_104 : decode cX12_nights 104 = .ok (.if_icmp .ge 17, 3) := by decide +kernel
theorem dX12_nights_107 : decode cX12_nights 107 = .ok (.aload_n 0, 1) := by decide +kernel
theorem dX12_nights_108 : decode cX12_nights 108 = .ok (.getfield 24, 3) := by decide +kernel
theorem dX12_nights_111 : decode cX12_nights 111 = .ok (.bipush 22, 2) := by decide +kernel
theorem dX12_nights_113 : decode cX12_nights 113 = .ok (.dup2, 1) := by decide +kernel
theorem dX12_nights_114 : decode cX12_nights 114 = .ok (.iaload, 1) := by decide +kernel
theorem dX12_nights_115 : decode cX12_nights 115 = .ok (.iconst 1, 1) := by decide +kernel
theorem dX12_nights_116 : decode cX12_nights 116 = .ok (.iadd, 1) := by decide +kernel
theorem dX12_nights_117 : decode cX12_nights 117 = .ok (.iastore, 1) := by decide +kernel
theorem dX12_nights_118 : decode cX12_nights 118 = .ok (.goto 12, 3) := by decide +kernel
theorem dX12_nights_121 : decode cX12_nights 121 = .ok (.aload_n 0, 1) := by decide +kernel
theorem dX12_nights_122 : decode cX12_nights 122 = .ok (.aload_n 0, 1) := by decide +kernel
theorem dX12_nights_123 : decode cX12_nights 123 = .ok (.invokevirtual 342, 3) := by decide +kernel
theorem dX12_nights_126 : decode cX12_nights 126 = .ok (.invokevirtual 345, 3) := by decide +kernel
theorem dX12_nights_129 : decode cX12_nights 129 = .ok (.pop, 1) := by decide +kernel
theorem dX12_nights_130 : decode cX12_nights 130 = .ok (.iinc 5 1, 3) := by decide +kernel
theorem dX12_nights_133 : decode cX12_nights 133 = .ok (.goto (-62), 3) := by decide +kernel
theorem dX12_nights_136 : decode cX12_nights 136 = .ok (.iload_n 3, 1) := by decide +kernel
theorem dX12_nights_137 : decode cX12_nights 137 = .ok (.aload_n 0, 1) := by decide +kernel
theorem dX12_nights_138 : decode cX12_nights 138 = .ok (.aload_n 0, 1) := by decide +kernel
theorem dX12_nights_139 : decode cX12_nights 139 = .ok (.invokevirtual 363, 3) := by decide +kernel
theorem dX12_nights_142 : decode cX12_nights 142 = .ok (.invokevirtual 381, 3) := by decide +kernel
theorem dX12_nights_145 : decode cX12_nights 145 = .ok (.ifCond .eq 7, 3) := by decide +kernel
theorem dX12_nights_148 : decode cX12_nights 148 = .ok (.iconst 1, 1) := by decide +kernel
theorem dX12_nights_149 : decode cX12_nights 149 = .ok (.goto 4, 3) := by decide +kernel
theorem dX12_nights_152 : decode cX12_nights 152 = .ok (.iconst 0, 1) := by decide +kernel
theorem dX12_nights_153 : decode cX12_nights 153 = .ok (.iadd, 1) := by decide +kernel
theorem dX12_nights_154 : decode cX12_nights 154 = .ok (.istore_n 3, 1) := by decide +kernel
theorem dX12_nights_155 : decode cX12_nights 155 = .ok (.iconst 0, 1) := by decide +kernel
theorem dX12_nights_156 : decode cX12_nights 156 = .ok (.istore 5, 2) := by decide +kernel
theorem dX12_nights_158 : decode cX12_nights 158 = .ok (.iload 5, 2) := by decide +kernel
theorem dX12_nights_160 : decode cX12_nights 160 = .ok (.bipush 23, 2) := by decide +kernel
theorem dX12_nights_162 : decode cX12_nights 162 = .ok (.if_icmp .ge 23, 3) := by decide +kernel
theorem dX12_nights_165 : decode cX12_nights 165 = .ok (.aload_n 0, 1) := by decide +kernel
theorem dX12_nights_166 : decode cX12_nights 166 = .ok (.getfield 90, 3) := by decide +kernel
theorem dX12_nights_169 : decode cX12_nights 169 = .ok (.iload 5, 2) := by decide +kernel
theorem dX12_nights_171 : decode cX12_nights 171 = .ok (.aload_n 0, 1) := by decide +kernel
theorem dX12_nights_172 : decode cX12_nights 172 = .ok (.getfield 24, 3) := by decide +kernel
theorem dX12_nights_175 : decode cX12_nights 175 = .ok (.iload 5, 2) := by decide +kernel
theorem dX12_nights_177 : decode cX12_nights 177 = .ok (.iaload, 1) := by decide +kernel
theorem dX12_nights_178 : decode cX12_nights 178 = .ok (.iastore, 1) := by decide +kernel
theorem dX12_nights_179 : decode cX12_nights 179 = .ok (.iinc 5 1, 3) := by decide +kernel
theorem dX12_nights_182 : decode cX12_nights 182 = .ok (.goto (-24), 3) := by decide +kernel
theorem dX12_nights_185 : decode cX12_nights 185 = .ok (.aload_n 0, 1) := by decide +kernel
theorem dX12_nights_186 : decode cX12_nights 186 = .ok (.iconst 0, 1) := by decide +kernel
theorem dX12_nights_187 : decode cX12_nights 187 = .ok (.invokevirtual 387, 3) := by decide +kernel
theorem dX12_nights_190 : decode cX12_nights 190 = .ok (.iinc 4 1, 3) := by decide +kernel
theorem dX12_nights_193 : decode cX12_nights 193 = .ok (.goto (-135), 3) := by decide +kernel
theorem dX12_nights_196 : decode cX12_nights 196 = .ok (.aload_n 0, 1) := by decide +kernel
theorem dX12_nights_197 : decode cX12_nights 197 = .ok (.iload_n 3, 1) := by decide +kernel
theorem dX12_nights_198 : decode cX12_nights 198 = .ok (.invokevirtual 14, 3) := by decide +kernel
theorem dX12_nights_201 : decode cX12_nights 201 = .ok (.ireturn, 1) := by decide +kernel
theorem dX12_drawn_0 : decode cX12_drawn 0 = .ok (.aload_n 0, 1) := by decide +kernel
theorem dX12_drawn_1 : decode cX12_drawn 1 = .ok (.getfield 93, 3) := by decide +kernel
theorem dX12_drawn_4 : decode cX12_drawn 4 = .ok (.iconst (-1), 1) := by decide +kernel
theorem dX12_drawn_5 : decode cX12_drawn 5 = .ok (.if_icmp .eq 37, 3) := by decide +kernel
theorem dX12_drawn_8 : decode cX12_drawn 8 = .ok (.iload_n 2, 1) := by decide +kernel
theorem dX12_drawn_9 : decode cX12_drawn 9 = .ok (.iconst 0, 1) := by decide +kernel
theorem dX12_drawn_10 : decode cX12_drawn 10 = .ok (.iconst 1, 1) := by decide +kernel
theorem dX12_drawn_11 : decode cX12_drawn 11 = .ok (.invokestatic 96, 3) := by decide +kernel
theorem dX12_drawn_14 : decode cX12_drawn 14 = .ok (.ifCond .eq 28, 3) := by decide +kernel
theorem dX12_drawn_17 : decode cX12_drawn 17 = .ok (.iload_n 1, 1) := by decide +kernel
theorem dX12_drawn_18 : decode cX12_drawn 18 = .ok (.iconst 0, 1) := by decide +kernel
theorem dX12_drawn_19 : decode cX12_drawn 19 = .ok (.iload_n 2, 1) := by decide +kernel
theorem dX12_drawn_20 : decode cX12_drawn 20 = .ok (.ifCond .ne 10, 3) := by decide +kernel
theorem dX12_drawn_23 : decode cX12_drawn 23 = .ok (.aload_n 0, 1) := by decide +kernel
theorem dX12_drawn_24 : decode cX12_drawn 24 = .ok (.getfield 93, 3) := by decide +kernel
theorem dX12_drawn_27 : decode cX12_drawn 27 = .ok (.goto 7, 3) := by decide +kernel
theorem dX12_drawn_30 : decode cX12_drawn 30 = .ok (.aload_n 0, 1) := by decide +kernel
theorem dX12_drawn_31 : decode cX12_drawn 31 = .ok (.getfield 461, 3) := by decide +kernel
theorem dX12_drawn_34 : decode cX12_drawn 34 = .ok (.iconst 1, 1) := by decide +kernel
theorem dX12_drawn_35 : decode cX12_drawn 35 = .ok (.isub, 1) := by decide +kernel
theorem dX12_drawn_36 : decode cX12_drawn 36 = .ok (.invokestatic 96, 3) := by decide +kernel
theorem dX12_drawn_39 : decode cX12_drawn 39 = .ok (.ifCond .ne 5, 3) := by decide +kernel
theorem dX12_drawn_42 : decode cX12_drawn 42 = .ok (.iconst (-1), 1) := by decide +kernel
theorem dX12_drawn_43 : decode cX12_drawn 43 = .ok (.ireturn, 1) := by decide +kernel
theorem dX12_drawn_44 : decode cX12_drawn 44 = .ok (.aload_n 0, 1) := by decide +kernel
theorem dX12_drawn_45 : decode cX12_drawn 45 = .ok (.getfield 90, 3) := by decide +kernel
theorem dX12_drawn_48 : decode cX12_drawn 48 = .ok (.iload_n 2, 1) := by decide +kernel
theorem dX12_drawn_49 : decode cX12_drawn 49 = .ok (.ifCond .ne 7, 3) := by decide +kernel
theorem dX12_drawn_52 : decode cX12_drawn 52 = .ok (.iconst 0, 1) := by decide +kernel
theorem dX12_drawn_53 : decode cX12_drawn 53 = .ok (.goto 5, 3) := by decide +kernel
theorem dX12_drawn_56 : decode cX12_drawn 56 = .ok (.bipush 10, 2) := by decide +kernel
theorem dX12_drawn_58 : decode cX12_drawn 58 = .ok (.iload_n 1, 1) := by decide +kernel
theorem dX12_drawn_59 : decode cX12_drawn 59 = .ok (.iadd, 1) := by decide +kernel
theorem dX12_drawn_60 : decode cX12_drawn 60 = .ok (.iaload, 1) := by decide +kernel
theorem dX12_drawn_61 : decode cX12_drawn 61 = .ok (.ireturn, 1) := by decide +kernel
theorem dX12_count_0 : decode cX12_count 0 = .ok (.iload_n 1, 1) := by decide +kernel
theorem dX12_count_1 : decode cX12_count 1 = .ok (.tableswitch 187 0 16 #[83, 91, 99, 107, 115, 123, 128, 133, 133, 133, 143, 150, 158, 166, 174, 174, 174], 83) := by decide +kernel
theorem dX12_count_84 : decode cX12_count 84 = .ok (.aload_n 0, 1) := by decide +kernel
theorem dX12_count_85 : decode cX12_count 85 = .ok (.getfield 24, 3) := by decide +kernel
theorem dX12_count_88 : decode cX12_count 88 = .ok (.bipush 102, 2) := by decide +kernel
theorem dX12_count_90 : decode cX12_count 90 = .ok (.iaload, 1) := by decide +kernel
theorem dX12_count_91 : decode cX12_count 91 = .ok (.ireturn, 1) := by decide +kernel
theorem dX12_count_92 : decode cX12_count 92 = .ok (.aload_n 0, 1) := by decide +kernel
theorem dX12_count_93 : decode cX12_count 93 = .ok (.invokevirtual 118, 3) := by decide +kernel
theorem dX12_count_96 : decode cX12_count 96 = .ok (.invokestatic 287, 3) := by decide +kernel
theorem dX12_count_99 : decode cX12_count 99 = .ok (.ireturn, 1) := by decide +kernel
theorem dX12_count_100 : decode cX12_count 100 = .ok (.aload_n 0, 1) := by decide +kernel
theorem dX12_count_101 : decode cX12_count 101 = .ok (.getfield 24, 3) := by decide +kernel
theorem dX12_count_104 : decode cX12_count 104 = .ok (.bipush 103, 2) := by decide +kernel
theorem dX12_count_106 : decode cX12_count 106 = .ok (.iaload, 1) := by decide +kernel
theorem dX12_count_107 : decode cX12_count 107 = .ok (.ireturn, 1) := by decide +kernel
theorem dX12_count_108 : decode cX12_count 108 = .ok (.aload_n 0, 1) := by decide +kernel
theorem dX12_count_109 : decode cX12_count 109 = .ok (.getfield 24, 3) := by decide +kernel
theorem dX12_count_112 : decode cX12_count 112 = .ok (.bipush 104, 2) := by decide +kernel
theorem dX12_count_114 : decode cX12_count 114 = .ok (.iaload, 1) := by decide +kernel
theorem dX12_count_115 : decode cX12_count 115 = .ok (.ireturn, 1) := by decide +kernel
theorem dX12_count_116 : decode cX12_count 116 = .ok (.aload_n 0, 1) := by decide +kernel
theorem dX12_count_117 : decode cX12_count 117 = .ok (.getfield 24, 3) := by decide +kernel
theorem dX12_count_120 : decode cX12_count 120 = .ok (.bipush 105, 2) := by decide +kernel
theorem dX12_count_122 : decode cX12_count 122 = .ok (.iaload, 1) := by decide +kernel
theorem dX12_count_123 : decode cX12_count 123 = .ok (.ireturn, 1) := by decide +kernel
theorem dX12_count_124 : decode cX12_count 124 = .ok (.aload_n 0, 1) := by decide +kernel
theorem dX12_count_125 : decode cX12_count 125 = .ok (.getfield 11, 3) := by decide +kernel
theorem dX12_count_128 : decode cX12_count 128 = .ok (.ireturn, 1) := by decide +kernel
theorem dX12_count_129 : decode cX12_count 129 = .ok (.aload_n 0, 1) := by decide +kernel
theorem dX12_count_130 : decode cX12_count 130 = .ok (.getfield 138, 3) := by decide +kernel
theorem dX12_count_133 : decode cX12_count 133 = .ok (.ireturn, 1) := by decide +kernel
theorem dX12_count_134 : decode cX12_count 134 = .ok (.aload_n 0, 1) := by decide +kernel
theorem dX12_count_135 : decode cX12_count 135 = .ok (.getfield 7, 3) := by decide +kernel
theorem dX12_count_138 : decode cX12_count 138 = .ok (.iload_n 1, 1) := by decide +kernel
theorem dX12_count_139 : decode cX12_count 139 = .ok (.bipush 6, 2) := by decide +kernel
theorem dX12_count_141 : decode cX12_count 141 = .ok (.isub, 1) := by decide +kernel
theorem dX12_count_142 : decode cX12_count 142 = .ok (.iaload, 1) := by decide +kernel
theorem dX12_count_143 : decode cX12_count 143 = .ok (.ireturn, 1) := by decide +kernel
theorem dX12_count_144 : decode cX12_count 144 = .ok (.aload_n 0, 1) := by decide +kernel
theorem dX12_count_145 : decode cX12_count 145 = .ok (.getfield 7, 3) := by decide +kernel
theorem dX12_count_148 : decode cX12_count 148 = .ok (.iconst 5, 1) := by decide +kernel
theorem dX12_count_149 : decode cX12_count 149 = .ok (.iaload, 1) := by decide +kernel
theorem dX12_count_150 : decode cX12_count 150 = .ok (.ireturn, 1) := by decide +kernel
theorem dX12_count_151 : decode cX12_count 151 = .ok (.aload_n 0, 1) := by decide +kernel
theorem dX12_count_152 : decode cX12_count 152 = .ok (.getfield 7, 3) := by decide +kernel
theorem dX12_count_155 : decode cX12_count 155 = .ok (.bipush 6, 2) := by decide +kernel
theorem dX12_count_157 : decode cX12_count 157 = .ok (.iaload, 1) := by decide +kernel
theorem dX12_count_158 : decode cX12_count 158 = .ok (.ireturn, 1) := by decide +kernel
theorem dX12_count_159 : decode cX12_count 159 = .ok (.aload_n 0, 1) := by decide +kernel
theorem dX12_count_160 : decode cX12_count 160 = .ok (.getfield 24, 3) := by decide +kernel
theorem dX12_count_163 : decode cX12_count 163 = .ok (.bipush 106, 2) := by decide +kernel
theorem dX12_count_165 : decode cX12_count 165 = .ok (.iaload, 1) := by decide +kernel
theorem dX12_count_166 : decode cX12_count 166 = .ok (.ireturn, 1) := by decide +kernel
theorem dX12_count_167 : decode cX12_count 167 = .ok (.aload_n 0, 1) := by decide +kernel
theorem dX12_count_168 : decode cX12_count 168 = .ok (.getfield 24, 3) := by decide +kernel
theorem dX12_count_171 : decode cX12_count 171 = .ok (.bipush 22, 2) := by decide +kernel
theorem dX12_count_173 : decode cX12_count 173 = .ok (.iaload, 1) := by decide +kernel
theorem dX12_count_174 : decode cX12_count 174 = .ok (.ireturn, 1) := by decide +kernel
theorem dX12_count_175 : decode cX12_count 175 = .ok (.aload_n 0, 1) := by decide +kernel
theorem dX12_count_176 : decode cX12_count 176 = .ok (.getfield 24, 3) := by decide +kernel
theorem dX12_count_179 : decode cX12_count 179 = .ok (.bipush 99, 2) := by decide +kernel
theorem dX12_count_181 : decode cX12_count 181 = .ok (.iload_n 1, 1) := by decide +kernel
theorem dX12_count_182 : decode cX12_count 182 = .ok (.iadd, 1) := by decide +kernel
theorem dX12_count_183 : decode cX12_count 183 = .ok (.bipush 14, 2) := by decide +kernel
theorem dX12_count_185 : decode cX12_count 185 = .ok (.isub, 1) := by decide +kernel
theorem dX12_count_186 : decode cX12_count 186 = .ok (.iaload, 1) := by decide +kernel
theorem dX12_count_187 : decode cX12_count 187 = .ok (.ireturn, 1) := by decide +kernel
theorem dX12_count_188 : decode cX12_count 188 = .ok (.iconst (-1), 1) := by decide +kernel
theorem dX12_count_189 : decode cX12_count 189 = .ok (.ireturn, 1) := by decide +kernel
theorem wt7_39 : Cond.methodLink RX12 311 yX12_tells ∈ kG := kt7 39 rfl rfl
theorem wt7_41 : Cond.instanceMethod yX12_tells ∈ kG := kt7 41 rfl rfl
theorem wp5_6 : Cond.selects RX12 yX12_tells yX12_tells ∈ kG := kp5 6 rfl rfl
theorem wt7_42 : Cond.code yX12_tells cX12_tells 13 (some .int) ∈ kG := kt7 42 rfl rfl
theorem wt7_31 : Cond.methodLink RX12 315 yX12_worksBy ∈ kG := kt7 31 rfl rfl
theorem wt7_33 : Cond.instanceMethod yX12_worksBy ∈ kG := kt7 33 rfl rfl
theorem wp5_4 : Cond.selects RX12 yX12_worksBy yX12_worksBy ∈ kG := kp5 4 rfl rfl
theorem wt7_34 : Cond.code yX12_worksBy cX12_worksBy 3 (some .int) ∈ kG := kt7 34 rfl rfl
theorem wt7_96 : Cond.methodLink RX12 318 yX12_tiresBy ∈ kG := kt7 96 rfl rfl
theorem wt7_98 : Cond.instanceMethod yX12_tiresBy ∈ kG := kt7 98 rfl rfl
theorem wp6_3 : Cond.selects RX12 yX12_tiresBy yX12_tiresBy ∈ kG := kp6 3 rfl rfl
theorem wt7_99 : Cond.code yX12_tiresBy cX12_tiresBy 3 (some .int) ∈ kG := kt7 99 rfl rfl
theorem wt7_100 : Cond.methodLink RX12 321 yX12_showsIn ∈ kG := kt7 100 rfl rfl
theorem wt7_102 : Cond.instanceMethod yX12_showsIn ∈ kG := kt7 102 rfl rfl
theorem wp6_4 : Cond.selects RX12 yX12_showsIn yX12_showsIn ∈ kG := kp6 4 rfl rfl
theorem wt7_103 : Cond.code yX12_showsIn cX12_showsIn 3 (some .int) ∈ kG := kt7 103 rfl rfl
theorem wt7_104 : Cond.methodLink RX12 324 yX12_isBarred ∈ kG := kt7 104 rfl rfl
theorem wt7_106 : Cond.instanceMethod yX12_isBarred ∈ kG := kt7 106 rfl rfl
theorem wp6_5 : Cond.selects RX12 yX12_isBarred yX12_isBarred ∈ kG := kp6 5 rfl rfl
theorem wt7_107 : Cond.code yX12_isBarred cX12_isBarred 3 (some .boolean) ∈ kG := kt7 107 rfl rfl
theorem wt7_207 : Cond.methodLink RX12 372 yX12_laysAside ∈ kG := kt7 207 rfl rfl
theorem wt7_209 : Cond.instanceMethod yX12_laysAside ∈ kG := kt7 209 rfl rfl
theorem wp7_5 : Cond.selects RX12 yX12_laysAside yX12_laysAside ∈ kG := kp7 5 rfl rfl
theorem wt7_210 : Cond.code yX12_laysAside cX12_laysAside 3 none ∈ kG := kt7 210 rfl rfl
theorem wt7_172 : Cond.methodLink RX12 330 yX12_lesser ∈ kG := kt7 172 rfl rfl
theorem wt7_173 : Cond.static yX12_lesser ∈ kG := kt7 173 rfl rfl
theorem wt7_174 : Cond.code yX12_lesser cX12_lesser 2 (some .int) ∈ kG := kt7 174 rfl rfl
theorem wt7_124 : Cond.methodLink RX12 333 yX12_keeps ∈ kG := kt7 124 rfl rfl
theorem wt7_126 : Cond.instanceMethod yX12_keeps ∈ kG := kt7 126 rfl rfl
theorem wp6_7 : Cond.selects RX12 yX12_keeps yX12_keeps ∈ kG := kp6 7 rfl rfl
theorem wt7_127 : Cond.code yX12_keeps cX12_keeps 4 none ∈ kG := kt7 127 rfl rfl
theorem wt7_148 : Cond.methodLink RX12 339 yX12_canThrow ∈ kG := kt7 148 rfl rfl
theorem wt7_150 : Cond.instanceMethod yX12_canThrow ∈ kG := kt7 150 rfl rfl
theorem wp6_11 : Cond.selects RX12 yX12_canThrow yX12_canThrow ∈ kG := kp6 11 rfl rfl
theorem wt7_151 : Cond.code yX12_canThrow cX12_canThrow 4 (some .boolean) ∈ kG := kt7 151 rfl rfl
theorem wt7_164 : Cond.methodLink RX12 342 yX12_allBuilders ∈ kG := kt7 164 rfl rfl
theorem wt7_166 : Cond.instanceMethod yX12_allBuilders ∈ kG := kt7 166 rfl rfl
theorem wp6_14 : Cond.selects RX12 yX12_allBuilders yX12_allBuilders ∈ kG := kp6 14 rfl rfl
theorem wt7_167 : Cond.code yX12_allBuilders cX12_allBuilders 1 (some .int) ∈ kG := kt7 167 rfl rfl
theorem wt7_168 : Cond.methodLink RX12 345 yX12_ticks ∈ kG := kt7 168 rfl rfl
theorem wt7_170 : Cond.instanceMethod yX12_ticks ∈ kG := kt7 170 rfl rfl
theorem wp6_15 : Cond.selects RX12 yX12_ticks yX12_ticks ∈ kG := kp6 15 rfl rfl
theorem wt7_171 : Cond.code yX12_ticks cX12_ticks 5 (some .int) ∈ kG := kt7 171 rfl rfl
theorem wt7_120 : Cond.methodLink RX12 348 yX12_sendsKept ∈ kG := kt7 120 rfl rfl
theorem wt7_122 : Cond.instanceMethod yX12_sendsKept ∈ kG := kt7 122 rfl rfl
theorem wp6_6 : Cond.selects RX12 yX12_sendsKept yX12_sendsKept ∈ kG := kp6 6 rfl rfl
theorem wt7_123 : Cond.code yX12_sendsKept cX12_sendsKept 3 (some .int) ∈ kG := kt7 123 rfl rfl
theorem wt7_128 : Cond.methodLink RX12 351 yX12_goodOr ∈ kG := kt7 128 rfl rfl
theorem wt7_130 : Cond.instanceMethod yX12_goodOr ∈ kG := kt7 130 rfl rfl
theorem wp6_8 : Cond.selects RX12 yX12_goodOr yX12_goodOr ∈ kG := kp6 8 rfl rfl
theorem wt7_131 : Cond.code yX12_goodOr cX12_goodOr 2 (some .int) ∈ kG := kt7 131 rfl rfl
theorem wt7_136 : Cond.methodLink RX12 354 yX12_restsKept ∈ kG := kt7 136 rfl rfl
theorem wt7_138 : Cond.instanceMethod yX12_restsKept ∈ kG := kt7 138 rfl rfl
theorem wp6_9 : Cond.selects RX12 yX12_restsKept yX12_restsKept ∈ kG := kp6 9 rfl rfl
theorem wt7_139 : Cond.code yX12_restsKept cX12_restsKept 3 (some .int) ∈ kG := kt7 139 rfl rfl
theorem wt7_144 : Cond.methodLink RX12 357 yX12_throwsKept ∈ kG := kt7 144 rfl rfl
theorem wt7_146 : Cond.instanceMethod yX12_throwsKept ∈ kG := kt7 146 rfl rfl
theorem wp6_10 : Cond.selects RX12 yX12_throwsKept yX12_throwsKept ∈ kG := kp6 10 rfl rfl
theorem wt7_147 : Cond.code yX12_throwsKept cX12_throwsKept 2 (some .int) ∈ kG := kt7 147 rfl rfl
theorem wt7_160 : Cond.methodLink RX12 360 yX12_ticksKept ∈ kG := kt7 160 rfl rfl
theorem wt7_162 : Cond.instanceMethod yX12_ticksKept ∈ kG := kt7 162 rfl rfl
theorem wp6_13 : Cond.selects RX12 yX12_ticksKept yX12_ticksKept ∈ kG := kp6 13 rfl rfl
theorem wt7_163 : Cond.code yX12_ticksKept cX12_ticksKept 1 (some .int) ∈ kG := kt7 163 rfl rfl
theorem wt7_187 : Cond.methodLink RX12 363 yX12_allParts ∈ kG := kt7 187 rfl rfl
theorem wt7_189 : Cond.instanceMethod yX12_allParts ∈ kG := kt7 189 rfl rfl
theorem wp7_1 : Cond.selects RX12 yX12_allParts yX12_allParts ∈ kG := kp7 1 rfl rfl
theorem wt7_190 : Cond.code yX12_allParts cX12_allParts 1 (some .int) ∈ kG := kt7 190 rfl rfl
theorem wt7_191 : Cond.methodLink RX12 366 yX12_canFollow ∈ kG := kt7 191 rfl rfl
theorem wt7_193 : Cond.instanceMethod yX12_canFollow ∈ kG := kt7 193 rfl rfl
theorem wp7_2 : Cond.selects RX12 yX12_canFollow yX12_canFollow ∈ kG := kp7 2 rfl rfl
theorem wt7_194 : Cond.code yX12_canFollow cX12_canFollow 3 (some .boolean) ∈ kG := kt7 194 rfl rfl
theorem wt7_219 : Cond.methodLink RX12 375 yX12_bestPart ∈ kG := kt7 219 rfl rfl
theorem wt7_221 : Cond.instanceMethod yX12_bestPart ∈ kG := kt7 221 rfl rfl
theorem wp7_8 : Cond.selects RX12 yX12_bestPart yX12_bestPart ∈ kG := kp7 8 rfl rfl
theorem wt7_222 : Cond.code yX12_bestPart cX12_bestPart 4 (some .int) ∈ kG := kt7 222 rfl rfl
theorem wt7_203 : Cond.methodLink RX12 378 yX12_begins ∈ kG := kt7 203 rfl rfl
theorem wt7_205 : Cond.instanceMethod yX12_begins ∈ kG := kt7 205 rfl rfl
theorem wp7_4 : Cond.selects RX12 yX12_begins yX12_begins ∈ kG := kp7 4 rfl rfl
theorem wt7_206 : Cond.code yX12_begins cX12_begins 2 none ∈ kG := kt7 206 rfl rfl
theorem wt7_211 : Cond.methodLink RX12 381 yX12_areStanding ∈ kG := kt7 211 rfl rfl
theorem wt7_213 : Cond.instanceMethod yX12_areStanding ∈ kG := kt7 213 rfl rfl
theorem wp7_6 : Cond.selects RX12 yX12_areStanding yX12_areStanding ∈ kG := kp7 6 rfl rfl
theorem wt7_214 : Cond.code yX12_areStanding cX12_areStanding 2 (some .boolean) ∈ kG := kt7 214 rfl rfl
theorem wt7_215 : Cond.methodLink RX12 384 yX12_sendsAll ∈ kG := kt7 215 rfl rfl
theorem wt7_217 : Cond.instanceMethod yX12_sendsAll ∈ kG := kt7 217 rfl rfl
theorem wp7_7 : Cond.selects RX12 yX12_sendsAll yX12_sendsAll ∈ kG := kp7 7 rfl rfl
theorem wt7_218 : Cond.code yX12_sendsAll cX12_sendsAll 3 none ∈ kG := kt7 218 rfl rfl
theorem wt7_223 : Cond.methodLink RX12 387 yX12_takesBack ∈ kG := kt7 223 rfl rfl
theorem wt7_225 : Cond.instanceMethod yX12_takesBack ∈ kG := kt7 225 rfl rfl
theorem wp7_9 : Cond.selects RX12 yX12_takesBack yX12_takesBack ∈ kG := kp7 9 rfl rfl
theorem wt7_226 : Cond.code yX12_takesBack cX12_takesBack 3 none ∈ kG := kt7 226 rfl rfl
theorem wt7_199 : Cond.methodLink RX12 390 yX12_planned ∈ kG := kt7 199 rfl rfl
theorem wt7_201 : Cond.instanceMethod yX12_planned ∈ kG := kt7 201 rfl rfl
theorem wp7_3 : Cond.selects RX12 yX12_planned yX12_planned ∈ kG := kp7 3 rfl rfl
theorem wt7_202 : Cond.code yX12_planned cX12_planned 6 (some .int) ∈ kG := kt7 202 rfl rfl
theorem wt6_191 : Cond.constant RX12 157 (1000000) ∈ kG := kt6 191 rfl rfl
theorem wt7_235 : Cond.methodLink RX12 394 yX12_plan ∈ kG := kt7 235 rfl rfl
theorem wt7_196 : Cond.instanceMethod yX12_plan ∈ kG := kt7 196 rfl rfl
theorem wt7_197 : Cond.selects RX12 yX12_plan yX12_plan ∈ kG := kt7 197 rfl rfl
theorem wt7_198 : Cond.code yX12_plan cX12_plan 2 (some .int) ∈ kG := kt7 198 rfl rfl
theorem wt7_236 : Cond.methodLink RX12 397 yX12_taughtIn ∈ kG := kt7 236 rfl rfl
theorem wt7_238 : Cond.instanceMethod yX12_taughtIn ∈ kG := kt7 238 rfl rfl
theorem wp7_10 : Cond.selects RX12 yX12_taughtIn yX12_taughtIn ∈ kG := kp7 10 rfl rfl
theorem wt7_239 : Cond.code yX12_taughtIn cX12_taughtIn 5 (some .int) ∈ kG := kt7 239 rfl rfl
theorem wt8_5 : Cond.constantLong RX12 402 (1000000000000) ∈ kG := kt8 5 rfl rfl
theorem wt8_6 : Cond.constantLong RX12 404 (10) ∈ kG := kt8 6 rfl rfl
theorem wt8_4 : Cond.constantLong RX12 400 (-1) ∈ kG := kt8 4 rfl rfl
theorem wt8_23 : Cond.methodLink RX12 406 yX12_lastSight ∈ kG := kt8 23 rfl rfl
theorem wt8_25 : Cond.instanceMethod yX12_lastSight ∈ kG := kt8 25 rfl rfl
theorem wp7_12 : Cond.selects RX12 yX12_lastSight yX12_lastSight ∈ kG := kp7 12 rfl rfl
theorem wt8_26 : Cond.code yX12_lastSight cX12_lastSight 3 (some .int) ∈ kG := kt8 26 rfl rfl
theorem wt8_27 : Cond.methodLink RX12 409 yX12_areSo ∈ kG := kt8 27 rfl rfl
theorem wt8_29 : Cond.instanceMethod yX12_areSo ∈ kG := kt8 29 rfl rfl
theorem wp7_13 : Cond.selects RX12 yX12_areSo yX12_areSo ∈ kG := kp7 13 rfl rfl
theorem wt8_30 : Cond.code yX12_areSo cX12_areSo 4 (some .boolean) ∈ kG := kt8 30 rfl rfl
theorem wt8_31 : Cond.methodLink RX12 412 yX12_goesOn ∈ kG := kt8 31 rfl rfl
theorem wt8_33 : Cond.instanceMethod yX12_goesOn ∈ kG := kt8 33 rfl rfl
theorem wp7_14 : Cond.selects RX12 yX12_goesOn yX12_goesOn ∈ kG := kp7 14 rfl rfl
theorem wt8_34 : Cond.code yX12_goesOn cX12_goesOn 2 none ∈ kG := kt8 34 rfl rfl
theorem wt8_19 : Cond.methodLink RX12 415 yX12_canBeWhose ∈ kG := kt8 19 rfl rfl
theorem wt8_21 : Cond.instanceMethod yX12_canBeWhose ∈ kG := kt8 21 rfl rfl
theorem wp7_11 : Cond.selects RX12 yX12_canBeWhose yX12_canBeWhose ∈ kG := kp7 11 rfl rfl
theorem wt8_22 : Cond.code yX12_canBeWhose cX12_canBeWhose 5 (some .boolean) ∈ kG := kt8 22 rfl rfl
theorem wt8_39 : Cond.methodLink RX12 418 yX12_shows ∈ kG := kt8 39 rfl rfl
theorem wt8_41 : Cond.instanceMethod yX12_shows ∈ kG := kt8 41 rfl rfl
theorem wp7_15 : Cond.selects RX12 yX12_shows yX12_shows ∈ kG := kp7 15 rfl rfl
theorem wt8_42 : Cond.code yX12_shows cX12_shows 3 none ∈ kG := kt8 42 rfl rfl
theorem wt8_75 : Cond.constantLong RX12 452 (1103) ∈ kG := kt8 75 rfl rfl
theorem wt5_207 : Cond.fieldLink RX12 454 "SunriseRoofModel" "latest" "I" ∈ kG := kt5 207 rfl rfl
theorem wt8_76 : Cond.constantLong RX12 457 (12345) ∈ kG := kt8 76 rfl rfl
theorem wt8_77 : Cond.constantLong RX12 459 (1000003) ∈ kG := kt8 77 rfl rfl
theorem wt5_206 : Cond.fieldLink RX12 461 "SunriseRoofModel" "drawnBuilders" "I" ∈ kG := kt5 206 rfl rfl
theorem wt8_71 : Cond.methodLink RX12 464 yX12_draws ∈ kG := kt8 71 rfl rfl
theorem wt8_73 : Cond.instanceMethod yX12_draws ∈ kG := kt8 73 rfl rfl
theorem wp8_3 : Cond.selects RX12 yX12_draws yX12_draws ∈ kG := kp8 3 rfl rfl
theorem wt8_74 : Cond.code yX12_draws cX12_draws 2 (some .int) ∈ kG := kt8 74 rfl rfl
theorem wt5_173 : Cond.fieldLink RX12 138 "SunriseRoofModel" "taped" "I" ∈ kG := kt5 173 rfl rfl
theorem wt6_146 : Cond.methodLink RX12 134 yX12_isTerm ∈ kG := kt6 146 rfl rfl
theorem wt6_147 : Cond.static yX12_isTerm ∈ kG := kt6 147 rfl rfl
theorem wt6_148 : Cond.code yX12_isTerm cX12_isTerm 2 (some .boolean) ∈ kG := kt6 148 rfl rfl
theorem cl_104 : (104 : Int32).toNatClampNeg = 104 := by decide +kernel
theorem cl_105 : (105 : Int32).toNatClampNeg = 105 := by decide +kernel
theorem kc_1000000 : kb 1000000 1000000 1000000 := ⟨by decide +kernel, by decide +kernel⟩
theorem kc_104 : kb 104 104 104 := ⟨by decide +kernel, by decide +kernel⟩
theorem kc_105 : kb 105 105 105 := ⟨by decide +kernel, by decide +kernel⟩
theorem kc_11 : kb 11 11 11 := ⟨by decide +kernel, by decide +kernel⟩
theorem kc_12 : kb 12 12 12 := ⟨by decide +kernel, by decide +kernel⟩
theorem kc_13 : kb 13 13 13 := ⟨by decide +kernel, by decide +kernel⟩
theorem kc_14 : kb 14 14 14 := ⟨by decide +kernel, by decide +kernel⟩
theorem kc_200 : kb 200 200 200 := ⟨by decide +kernel, by decide +kernel⟩
theorem kc_24 : kb 24 24 24 := ⟨by decide +kernel, by decide +kernel⟩
theorem kc_360 : kb 360 360 360 := ⟨by decide +kernel, by decide +kernel⟩
theorem kc_451 : kb 451 451 451 := ⟨by decide +kernel, by decide +kernel⟩
theorem kc_75 : kb 75 75 75 := ⟨by decide +kernel, by decide +kernel⟩
theorem kc_999 : kb 999 999 999 := ⟨by decide +kernel, by decide +kernel⟩
theorem kc_m2 : kb (-2) (-2) (-2) := ⟨by decide +kernel, by decide +kernel⟩
theorem kc_m3 : kb (-3) (-3) (-3) := ⟨by decide +kernel, by decide +kernel⟩
theorem kcl_m1 : kbl (-1) (-1) (-1) := ⟨by decide +kernel, by decide +kernel⟩
set_option maxHeartbeats 4000000 in
set_option maxRecDepth 100000 in
theorem m_worksBy  (l : Launch) {D : va_G} {K : Nat → ClassId} (o : Nat) (r : Nat → Nat) (f : Nat → Int32) (a : Nat → Nat → Int32) (g : Nat → Int64) (hI : mI f a) (bd : Int32) (pt : Int32) (bbd : kb 0 bd 5) (bpt : kb 0 pt 9)   : kI l yX12_worksBy (Cond.code yX12_worksBy cX12_worksBy 3 (some .int) :: kG) (rmD 49 0 0) D (tysK K) [.ref o, .int bd, .int pt] (mW K o r f a g) (fun v (u : mS) => kb 0 v 20 ∧ mI u.1 u.2.1 ∧ mE (XR []) f a u.1 u.2.1 ∧ mZ [22, 23, 24, 25] [26] f a u.1 u.2.1) (fun u => mW K o r u.1 u.2.1 u.2.2) 0 0 := by
  refine kI.of (cc := cX12_worksBy) (maxL := 3) (ret := (some .int)) (by decide) rfl (Nat.le_of_ble_eq_true rfl) ?_
  intro p e s m below meth c A hx hb hr hml hown hts hlocks hnm hK hP hD hS hA ls hl
  have hE : mE (XR []) f a f a := mE_rf
  have hZ : mZ [22, 23, 24, 25] [26] f a f a := mZ_rf
  have hg : ∀ w ∈ kG, w.before _ s = true := fun w h => hts w (List.mem_cons_of_mem _ h)
  have hown : s.vm.findClass RX12 = some m.cls := hown
  have hl : lv_has ls 3 [(0, .ref o), (1, .int bd), (2, .int pt)] := hl
  refine lv_aload_n hx hb dX12_worksBy_0 rfl (lv_at hl 0 rfl) ?_
  refine lv_iconst (v := 1) hx hb dX12_worksBy_1 (by decide) ?_
  refine lv_iload_n hx hb dX12_worksBy_2 rfl (lv_at hl 1 rfl) ?_
  refine lv_iload_n hx hb dX12_worksBy_3 rfl (lv_at hl 2 rfl) ?_
  refine lv_bipush (v := 20) hx hb dX12_worksBy_4 (by decide) ?_
  refine lv_aload_n hx hb dX12_worksBy_6 rfl (lv_at hl 0 rfl) ?_
  refine lv_iload_n hx hb dX12_worksBy_7 rfl (lv_at hl 1 rfl) ?_
  refine lv_iload_n hx hb dX12_worksBy_8 rfl (lv_at hl 2 rfl) ?_
  refine kI.callV (As := [.int bd, .int pt]) (rest := [.int 20, .int pt, .int bd, .int 1, .ref o]) ⟨hx, hb, hml, hown, hg⟩ (m_hasCraft l o r f a g hI bd pt bbd bpt ) (cwV 2 hg (kgV wt7_35 wt7_37 wp5_5 wt1_14 wt7_38) rfl rfl rfl (by decide +kernel) ⟨by decide, by decide⟩) hK hP hD hS hA mIs [] rfl (wr := []) rfl rfl rfl (fun i h => by cases h) 0 12 rfl rfl rfl hl.1 rfl (Nat.le_of_ble_eq_true rfl) dX12_worksBy_9 ⟨Nat.le_refl _, Nat.le_refl _⟩ (fun v2 u3 H locs hw1 hP hD hS => ?_)
  have hP : va_P D vwCl (mW K o r f a g) H := hP
  have hD : va_D A (mW K o r f a g) := hD
  have jn11 : ∀ (H : Heap) (locs : List Loc) (ls : Array Slot) (z10 : Int32), (kb 0 z10 9) → va_P D vwCl (mW K o r f a g) H → va_D A (mW K o r f a g) → va_S A s.heap H locs → lv_has ls 3 [(0, .ref o), (1, .int bd), (2, .int pt)] → W p l e (rmD 49 0 0) s m ([.ref o, .int bd, .int pt] : List Value).toArray below meth c H locs 0 0 (kQi D (tysK K) (fun v (u : mS) => kb 0 v 20 ∧ mI u.1 u.2.1 ∧ mE (XR []) f a u.1 u.2.1 ∧ mZ [22, 23, 24, 25] [26] f a u.1 u.2.1) (fun u => mW K o r u.1 u.2.1 u.2.2) A below ([.ref o, .int bd, .int pt] : List Value).toArray s 0 0) (F0 m 28 ls [.int z10, .int 20, .int pt, .int bd, .int 1, .ref o]) := by
    intro  H locs ls z10 b12 hP hD hS hl
    refine kI.callV (As := [.int 1, .int bd, .int pt, .int 20, .int z10]) (rest := []) ⟨hx, hb, hml, hown, hg⟩ (m_tells l o r f a g hI 1 bd pt 20 z10 (kb_w kc_1 (by decide) (by decide)) bbd bpt (kb_w kc_20 (by decide) (by decide)) (kb_w b12 (by decide) (by decide)) ) (cwV 5 hg (kgV wt7_39 wt7_41 wp5_6 wt1_14 wt7_42) rfl rfl rfl (by decide +kernel) ⟨by decide, by decide⟩) hK hP hD hS hA mIs [] rfl (wr := []) rfl rfl rfl (fun i h => by cases h) 0 12 rfl rfl rfl hl.1 rfl (Nat.le_of_ble_eq_true rfl) dX12_worksBy_28 ⟨Nat.le_refl _, Nat.le_refl _⟩ (fun v14 u15 H locs hw13 hP hD hS => ?_)
    obtain ⟨f16, a17, g18⟩ := u15
    have hP : va_P D vwCl (mW K o r f16 a17 g18) H := hP
    have hD : va_D A (mW K o r f16 a17 g18) := hD
    have hI : mI f16 a17 := hw13.2.1
    have hE : mE (XR []) f a f16 a17 := mE_tr hE hw13.2.2.1
    have eE19 : mE (XR []) f a f16 a17 := hw13.2.2.1
    have eZ20 : mZ [22, 23, 24, 25] [26] f a f16 a17 := hw13.2.2.2
    have hZ : mZ [22, 23, 24, 25] [26] f a f16 a17 := mZ_tr hZ (mZ_w (by decide) (by decide) eZ20)
    exact kI_ret (v := v14) hx hb hr hlocks rfl hK hS dX12_worksBy_31 (f16, a17, g18) hP hD ⟨hw13.1, hI, hE, hZ⟩
  refine lv_if_eq (tgt := 27) hx hb dX12_worksBy_12 (by decide) (fun c21 => ?_) (fun c21 => ?_)
  · have b22 : kb 0 v2 0 := kb_eq c21 kc_0
    refine lv_iconst (v := 0) hx hb dX12_worksBy_27 (by decide) ?_
    exact jn11 _ _ _ 0 (kb_w kc_0 (by decide) (by decide)) hP hD hS (lv_sub hl [0, 1, 2] rfl)
  · have b23 : kb 1 v2 1 := kr_nel c21 hw1 kc_0 (by decide)
    refine lv_aload_n hx hb dX12_worksBy_15 rfl (lv_at hl 0 rfl) ?_
    refine va_get (D := D) (ci := 12) (v := .ref (r 2)) (C := RX12) (T := TX12) (N := 48) hx hb hg inC12 hown hK hP 0 rfl rfl 2 (by decide) (hg _ wt5_162) (fun _ h9 => h9) rfl dX12_worksBy_16 ?_
    refine lv_bipush (v := 69) hx hb dX12_worksBy_19 (by decide) ?_
    refine lv_iload_n hx hb dX12_worksBy_21 rfl (lv_at hl 1 rfl) ?_
    refine lv_iadd hx hb dX12_worksBy_22 ?_
    refine lv_topi (fun t24 et24 => ?_)
    have b25 : kb 69 t24 74 := kb_eq et24 (kb_add kc_69 bbd (by decide) (by decide))
    have qt24 : t24.toInt = 69 + bd.toInt := by rw [et24]; exact kt_cadd kc_69 bbd (by decide) (by decide)
    refine va_iald hx hb hK hP 2 0 rfl rfl (kb_in b25 (by decide) (by decide)) dX12_worksBy_23 ?_
    refine lv_topi (fun t26 et26 => ?_)
    have b27 : kb 0 t26 9 := kb_eq et26 (aI_ld hI.2.1 2 69 6 b25 (by decide) (by decide) (by decide +kernel))
    refine lv_goto (tgt := 28) hx hb dX12_worksBy_24 (by decide) ?_
    exact jn11 _ _ _ t26 b27 hP hD hS (lv_sub hl [0, 1, 2] rfl)
set_option maxHeartbeats 4000000 in
set_option maxRecDepth 100000 in
theorem m_tiresBy  (l : Launch) {D : va_G} {K : Nat → ClassId} (o : Nat) (r : Nat → Nat) (f : Nat → Int32) (a : Nat → Nat → Int32) (g : Nat → Int64) (hI : mI f a) (bd : Int32) (pt : Int32) (bbd : kb 0 bd 5) (bpt : kb 0 pt 9)   : kI l yX12_tiresBy (Cond.code yX12_tiresBy cX12_tiresBy 3 (some .int) :: kG) (rmD 49 0 0) D (tysK K) [.ref o, .int bd, .int pt] (mW K o r f a g) (fun v (u : mS) => kb 0 v 20 ∧ mI u.1 u.2.1 ∧ mE (XR []) f a u.1 u.2.1 ∧ mZ [22, 23, 24, 25] [26] f a u.1 u.2.1) (fun u => mW K o r u.1 u.2.1 u.2.2) 0 0 := by
  refine kI.of (cc := cX12_tiresBy) (maxL := 3) (ret := (some .int)) (by decide) rfl (Nat.le_of_ble_eq_true rfl) ?_
  intro p e s m below meth c A hx hb hr hml hown hts hlocks hnm hK hP hD hS hA ls hl
  have hE : mE (XR []) f a f a := mE_rf
  have hZ : mZ [22, 23, 24, 25] [26] f a f a := mZ_rf
  have hg : ∀ w ∈ kG, w.before _ s = true := fun w h => hts w (List.mem_cons_of_mem _ h)
  have hown : s.vm.findClass RX12 = some m.cls := hown
  have hl : lv_has ls 3 [(0, .ref o), (1, .int bd), (2, .int pt)] := hl
  refine lv_aload_n hx hb dX12_tiresBy_0 rfl (lv_at hl 0 rfl) ?_
  refine lv_iconst (v := 2) hx hb dX12_tiresBy_1 (by decide) ?_
  refine lv_iload_n hx hb dX12_tiresBy_2 rfl (lv_at hl 1 rfl) ?_
  refine lv_iload_n hx hb dX12_tiresBy_3 rfl (lv_at hl 2 rfl) ?_
  refine lv_bipush (v := 20) hx hb dX12_tiresBy_4 (by decide) ?_
  refine lv_iconst (v := 1) hx hb dX12_tiresBy_6 (by decide) ?_
  refine kI.callV (As := [.int 2, .int bd, .int pt, .int 20, .int 1]) (rest := []) ⟨hx, hb, hml, hown, hg⟩ (m_tells l o r f a g hI 2 bd pt 20 1 (kb_w kc_2 (by decide) (by decide)) bbd bpt (kb_w kc_20 (by decide) (by decide)) (kb_w kc_1 (by decide) (by decide)) ) (cwV 5 hg (kgV wt7_39 wt7_41 wp5_6 wt1_14 wt7_42) rfl rfl rfl (by decide +kernel) ⟨by decide, by decide⟩) hK hP hD hS hA mIs [] rfl (wr := []) rfl rfl rfl (fun i h => by cases h) 0 12 rfl rfl rfl hl.1 rfl (Nat.le_of_ble_eq_true rfl) dX12_tiresBy_7 ⟨Nat.le_refl _, Nat.le_refl _⟩ (fun v2 u3 H locs hw1 hP hD hS => ?_)
  obtain ⟨f4, a5, g6⟩ := u3
  have hP : va_P D vwCl (mW K o r f4 a5 g6) H := hP
  have hD : va_D A (mW K o r f4 a5 g6) := hD
  have hI : mI f4 a5 := hw1.2.1
  have hE : mE (XR []) f a f4 a5 := mE_tr hE hw1.2.2.1
  have eE7 : mE (XR []) f a f4 a5 := hw1.2.2.1
  have eZ8 : mZ [22, 23, 24, 25] [26] f a f4 a5 := hw1.2.2.2
  have hZ : mZ [22, 23, 24, 25] [26] f a f4 a5 := mZ_tr hZ (mZ_w (by decide) (by decide) eZ8)
  exact kI_ret (v := v2) hx hb hr hlocks rfl hK hS dX12_tiresBy_10 (f4, a5, g6) hP hD ⟨hw1.1, hI, hE, hZ⟩
set_option maxHeartbeats 4000000 in
set_option maxRecDepth 100000 in
theorem m_showsIn  (l : Launch) {D : va_G} {K : Nat → ClassId} (o : Nat) (r : Nat → Nat) (f : Nat → Int32) (a : Nat → Nat → Int32) (g : Nat → Int64) (hI : mI f a) (bd : Int32) (pt : Int32) (bbd : kb 0 bd 5) (bpt : kb 0 pt 9)   : kI l yX12_showsIn (Cond.code yX12_showsIn cX12_showsIn 3 (some .int) :: kG) (rmD 49 0 0) D (tysK K) [.ref o, .int bd, .int pt] (mW K o r f a g) (fun v (u : mS) => kb 0 v 20 ∧ mI u.1 u.2.1 ∧ mE (XR []) f a u.1 u.2.1 ∧ mZ [22, 23, 24, 25] [26] f a u.1 u.2.1) (fun u => mW K o r u.1 u.2.1 u.2.2) 0 0 := by
  refine kI.of (cc := cX12_showsIn) (maxL := 3) (ret := (some .int)) (by decide) rfl (Nat.le_of_ble_eq_true rfl) ?_
  intro p e s m below meth c A hx hb hr hml hown hts hlocks hnm hK hP hD hS hA ls hl
  have hE : mE (XR []) f a f a := mE_rf
  have hZ : mZ [22, 23, 24, 25] [26] f a f a := mZ_rf
  have hg : ∀ w ∈ kG, w.before _ s = true := fun w h => hts w (List.mem_cons_of_mem _ h)
  have hown : s.vm.findClass RX12 = some m.cls := hown
  have hl : lv_has ls 3 [(0, .ref o), (1, .int bd), (2, .int pt)] := hl
  refine lv_aload_n hx hb dX12_showsIn_0 rfl (lv_at hl 0 rfl) ?_
  refine lv_iconst (v := 3) hx hb dX12_showsIn_1 (by decide) ?_
  refine lv_iload_n hx hb dX12_showsIn_2 rfl (lv_at hl 1 rfl) ?_
  refine lv_iload_n hx hb dX12_showsIn_3 rfl (lv_at hl 2 rfl) ?_
  refine lv_bipush (v := 10) hx hb dX12_showsIn_4 (by decide) ?_
  refine lv_iconst (v := 1) hx hb dX12_showsIn_6 (by decide) ?_
  refine kI.callV (As := [.int 3, .int bd, .int pt, .int 10, .int 1]) (rest := []) ⟨hx, hb, hml, hown, hg⟩ (m_tells l o r f a g hI 3 bd pt 10 1 (kb_w kc_3 (by decide) (by decide)) bbd bpt (kb_w kc_10 (by decide) (by decide)) (kb_w kc_1 (by decide) (by decide)) ) (cwV 5 hg (kgV wt7_39 wt7_41 wp5_6 wt1_14 wt7_42) rfl rfl rfl (by decide +kernel) ⟨by decide, by decide⟩) hK hP hD hS hA mIs [] rfl (wr := []) rfl rfl rfl (fun i h => by cases h) 0 12 rfl rfl rfl hl.1 rfl (Nat.le_of_ble_eq_true rfl) dX12_showsIn_7 ⟨Nat.le_refl _, Nat.le_refl _⟩ (fun v2 u3 H locs hw1 hP hD hS => ?_)
  obtain ⟨f4, a5, g6⟩ := u3
  have hP : va_P D vwCl (mW K o r f4 a5 g6) H := hP
  have hD : va_D A (mW K o r f4 a5 g6) := hD
  have hI : mI f4 a5 := hw1.2.1
  have hE : mE (XR []) f a f4 a5 := mE_tr hE hw1.2.2.1
  have eE7 : mE (XR []) f a f4 a5 := hw1.2.2.1
  have eZ8 : mZ [22, 23, 24, 25] [26] f a f4 a5 := hw1.2.2.2
  have hZ : mZ [22, 23, 24, 25] [26] f a f4 a5 := mZ_tr hZ (mZ_w (by decide) (by decide) eZ8)
  exact kI_ret (v := v2) hx hb hr hlocks rfl hK hS dX12_showsIn_10 (f4, a5, g6) hP hD ⟨hw1.1, hI, hE, hZ⟩
set_option maxHeartbeats 4000000 in
set_option maxRecDepth 100000 in
theorem m_isBarred  (l : Launch) {D : va_G} {K : Nat → ClassId} (o : Nat) (r : Nat → Nat) (f : Nat → Int32) (a : Nat → Nat → Int32) (g : Nat → Int64) (hI : mI f a) (bd : Int32) (pt : Int32) (bbd : kb 0 bd 5) (bpt : kb 0 pt 9)   : kI l yX12_isBarred (Cond.code yX12_isBarred cX12_isBarred 3 (some .boolean) :: kG) (rmD 49 0 0) D (tysK K) [.ref o, .int bd, .int pt] (mW K o r f a g) (fun v (u : mS) => kb 0 v 1 ∧ mI u.1 u.2.1 ∧ mE (XR []) f a u.1 u.2.1 ∧ mZ [22, 23, 24, 25] [26] f a u.1 u.2.1) (fun u => mW K o r u.1 u.2.1 u.2.2) 0 0 := by
  refine kI.of (cc := cX12_isBarred) (maxL := 3) (ret := (some .boolean)) (by decide) rfl (Nat.le_of_ble_eq_true rfl) ?_
  intro p e s m below meth c A hx hb hr hml hown hts hlocks hnm hK hP hD hS hA ls hl
  have hE : mE (XR []) f a f a := mE_rf
  have hZ : mZ [22, 23, 24, 25] [26] f a f a := mZ_rf
  have hg : ∀ w ∈ kG, w.before _ s = true := fun w h => hts w (List.mem_cons_of_mem _ h)
  have hown : s.vm.findClass RX12 = some m.cls := hown
  have hl : lv_has ls 3 [(0, .ref o), (1, .int bd), (2, .int pt)] := hl
  refine lv_aload_n hx hb dX12_isBarred_0 rfl (lv_at hl 0 rfl) ?_
  refine lv_iconst (v := 4) hx hb dX12_isBarred_1 (by decide) ?_
  refine lv_iload_n hx hb dX12_isBarred_2 rfl (lv_at hl 1 rfl) ?_
  refine lv_iload_n hx hb dX12_isBarred_3 rfl (lv_at hl 2 rfl) ?_
  refine lv_iconst (v := 1) hx hb dX12_isBarred_4 (by decide) ?_
  refine lv_iconst (v := 0) hx hb dX12_isBarred_5 (by decide) ?_
  refine kI.callV (As := [.int 4, .int bd, .int pt, .int 1, .int 0]) (rest := []) ⟨hx, hb, hml, hown, hg⟩ (m_tells l o r f a g hI 4 bd pt 1 0 (kb_w kc_4 (by decide) (by decide)) bbd bpt (kb_w kc_1 (by decide) (by decide)) (kb_w kc_0 (by decide) (by decide)) ) (cwV 5 hg (kgV wt7_39 wt7_41 wp5_6 wt1_14 wt7_42) rfl rfl rfl (by decide +kernel) ⟨by decide, by decide⟩) hK hP hD hS hA mIs [] rfl (wr := []) rfl rfl rfl (fun i h => by cases h) 0 12 rfl rfl rfl hl.1 rfl (Nat.le_of_ble_eq_true rfl) dX12_isBarred_6 ⟨Nat.le_refl _, Nat.le_refl _⟩ (fun v2 u3 H locs hw1 hP hD hS => ?_)
  obtain ⟨f4, a5, g6⟩ := u3
  have hP : va_P D vwCl (mW K o r f4 a5 g6) H := hP
  have hD : va_D A (mW K o r f4 a5 g6) := hD
  have hI : mI f4 a5 := hw1.2.1
  have hE : mE (XR []) f a f4 a5 := mE_tr hE hw1.2.2.1
  have eE7 : mE (XR []) f a f4 a5 := hw1.2.2.1
  have eZ8 : mZ [22, 23, 24, 25] [26] f a f4 a5 := hw1.2.2.2
  have hZ : mZ [22, 23, 24, 25] [26] f a f4 a5 := mZ_tr hZ (mZ_w (by decide) (by decide) eZ8)
  refine lv_iconst (v := 1) hx hb dX12_isBarred_9 (by decide) ?_
  refine lv_icmp_ne (tgt := 17) hx hb dX12_isBarred_10 (by decide) (fun c9 => ?_) (fun c9 => ?_)
  · refine lv_iconst (v := 0) hx hb dX12_isBarred_17 (by decide) ?_
    exact kI_ret (v := 0) hx hb hr hlocks (by decide +kernel) hK hS dX12_isBarred_18 (f4, a5, g6) hP hD ⟨(kb_w kc_0 (by decide) (by decide)), hI, hE, hZ⟩
  · have b10 : kb 1 v2 1 := kb_eq c9 kc_1
    refine lv_iconst (v := 1) hx hb dX12_isBarred_13 (by decide) ?_
    refine lv_goto (tgt := 18) hx hb dX12_isBarred_14 (by decide) ?_
    exact kI_ret (v := 1) hx hb hr hlocks (by decide +kernel) hK hS dX12_isBarred_18 (f4, a5, g6) hP hD ⟨(kb_w kc_1 (by decide) (by decide)), hI, hE, hZ⟩
set_option maxHeartbeats 4000000 in
set_option maxRecDepth 100000 in
theorem m_takesBack  (l : Launch) {D : va_G} {K : Nat → ClassId} (o : Nat) (r : Nat → Nat) (f : Nat → Int32) (a : Nat → Nat → Int32) (g : Nat → Int64) (hI : mI f a) (kk : Int32) (bkk : kb 0 kk 1)   : kV l yX12_takesBack (Cond.code yX12_takesBack cX12_takesBack 3 none :: kG) (rmD 1 0 0) D (tysK K) [.ref o, .int kk] (mW K o r f a g) (fun (u : mS) => mI u.1 u.2.1 ∧ mE (XR [(0, 23)]) f a u.1 u.2.1 ∧ (∀ i, i < 23 → u.2.1 2 i = a 5 (23 * kk.toInt.toNat + i)) ∧ mZ [] [2] f a u.1 u.2.1) (fun u => mW K o r u.1 u.2.1 u.2.2) 0 0 := by
  refine kV.of (cc := cX12_takesBack) (maxL := 3) (ret := none) (by decide) rfl (Nat.le_of_ble_eq_true rfl) ?_
  intro p e s m below meth c A hx hb hr hml hown hts hlocks hnm hK hP hD hS hA ls hl
  have hE : mE (XR [(0, 23)]) f a f a := mE_rf
  have hZ : mZ [] [2] f a f a := mZ_rf
  have hg : ∀ w ∈ kG, w.before _ s = true := fun w h => hts w (List.mem_cons_of_mem _ h)
  have hown : s.vm.findClass RX12 = some m.cls := hown
  have hl : lv_has ls 3 [(0, .ref o), (1, .int kk)] := hl
  refine lv_iconst (v := 0) hx hb dX12_takesBack_0 (by decide) ?_
  refine lv_istore_n (lv' := [(2, .int 0), (0, .ref o), (1, .int kk)]) hx hb dX12_takesBack_1 rfl hl (by decide) rfl (fun ls hl => ?_)
  have lp3 : ∀ (n4 : Nat) (nn : Nat) (B2 : Nat → Nat → Int32) (H : Heap) (locs : List Loc) (ls : Array Slot) (y1 : Int32), (23 < y1.toInt + (n4 : Int)) → (mI f B2) → (mE (XR [(0, 23)]) f a f B2) → (mZ [] [2] f a f B2) → (kb 0 y1 23) → (y1.toInt = (nn : Int)) → (∀ q, q < nn → B2 2 (0 + q) = a 5 (23 * kk.toInt.toNat + q)) → (nn ≤ 23) → va_P D vwCl (mW K o r f B2 g) H → va_D A (mW K o r f B2 g) → va_S A s.heap H locs → lv_has ls 3 [(2, .int y1), (0, .ref o), (1, .int kk)] → W p l e (rmD 1 0 0) s m ([.ref o, .int kk] : List Value).toArray below meth c H locs 0 0 (kQv D (tysK K) (fun (u : mS) => mI u.1 u.2.1 ∧ mE (XR [(0, 23)]) f a u.1 u.2.1 ∧ (∀ i, i < 23 → u.2.1 2 i = a 5 (23 * kk.toInt.toNat + i)) ∧ mZ [] [2] f a u.1 u.2.1) (fun u => mW K o r u.1 u.2.1 u.2.2) A below ([.ref o, .int kk] : List Value).toArray s 0 0) (F0 m 2 ls []) := by
    intro n4
    induction n4 with
    | zero =>
      intro nn B2  H locs ls y1 hmlp3 hI hE hZ b5 hvlp3_0 hvlp3_1 hvlp3_2 hP hD hS hl
      exact (by have h1 := b5.2; have h2 := hmlp3; omega : False).elim
    | succ n4 ihlp3 =>
      intro nn B2  H locs ls y1 hmlp3 hI hE hZ b5 hvlp3_0 hvlp3_1 hvlp3_2 hP hD hS hl
      have hZB := hZ
      refine lv_iload_n hx hb dX12_takesBack_2 rfl (lv_at hl 0 rfl) ?_
      refine lv_bipush (v := 23) hx hb dX12_takesBack_3 (by decide) ?_
      refine lv_icmp_ge (tgt := 31) hx hb dX12_takesBack_5 (by decide) (fun c6 => ?_) (fun c6 => ?_)
      · have h7 := (kc_le c6)
        have b8 : kb 23 y1 23 := kr_le2 h7 kc_23 b5
        exact kV_ret hx hb hr hlocks hK hS dX12_takesBack_31 (f, B2, g) hP hD ⟨hI, hE, (by have hn := (by have w1 := hvlp3_0; have w2 := (b8).1; have w3 := hvlp3_2; omega : nn = 23); have hB := hvlp3_1; rw [hn] at hB; exact fun i hi => by have w9 := hB i hi; rw [Nat.zero_add] at w9; exact w9), hZ⟩
      · have h9 := (kc_nle c6)
        have b10 : kb 0 y1 22 := kr_lt1 h9 b5 kc_23 (by decide)
        refine lv_aload_n hx hb dX12_takesBack_8 rfl (lv_at hl 1 rfl) ?_
        refine va_get (D := D) (ci := 12) (v := .ref (r 2)) (C := RX12) (T := TX12) (N := 48) hx hb hg inC12 hown hK hP 0 rfl rfl 2 (by decide) (hg _ wt5_162) (fun _ h9 => h9) rfl dX12_takesBack_9 ?_
        refine lv_iload_n hx hb dX12_takesBack_12 rfl (lv_at hl 0 rfl) ?_
        refine lv_aload_n hx hb dX12_takesBack_13 rfl (lv_at hl 1 rfl) ?_
        refine va_get (D := D) (ci := 12) (v := .ref (r 5)) (C := RX12) (T := TX12) (N := 48) hx hb hg inC12 hown hK hP 0 rfl rfl 5 (by decide) (hg _ wt5_165) (fun _ h9 => h9) rfl dX12_takesBack_14 ?_
        refine lv_bipush (v := 23) hx hb dX12_takesBack_17 (by decide) ?_
        refine lv_iload_n hx hb dX12_takesBack_19 rfl (lv_at hl 2 rfl) ?_
        refine lv_imul hx hb dX12_takesBack_20 ?_
        refine lv_topi (fun t11 et11 => ?_)
        have b12 : kb 0 t11 23 := kb_eq et11 (kb_mul kc_23 bkk (by decide) (by decide) (by decide))
        have qt11 : t11.toInt = 23 * kk.toInt := by rw [et11]; exact kt_cmul kc_23 bkk (by decide) (by decide) (by decide)
        refine lv_iload_n hx hb dX12_takesBack_21 rfl (lv_at hl 0 rfl) ?_
        refine lv_iadd hx hb dX12_takesBack_22 ?_
        refine lv_topi (fun t13 et13 => ?_)
        have b14 : kb 0 t13 45 := kb_eq et13 (kb_add b12 b10 (by decide) (by decide))
        have qt13 : t13.toInt = t11.toInt + y1.toInt := by rw [et13]; exact kt_add b12 b10 (by decide) (by decide)
        refine va_iald hx hb hK hP 5 0 rfl rfl (kb_in b14 (by decide) (by decide)) dX12_takesBack_23 ?_
        refine lv_topi (fun t15 et15 => ?_)
        refine va_iast hx hb hK hP hD hS 2 0 rfl rfl (kb_in b10 (by decide) (by decide)) dX12_takesBack_24 (fun H locs hP hD hS => ?_)
        have hP : va_P D vwCl (mW K o r f (va_up B2 2 (upd (B2 2) y1.toNatClampNeg t15)) g) H := hP
        have hD : va_D A (mW K o r f (va_up B2 2 (upd (B2 2) y1.toNatClampNeg t15)) g) := hD
        refine k_gen (P := fun z => va_P D vwCl (mW K o r f z g) H ∧ va_D A (mW K o r f z g) ∧ (mI f z) ∧ (mE (XR [(0, 23)]) f a f z) ∧ (mZ [] [2] f a f z)) (va_up B2 2 (upd (B2 2) y1.toNatClampNeg t15)) ⟨hP, hD, (mI_2 hI (aI_mv hI.2.1 2 _ 5 _ et15 (kq_5 b10 bkk (by omega)).symm) (kb_clt b10 (by decide) (by decide))), (mE_2 hE (bX_at 0 23 b10 (by decide) (by decide) (by decide))), (mZ_a hZ rfl)⟩ (fun a_16 ea_16 hq => ?_)
        obtain ⟨hP, hD, hI, hE, hZ⟩ := hq
        obtain ⟨t17, et17⟩ : ∃ z : Int32, z = y1 + Int32.ofInt 1 := ⟨_, rfl⟩
        have qt17 : t17.toInt = y1.toInt + 1 := by rw [et17]; exact km_inc b10 (by decide) (by decide)
        have b18 : kb 1 t17 23 := kb_inc (k := 1) qt17 b10
        refine lv_iinc (v := t17) (lv' := [(2, .int t17), (0, .ref o), (1, .int kk)]) hx hb dX12_takesBack_25 hl (k := 0) rfl et17.symm (by decide) rfl (fun ls hl => ?_)
        refine lv_goto (tgt := 2) hx hb dX12_takesBack_28 (by decide) ?_
        exact ihlp3 (nn + 1) a_16 _ _ _ t17 (km_up hmlp3 qt17) hI hE hZ (kb_w b18 (by decide) (by decide)) (by have w1 := hvlp3_0; have w2 := qt17; omega) (cp_st hvlp3_1 ea_16 (by rw [cl_nat hvlp3_0]; omega) (et15.trans ((congrArg (B2 5) (by have w1 := hvlp3_0; have w2 := qt13; have w3 := bkk.1; have w4 := qt11; unfold Int32.toNatClampNeg; omega)).trans (congrFun (hZB.2 5 rfl) (23 * kk.toInt.toNat + nn))))) (by have w1 := hvlp3_0; have w2 := (b10).2; omega) hP hD hS (lv_sub hl [0, 1, 2] rfl)
  exact lp3 (24) 0 a _ _ _ 0 (by have h1 := (kc_0); unfold kb at h1; omega) hI hE hZ (kb_w kc_0 (by decide) (by decide)) (by decide +kernel) (fun q h => absurd h (Nat.not_lt_zero q)) (Nat.zero_le _) hP hD hS (lv_sub hl [0, 1, 2] rfl)
set_option maxHeartbeats 4000000 in
set_option maxRecDepth 100000 in
theorem m_begins  (l : Launch) {D : va_G} {K : Nat → ClassId} (o : Nat) (r : Nat → Nat) (f : Nat → Int32) (a : Nat → Nat → Int32) (g : Nat → Int64) (hI : mI f a)     : kV l yX12_begins (Cond.code yX12_begins cX12_begins 2 none :: kG) (rmD 2 0 0) D (tysK K) [.ref o] (mW K o r f a g) (fun (u : mS) => mI u.1 u.2.1 ∧ mE (XR [(0, 23)]) f a u.1 u.2.1 ∧ (∀ i, i < 23 → u.2.1 5 i = a 2 i) ∧ mZ [] [2, 5] f a u.1 u.2.1) (fun u => mW K o r u.1 u.2.1 u.2.2) 0 0 := by
  refine kV.of (cc := cX12_begins) (maxL := 2) (ret := none) (by decide) rfl (Nat.le_of_ble_eq_true rfl) ?_
  intro p e s m below meth c A hx hb hr hml hown hts hlocks hnm hK hP hD hS hA ls hl
  have hE : mE (XR [(0, 23)]) f a f a := mE_rf
  have hZ : mZ [] [2, 5] f a f a := mZ_rf
  have hg : ∀ w ∈ kG, w.before _ s = true := fun w h => hts w (List.mem_cons_of_mem _ h)
  have hown : s.vm.findClass RX12 = some m.cls := hown
  have hl : lv_has ls 2 [(0, .ref o)] := hl
  refine lv_aload_n hx hb dX12_begins_0 rfl (lv_at hl 0 rfl) ?_
  refine lv_iconst (v := 0) hx hb dX12_begins_1 (by decide) ?_
  refine kV.callV (As := [.int 0]) (rest := []) ⟨hx, hb, hml, hown, hg⟩ (m_laysAside l o r f a g hI 0 (kb_w kc_0 (by decide) (by decide)) ) (cwV 1 hg (kgV wt7_207 wt7_209 wp7_5 wt1_14 wt7_210) rfl rfl rfl (by decide +kernel) ⟨by decide, by decide⟩) hK hP hD hS hA mIs [] rfl (wr := []) rfl rfl rfl (fun i h => by cases h) 0 12 rfl rfl rfl hl.1 rfl (Nat.le_of_ble_eq_true rfl) dX12_begins_2 ⟨Nat.le_refl _, Nat.le_refl _⟩ (fun u3 H locs hw1 hP hD hS => ?_)
  obtain ⟨f4, a5, g6⟩ := u3
  have hP : va_P D vwCl (mW K o r f4 a5 g6) H := hP
  have hD : va_D A (mW K o r f4 a5 g6) := hD
  have hI : mI f4 a5 := hw1.1
  have hE : mE (XR [(0, 23)]) f a f4 a5 := mE_tr hE (mE_w (XR_w (by decide)) hw1.2.1)
  have eE7 : mE (XR []) f a f4 a5 := hw1.2.1
  have eZ8 : mZ [] [5] f a f4 a5 := hw1.2.2.2.2.2
  have hZ : mZ [] [2, 5] f a f4 a5 := mZ_tr hZ (mZ_w (by decide) (by decide) eZ8)
  have hk0 : ∀ i, i < 23 → a5 5 i = a 2 i := fun i hi => by have w1 := (hw1.2.2.2.2.1) i hi; rw [show 23 * (0 : Int32).toInt.toNat + i = i from (by rw [show (0 : Int32).toInt.toNat = 0 from by decide +kernel]; omega)] at w1; exact w1
  refine lv_iconst (v := 0) hx hb dX12_begins_5 (by decide) ?_
  refine lv_istore_n (lv' := [(1, .int 0), (0, .ref o)]) hx hb dX12_begins_6 rfl hl (by decide) rfl (fun ls hl => ?_)
  have lp11 : ∀ (n12 : Nat) (B10 : Nat → Nat → Int32) (H : Heap) (locs : List Loc) (ls : Array Slot) (y9 : Int32), (6 < y9.toInt + (n12 : Int)) → (mI f4 B10) → (mE (XR [(0, 23)]) f a f4 B10) → (mZ [] [2, 5] f a f4 B10) → (∀ i, i < 23 → B10 5 i = a 2 i) → (kb 0 y9 6) → va_P D vwCl (mW K o r f4 B10 g6) H → va_D A (mW K o r f4 B10 g6) → va_S A s.heap H locs → lv_has ls 2 [(1, .int y9), (0, .ref o)] → W p l e (rmD 2 0 0) s m ([.ref o] : List Value).toArray below meth c H locs 0 0 (kQv D (tysK K) (fun (u : mS) => mI u.1 u.2.1 ∧ mE (XR [(0, 23)]) f a u.1 u.2.1 ∧ (∀ i, i < 23 → u.2.1 5 i = a 2 i) ∧ mZ [] [2, 5] f a u.1 u.2.1) (fun u => mW K o r u.1 u.2.1 u.2.2) A below ([.ref o] : List Value).toArray s 0 0) (F0 m 7 ls []) := by
    intro n12
    induction n12 with
    | zero =>
      intro  B10  H locs ls y9 hmlp11 hI hE hZ hk0 b13 hP hD hS hl
      exact (by have h1 := b13.2; have h2 := hmlp11; omega : False).elim
    | succ n12 ihlp11 =>
      intro  B10  H locs ls y9 hmlp11 hI hE hZ hk0 b13 hP hD hS hl
      refine lv_iload_n hx hb dX12_begins_7 rfl (lv_at hl 0 rfl) ?_
      refine lv_bipush (v := 6) hx hb dX12_begins_8 (by decide) ?_
      refine lv_icmp_ge (tgt := 29) hx hb dX12_begins_10 (by decide) (fun c14 => ?_) (fun c14 => ?_)
      · have h15 := (kc_le c14)
        have b16 : kb 6 y9 6 := kr_le2 h15 kc_6 b13
        exact kV_ret hx hb hr hlocks hK hS dX12_begins_29 (f4, B10, g6) hP hD ⟨hI, hE, hk0, hZ⟩
      · have h17 := (kc_nle c14)
        have b18 : kb 0 y9 5 := kr_lt1 h17 b13 kc_6 (by decide)
        refine lv_aload_n hx hb dX12_begins_13 rfl (lv_at hl 1 rfl) ?_
        refine va_get (D := D) (ci := 12) (v := .ref (r 2)) (C := RX12) (T := TX12) (N := 48) hx hb hg inC12 hown hK hP 0 rfl rfl 2 (by decide) (hg _ wt5_162) (fun _ h9 => h9) rfl dX12_begins_14 ?_
        refine lv_bipush (v := 16) hx hb dX12_begins_17 (by decide) ?_
        refine lv_iload_n hx hb dX12_begins_19 rfl (lv_at hl 0 rfl) ?_
        refine lv_iadd hx hb dX12_begins_20 ?_
        refine lv_topi (fun t19 et19 => ?_)
        have b20 : kb 16 t19 21 := kb_eq et19 (kb_add kc_16 b18 (by decide) (by decide))
        have qt19 : t19.toInt = 16 + y9.toInt := by rw [et19]; exact kt_cadd kc_16 b18 (by decide) (by decide)
        refine lv_iconst (v := (-1)) hx hb dX12_begins_21 (by decide) ?_
        refine va_iast hx hb hK hP hD hS 2 0 rfl rfl (kb_in b20 (by decide) (by decide)) dX12_begins_22 (fun H locs hP hD hS => ?_)
        have hP : va_P D vwCl (mW K o r f4 (va_up B10 2 (upd (B10 2) t19.toNatClampNeg (-1))) g6) H := hP
        have hD : va_D A (mW K o r f4 (va_up B10 2 (upd (B10 2) t19.toNatClampNeg (-1))) g6) := hD
        refine k_gen (P := fun z => va_P D vwCl (mW K o r f4 z g6) H ∧ va_D A (mW K o r f4 z g6) ∧ (mI f4 z) ∧ (mE (XR [(0, 23)]) f a f4 z) ∧ (mZ [] [2, 5] f a f4 z) ∧ (∀ i, i < 23 → z 5 i = a 2 i)) (va_up B10 2 (upd (B10 2) t19.toNatClampNeg (-1))) ⟨hP, hD, (mI_2 hI (aI_sx hI.2.1 2 16 6 b20 (by decide) (by decide) kc_m1 (by decide +kernel)) (kb_clt b20 (by decide) (by decide))), (mE_2 hE (bX_at 16 6 b20 (by decide) (by decide) (by decide))), (mZ_a hZ rfl), hk0⟩ (fun a_21 ea_21 hq => ?_)
        obtain ⟨hP, hD, hI, hE, hZ, hk0⟩ := hq
        obtain ⟨t22, et22⟩ : ∃ z : Int32, z = y9 + Int32.ofInt 1 := ⟨_, rfl⟩
        have qt22 : t22.toInt = y9.toInt + 1 := by rw [et22]; exact km_inc b18 (by decide) (by decide)
        have b23 : kb 1 t22 6 := kb_inc (k := 1) qt22 b18
        refine lv_iinc (v := t22) (lv' := [(1, .int t22), (0, .ref o)]) hx hb dX12_begins_23 hl (k := 0) rfl et22.symm (by decide) rfl (fun ls hl => ?_)
        refine lv_goto (tgt := 7) hx hb dX12_begins_26 (by decide) ?_
        exact ihlp11  a_21 _ _ _ t22 (km_up hmlp11 qt22) hI hE hZ hk0 (kb_w b23 (by decide) (by decide)) hP hD hS (lv_sub hl [0, 1] rfl)
  exact lp11 (7)  a5 _ _ _ 0 (by have h1 := (kc_0); unfold kb at h1; omega) hI hE hZ hk0 (kb_w kc_0 (by decide) (by decide)) hP hD hS (lv_sub hl [0, 1] rfl)
set_option maxHeartbeats 4000000 in
set_option maxRecDepth 100000 in
theorem m_ticks  (l : Launch) {D : va_G} {K : Nat → ClassId} (o : Nat) (r : Nat → Nat) (f : Nat → Int32) (a : Nat → Nat → Int32) (g : Nat → Int64) (hI : mI f a) (who : Int32)    : kI l yX12_ticks (Cond.code yX12_ticks cX12_ticks 5 (some .int) :: kG) (rmD 50 0 0) D (tysK K) [.ref o, .int who] (mW K o r f a g) (fun v (u : mS) => kb 0 v 10 ∧ mI u.1 u.2.1 ∧ mE (XR [(0, 23)]) f a u.1 u.2.1 ∧ mZ [22, 23, 24, 25] [2, 26, 29, 30] f a u.1 u.2.1) (fun u => mW K o r u.1 u.2.1 u.2.2) 0 0 := by
  refine kI.of (cc := cX12_ticks) (maxL := 5) (ret := (some .int)) (by decide) rfl (Nat.le_of_ble_eq_true rfl) ?_
  intro p e s m below meth c A hx hb hr hml hown hts hlocks hnm hK hP hD hS hA ls hl
  have hE : mE (XR [(0, 23)]) f a f a := mE_rf
  have hZ : mZ [22, 23, 24, 25] [2, 26, 29, 30] f a f a := mZ_rf
  have hg : ∀ w ∈ kG, w.before _ s = true := fun w h => hts w (List.mem_cons_of_mem _ h)
  have hown : s.vm.findClass RX12 = some m.cls := hown
  have hl : lv_has ls 5 [(0, .ref o), (1, .int who)] := hl
  refine lv_aload_n hx hb dX12_ticks_0 rfl (lv_at hl 0 rfl) ?_
  refine kI.callV (As := []) (rest := []) ⟨hx, hb, hml, hown, hg⟩ (m_standing l o r f a g hI   ) (cwV 0 hg (kgV wt6_116 wt6_118 wp3_13 wt1_14 wt6_119) rfl rfl rfl (by decide +kernel) ⟨by decide, by decide⟩) hK hP hD hS hA mIs [] rfl (wr := []) rfl rfl rfl (fun i h => by cases h) 0 12 rfl rfl rfl hl.1 rfl (Nat.le_of_ble_eq_true rfl) dX12_ticks_1 ⟨Nat.le_refl _, Nat.le_refl _⟩ (fun v2 u3 H locs hw1 hP hD hS => ?_)
  have hP : va_P D vwCl (mW K o r f a g) H := hP
  have hD : va_D A (mW K o r f a g) := hD
  refine lv_istore_n (lv' := [(2, .int v2), (0, .ref o), (1, .int who)]) hx hb dX12_ticks_4 rfl hl (by decide) rfl (fun ls hl => ?_)
  refine lv_iconst (v := 0) hx hb dX12_ticks_5 (by decide) ?_
  refine lv_istore_n (lv' := [(3, .int 0), (2, .int v2), (0, .ref o), (1, .int who)]) hx hb dX12_ticks_6 rfl hl (by decide) rfl (fun ls hl => ?_)
  have lp8 : ∀ (n9 : Nat) (F5 : Nat → Int32) (B6 : Nat → Nat → Int32) (G7 : Nat → Int64) (H : Heap) (locs : List Loc) (ls : Array Slot) (y4 : Int32), (6 < y4.toInt + (n9 : Int)) → (mI F5 B6) → (mE (XR [(0, 23)]) f a F5 B6) → (mZ [22, 23, 24, 25] [2, 26, 29, 30] f a F5 B6) → (kb 0 y4 6) → va_P D vwCl (mW K o r F5 B6 G7) H → va_D A (mW K o r F5 B6 G7) → va_S A s.heap H locs → lv_has ls 5 [(3, .int y4), (2, .int v2), (0, .ref o), (1, .int who)] → W p l e (rmD 50 0 0) s m ([.ref o, .int who] : List Value).toArray below meth c H locs 0 0 (kQi D (tysK K) (fun v (u : mS) => kb 0 v 10 ∧ mI u.1 u.2.1 ∧ mE (XR [(0, 23)]) f a u.1 u.2.1 ∧ mZ [22, 23, 24, 25] [2, 26, 29, 30] f a u.1 u.2.1) (fun u => mW K o r u.1 u.2.1 u.2.2) A below ([.ref o, .int who] : List Value).toArray s 0 0) (F0 m 7 ls []) := by
    intro n9
    induction n9 with
    | zero =>
      intro  F5 B6 G7  H locs ls y4 hmlp8 hI hE hZ b10 hP hD hS hl
      exact (by have h1 := b10.2; have h2 := hmlp8; omega : False).elim
    | succ n9 ihlp8 =>
      intro  F5 B6 G7  H locs ls y4 hmlp8 hI hE hZ b10 hP hD hS hl
      refine lv_iload_n hx hb dX12_ticks_7 rfl (lv_at hl 0 rfl) ?_
      refine lv_aload_n hx hb dX12_ticks_8 rfl (lv_at hl 2 rfl) ?_
      refine va_get (D := D) (ci := 12) (v := .ref (r 2)) (C := RX12) (T := TX12) (N := 48) hx hb hg inC12 hown hK hP 0 rfl rfl 2 (by decide) (hg _ wt5_162) (fun _ h9 => h9) rfl dX12_ticks_9 ?_
      refine lv_bipush (v := 103) hx hb dX12_ticks_12 (by decide) ?_
      refine va_iald hx hb hK hP 2 0 rfl rfl (kb_in kc_103 (by decide) (by decide)) dX12_ticks_14 ?_
      refine lv_topi (fun t11 et11 => ?_)
      rw [cl_103] at et11
      have b12 : kb 0 t11 6 := kb_eq et11 (aI_at hI.2.1 2 103 (by decide) (by decide))
      refine lv_icmp_ge (tgt := 111) hx hb dX12_ticks_15 (by decide) (fun c13 => ?_) (fun c13 => ?_)
      · have h14 := (kc_le c13)
        refine lv_iconst (v := 0) hx hb dX12_ticks_111 (by decide) ?_
        refine lv_istore_n (lv' := [(3, .int 0), (2, .int v2), (0, .ref o), (1, .int who)]) hx hb dX12_ticks_112 rfl hl (by decide) rfl (fun ls hl => ?_)
        have lp17 : ∀ (n18 : Nat) (B16 : Nat → Nat → Int32) (H : Heap) (locs : List Loc) (ls : Array Slot) (y15 : Int32), (6 < y15.toInt + (n18 : Int)) → (mI F5 B16) → (mE (XR [(0, 23)]) f a F5 B16) → (mZ [22, 23, 24, 25] [2, 26, 29, 30] f a F5 B16) → (kb 0 y15 6) → va_P D vwCl (mW K o r F5 B16 G7) H → va_D A (mW K o r F5 B16 G7) → va_S A s.heap H locs → lv_has ls 5 [(3, .int y15), (2, .int v2), (0, .ref o), (1, .int who)] → W p l e (rmD 50 0 0) s m ([.ref o, .int who] : List Value).toArray below meth c H locs 0 0 (kQi D (tysK K) (fun v (u : mS) => kb 0 v 10 ∧ mI u.1 u.2.1 ∧ mE (XR [(0, 23)]) f a u.1 u.2.1 ∧ mZ [22, 23, 24, 25] [2, 26, 29, 30] f a u.1 u.2.1) (fun u => mW K o r u.1 u.2.1 u.2.2) A below ([.ref o, .int who] : List Value).toArray s 0 0) (F0 m 113 ls []) := by
          intro n18
          induction n18 with
          | zero =>
            intro  B16  H locs ls y15 hmlp17 hI hE hZ b19 hP hD hS hl
            exact (by have h1 := b19.2; have h2 := hmlp17; omega : False).elim
          | succ n18 ihlp17 =>
            intro  B16  H locs ls y15 hmlp17 hI hE hZ b19 hP hD hS hl
            refine lv_iload_n hx hb dX12_ticks_113 rfl (lv_at hl 0 rfl) ?_
            refine lv_aload_n hx hb dX12_ticks_114 rfl (lv_at hl 2 rfl) ?_
            refine va_get (D := D) (ci := 12) (v := .ref (r 2)) (C := RX12) (T := TX12) (N := 48) hx hb hg inC12 hown hK hP 0 rfl rfl 2 (by decide) (hg _ wt5_162) (fun _ h9 => h9) rfl dX12_ticks_115 ?_
            refine lv_bipush (v := 103) hx hb dX12_ticks_118 (by decide) ?_
            refine va_iald hx hb hK hP 2 0 rfl rfl (kb_in kc_103 (by decide) (by decide)) dX12_ticks_120 ?_
            refine lv_topi (fun t20 et20 => ?_)
            rw [cl_103] at et20
            have b21 : kb 0 t20 6 := kb_eq et20 (aI_at hI.2.1 2 103 (by decide) (by decide))
            refine lv_icmp_ge (tgt := 221) hx hb dX12_ticks_121 (by decide) (fun c22 => ?_) (fun c22 => ?_)
            · have h23 := (kc_le c22)
              refine lv_iconst (v := 0) hx hb dX12_ticks_221 (by decide) ?_
              refine lv_istore_n (lv' := [(3, .int 0), (2, .int v2), (0, .ref o), (1, .int who)]) hx hb dX12_ticks_222 rfl hl (by decide) rfl (fun ls hl => ?_)
              have lp26 : ∀ (n27 : Nat) (B25 : Nat → Nat → Int32) (H : Heap) (locs : List Loc) (ls : Array Slot) (y24 : Int32), (6 < y24.toInt + (n27 : Int)) → (mI F5 B25) → (mE (XR [(0, 23)]) f a F5 B25) → (mZ [22, 23, 24, 25] [2, 26, 29, 30] f a F5 B25) → (kb 0 y24 6) → va_P D vwCl (mW K o r F5 B25 G7) H → va_D A (mW K o r F5 B25 G7) → va_S A s.heap H locs → lv_has ls 5 [(3, .int y24), (2, .int v2), (0, .ref o), (1, .int who)] → W p l e (rmD 50 0 0) s m ([.ref o, .int who] : List Value).toArray below meth c H locs 0 0 (kQi D (tysK K) (fun v (u : mS) => kb 0 v 10 ∧ mI u.1 u.2.1 ∧ mE (XR [(0, 23)]) f a u.1 u.2.1 ∧ mZ [22, 23, 24, 25] [2, 26, 29, 30] f a u.1 u.2.1) (fun u => mW K o r u.1 u.2.1 u.2.2) A below ([.ref o, .int who] : List Value).toArray s 0 0) (F0 m 223 ls []) := by
                intro n27
                induction n27 with
                | zero =>
                  intro  B25  H locs ls y24 hmlp26 hI hE hZ b28 hP hD hS hl
                  exact (by have h1 := b28.2; have h2 := hmlp26; omega : False).elim
                | succ n27 ihlp26 =>
                  intro  B25  H locs ls y24 hmlp26 hI hE hZ b28 hP hD hS hl
                  refine lv_iload_n hx hb dX12_ticks_223 rfl (lv_at hl 0 rfl) ?_
                  refine lv_aload_n hx hb dX12_ticks_224 rfl (lv_at hl 2 rfl) ?_
                  refine va_get (D := D) (ci := 12) (v := .ref (r 2)) (C := RX12) (T := TX12) (N := 48) hx hb hg inC12 hown hK hP 0 rfl rfl 2 (by decide) (hg _ wt5_162) (fun _ h9 => h9) rfl dX12_ticks_225 ?_
                  refine lv_bipush (v := 103) hx hb dX12_ticks_228 (by decide) ?_
                  refine va_iald hx hb hK hP 2 0 rfl rfl (kb_in kc_103 (by decide) (by decide)) dX12_ticks_230 ?_
                  refine lv_topi (fun t29 et29 => ?_)
                  rw [cl_103] at et29
                  have b30 : kb 0 t29 6 := kb_eq et29 (aI_at hI.2.1 2 103 (by decide) (by decide))
                  refine lv_icmp_ge (tgt := 279) hx hb dX12_ticks_231 (by decide) (fun c31 => ?_) (fun c31 => ?_)
                  · have h32 := (kc_le c31)
                    refine lv_aload_n hx hb dX12_ticks_279 rfl (lv_at hl 2 rfl) ?_
                    refine va_get (D := D) (ci := 12) (v := .ref (r 2)) (C := RX12) (T := TX12) (N := 48) hx hb hg inC12 hown hK hP 0 rfl rfl 2 (by decide) (hg _ wt5_162) (fun _ h9 => h9) rfl dX12_ticks_280 ?_
                    refine lv_bipush (v := 22) hx hb dX12_ticks_283 (by decide) ?_
                    refine lv_dup2_11 hx hb dX12_ticks_285 rfl rfl ?_
                    refine va_iald hx hb hK hP 2 0 rfl rfl (kb_in kc_22 (by decide) (by decide)) dX12_ticks_286 ?_
                    refine lv_topi (fun t33 et33 => ?_)
                    rw [cl_22] at et33
                    refine lv_iconst (v := 1) hx hb dX12_ticks_287 (by decide) ?_
                    refine lv_iadd hx hb dX12_ticks_288 ?_
                    refine lv_topi (fun t34 et34 => ?_)
                    refine va_iast hx hb hK hP hD hS 2 0 rfl rfl (kb_in kc_22 (by decide) (by decide)) dX12_ticks_289 (fun H locs hP hD hS => ?_)
                    rw [cl_22] at hP hD
                    have hP : va_P D vwCl (mW K o r F5 (va_up B25 2 (upd (B25 2) 22 t34)) G7) H := hP
                    have hD : va_D A (mW K o r F5 (va_up B25 2 (upd (B25 2) 22 t34)) G7) := hD
                    refine k_gen (P := fun z => va_P D vwCl (mW K o r F5 z G7) H ∧ va_D A (mW K o r F5 z G7) ∧ (mI F5 z) ∧ (mE (XR [(0, 23)]) f a F5 z) ∧ (mZ [22, 23, 24, 25] [2, 26, 29, 30] f a F5 z)) (va_up B25 2 (upd (B25 2) 22 t34)) ⟨hP, hD, (mI_2 hI (aI_st hI.2.1 2 22 (kb_any t34) (by decide) (by decide)) (by decide)), (mE_2 hE (by decide)), (mZ_a hZ rfl)⟩ (fun a_35 ea_35 hq => ?_)
                    obtain ⟨hP, hD, hI, hE, hZ⟩ := hq
                    refine lv_aload_n hx hb dX12_ticks_290 rfl (lv_at hl 2 rfl) ?_
                    refine kI.callV (As := []) (rest := []) ⟨hx, hb, hml, hown, hg⟩ (m_standing l o r F5 a_35 G7 hI   ) (cwV 0 hg (kgV wt6_116 wt6_118 wp3_13 wt1_14 wt6_119) rfl rfl rfl (by decide +kernel) ⟨by decide, by decide⟩) hK hP hD hS hA mIs [] rfl (wr := []) rfl rfl rfl (fun i h => by cases h) 0 12 rfl rfl rfl hl.1 rfl (Nat.le_of_ble_eq_true rfl) dX12_ticks_291 ⟨Nat.le_refl _, Nat.le_refl _⟩ (fun v37 u38 H locs hw36 hP hD hS => ?_)
                    have hP : va_P D vwCl (mW K o r F5 a_35 G7) H := hP
                    have hD : va_D A (mW K o r F5 a_35 G7) := hD
                    refine lv_iload_n hx hb dX12_ticks_294 rfl (lv_at hl 1 rfl) ?_
                    refine lv_iconst (v := (-1)) hx hb dX12_ticks_295 (by decide) ?_
                    refine lv_ixor hx hb dX12_ticks_296 ?_
                    refine lv_topi (fun t39 et39 => ?_)
                    refine lv_iand hx hb dX12_ticks_297 ?_
                    refine lv_topi (fun t40 et40 => ?_)
                    refine kN.callS (As := [.int t40]) (rest := []) ⟨hx, hb, hml, hown, hg⟩ (m_ones l t40 ) (va_cwS 1 hg (kgS wt7_71 wt7_72 wt1_14 wt7_73) rfl rfl rfl (by decide +kernel) ⟨by decide, by decide⟩) hP hS rfl hl.1 rfl (Nat.le_of_ble_eq_true rfl) dX12_ticks_298 ⟨Nat.le_refl _, Nat.le_refl _⟩ (fun v42 H locs hw41 hP hS => ?_)
                    exact kI_ret (v := v42) hx hb hr hlocks rfl hK hS dX12_ticks_301 (F5, a_35, G7) hP hD ⟨hw41, hI, hE, hZ⟩
                  · have h44 := (kc_nle c31)
                    have b45 : kb 0 y24 5 := kr_lt1 h44 b28 b30 (by decide)
                    have b46 : kb 1 t29 6 := kr_lt2 h44 b28 b30 (by decide)
                    refine lv_aload_n hx hb dX12_ticks_234 rfl (lv_at hl 2 rfl) ?_
                    refine va_get (D := D) (ci := 12) (v := .ref (r 2)) (C := RX12) (T := TX12) (N := 48) hx hb hg inC12 hown hK hP 0 rfl rfl 2 (by decide) (hg _ wt5_162) (fun _ h9 => h9) rfl dX12_ticks_235 ?_
                    refine lv_bipush (v := 16) hx hb dX12_ticks_238 (by decide) ?_
                    refine lv_iload_n hx hb dX12_ticks_240 rfl (lv_at hl 0 rfl) ?_
                    refine lv_iadd hx hb dX12_ticks_241 ?_
                    refine lv_topi (fun t47 et47 => ?_)
                    have b48 : kb 16 t47 21 := kb_eq et47 (kb_add kc_16 b45 (by decide) (by decide))
                    have qt47 : t47.toInt = 16 + y24.toInt := by rw [et47]; exact kt_cadd kc_16 b45 (by decide) (by decide)
                    refine va_iald hx hb hK hP 2 0 rfl rfl (kb_in b48 (by decide) (by decide)) dX12_ticks_242 ?_
                    refine lv_topi (fun t49 et49 => ?_)
                    have b50 : kb (-1) t49 9 := kb_eq et49 (aI_ld hI.2.1 2 16 6 b48 (by decide) (by decide) (by decide +kernel))
                    refine lv_iconst (v := (-1)) hx hb dX12_ticks_243 (by decide) ?_
                    have jn61 : ∀ (B60 : Nat → Nat → Int32) (H : Heap) (locs : List Loc) (ls : Array Slot), (mI F5 B60) → (mE (XR [(0, 23)]) f a F5 B60) → (mZ [22, 23, 24, 25] [2, 26, 29, 30] f a F5 B60) → va_P D vwCl (mW K o r F5 B60 G7) H → va_D A (mW K o r F5 B60 G7) → va_S A s.heap H locs → lv_has ls 5 [(3, .int y24), (2, .int v2), (0, .ref o), (1, .int who)] → W p l e (rmD 50 0 0) s m ([.ref o, .int who] : List Value).toArray below meth c H locs 0 0 (kQi D (tysK K) (fun v (u : mS) => kb 0 v 10 ∧ mI u.1 u.2.1 ∧ mE (XR [(0, 23)]) f a u.1 u.2.1 ∧ mZ [22, 23, 24, 25] [2, 26, 29, 30] f a u.1 u.2.1) (fun u => mW K o r u.1 u.2.1 u.2.2) A below ([.ref o, .int who] : List Value).toArray s 0 0) (F0 m 273 ls []) := by
                      intro B60  H locs ls  hI hE hZ hP hD hS hl
                      obtain ⟨t62, et62⟩ : ∃ z : Int32, z = y24 + Int32.ofInt 1 := ⟨_, rfl⟩
                      have qt62 : t62.toInt = y24.toInt + 1 := by rw [et62]; exact km_inc b45 (by decide) (by decide)
                      have b63 : kb 1 t62 6 := kb_inc (k := 1) qt62 b45
                      refine lv_iinc (v := t62) (lv' := [(3, .int t62), (2, .int v2), (0, .ref o), (1, .int who)]) hx hb dX12_ticks_273 hl (k := 0) rfl et62.symm (by decide) rfl (fun ls hl => ?_)
                      refine lv_goto (tgt := 223) hx hb dX12_ticks_276 (by decide) ?_
                      exact ihlp26  B60 _ _ _ t62 (km_up hmlp26 qt62) hI hE hZ (kb_w b63 (by decide) (by decide)) hP hD hS (lv_sub hl [0, 1, 2, 3] rfl)
                    refine lv_icmp_eq (tgt := 273) hx hb dX12_ticks_244 (by decide) (fun c64 => ?_) (fun c64 => ?_)
                    · have b65 : kb (-1) t49 (-1) := kb_eq c64 kc_m1
                      exact jn61 B25 _ _ _  hI hE hZ hP hD hS (lv_sub hl [0, 1, 2, 3] rfl)
                    · have b66 : kb 0 t49 9 := kr_nel c64 b50 kc_m1 (by decide)
                      refine lv_aload_n hx hb dX12_ticks_247 rfl (lv_at hl 2 rfl) ?_
                      refine lv_aload_n hx hb dX12_ticks_248 rfl (lv_at hl 2 rfl) ?_
                      refine va_get (D := D) (ci := 12) (v := .ref (r 2)) (C := RX12) (T := TX12) (N := 48) hx hb hg inC12 hown hK hP 0 rfl rfl 2 (by decide) (hg _ wt5_162) (fun _ h9 => h9) rfl dX12_ticks_249 ?_
                      refine lv_bipush (v := 16) hx hb dX12_ticks_252 (by decide) ?_
                      refine lv_iload_n hx hb dX12_ticks_254 rfl (lv_at hl 0 rfl) ?_
                      refine lv_iadd hx hb dX12_ticks_255 ?_
                      refine k_top (z := t47) et47.symm ?_
                      refine va_iald hx hb hK hP 2 0 rfl rfl (kb_in b48 (by decide) (by decide)) dX12_ticks_256 ?_
                      refine k_top (z := t49) et49.symm ?_
                      refine kI.callV (As := [.int t49]) (rest := []) ⟨hx, hb, hml, hown, hg⟩ (m_stands0 l o r F5 B25 G7 hI t49 (kb_w b66 (by decide) (by decide)) ) (cwV 1 hg (kgV wt6_112 wt6_114 wp3_12 wt1_14 wt6_115) rfl rfl rfl (by decide +kernel) ⟨by decide, by decide⟩) hK hP hD hS hA mIs [] rfl (wr := []) rfl rfl rfl (fun i h => by cases h) 0 12 rfl rfl rfl hl.1 rfl (Nat.le_of_ble_eq_true rfl) dX12_ticks_257 ⟨Nat.le_refl _, Nat.le_refl _⟩ (fun v68 u69 H locs hw67 hP hD hS => ?_)
                      have hP : va_P D vwCl (mW K o r F5 B25 G7) H := hP
                      have hD : va_D A (mW K o r F5 B25 G7) := hD
                      refine lv_if_eq (tgt := 273) hx hb dX12_ticks_260 (by decide) (fun c70 => ?_) (fun c70 => ?_)
                      · have b71 : kb 0 v68 0 := kb_eq c70 kc_0
                        exact jn61 B25 _ _ _  hI hE hZ hP hD hS (lv_sub hl [0, 1, 2, 3] rfl)
                      · have b72 : kb 1 v68 1 := kr_nel c70 hw67 kc_0 (by decide)
                        refine lv_aload_n hx hb dX12_ticks_263 rfl (lv_at hl 2 rfl) ?_
                        refine va_get (D := D) (ci := 12) (v := .ref (r 2)) (C := RX12) (T := TX12) (N := 48) hx hb hg inC12 hown hK hP 0 rfl rfl 2 (by decide) (hg _ wt5_162) (fun _ h9 => h9) rfl dX12_ticks_264 ?_
                        refine lv_bipush (v := 16) hx hb dX12_ticks_267 (by decide) ?_
                        refine lv_iload_n hx hb dX12_ticks_269 rfl (lv_at hl 0 rfl) ?_
                        refine lv_iadd hx hb dX12_ticks_270 ?_
                        refine k_top (z := t47) et47.symm ?_
                        refine lv_iconst (v := (-1)) hx hb dX12_ticks_271 (by decide) ?_
                        refine va_iast hx hb hK hP hD hS 2 0 rfl rfl (kb_in b48 (by decide) (by decide)) dX12_ticks_272 (fun H locs hP hD hS => ?_)
                        have hP : va_P D vwCl (mW K o r F5 (va_up B25 2 (upd (B25 2) t47.toNatClampNeg (-1))) G7) H := hP
                        have hD : va_D A (mW K o r F5 (va_up B25 2 (upd (B25 2) t47.toNatClampNeg (-1))) G7) := hD
                        refine k_gen (P := fun z => va_P D vwCl (mW K o r F5 z G7) H ∧ va_D A (mW K o r F5 z G7) ∧ (mI F5 z) ∧ (mE (XR [(0, 23)]) f a F5 z) ∧ (mZ [22, 23, 24, 25] [2, 26, 29, 30] f a F5 z)) (va_up B25 2 (upd (B25 2) t47.toNatClampNeg (-1))) ⟨hP, hD, (mI_2 hI (aI_sx hI.2.1 2 16 6 b48 (by decide) (by decide) kc_m1 (by decide +kernel)) (kb_clt b48 (by decide) (by decide))), (mE_2 hE (bX_at 16 6 b48 (by decide) (by decide) (by decide))), (mZ_a hZ rfl)⟩ (fun a_73 ea_73 hq => ?_)
                        obtain ⟨hP, hD, hI, hE, hZ⟩ := hq
                        exact jn61 a_73 _ _ _  hI hE hZ hP hD hS (lv_sub hl [0, 1, 2, 3] rfl)
              exact lp26 (7)  B16 _ _ _ 0 (by have h1 := (kc_0); unfold kb at h1; omega) hI hE hZ (kb_w kc_0 (by decide) (by decide)) hP hD hS (lv_sub hl [0, 1, 2, 3] rfl)
            · have h74 := (kc_nle c22)
              have b75 : kb 0 y15 5 := kr_lt1 h74 b19 b21 (by decide)
              have b76 : kb 1 t20 6 := kr_lt2 h74 b19 b21 (by decide)
              refine lv_iload_n hx hb dX12_ticks_124 rfl (lv_at hl 3 rfl) ?_
              refine lv_iload_n hx hb dX12_ticks_125 rfl (lv_at hl 0 rfl) ?_
              refine kN.callS (As := [.int who, .int y15]) (rest := []) ⟨hx, hb, hml, hown, hg⟩ (m_isIn l who y15 ) (va_cwS 2 hg (kgS wt6_124 wt6_125 wt1_14 wt6_126) rfl rfl rfl (by decide +kernel) ⟨by decide, by decide⟩) hP hS rfl hl.1 rfl (Nat.le_of_ble_eq_true rfl) dX12_ticks_126 ⟨Nat.le_refl _, Nat.le_refl _⟩ (fun v78 H locs hw77 hP hS => ?_)
              have jn133 : ∀ (B132 : Nat → Nat → Int32) (H : Heap) (locs : List Loc) (ls : Array Slot), (mI F5 B132) → (mE (XR [(0, 23)]) f a F5 B132) → (mZ [22, 23, 24, 25] [2, 26, 29, 30] f a F5 B132) → va_P D vwCl (mW K o r F5 B132 G7) H → va_D A (mW K o r F5 B132 G7) → va_S A s.heap H locs → lv_has ls 5 [(3, .int y15), (2, .int v2), (0, .ref o), (1, .int who)] → W p l e (rmD 50 0 0) s m ([.ref o, .int who] : List Value).toArray below meth c H locs 0 0 (kQi D (tysK K) (fun v (u : mS) => kb 0 v 10 ∧ mI u.1 u.2.1 ∧ mE (XR [(0, 23)]) f a u.1 u.2.1 ∧ mZ [22, 23, 24, 25] [2, 26, 29, 30] f a u.1 u.2.1) (fun u => mW K o r u.1 u.2.1 u.2.2) A below ([.ref o, .int who] : List Value).toArray s 0 0) (F0 m 215 ls []) := by
                intro B132  H locs ls  hI hE hZ hP hD hS hl
                obtain ⟨t134, et134⟩ : ∃ z : Int32, z = y15 + Int32.ofInt 1 := ⟨_, rfl⟩
                have qt134 : t134.toInt = y15.toInt + 1 := by rw [et134]; exact km_inc b75 (by decide) (by decide)
                have b135 : kb 1 t134 6 := kb_inc (k := 1) qt134 b75
                refine lv_iinc (v := t134) (lv' := [(3, .int t134), (2, .int v2), (0, .ref o), (1, .int who)]) hx hb dX12_ticks_215 hl (k := 0) rfl et134.symm (by decide) rfl (fun ls hl => ?_)
                refine lv_goto (tgt := 113) hx hb dX12_ticks_218 (by decide) ?_
                exact ihlp17  B132 _ _ _ t134 (km_up hmlp17 qt134) hI hE hZ (kb_w b135 (by decide) (by decide)) hP hD hS (lv_sub hl [0, 1, 2, 3] rfl)
              refine lv_if_ne (tgt := 135) hx hb dX12_ticks_129 (by decide) (fun c136 => ?_) (fun c136 => ?_)
              · have b137 : kb 1 v78 1 := kr_nel c136 hw77 kc_0 (by decide)
                refine lv_aload_n hx hb dX12_ticks_135 rfl (lv_at hl 2 rfl) ?_
                refine va_get (D := D) (ci := 12) (v := .ref (r 2)) (C := RX12) (T := TX12) (N := 48) hx hb hg inC12 hown hK hP 0 rfl rfl 2 (by decide) (hg _ wt5_162) (fun _ h9 => h9) rfl dX12_ticks_136 ?_
                refine lv_bipush (v := 16) hx hb dX12_ticks_139 (by decide) ?_
                refine lv_iload_n hx hb dX12_ticks_141 rfl (lv_at hl 0 rfl) ?_
                refine lv_iadd hx hb dX12_ticks_142 ?_
                refine lv_topi (fun t138 et138 => ?_)
                have b139 : kb 16 t138 21 := kb_eq et138 (kb_add kc_16 b75 (by decide) (by decide))
                have qt138 : t138.toInt = 16 + y15.toInt := by rw [et138]; exact kt_cadd kc_16 b75 (by decide) (by decide)
                refine va_iald hx hb hK hP 2 0 rfl rfl (kb_in b139 (by decide) (by decide)) dX12_ticks_143 ?_
                refine lv_topi (fun t140 et140 => ?_)
                have b141 : kb (-1) t140 9 := kb_eq et140 (aI_ld hI.2.1 2 16 6 b139 (by decide) (by decide) (by decide +kernel))
                refine lv_istore (lv' := [(4, .int t140), (3, .int y15), (2, .int v2), (0, .ref o), (1, .int who)]) hx hb dX12_ticks_144 hl (by decide) rfl (fun ls hl => ?_)
                refine lv_iload hx hb dX12_ticks_146 (lv_at hl 0 rfl) ?_
                refine lv_iconst (v := (-1)) hx hb dX12_ticks_148 (by decide) ?_
                have jn156 : ∀ (B155 : Nat → Nat → Int32) (H : Heap) (locs : List Loc) (ls : Array Slot), (mI F5 B155) → (mE (XR [(0, 23)]) f a F5 B155) → (mZ [22, 23, 24, 25] [2, 26, 29, 30] f a F5 B155) → va_P D vwCl (mW K o r F5 B155 G7) H → va_D A (mW K o r F5 B155 G7) → va_S A s.heap H locs → lv_has ls 5 [(4, .int t140), (3, .int y15), (2, .int v2), (0, .ref o), (1, .int who)] → W p l e (rmD 50 0 0) s m ([.ref o, .int who] : List Value).toArray below meth c H locs 0 0 (kQi D (tysK K) (fun v (u : mS) => kb 0 v 10 ∧ mI u.1 u.2.1 ∧ mE (XR [(0, 23)]) f a u.1 u.2.1 ∧ mZ [22, 23, 24, 25] [2, 26, 29, 30] f a u.1 u.2.1) (fun u => mW K o r u.1 u.2.1 u.2.2) A below ([.ref o, .int who] : List Value).toArray s 0 0) (F0 m 181 ls []) := by
                  intro B155  H locs ls  hI hE hZ hP hD hS hl
                  refine lv_aload_n hx hb dX12_ticks_181 rfl (lv_at hl 3 rfl) ?_
                  refine va_get (D := D) (ci := 12) (v := .ref (r 2)) (C := RX12) (T := TX12) (N := 48) hx hb hg inC12 hown hK hP 0 rfl rfl 2 (by decide) (hg _ wt5_162) (fun _ h9 => h9) rfl dX12_ticks_182 ?_
                  refine lv_bipush (v := 10) hx hb dX12_ticks_185 (by decide) ?_
                  refine lv_iload_n hx hb dX12_ticks_187 rfl (lv_at hl 1 rfl) ?_
                  refine lv_iadd hx hb dX12_ticks_188 ?_
                  refine lv_topi (fun t157 et157 => ?_)
                  have b158 : kb 10 t157 15 := kb_eq et157 (kb_add kc_10 b75 (by decide) (by decide))
                  have qt157 : t157.toInt = 10 + y15.toInt := by rw [et157]; exact kt_cadd kc_10 b75 (by decide) (by decide)
                  refine lv_iconst (v := 0) hx hb dX12_ticks_189 (by decide) ?_
                  refine lv_bipush (v := 99) hx hb dX12_ticks_190 (by decide) ?_
                  refine lv_aload_n hx hb dX12_ticks_192 rfl (lv_at hl 3 rfl) ?_
                  refine va_get (D := D) (ci := 12) (v := .ref (r 2)) (C := RX12) (T := TX12) (N := 48) hx hb hg inC12 hown hK hP 0 rfl rfl 2 (by decide) (hg _ wt5_162) (fun _ h9 => h9) rfl dX12_ticks_193 ?_
                  refine lv_bipush (v := 10) hx hb dX12_ticks_196 (by decide) ?_
                  refine lv_iload_n hx hb dX12_ticks_198 rfl (lv_at hl 1 rfl) ?_
                  refine lv_iadd hx hb dX12_ticks_199 ?_
                  refine k_top (z := t157) et157.symm ?_
                  refine va_iald hx hb hK hP 2 0 rfl rfl (kb_in b158 (by decide) (by decide)) dX12_ticks_200 ?_
                  refine lv_topi (fun t159 et159 => ?_)
                  have b160 : kb 0 t159 99 := kb_eq et159 (aI_ld hI.2.1 2 10 6 b158 (by decide) (by decide) (by decide +kernel))
                  refine lv_aload_n hx hb dX12_ticks_201 rfl (lv_at hl 3 rfl) ?_
                  refine va_get (D := D) (ci := 12) (v := .ref (r 30)) (C := RX12) (T := TX12) (N := 48) hx hb hg inC12 hown hK hP 0 rfl rfl 30 (by decide) (hg _ wt5_190) (fun _ h9 => h9) rfl dX12_ticks_202 ?_
                  refine lv_iload_n hx hb dX12_ticks_205 rfl (lv_at hl 1 rfl) ?_
                  refine va_iald hx hb hK hP 14 0 rfl rfl (kb_in b75 (by decide) (by decide)) dX12_ticks_206 ?_
                  refine lv_topi (fun t161 et161 => ?_)
                  have b162 : kb (-2) t161 20 := kb_eq et161 (aI_ld hI.2.1 30 0 6 b75 (by decide) (by decide) (by decide +kernel))
                  refine lv_iadd hx hb dX12_ticks_207 ?_
                  refine lv_topi (fun t163 et163 => ?_)
                  have b164 : kb (-2) t163 119 := kb_eq et163 (kb_add b160 b162 (by decide) (by decide))
                  have qt163 : t163.toInt = t159.toInt + t161.toInt := by rw [et163]; exact kt_add b160 b162 (by decide) (by decide)
                  refine kN.callS (As := [.int 99, .int t163]) (rest := [.int 0, .int t157, .ref (r 2)]) ⟨hx, hb, hml, hown, hg⟩ (m_lesser l 99 t163 ) (va_cwS 2 hg (kgS wt7_172 wt7_173 wt1_14 wt7_174) rfl rfl rfl (by decide +kernel) ⟨by decide, by decide⟩) hP hS rfl hl.1 rfl (Nat.le_of_ble_eq_true rfl) dX12_ticks_208 ⟨Nat.le_refl _, Nat.le_refl _⟩ (fun v166 H locs hw165 hP hS => ?_)
                  have b168 : kb (-2) v166 99 := kb_min hw165.2.1 hw165.2.2.1 hw165.2.2.2 kc_99 b164 (by decide) (by decide) (by decide)
                  refine kN.callS (As := [.int 0, .int v166]) (rest := [.int t157, .ref (r 2)]) ⟨hx, hb, hml, hown, hg⟩ (m_greater l 0 v166 ) (va_cwS 2 hg (kgS wt6_127 wt6_128 wt1_14 wt6_129) rfl rfl rfl (by decide +kernel) ⟨by decide, by decide⟩) hP hS rfl hl.1 rfl (Nat.le_of_ble_eq_true rfl) dX12_ticks_211 ⟨Nat.le_refl _, Nat.le_refl _⟩ (fun v170 H locs hw169 hP hS => ?_)
                  have b172 : kb 0 v170 99 := kb_max hw169.2.1 hw169.2.2.1 hw169.2.2.2 kc_0 b168 (by decide) (by decide) (by decide)
                  refine va_iast hx hb hK hP hD hS 2 0 rfl rfl (kb_in b158 (by decide) (by decide)) dX12_ticks_214 (fun H locs hP hD hS => ?_)
                  have hP : va_P D vwCl (mW K o r F5 (va_up B155 2 (upd (B155 2) t157.toNatClampNeg v170)) G7) H := hP
                  have hD : va_D A (mW K o r F5 (va_up B155 2 (upd (B155 2) t157.toNatClampNeg v170)) G7) := hD
                  refine k_gen (P := fun z => va_P D vwCl (mW K o r F5 z G7) H ∧ va_D A (mW K o r F5 z G7) ∧ (mI F5 z) ∧ (mE (XR [(0, 23)]) f a F5 z) ∧ (mZ [22, 23, 24, 25] [2, 26, 29, 30] f a F5 z)) (va_up B155 2 (upd (B155 2) t157.toNatClampNeg v170)) ⟨hP, hD, (mI_2 hI (aI_sx hI.2.1 2 10 6 b158 (by decide) (by decide) b172 (by decide +kernel)) (kb_clt b158 (by decide) (by decide))), (mE_2 hE (bX_at 10 6 b158 (by decide) (by decide) (by decide))), (mZ_a hZ rfl)⟩ (fun a_173 ea_173 hq => ?_)
                  obtain ⟨hP, hD, hI, hE, hZ⟩ := hq
                  exact jn133 a_173 _ _ _  hI hE hZ hP hD hS (lv_sub hl [1, 2, 3, 4] rfl)
                refine lv_icmp_eq (tgt := 181) hx hb dX12_ticks_149 (by decide) (fun c174 => ?_) (fun c174 => ?_)
                · have b175 : kb (-1) t140 (-1) := kb_eq c174 kc_m1
                  exact jn156 B16 _ _ _  hI hE hZ hP hD hS (lv_sub hl [0, 1, 2, 3, 4] rfl)
                · have b176 : kb 0 t140 9 := kr_nel c174 b141 kc_m1 (by decide)
                  refine lv_aload_n hx hb dX12_ticks_152 rfl (lv_at hl 3 rfl) ?_
                  refine va_get (D := D) (ci := 12) (v := .ref (r 2)) (C := RX12) (T := TX12) (N := 48) hx hb hg inC12 hown hK hP 0 rfl rfl 2 (by decide) (hg _ wt5_162) (fun _ h9 => h9) rfl dX12_ticks_153 ?_
                  refine lv_iconst (v := 0) hx hb dX12_ticks_156 (by decide) ?_
                  refine lv_iload hx hb dX12_ticks_157 (lv_at hl 0 rfl) ?_
                  refine lv_iadd hx hb dX12_ticks_159 ?_
                  refine k_top (z := t140) (Int32.zero_add _) ?_
                  refine lv_iconst (v := 0) hx hb dX12_ticks_160 (by decide) ?_
                  refine lv_aload_n hx hb dX12_ticks_161 rfl (lv_at hl 3 rfl) ?_
                  refine va_get (D := D) (ci := 12) (v := .ref (r 2)) (C := RX12) (T := TX12) (N := 48) hx hb hg inC12 hown hK hP 0 rfl rfl 2 (by decide) (hg _ wt5_162) (fun _ h9 => h9) rfl dX12_ticks_162 ?_
                  refine lv_iconst (v := 0) hx hb dX12_ticks_165 (by decide) ?_
                  refine lv_iload hx hb dX12_ticks_166 (lv_at hl 0 rfl) ?_
                  refine lv_iadd hx hb dX12_ticks_168 ?_
                  refine k_top (z := t140) (Int32.zero_add _) ?_
                  refine va_iald hx hb hK hP 2 0 rfl rfl (kb_in b176 (by decide) (by decide)) dX12_ticks_169 ?_
                  refine lv_topi (fun t177 et177 => ?_)
                  have b178 : kb 0 t177 99 := kb_eq et177 (aI_ld hI.2.1 2 0 10 b176 (by decide) (by decide) (by decide +kernel))
                  refine lv_aload_n hx hb dX12_ticks_170 rfl (lv_at hl 3 rfl) ?_
                  refine va_get (D := D) (ci := 12) (v := .ref (r 29)) (C := RX12) (T := TX12) (N := 48) hx hb hg inC12 hown hK hP 0 rfl rfl 29 (by decide) (hg _ wt5_189) (fun _ h9 => h9) rfl dX12_ticks_171 ?_
                  refine lv_iload_n hx hb dX12_ticks_174 rfl (lv_at hl 1 rfl) ?_
                  refine va_iald hx hb hK hP 13 0 rfl rfl (kb_in b75 (by decide) (by decide)) dX12_ticks_175 ?_
                  refine lv_topi (fun t179 et179 => ?_)
                  have b180 : kb 0 t179 20 := kb_eq et179 (aI_ld hI.2.1 29 0 6 b75 (by decide) (by decide) (by decide +kernel))
                  refine lv_isub hx hb dX12_ticks_176 ?_
                  refine lv_topi (fun t181 et181 => ?_)
                  have b182 : kb (-20) t181 99 := kb_eq et181 (kb_sub b178 b180 (by decide) (by decide))
                  have qt181 : t181.toInt = t177.toInt - t179.toInt := by rw [et181]; exact kt_sub b178 b180 (by decide) (by decide)
                  refine kN.callS (As := [.int 0, .int t181]) (rest := [.int t140, .ref (r 2)]) ⟨hx, hb, hml, hown, hg⟩ (m_greater l 0 t181 ) (va_cwS 2 hg (kgS wt6_127 wt6_128 wt1_14 wt6_129) rfl rfl rfl (by decide +kernel) ⟨by decide, by decide⟩) hP hS rfl hl.1 rfl (Nat.le_of_ble_eq_true rfl) dX12_ticks_177 ⟨Nat.le_refl _, Nat.le_refl _⟩ (fun v184 H locs hw183 hP hS => ?_)
                  have b186 : kb 0 v184 99 := kb_max hw183.2.1 hw183.2.2.1 hw183.2.2.2 kc_0 b182 (by decide) (by decide) (by decide)
                  refine va_iast hx hb hK hP hD hS 2 0 rfl rfl (kb_in b176 (by decide) (by decide)) dX12_ticks_180 (fun H locs hP hD hS => ?_)
                  have hP : va_P D vwCl (mW K o r F5 (va_up B16 2 (upd (B16 2) t140.toNatClampNeg v184)) G7) H := hP
                  have hD : va_D A (mW K o r F5 (va_up B16 2 (upd (B16 2) t140.toNatClampNeg v184)) G7) := hD
                  refine k_gen (P := fun z => va_P D vwCl (mW K o r F5 z G7) H ∧ va_D A (mW K o r F5 z G7) ∧ (mI F5 z) ∧ (mE (XR [(0, 23)]) f a F5 z) ∧ (mZ [22, 23, 24, 25] [2, 26, 29, 30] f a F5 z)) (va_up B16 2 (upd (B16 2) t140.toNatClampNeg v184)) ⟨hP, hD, (mI_2 hI (aI_sx hI.2.1 2 0 10 b176 (by decide) (by decide) b186 (by decide +kernel)) (kb_clt b176 (by decide) (by decide))), (mE_2 hE (bX_at 0 10 b176 (by decide) (by decide) (by decide))), (mZ_a hZ rfl)⟩ (fun a_187 ea_187 hq => ?_)
                  obtain ⟨hP, hD, hI, hE, hZ⟩ := hq
                  exact jn156 a_187 _ _ _  hI hE hZ hP hD hS (lv_sub hl [0, 1, 2, 3, 4] rfl)
              · have b188 : kb 0 v78 0 := kb_eq c136 kc_0
                refine lv_goto (tgt := 215) hx hb dX12_ticks_132 (by decide) ?_
                exact jn133 B16 _ _ _  hI hE hZ hP hD hS (lv_sub hl [0, 1, 2, 3] rfl)
        exact lp17 (7)  B6 _ _ _ 0 (by have h1 := (kc_0); unfold kb at h1; omega) hI hE hZ (kb_w kc_0 (by decide) (by decide)) hP hD hS (lv_sub hl [0, 1, 2, 3] rfl)
      · have h189 := (kc_nle c13)
        have b190 : kb 0 y4 5 := kr_lt1 h189 b10 b12 (by decide)
        have b191 : kb 1 t11 6 := kr_lt2 h189 b10 b12 (by decide)
        refine lv_iload_n hx hb dX12_ticks_18 rfl (lv_at hl 3 rfl) ?_
        refine lv_iload_n hx hb dX12_ticks_19 rfl (lv_at hl 0 rfl) ?_
        refine kN.callS (As := [.int who, .int y4]) (rest := []) ⟨hx, hb, hml, hown, hg⟩ (m_isIn l who y4 ) (va_cwS 2 hg (kgS wt6_124 wt6_125 wt1_14 wt6_126) rfl rfl rfl (by decide +kernel) ⟨by decide, by decide⟩) hP hS rfl hl.1 rfl (Nat.le_of_ble_eq_true rfl) dX12_ticks_20 ⟨Nat.le_refl _, Nat.le_refl _⟩ (fun v193 H locs hw192 hP hS => ?_)
        refine lv_if_eq (tgt := 43) hx hb dX12_ticks_23 (by decide) (fun c195 => ?_) (fun c195 => ?_)
        · have b196 : kb 0 v193 0 := kb_eq c195 kc_0
          refine lv_iconst (v := 0) hx hb dX12_ticks_43 (by decide) ?_
          refine lv_istore (lv' := [(4, .int 0), (3, .int y4), (2, .int v2), (0, .ref o), (1, .int who)]) hx hb dX12_ticks_44 hl (by decide) rfl (fun ls hl => ?_)
          refine lv_aload_n hx hb dX12_ticks_46 rfl (lv_at hl 3 rfl) ?_
          refine va_get (D := D) (ci := 12) (v := .ref (r 29)) (C := RX12) (T := TX12) (N := 48) hx hb hg inC12 hown hK hP 0 rfl rfl 29 (by decide) (hg _ wt5_189) (fun _ h9 => h9) rfl dX12_ticks_47 ?_
          refine lv_iload_n hx hb dX12_ticks_50 rfl (lv_at hl 1 rfl) ?_
          refine lv_iload hx hb dX12_ticks_51 (lv_at hl 0 rfl) ?_
          refine lv_if_eq (tgt := 73) hx hb dX12_ticks_53 (by decide) (fun c197 => ?_) (fun c197 => ?_)
          · refine lv_iconst (v := 0) hx hb dX12_ticks_73 (by decide) ?_
            refine va_iast hx hb hK hP hD hS 13 0 rfl rfl (kb_in b190 (by decide) (by decide)) dX12_ticks_74 (fun H locs hP hD hS => ?_)
            have hP : va_P D vwCl (mW K o r F5 (va_up B6 29 (upd (B6 29) y4.toNatClampNeg 0)) G7) H := hP
            have hD : va_D A (mW K o r F5 (va_up B6 29 (upd (B6 29) y4.toNatClampNeg 0)) G7) := hD
            refine k_gen (P := fun z => va_P D vwCl (mW K o r F5 z G7) H ∧ va_D A (mW K o r F5 z G7) ∧ (mI F5 z) ∧ (mE (XR [(0, 23)]) f a F5 z) ∧ (mZ [22, 23, 24, 25] [2, 26, 29, 30] f a F5 z)) (va_up B6 29 (upd (B6 29) y4.toNatClampNeg 0)) ⟨hP, hD, (mI_s hI (aI_sx hI.2.1 29 0 6 b190 (by decide) (by decide) kc_0 (by decide +kernel)) (by decide) (by decide)), (mE_s hE (by decide) (by decide) (by decide) (by decide)), (mZ_a hZ rfl)⟩ (fun a_198 ea_198 hq => ?_)
            obtain ⟨hP, hD, hI, hE, hZ⟩ := hq
            refine lv_aload_n hx hb dX12_ticks_75 rfl (lv_at hl 3 rfl) ?_
            refine va_get (D := D) (ci := 12) (v := .ref (r 30)) (C := RX12) (T := TX12) (N := 48) hx hb hg inC12 hown hK hP 0 rfl rfl 30 (by decide) (hg _ wt5_190) (fun _ h9 => h9) rfl dX12_ticks_76 ?_
            refine lv_iload_n hx hb dX12_ticks_79 rfl (lv_at hl 1 rfl) ?_
            refine lv_iload hx hb dX12_ticks_80 (lv_at hl 0 rfl) ?_
            refine lv_if_eq (tgt := 102) hx hb dX12_ticks_82 (by decide) (fun c199 => ?_) (fun c199 => ?_)
            · refine lv_bipush (v := (-2)) hx hb dX12_ticks_102 (by decide) ?_
              refine va_iast hx hb hK hP hD hS 14 0 rfl rfl (kb_in b190 (by decide) (by decide)) dX12_ticks_104 (fun H locs hP hD hS => ?_)
              have hP : va_P D vwCl (mW K o r F5 (va_up a_198 30 (upd (a_198 30) y4.toNatClampNeg (-2))) G7) H := hP
              have hD : va_D A (mW K o r F5 (va_up a_198 30 (upd (a_198 30) y4.toNatClampNeg (-2))) G7) := hD
              refine k_gen (P := fun z => va_P D vwCl (mW K o r F5 z G7) H ∧ va_D A (mW K o r F5 z G7) ∧ (mI F5 z) ∧ (mE (XR [(0, 23)]) f a F5 z) ∧ (mZ [22, 23, 24, 25] [2, 26, 29, 30] f a F5 z)) (va_up a_198 30 (upd (a_198 30) y4.toNatClampNeg (-2))) ⟨hP, hD, (mI_s hI (aI_sx hI.2.1 30 0 6 b190 (by decide) (by decide) kc_m2 (by decide +kernel)) (by decide) (by decide)), (mE_s hE (by decide) (by decide) (by decide) (by decide)), (mZ_a hZ rfl)⟩ (fun a_200 ea_200 hq => ?_)
              obtain ⟨hP, hD, hI, hE, hZ⟩ := hq
              obtain ⟨t201, et201⟩ : ∃ z : Int32, z = y4 + Int32.ofInt 1 := ⟨_, rfl⟩
              have qt201 : t201.toInt = y4.toInt + 1 := by rw [et201]; exact km_inc b190 (by decide) (by decide)
              have b202 : kb 1 t201 6 := kb_inc (k := 1) qt201 b190
              refine lv_iinc (v := t201) (lv' := [(3, .int t201), (4, .int 0), (2, .int v2), (0, .ref o), (1, .int who)]) hx hb dX12_ticks_105 hl (k := 1) rfl et201.symm (by decide) rfl (fun ls hl => ?_)
              refine lv_goto (tgt := 7) hx hb dX12_ticks_108 (by decide) ?_
              exact ihlp8  F5 a_200 G7 _ _ _ t201 (km_up hmlp8 qt201) hI hE hZ (kb_w b202 (by decide) (by decide)) hP hD hS (lv_sub hl [0, 2, 3, 4] rfl)
            · exact kb_nsame c199 kc_0 kc_0
          · exact kb_nsame c197 kc_0 kc_0
        · have b203 : kb 1 v193 1 := kr_nel c195 hw192 kc_0 (by decide)
          refine lv_aload_n hx hb dX12_ticks_26 rfl (lv_at hl 2 rfl) ?_
          refine va_get (D := D) (ci := 12) (v := .ref (r 2)) (C := RX12) (T := TX12) (N := 48) hx hb hg inC12 hown hK hP 0 rfl rfl 2 (by decide) (hg _ wt5_162) (fun _ h9 => h9) rfl dX12_ticks_27 ?_
          refine lv_bipush (v := 16) hx hb dX12_ticks_30 (by decide) ?_
          refine lv_iload_n hx hb dX12_ticks_32 rfl (lv_at hl 0 rfl) ?_
          refine lv_iadd hx hb dX12_ticks_33 ?_
          refine lv_topi (fun t204 et204 => ?_)
          have b205 : kb 16 t204 21 := kb_eq et204 (kb_add kc_16 b190 (by decide) (by decide))
          have qt204 : t204.toInt = 16 + y4.toInt := by rw [et204]; exact kt_cadd kc_16 b190 (by decide) (by decide)
          refine va_iald hx hb hK hP 2 0 rfl rfl (kb_in b205 (by decide) (by decide)) dX12_ticks_34 ?_
          refine lv_topi (fun t206 et206 => ?_)
          have b207 : kb (-1) t206 9 := kb_eq et206 (aI_ld hI.2.1 2 16 6 b205 (by decide) (by decide) (by decide +kernel))
          refine lv_iconst (v := (-1)) hx hb dX12_ticks_35 (by decide) ?_
          refine lv_icmp_eq (tgt := 43) hx hb dX12_ticks_36 (by decide) (fun c208 => ?_) (fun c208 => ?_)
          · have b209 : kb (-1) t206 (-1) := kb_eq c208 kc_m1
            refine lv_iconst (v := 0) hx hb dX12_ticks_43 (by decide) ?_
            refine lv_istore (lv' := [(4, .int 0), (3, .int y4), (2, .int v2), (0, .ref o), (1, .int who)]) hx hb dX12_ticks_44 hl (by decide) rfl (fun ls hl => ?_)
            refine lv_aload_n hx hb dX12_ticks_46 rfl (lv_at hl 3 rfl) ?_
            refine va_get (D := D) (ci := 12) (v := .ref (r 29)) (C := RX12) (T := TX12) (N := 48) hx hb hg inC12 hown hK hP 0 rfl rfl 29 (by decide) (hg _ wt5_189) (fun _ h9 => h9) rfl dX12_ticks_47 ?_
            refine lv_iload_n hx hb dX12_ticks_50 rfl (lv_at hl 1 rfl) ?_
            refine lv_iload hx hb dX12_ticks_51 (lv_at hl 0 rfl) ?_
            refine lv_if_eq (tgt := 73) hx hb dX12_ticks_53 (by decide) (fun c210 => ?_) (fun c210 => ?_)
            · refine lv_iconst (v := 0) hx hb dX12_ticks_73 (by decide) ?_
              refine va_iast hx hb hK hP hD hS 13 0 rfl rfl (kb_in b190 (by decide) (by decide)) dX12_ticks_74 (fun H locs hP hD hS => ?_)
              have hP : va_P D vwCl (mW K o r F5 (va_up B6 29 (upd (B6 29) y4.toNatClampNeg 0)) G7) H := hP
              have hD : va_D A (mW K o r F5 (va_up B6 29 (upd (B6 29) y4.toNatClampNeg 0)) G7) := hD
              refine k_gen (P := fun z => va_P D vwCl (mW K o r F5 z G7) H ∧ va_D A (mW K o r F5 z G7) ∧ (mI F5 z) ∧ (mE (XR [(0, 23)]) f a F5 z) ∧ (mZ [22, 23, 24, 25] [2, 26, 29, 30] f a F5 z)) (va_up B6 29 (upd (B6 29) y4.toNatClampNeg 0)) ⟨hP, hD, (mI_s hI (aI_sx hI.2.1 29 0 6 b190 (by decide) (by decide) kc_0 (by decide +kernel)) (by decide) (by decide)), (mE_s hE (by decide) (by decide) (by decide) (by decide)), (mZ_a hZ rfl)⟩ (fun a_211 ea_211 hq => ?_)
              obtain ⟨hP, hD, hI, hE, hZ⟩ := hq
              refine lv_aload_n hx hb dX12_ticks_75 rfl (lv_at hl 3 rfl) ?_
              refine va_get (D := D) (ci := 12) (v := .ref (r 30)) (C := RX12) (T := TX12) (N := 48) hx hb hg inC12 hown hK hP 0 rfl rfl 30 (by decide) (hg _ wt5_190) (fun _ h9 => h9) rfl dX12_ticks_76 ?_
              refine lv_iload_n hx hb dX12_ticks_79 rfl (lv_at hl 1 rfl) ?_
              refine lv_iload hx hb dX12_ticks_80 (lv_at hl 0 rfl) ?_
              refine lv_if_eq (tgt := 102) hx hb dX12_ticks_82 (by decide) (fun c212 => ?_) (fun c212 => ?_)
              · refine lv_bipush (v := (-2)) hx hb dX12_ticks_102 (by decide) ?_
                refine va_iast hx hb hK hP hD hS 14 0 rfl rfl (kb_in b190 (by decide) (by decide)) dX12_ticks_104 (fun H locs hP hD hS => ?_)
                have hP : va_P D vwCl (mW K o r F5 (va_up a_211 30 (upd (a_211 30) y4.toNatClampNeg (-2))) G7) H := hP
                have hD : va_D A (mW K o r F5 (va_up a_211 30 (upd (a_211 30) y4.toNatClampNeg (-2))) G7) := hD
                refine k_gen (P := fun z => va_P D vwCl (mW K o r F5 z G7) H ∧ va_D A (mW K o r F5 z G7) ∧ (mI F5 z) ∧ (mE (XR [(0, 23)]) f a F5 z) ∧ (mZ [22, 23, 24, 25] [2, 26, 29, 30] f a F5 z)) (va_up a_211 30 (upd (a_211 30) y4.toNatClampNeg (-2))) ⟨hP, hD, (mI_s hI (aI_sx hI.2.1 30 0 6 b190 (by decide) (by decide) kc_m2 (by decide +kernel)) (by decide) (by decide)), (mE_s hE (by decide) (by decide) (by decide) (by decide)), (mZ_a hZ rfl)⟩ (fun a_213 ea_213 hq => ?_)
                obtain ⟨hP, hD, hI, hE, hZ⟩ := hq
                obtain ⟨t214, et214⟩ : ∃ z : Int32, z = y4 + Int32.ofInt 1 := ⟨_, rfl⟩
                have qt214 : t214.toInt = y4.toInt + 1 := by rw [et214]; exact km_inc b190 (by decide) (by decide)
                have b215 : kb 1 t214 6 := kb_inc (k := 1) qt214 b190
                refine lv_iinc (v := t214) (lv' := [(3, .int t214), (4, .int 0), (2, .int v2), (0, .ref o), (1, .int who)]) hx hb dX12_ticks_105 hl (k := 1) rfl et214.symm (by decide) rfl (fun ls hl => ?_)
                refine lv_goto (tgt := 7) hx hb dX12_ticks_108 (by decide) ?_
                exact ihlp8  F5 a_213 G7 _ _ _ t214 (km_up hmlp8 qt214) hI hE hZ (kb_w b215 (by decide) (by decide)) hP hD hS (lv_sub hl [0, 2, 3, 4] rfl)
              · exact kb_nsame c212 kc_0 kc_0
            · exact kb_nsame c210 kc_0 kc_0
          · have b216 : kb 0 t206 9 := kr_nel c208 b207 kc_m1 (by decide)
            refine lv_iconst (v := 1) hx hb dX12_ticks_39 (by decide) ?_
            refine lv_goto (tgt := 44) hx hb dX12_ticks_40 (by decide) ?_
            refine lv_istore (lv' := [(4, .int 1), (3, .int y4), (2, .int v2), (0, .ref o), (1, .int who)]) hx hb dX12_ticks_44 hl (by decide) rfl (fun ls hl => ?_)
            refine lv_aload_n hx hb dX12_ticks_46 rfl (lv_at hl 3 rfl) ?_
            refine va_get (D := D) (ci := 12) (v := .ref (r 29)) (C := RX12) (T := TX12) (N := 48) hx hb hg inC12 hown hK hP 0 rfl rfl 29 (by decide) (hg _ wt5_189) (fun _ h9 => h9) rfl dX12_ticks_47 ?_
            refine lv_iload_n hx hb dX12_ticks_50 rfl (lv_at hl 1 rfl) ?_
            refine lv_iload hx hb dX12_ticks_51 (lv_at hl 0 rfl) ?_
            refine lv_if_eq (tgt := 73) hx hb dX12_ticks_53 (by decide) (fun c225 => ?_) (fun c225 => ?_)
            · exact kb_dj c225 kc_1 kc_0 (by decide)
            · refine lv_aload_n hx hb dX12_ticks_56 rfl (lv_at hl 3 rfl) ?_
              refine lv_iload_n hx hb dX12_ticks_57 rfl (lv_at hl 1 rfl) ?_
              refine lv_aload_n hx hb dX12_ticks_58 rfl (lv_at hl 3 rfl) ?_
              refine va_get (D := D) (ci := 12) (v := .ref (r 2)) (C := RX12) (T := TX12) (N := 48) hx hb hg inC12 hown hK hP 0 rfl rfl 2 (by decide) (hg _ wt5_162) (fun _ h9 => h9) rfl dX12_ticks_59 ?_
              refine lv_bipush (v := 16) hx hb dX12_ticks_62 (by decide) ?_
              refine lv_iload_n hx hb dX12_ticks_64 rfl (lv_at hl 1 rfl) ?_
              refine lv_iadd hx hb dX12_ticks_65 ?_
              refine k_top (z := t204) et204.symm ?_
              refine va_iald hx hb hK hP 2 0 rfl rfl (kb_in b205 (by decide) (by decide)) dX12_ticks_66 ?_
              refine k_top (z := t206) et206.symm ?_
              refine kI.callV (As := [.int y4, .int t206]) (rest := [.int y4, .ref (r 29)]) ⟨hx, hb, hml, hown, hg⟩ (m_worksBy l o r F5 B6 G7 hI y4 t206 b190 b216 ) (cwV 2 hg (kgV wt7_31 wt7_33 wp5_4 wt1_14 wt7_34) rfl rfl rfl (by decide +kernel) ⟨by decide, by decide⟩) hK hP hD hS hA mIs [] rfl (wr := []) rfl rfl rfl (fun i h => by cases h) 0 12 rfl rfl rfl hl.1 rfl (Nat.le_of_ble_eq_true rfl) dX12_ticks_67 ⟨Nat.le_refl _, Nat.le_refl _⟩ (fun v227 u228 H locs hw226 hP hD hS => ?_)
              obtain ⟨f229, a230, g231⟩ := u228
              have hP : va_P D vwCl (mW K o r f229 a230 g231) H := hP
              have hD : va_D A (mW K o r f229 a230 g231) := hD
              have hI : mI f229 a230 := hw226.2.1
              have hE : mE (XR [(0, 23)]) f a f229 a230 := mE_tr hE (mE_w (XR_w (by decide)) hw226.2.2.1)
              have eE232 : mE (XR []) F5 B6 f229 a230 := hw226.2.2.1
              have eZ233 : mZ [22, 23, 24, 25] [26] F5 B6 f229 a230 := hw226.2.2.2
              have hZ : mZ [22, 23, 24, 25] [2, 26, 29, 30] f a f229 a230 := mZ_tr hZ (mZ_w (by decide) (by decide) eZ233)
              refine lv_goto (tgt := 74) hx hb dX12_ticks_70 (by decide) ?_
              refine va_iast hx hb hK hP hD hS 13 0 rfl rfl (kb_in b190 (by decide) (by decide)) dX12_ticks_74 (fun H locs hP hD hS => ?_)
              have hP : va_P D vwCl (mW K o r f229 (va_up a230 29 (upd (a230 29) y4.toNatClampNeg v227)) g231) H := hP
              have hD : va_D A (mW K o r f229 (va_up a230 29 (upd (a230 29) y4.toNatClampNeg v227)) g231) := hD
              refine k_gen (P := fun z => va_P D vwCl (mW K o r f229 z g231) H ∧ va_D A (mW K o r f229 z g231) ∧ (mI f229 z) ∧ (mE (XR [(0, 23)]) f a f229 z) ∧ (mZ [22, 23, 24, 25] [2, 26, 29, 30] f a f229 z)) (va_up a230 29 (upd (a230 29) y4.toNatClampNeg v227)) ⟨hP, hD, (mI_s hI (aI_sx hI.2.1 29 0 6 b190 (by decide) (by decide) hw226.1 (by decide +kernel)) (by decide) (by decide)), (mE_s hE (by decide) (by decide) (by decide) (by decide)), (mZ_a hZ rfl)⟩ (fun a_234 ea_234 hq => ?_)
              obtain ⟨hP, hD, hI, hE, hZ⟩ := hq
              refine lv_aload_n hx hb dX12_ticks_75 rfl (lv_at hl 3 rfl) ?_
              refine va_get (D := D) (ci := 12) (v := .ref (r 30)) (C := RX12) (T := TX12) (N := 48) hx hb hg inC12 hown hK hP 0 rfl rfl 30 (by decide) (hg _ wt5_190) (fun _ h9 => h9) rfl dX12_ticks_76 ?_
              refine lv_iload_n hx hb dX12_ticks_79 rfl (lv_at hl 1 rfl) ?_
              refine lv_iload hx hb dX12_ticks_80 (lv_at hl 0 rfl) ?_
              refine lv_if_eq (tgt := 102) hx hb dX12_ticks_82 (by decide) (fun c243 => ?_) (fun c243 => ?_)
              · exact kb_dj c243 kc_1 kc_0 (by decide)
              · refine lv_aload_n hx hb dX12_ticks_85 rfl (lv_at hl 3 rfl) ?_
                refine lv_iload_n hx hb dX12_ticks_86 rfl (lv_at hl 1 rfl) ?_
                refine lv_aload_n hx hb dX12_ticks_87 rfl (lv_at hl 3 rfl) ?_
                refine va_get (D := D) (ci := 12) (v := .ref (r 2)) (C := RX12) (T := TX12) (N := 48) hx hb hg inC12 hown hK hP 0 rfl rfl 2 (by decide) (hg _ wt5_162) (fun _ h9 => h9) rfl dX12_ticks_88 ?_
                refine lv_bipush (v := 16) hx hb dX12_ticks_91 (by decide) ?_
                refine lv_iload_n hx hb dX12_ticks_93 rfl (lv_at hl 1 rfl) ?_
                refine lv_iadd hx hb dX12_ticks_94 ?_
                refine k_top (z := t204) et204.symm ?_
                refine va_iald hx hb hK hP 2 0 rfl rfl (kb_in b205 (by decide) (by decide)) dX12_ticks_95 ?_
                refine k_top (z := t206) ((show a_234 2 t204.toNatClampNeg = a230 2 t204.toNatClampNeg from by rw [← ea_234]; rfl).trans ((eE232.2.2.1 (t204.toNatClampNeg) rfl).trans et206.symm)) ?_
                refine kI.callV (As := [.int y4, .int t206]) (rest := [.int y4, .ref (r 30)]) ⟨hx, hb, hml, hown, hg⟩ (m_tiresBy l o r f229 a_234 g231 hI y4 t206 b190 b216 ) (cwV 2 hg (kgV wt7_96 wt7_98 wp6_3 wt1_14 wt7_99) rfl rfl rfl (by decide +kernel) ⟨by decide, by decide⟩) hK hP hD hS hA mIs [] rfl (wr := []) rfl rfl rfl (fun i h => by cases h) 0 12 rfl rfl rfl hl.1 rfl (Nat.le_of_ble_eq_true rfl) dX12_ticks_96 ⟨Nat.le_refl _, Nat.le_refl _⟩ (fun v245 u246 H locs hw244 hP hD hS => ?_)
                obtain ⟨f247, a248, g249⟩ := u246
                have hP : va_P D vwCl (mW K o r f247 a248 g249) H := hP
                have hD : va_D A (mW K o r f247 a248 g249) := hD
                have hI : mI f247 a248 := hw244.2.1
                have hE : mE (XR [(0, 23)]) f a f247 a248 := mE_tr hE (mE_w (XR_w (by decide)) hw244.2.2.1)
                have eE250 : mE (XR []) f229 a_234 f247 a248 := hw244.2.2.1
                have eZ251 : mZ [22, 23, 24, 25] [26] f229 a_234 f247 a248 := hw244.2.2.2
                have hZ : mZ [22, 23, 24, 25] [2, 26, 29, 30] f a f247 a248 := mZ_tr hZ (mZ_w (by decide) (by decide) eZ251)
                refine lv_goto (tgt := 104) hx hb dX12_ticks_99 (by decide) ?_
                refine va_iast hx hb hK hP hD hS 14 0 rfl rfl (kb_in b190 (by decide) (by decide)) dX12_ticks_104 (fun H locs hP hD hS => ?_)
                have hP : va_P D vwCl (mW K o r f247 (va_up a248 30 (upd (a248 30) y4.toNatClampNeg v245)) g249) H := hP
                have hD : va_D A (mW K o r f247 (va_up a248 30 (upd (a248 30) y4.toNatClampNeg v245)) g249) := hD
                refine k_gen (P := fun z => va_P D vwCl (mW K o r f247 z g249) H ∧ va_D A (mW K o r f247 z g249) ∧ (mI f247 z) ∧ (mE (XR [(0, 23)]) f a f247 z) ∧ (mZ [22, 23, 24, 25] [2, 26, 29, 30] f a f247 z)) (va_up a248 30 (upd (a248 30) y4.toNatClampNeg v245)) ⟨hP, hD, (mI_s hI (aI_sx hI.2.1 30 0 6 b190 (by decide) (by decide) hw244.1 (by decide +kernel)) (by decide) (by decide)), (mE_s hE (by decide) (by decide) (by decide) (by decide)), (mZ_a hZ rfl)⟩ (fun a_252 ea_252 hq => ?_)
                obtain ⟨hP, hD, hI, hE, hZ⟩ := hq
                obtain ⟨t253, et253⟩ : ∃ z : Int32, z = y4 + Int32.ofInt 1 := ⟨_, rfl⟩
                have qt253 : t253.toInt = y4.toInt + 1 := by rw [et253]; exact km_inc b190 (by decide) (by decide)
                have b254 : kb 1 t253 6 := kb_inc (k := 1) qt253 b190
                refine lv_iinc (v := t253) (lv' := [(3, .int t253), (4, .int 1), (2, .int v2), (0, .ref o), (1, .int who)]) hx hb dX12_ticks_105 hl (k := 1) rfl et253.symm (by decide) rfl (fun ls hl => ?_)
                refine lv_goto (tgt := 7) hx hb dX12_ticks_108 (by decide) ?_
                exact ihlp8  f247 a_252 g249 _ _ _ t253 (km_up hmlp8 qt253) hI hE hZ (kb_w b254 (by decide) (by decide)) hP hD hS (lv_sub hl [0, 2, 3, 4] rfl)
  exact lp8 (7)  f a g _ _ _ 0 (by have h1 := (kc_0); unfold kb at h1; omega) hI hE hZ (kb_w kc_0 (by decide) (by decide)) hP hD hS (lv_sub hl [0, 1, 2, 3] rfl)
set_option maxHeartbeats 4000000 in
set_option maxRecDepth 100000 in
theorem m_areStanding  (l : Launch) {D : va_G} {K : Nat → ClassId} (o : Nat) (r : Nat → Nat) (f : Nat → Int32) (a : Nat → Nat → Int32) (g : Nat → Int64) (hI : mI f a) (x : Int32)    : kI l yX12_areStanding (Cond.code yX12_areStanding cX12_areStanding 2 (some .boolean) :: kG) (rmD 3 0 0) D (tysK K) [.ref o, .int x] (mW K o r f a g) (fun v (_ : Unit) => kb 0 v 1) (fun _ => mW K o r f a g) 0 0 := by
  refine kI.of (cc := cX12_areStanding) (maxL := 2) (ret := (some .boolean)) (by decide) rfl (Nat.le_of_ble_eq_true rfl) ?_
  intro p e s m below meth c A hx hb hr hml hown hts hlocks hnm hK hP hD hS hA ls hl
  have hg : ∀ w ∈ kG, w.before _ s = true := fun w h => hts w (List.mem_cons_of_mem _ h)
  have hown : s.vm.findClass RX12 = some m.cls := hown
  have hl : lv_has ls 2 [(0, .ref o), (1, .int x)] := hl
  refine lv_iload_n hx hb dX12_areStanding_0 rfl (lv_at hl 1 rfl) ?_
  refine lv_aload_n hx hb dX12_areStanding_1 rfl (lv_at hl 0 rfl) ?_
  refine kI.callV (As := []) (rest := [.int x]) ⟨hx, hb, hml, hown, hg⟩ (m_standing l o r f a g hI   ) (cwV 0 hg (kgV wt6_116 wt6_118 wp3_13 wt1_14 wt6_119) rfl rfl rfl (by decide +kernel) ⟨by decide, by decide⟩) hK hP hD hS hA mIs [] rfl (wr := []) rfl rfl rfl (fun i h => by cases h) 0 12 rfl rfl rfl hl.1 rfl (Nat.le_of_ble_eq_true rfl) dX12_areStanding_2 ⟨Nat.le_refl _, Nat.le_refl _⟩ (fun v2 u3 H locs hw1 hP hD hS => ?_)
  have hP : va_P D vwCl (mW K o r f a g) H := hP
  have hD : va_D A (mW K o r f a g) := hD
  refine lv_iconst (v := (-1)) hx hb dX12_areStanding_5 (by decide) ?_
  refine lv_ixor hx hb dX12_areStanding_6 ?_
  refine lv_topi (fun t4 et4 => ?_)
  refine lv_iand hx hb dX12_areStanding_7 ?_
  refine lv_topi (fun t5 et5 => ?_)
  refine lv_if_ne (tgt := 15) hx hb dX12_areStanding_8 (by decide) (fun c6 => ?_) (fun c6 => ?_)
  · refine lv_iconst (v := 0) hx hb dX12_areStanding_15 (by decide) ?_
    exact kI_ret (v := 0) hx hb hr hlocks (by decide +kernel) hK hS dX12_areStanding_16 () hP hD (kb_w kc_0 (by decide) (by decide))
  · have b7 : kb 0 t5 0 := kb_eq c6 kc_0
    refine lv_iconst (v := 1) hx hb dX12_areStanding_11 (by decide) ?_
    refine lv_goto (tgt := 16) hx hb dX12_areStanding_12 (by decide) ?_
    exact kI_ret (v := 1) hx hb hr hlocks (by decide +kernel) hK hS dX12_areStanding_16 () hP hD (kb_w kc_1 (by decide) (by decide))
set_option maxHeartbeats 4000000 in
set_option maxRecDepth 100000 in
theorem m_bestPart  (l : Launch) {D : va_G} {K : Nat → ClassId} (o : Nat) (r : Nat → Nat) (f : Nat → Int32) (a : Nat → Nat → Int32) (g : Nat → Int64) (hI : mI f a) (bd : Int32) (bbd : kb 0 bd 5)   : kI l yX12_bestPart (Cond.code yX12_bestPart cX12_bestPart 4 (some .int) :: kG) (rmD 50 0 0) D (tysK K) [.ref o, .int bd] (mW K o r f a g) (fun v (u : mS) => kb (-1) v 9 ∧ mI u.1 u.2.1 ∧ mE (XR []) f a u.1 u.2.1 ∧ mZ [22, 23, 24, 25] [26] f a u.1 u.2.1) (fun u => mW K o r u.1 u.2.1 u.2.2) 0 0 := by
  refine kI.of (cc := cX12_bestPart) (maxL := 4) (ret := (some .int)) (by decide) rfl (Nat.le_of_ble_eq_true rfl) ?_
  intro p e s m below meth c A hx hb hr hml hown hts hlocks hnm hK hP hD hS hA ls hl
  have hE : mE (XR []) f a f a := mE_rf
  have hZ : mZ [22, 23, 24, 25] [26] f a f a := mZ_rf
  have hg : ∀ w ∈ kG, w.before _ s = true := fun w h => hts w (List.mem_cons_of_mem _ h)
  have hown : s.vm.findClass RX12 = some m.cls := hown
  have hl : lv_has ls 4 [(0, .ref o), (1, .int bd)] := hl
  refine lv_iconst (v := (-1)) hx hb dX12_bestPart_0 (by decide) ?_
  refine lv_istore_n (lv' := [(2, .int (-1)), (0, .ref o), (1, .int bd)]) hx hb dX12_bestPart_1 rfl hl (by decide) rfl (fun ls hl => ?_)
  refine lv_iconst (v := 0) hx hb dX12_bestPart_2 (by decide) ?_
  refine lv_istore_n (lv' := [(3, .int 0), (2, .int (-1)), (0, .ref o), (1, .int bd)]) hx hb dX12_bestPart_3 rfl hl (by decide) rfl (fun ls hl => ?_)
  have lp6 : ∀ (n7 : Nat) (F3 : Nat → Int32) (B4 : Nat → Nat → Int32) (G5 : Nat → Int64) (H : Heap) (locs : List Loc) (ls : Array Slot) (y1 : Int32) (y2 : Int32), (10 < y1.toInt + (n7 : Int)) → (mI F3 B4) → (mE (XR []) f a F3 B4) → (mZ [22, 23, 24, 25] [26] f a F3 B4) → (kb 0 y1 10) → (kb (-1) y2 9) → va_P D vwCl (mW K o r F3 B4 G5) H → va_D A (mW K o r F3 B4 G5) → va_S A s.heap H locs → lv_has ls 4 [(3, .int y1), (2, .int y2), (0, .ref o), (1, .int bd)] → W p l e (rmD 50 0 0) s m ([.ref o, .int bd] : List Value).toArray below meth c H locs 0 0 (kQi D (tysK K) (fun v (u : mS) => kb (-1) v 9 ∧ mI u.1 u.2.1 ∧ mE (XR []) f a u.1 u.2.1 ∧ mZ [22, 23, 24, 25] [26] f a u.1 u.2.1) (fun u => mW K o r u.1 u.2.1 u.2.2) A below ([.ref o, .int bd] : List Value).toArray s 0 0) (F0 m 4 ls []) := by
    intro n7
    induction n7 with
    | zero =>
      intro  F3 B4 G5  H locs ls y1 y2 hmlp6 hI hE hZ b8 b9 hP hD hS hl
      exact (by have h1 := b8.2; have h2 := hmlp6; omega : False).elim
    | succ n7 ihlp6 =>
      intro  F3 B4 G5  H locs ls y1 y2 hmlp6 hI hE hZ b8 b9 hP hD hS hl
      refine lv_iload_n hx hb dX12_bestPart_4 rfl (lv_at hl 0 rfl) ?_
      refine lv_aload_n hx hb dX12_bestPart_5 rfl (lv_at hl 2 rfl) ?_
      refine va_get (D := D) (ci := 12) (v := .ref (r 2)) (C := RX12) (T := TX12) (N := 48) hx hb hg inC12 hown hK hP 0 rfl rfl 2 (by decide) (hg _ wt5_162) (fun _ h9 => h9) rfl dX12_bestPart_6 ?_
      refine lv_bipush (v := 102) hx hb dX12_bestPart_9 (by decide) ?_
      refine va_iald hx hb hK hP 2 0 rfl rfl (kb_in kc_102 (by decide) (by decide)) dX12_bestPart_11 ?_
      refine lv_topi (fun t10 et10 => ?_)
      rw [cl_102] at et10
      have b11 : kb 0 t10 10 := kb_eq et10 (aI_at hI.2.1 2 102 (by decide) (by decide))
      refine lv_icmp_ge (tgt := 72) hx hb dX12_bestPart_12 (by decide) (fun c12 => ?_) (fun c12 => ?_)
      · have h13 := (kc_le c12)
        refine lv_iload_n hx hb dX12_bestPart_72 rfl (lv_at hl 1 rfl) ?_
        exact kI_ret (v := y2) hx hb hr hlocks rfl hK hS dX12_bestPart_73 (F3, B4, G5) hP hD ⟨b9, hI, hE, hZ⟩
      · have h14 := (kc_nle c12)
        have b15 : kb 0 y1 9 := kr_lt1 h14 b8 b11 (by decide)
        have b16 : kb 1 t10 10 := kr_lt2 h14 b8 b11 (by decide)
        refine lv_aload_n hx hb dX12_bestPart_15 rfl (lv_at hl 2 rfl) ?_
        refine lv_iload_n hx hb dX12_bestPart_16 rfl (lv_at hl 0 rfl) ?_
        refine kI.callV (As := [.int y1]) (rest := []) ⟨hx, hb, hml, hown, hg⟩ (m_isReady l o r F3 B4 G5 hI y1 b15 ) (cwV 1 hg (kgV wt6_108 wt6_110 wp3_11 wt1_14 wt6_111) rfl rfl rfl (by decide +kernel) ⟨by decide, by decide⟩) hK hP hD hS hA mIs [] rfl (wr := []) rfl rfl rfl (fun i h => by cases h) 0 12 rfl rfl rfl hl.1 rfl (Nat.le_of_ble_eq_true rfl) dX12_bestPart_17 ⟨Nat.le_refl _, Nat.le_refl _⟩ (fun v18 u19 H locs hw17 hP hD hS => ?_)
        have hP : va_P D vwCl (mW K o r F3 B4 G5) H := hP
        have hD : va_D A (mW K o r F3 B4 G5) := hD
        have jn70 : ∀ (F67 : Nat → Int32) (B68 : Nat → Nat → Int32) (G69 : Nat → Int64) (H : Heap) (locs : List Loc) (ls : Array Slot) (y66 : Int32), (mI F67 B68) → (mE (XR []) f a F67 B68) → (mZ [22, 23, 24, 25] [26] f a F67 B68) → (kb (-1) y66 9) → va_P D vwCl (mW K o r F67 B68 G69) H → va_D A (mW K o r F67 B68 G69) → va_S A s.heap H locs → lv_has ls 4 [(3, .int y1), (2, .int y66), (0, .ref o), (1, .int bd)] → W p l e (rmD 50 0 0) s m ([.ref o, .int bd] : List Value).toArray below meth c H locs 0 0 (kQi D (tysK K) (fun v (u : mS) => kb (-1) v 9 ∧ mI u.1 u.2.1 ∧ mE (XR []) f a u.1 u.2.1 ∧ mZ [22, 23, 24, 25] [26] f a u.1 u.2.1) (fun u => mW K o r u.1 u.2.1 u.2.2) A below ([.ref o, .int bd] : List Value).toArray s 0 0) (F0 m 66 ls []) := by
          intro F67 B68 G69  H locs ls y66 hI hE hZ b71 hP hD hS hl
          obtain ⟨t72, et72⟩ : ∃ z : Int32, z = y1 + Int32.ofInt 1 := ⟨_, rfl⟩
          have qt72 : t72.toInt = y1.toInt + 1 := by rw [et72]; exact km_inc b15 (by decide) (by decide)
          have b73 : kb 1 t72 10 := kb_inc (k := 1) qt72 b15
          refine lv_iinc (v := t72) (lv' := [(3, .int t72), (2, .int y66), (0, .ref o), (1, .int bd)]) hx hb dX12_bestPart_66 hl (k := 0) rfl et72.symm (by decide) rfl (fun ls hl => ?_)
          refine lv_goto (tgt := 4) hx hb dX12_bestPart_69 (by decide) ?_
          exact ihlp6  F67 B68 G69 _ _ _ t72 y66 (km_up hmlp6 qt72) hI hE hZ (kb_w b73 (by decide) (by decide)) b71 hP hD hS (lv_sub hl [0, 1, 2, 3] rfl)
        refine lv_if_eq (tgt := 66) hx hb dX12_bestPart_20 (by decide) (fun c74 => ?_) (fun c74 => ?_)
        · have b75 : kb 0 v18 0 := kb_eq c74 kc_0
          exact jn70 F3 B4 G5 _ _ _ y2 hI hE hZ b9 hP hD hS (lv_sub hl [0, 1, 2, 3] rfl)
        · have b76 : kb 1 v18 1 := kr_nel c74 hw17 kc_0 (by decide)
          refine lv_iload_n hx hb dX12_bestPart_23 rfl (lv_at hl 1 rfl) ?_
          refine lv_iconst (v := (-1)) hx hb dX12_bestPart_24 (by decide) ?_
          have jn86 : ∀ (H : Heap) (locs : List Loc) (ls : Array Slot), va_P D vwCl (mW K o r F3 B4 G5) H → va_D A (mW K o r F3 B4 G5) → va_S A s.heap H locs → lv_has ls 4 [(3, .int y1), (2, .int y2), (0, .ref o), (1, .int bd)] → W p l e (rmD 50 0 0) s m ([.ref o, .int bd] : List Value).toArray below meth c H locs 0 0 (kQi D (tysK K) (fun v (u : mS) => kb (-1) v 9 ∧ mI u.1 u.2.1 ∧ mE (XR []) f a u.1 u.2.1 ∧ mZ [22, 23, 24, 25] [26] f a u.1 u.2.1) (fun u => mW K o r u.1 u.2.1 u.2.2) A below ([.ref o, .int bd] : List Value).toArray s 0 0) (F0 m 46 ls []) := by
            intro  H locs ls   hP hD hS hl
            refine lv_aload_n hx hb dX12_bestPart_46 rfl (lv_at hl 2 rfl) ?_
            refine lv_iload_n hx hb dX12_bestPart_47 rfl (lv_at hl 3 rfl) ?_
            refine lv_iload_n hx hb dX12_bestPart_48 rfl (lv_at hl 0 rfl) ?_
            refine kI.callV (As := [.int bd, .int y1]) (rest := []) ⟨hx, hb, hml, hown, hg⟩ (m_isBarred l o r F3 B4 G5 hI bd y1 bbd b15 ) (cwV 2 hg (kgV wt7_104 wt7_106 wp6_5 wt1_14 wt7_107) rfl rfl rfl (by decide +kernel) ⟨by decide, by decide⟩) hK hP hD hS hA mIs [] rfl (wr := []) rfl rfl rfl (fun i h => by cases h) 0 12 rfl rfl rfl hl.1 rfl (Nat.le_of_ble_eq_true rfl) dX12_bestPart_49 ⟨Nat.le_refl _, Nat.le_refl _⟩ (fun v88 u89 H locs hw87 hP hD hS => ?_)
            obtain ⟨f90, a91, g92⟩ := u89
            have hP : va_P D vwCl (mW K o r f90 a91 g92) H := hP
            have hD : va_D A (mW K o r f90 a91 g92) := hD
            have hI : mI f90 a91 := hw87.2.1
            have hE : mE (XR []) f a f90 a91 := mE_tr hE hw87.2.2.1
            have eE93 : mE (XR []) F3 B4 f90 a91 := hw87.2.2.1
            have eZ94 : mZ [22, 23, 24, 25] [26] F3 B4 f90 a91 := hw87.2.2.2
            have hZ : mZ [22, 23, 24, 25] [26] f a f90 a91 := mZ_tr hZ (mZ_w (by decide) (by decide) eZ94)
            refine lv_if_ne (tgt := 66) hx hb dX12_bestPart_52 (by decide) (fun c95 => ?_) (fun c95 => ?_)
            · have b96 : kb 1 v88 1 := kr_nel c95 hw87.1 kc_0 (by decide)
              exact jn70 f90 a91 g92 _ _ _ y2 hI hE hZ b9 hP hD hS (lv_sub hl [0, 1, 2, 3] rfl)
            · have b97 : kb 0 v88 0 := kb_eq c95 kc_0
              refine lv_aload_n hx hb dX12_bestPart_55 rfl (lv_at hl 2 rfl) ?_
              refine lv_iload_n hx hb dX12_bestPart_56 rfl (lv_at hl 3 rfl) ?_
              refine lv_iload_n hx hb dX12_bestPart_57 rfl (lv_at hl 0 rfl) ?_
              refine kI.callV (As := [.int bd, .int y1]) (rest := []) ⟨hx, hb, hml, hown, hg⟩ (m_worksBy l o r f90 a91 g92 hI bd y1 bbd b15 ) (cwV 2 hg (kgV wt7_31 wt7_33 wp5_4 wt1_14 wt7_34) rfl rfl rfl (by decide +kernel) ⟨by decide, by decide⟩) hK hP hD hS hA mIs [] rfl (wr := []) rfl rfl rfl (fun i h => by cases h) 0 12 rfl rfl rfl hl.1 rfl (Nat.le_of_ble_eq_true rfl) dX12_bestPart_58 ⟨Nat.le_refl _, Nat.le_refl _⟩ (fun v99 u100 H locs hw98 hP hD hS => ?_)
              obtain ⟨f101, a102, g103⟩ := u100
              have hP : va_P D vwCl (mW K o r f101 a102 g103) H := hP
              have hD : va_D A (mW K o r f101 a102 g103) := hD
              have hI : mI f101 a102 := hw98.2.1
              have hE : mE (XR []) f a f101 a102 := mE_tr hE hw98.2.2.1
              have eE104 : mE (XR []) f90 a91 f101 a102 := hw98.2.2.1
              have eZ105 : mZ [22, 23, 24, 25] [26] f90 a91 f101 a102 := hw98.2.2.2
              have hZ : mZ [22, 23, 24, 25] [26] f a f101 a102 := mZ_tr hZ (mZ_w (by decide) (by decide) eZ105)
              refine lv_if_le (tgt := 66) hx hb dX12_bestPart_61 (by decide) (fun c106 => ?_) (fun c106 => ?_)
              · have h107 := (kc_le c106)
                have b108 : kb 0 v99 0 := kr_le1 h107 hw98.1 kc_0
                exact jn70 f101 a102 g103 _ _ _ y2 hI hE hZ b9 hP hD hS (lv_sub hl [0, 1, 2, 3] rfl)
              · have h109 := (kc_nle c106)
                have b110 : kb 1 v99 20 := kr_lt2 h109 kc_0 hw98.1 (by decide)
                refine lv_iload_n hx hb dX12_bestPart_64 rfl (lv_at hl 0 rfl) ?_
                refine lv_istore_n (lv' := [(2, .int y1), (3, .int y1), (0, .ref o), (1, .int bd)]) hx hb dX12_bestPart_65 rfl hl (by decide) rfl (fun ls hl => ?_)
                exact jn70 f101 a102 g103 _ _ _ y1 hI hE hZ (kb_w b15 (by decide) (by decide)) hP hD hS (lv_sub hl [1, 0, 2, 3] rfl)
          refine lv_icmp_eq (tgt := 46) hx hb dX12_bestPart_25 (by decide) (fun c111 => ?_) (fun c111 => ?_)
          · have b112 : kb (-1) y2 (-1) := kb_eq c111 kc_m1
            exact jn86 _ _ _   hP hD hS (lv_sub hl [0, 1, 2, 3] rfl)
          · have b113 : kb 0 y2 9 := kr_nel c111 b9 kc_m1 (by decide)
            refine lv_aload_n hx hb dX12_bestPart_28 rfl (lv_at hl 2 rfl) ?_
            refine va_get (D := D) (ci := 12) (v := .ref (r 34)) (C := RX12) (T := TX12) (N := 48) hx hb hg inC12 hown hK hP 0 rfl rfl 34 (by decide) (hg _ wt5_194) (fun _ h9 => h9) rfl dX12_bestPart_29 ?_
            refine lv_iload_n hx hb dX12_bestPart_32 rfl (lv_at hl 0 rfl) ?_
            refine va_iald hx hb hK hP 17 0 rfl rfl (kb_in b15 (by decide) (by decide)) dX12_bestPart_33 ?_
            refine lv_topi (fun t114 et114 => ?_)
            refine lv_aload_n hx hb dX12_bestPart_34 rfl (lv_at hl 2 rfl) ?_
            refine va_get (D := D) (ci := 12) (v := .ref (r 34)) (C := RX12) (T := TX12) (N := 48) hx hb hg inC12 hown hK hP 0 rfl rfl 34 (by decide) (hg _ wt5_194) (fun _ h9 => h9) rfl dX12_bestPart_35 ?_
            refine lv_iload_n hx hb dX12_bestPart_38 rfl (lv_at hl 1 rfl) ?_
            refine va_iald hx hb hK hP 17 0 rfl rfl (kb_in b113 (by decide) (by decide)) dX12_bestPart_39 ?_
            refine lv_topi (fun t115 et115 => ?_)
            refine lv_icmp_gt (tgt := 46) hx hb dX12_bestPart_40 (by decide) (fun c116 => ?_) (fun c116 => ?_)
            · have h117 := (kc_lt c116)
              have b118 : kb (-2147483648) t115 2147483646 := kr_lt1 h117 (kb_any t115) (kb_any t114) (by decide)
              have b119 : kb (-2147483647) t114 2147483647 := kr_lt2 h117 (kb_any t115) (kb_any t114) (by decide)
              exact jn86 _ _ _   hP hD hS (lv_sub hl [0, 1, 2, 3] rfl)
            · have h120 := (kc_nlt c116)
              refine lv_goto (tgt := 66) hx hb dX12_bestPart_43 (by decide) ?_
              exact jn70 F3 B4 G5 _ _ _ y2 hI hE hZ (kb_w b113 (by decide) (by decide)) hP hD hS (lv_sub hl [0, 1, 2, 3] rfl)
  exact lp6 (11)  f a g _ _ _ 0 (-1) (by have h1 := (kc_0); unfold kb at h1; omega) hI hE hZ (kb_w kc_0 (by decide) (by decide)) (kb_w kc_m1 (by decide) (by decide)) hP hD hS (lv_sub hl [0, 1, 2, 3] rfl)
set_option maxHeartbeats 4000000 in
set_option maxRecDepth 100000 in
theorem m_sendsAll  (l : Launch) {D : va_G} {K : Nat → ClassId} (o : Nat) (r : Nat → Nat) (f : Nat → Int32) (a : Nat → Nat → Int32) (g : Nat → Int64) (hI : mI f a) (who : Int32)    : kV l yX12_sendsAll (Cond.code yX12_sendsAll cX12_sendsAll 3 none :: kG) (rmD 51 0 0) D (tysK K) [.ref o, .int who] (mW K o r f a g) (fun (u : mS) => mI u.1 u.2.1 ∧ mE (XR [(0, 23)]) f a u.1 u.2.1 ∧ mZ [22, 23, 24, 25] [2, 26, 34] f a u.1 u.2.1) (fun u => mW K o r u.1 u.2.1 u.2.2) 0 0 := by
  refine kV.of (cc := cX12_sendsAll) (maxL := 3) (ret := none) (by decide) rfl (Nat.le_of_ble_eq_true rfl) ?_
  intro p e s m below meth c A hx hb hr hml hown hts hlocks hnm hK hP hD hS hA ls hl
  have hE : mE (XR [(0, 23)]) f a f a := mE_rf
  have hZ : mZ [22, 23, 24, 25] [2, 26, 34] f a f a := mZ_rf
  have hg : ∀ w ∈ kG, w.before _ s = true := fun w h => hts w (List.mem_cons_of_mem _ h)
  have hown : s.vm.findClass RX12 = some m.cls := hown
  have hl : lv_has ls 3 [(0, .ref o), (1, .int who)] := hl
  refine lv_aload_n hx hb dX12_sendsAll_0 rfl (lv_at hl 0 rfl) ?_
  refine kV.callV (As := []) (rest := []) ⟨hx, hb, hml, hown, hg⟩ (m_laysChains l o r f a g hI   ) (cwV 0 hg (kgV wt6_120 wt6_122 wp3_14 wt1_14 wt6_123) rfl rfl rfl (by decide +kernel) ⟨by decide, by decide⟩) hK hP hD hS hA mIs [] rfl (wr := []) rfl rfl rfl (fun i h => by cases h) 0 12 rfl rfl rfl hl.1 rfl (Nat.le_of_ble_eq_true rfl) dX12_sendsAll_1 ⟨Nat.le_refl _, Nat.le_refl _⟩ (fun u3 H locs hw1 hP hD hS => ?_)
  obtain ⟨f4, a5, g6⟩ := u3
  have hP : va_P D vwCl (mW K o r f4 a5 g6) H := hP
  have hD : va_D A (mW K o r f4 a5 g6) := hD
  have hI : mI f4 a5 := hw1.1
  have hE : mE (XR [(0, 23)]) f a f4 a5 := mE_tr hE (mE_w (XR_w (by decide)) hw1.2.1)
  have eE7 : mE (XR []) f a f4 a5 := hw1.2.1
  have eZ8 : mZ [] [34] f a f4 a5 := hw1.2.2
  have hZ : mZ [22, 23, 24, 25] [2, 26, 34] f a f4 a5 := mZ_tr hZ (mZ_w (by decide) (by decide) eZ8)
  refine lv_iconst (v := 0) hx hb dX12_sendsAll_4 (by decide) ?_
  refine lv_istore_n (lv' := [(2, .int 0), (0, .ref o), (1, .int who)]) hx hb dX12_sendsAll_5 rfl hl (by decide) rfl (fun ls hl => ?_)
  have lp13 : ∀ (n14 : Nat) (F10 : Nat → Int32) (B11 : Nat → Nat → Int32) (G12 : Nat → Int64) (H : Heap) (locs : List Loc) (ls : Array Slot) (y9 : Int32), (6 < y9.toInt + (n14 : Int)) → (mI F10 B11) → (mE (XR [(0, 23)]) f a F10 B11) → (mZ [22, 23, 24, 25] [2, 26, 34] f a F10 B11) → (kb 0 y9 6) → va_P D vwCl (mW K o r F10 B11 G12) H → va_D A (mW K o r F10 B11 G12) → va_S A s.heap H locs → lv_has ls 3 [(2, .int y9), (0, .ref o), (1, .int who)] → W p l e (rmD 51 0 0) s m ([.ref o, .int who] : List Value).toArray below meth c H locs 0 0 (kQv D (tysK K) (fun (u : mS) => mI u.1 u.2.1 ∧ mE (XR [(0, 23)]) f a u.1 u.2.1 ∧ mZ [22, 23, 24, 25] [2, 26, 34] f a u.1 u.2.1) (fun u => mW K o r u.1 u.2.1 u.2.2) A below ([.ref o, .int who] : List Value).toArray s 0 0) (F0 m 6 ls []) := by
    intro n14
    induction n14 with
    | zero =>
      intro  F10 B11 G12  H locs ls y9 hmlp13 hI hE hZ b15 hP hD hS hl
      exact (by have h1 := b15.2; have h2 := hmlp13; omega : False).elim
    | succ n14 ihlp13 =>
      intro  F10 B11 G12  H locs ls y9 hmlp13 hI hE hZ b15 hP hD hS hl
      refine lv_iload_n hx hb dX12_sendsAll_6 rfl (lv_at hl 0 rfl) ?_
      refine lv_aload_n hx hb dX12_sendsAll_7 rfl (lv_at hl 1 rfl) ?_
      refine va_get (D := D) (ci := 12) (v := .ref (r 2)) (C := RX12) (T := TX12) (N := 48) hx hb hg inC12 hown hK hP 0 rfl rfl 2 (by decide) (hg _ wt5_162) (fun _ h9 => h9) rfl dX12_sendsAll_8 ?_
      refine lv_bipush (v := 103) hx hb dX12_sendsAll_11 (by decide) ?_
      refine va_iald hx hb hK hP 2 0 rfl rfl (kb_in kc_103 (by decide) (by decide)) dX12_sendsAll_13 ?_
      refine lv_topi (fun t16 et16 => ?_)
      rw [cl_103] at et16
      have b17 : kb 0 t16 6 := kb_eq et16 (aI_at hI.2.1 2 103 (by decide) (by decide))
      refine lv_icmp_ge (tgt := 58) hx hb dX12_sendsAll_14 (by decide) (fun c18 => ?_) (fun c18 => ?_)
      · have h19 := (kc_le c18)
        exact kV_ret hx hb hr hlocks hK hS dX12_sendsAll_58 (F10, B11, G12) hP hD ⟨hI, hE, hZ⟩
      · have h20 := (kc_nle c18)
        have b21 : kb 0 y9 5 := kr_lt1 h20 b15 b17 (by decide)
        have b22 : kb 1 t16 6 := kr_lt2 h20 b15 b17 (by decide)
        refine lv_iload_n hx hb dX12_sendsAll_17 rfl (lv_at hl 2 rfl) ?_
        refine lv_iload_n hx hb dX12_sendsAll_18 rfl (lv_at hl 0 rfl) ?_
        refine kN.callS (As := [.int who, .int y9]) (rest := []) ⟨hx, hb, hml, hown, hg⟩ (m_isIn l who y9 ) (va_cwS 2 hg (kgS wt6_124 wt6_125 wt1_14 wt6_126) rfl rfl rfl (by decide +kernel) ⟨by decide, by decide⟩) hP hS rfl hl.1 rfl (Nat.le_of_ble_eq_true rfl) dX12_sendsAll_19 ⟨Nat.le_refl _, Nat.le_refl _⟩ (fun v24 H locs hw23 hP hS => ?_)
        have jn47 : ∀ (F44 : Nat → Int32) (B45 : Nat → Nat → Int32) (G46 : Nat → Int64) (H : Heap) (locs : List Loc) (ls : Array Slot), (mI F44 B45) → (mE (XR [(0, 23)]) f a F44 B45) → (mZ [22, 23, 24, 25] [2, 26, 34] f a F44 B45) → va_P D vwCl (mW K o r F44 B45 G46) H → va_D A (mW K o r F44 B45 G46) → va_S A s.heap H locs → lv_has ls 3 [(2, .int y9), (0, .ref o), (1, .int who)] → W p l e (rmD 51 0 0) s m ([.ref o, .int who] : List Value).toArray below meth c H locs 0 0 (kQv D (tysK K) (fun (u : mS) => mI u.1 u.2.1 ∧ mE (XR [(0, 23)]) f a u.1 u.2.1 ∧ mZ [22, 23, 24, 25] [2, 26, 34] f a u.1 u.2.1) (fun u => mW K o r u.1 u.2.1 u.2.2) A below ([.ref o, .int who] : List Value).toArray s 0 0) (F0 m 52 ls []) := by
          intro F44 B45 G46  H locs ls  hI hE hZ hP hD hS hl
          obtain ⟨t48, et48⟩ : ∃ z : Int32, z = y9 + Int32.ofInt 1 := ⟨_, rfl⟩
          have qt48 : t48.toInt = y9.toInt + 1 := by rw [et48]; exact km_inc b21 (by decide) (by decide)
          have b49 : kb 1 t48 6 := kb_inc (k := 1) qt48 b21
          refine lv_iinc (v := t48) (lv' := [(2, .int t48), (0, .ref o), (1, .int who)]) hx hb dX12_sendsAll_52 hl (k := 0) rfl et48.symm (by decide) rfl (fun ls hl => ?_)
          refine lv_goto (tgt := 6) hx hb dX12_sendsAll_55 (by decide) ?_
          exact ihlp13  F44 B45 G46 _ _ _ t48 (km_up hmlp13 qt48) hI hE hZ (kb_w b49 (by decide) (by decide)) hP hD hS (lv_sub hl [0, 1, 2] rfl)
        refine lv_if_eq (tgt := 52) hx hb dX12_sendsAll_22 (by decide) (fun c50 => ?_) (fun c50 => ?_)
        · have b51 : kb 0 v24 0 := kb_eq c50 kc_0
          exact jn47 F10 B11 G12 _ _ _  hI hE hZ hP hD hS (lv_sub hl [0, 1, 2] rfl)
        · have b52 : kb 1 v24 1 := kr_nel c50 hw23 kc_0 (by decide)
          refine lv_aload_n hx hb dX12_sendsAll_25 rfl (lv_at hl 1 rfl) ?_
          refine va_get (D := D) (ci := 12) (v := .ref (r 2)) (C := RX12) (T := TX12) (N := 48) hx hb hg inC12 hown hK hP 0 rfl rfl 2 (by decide) (hg _ wt5_162) (fun _ h9 => h9) rfl dX12_sendsAll_26 ?_
          refine lv_bipush (v := 16) hx hb dX12_sendsAll_29 (by decide) ?_
          refine lv_iload_n hx hb dX12_sendsAll_31 rfl (lv_at hl 0 rfl) ?_
          refine lv_iadd hx hb dX12_sendsAll_32 ?_
          refine lv_topi (fun t53 et53 => ?_)
          have b54 : kb 16 t53 21 := kb_eq et53 (kb_add kc_16 b21 (by decide) (by decide))
          have qt53 : t53.toInt = 16 + y9.toInt := by rw [et53]; exact kt_cadd kc_16 b21 (by decide) (by decide)
          refine va_iald hx hb hK hP 2 0 rfl rfl (kb_in b54 (by decide) (by decide)) dX12_sendsAll_33 ?_
          refine lv_topi (fun t55 et55 => ?_)
          have b56 : kb (-1) t55 9 := kb_eq et55 (aI_ld hI.2.1 2 16 6 b54 (by decide) (by decide) (by decide +kernel))
          refine lv_iconst (v := (-1)) hx hb dX12_sendsAll_34 (by decide) ?_
          refine lv_icmp_ne (tgt := 52) hx hb dX12_sendsAll_35 (by decide) (fun c57 => ?_) (fun c57 => ?_)
          · have b58 : kb 0 t55 9 := kr_nel c57 b56 kc_m1 (by decide)
            exact jn47 F10 B11 G12 _ _ _  hI hE hZ hP hD hS (lv_sub hl [0, 1, 2] rfl)
          · have b59 : kb (-1) t55 (-1) := kb_eq c57 kc_m1
            refine lv_aload_n hx hb dX12_sendsAll_38 rfl (lv_at hl 1 rfl) ?_
            refine va_get (D := D) (ci := 12) (v := .ref (r 2)) (C := RX12) (T := TX12) (N := 48) hx hb hg inC12 hown hK hP 0 rfl rfl 2 (by decide) (hg _ wt5_162) (fun _ h9 => h9) rfl dX12_sendsAll_39 ?_
            refine lv_bipush (v := 16) hx hb dX12_sendsAll_42 (by decide) ?_
            refine lv_iload_n hx hb dX12_sendsAll_44 rfl (lv_at hl 0 rfl) ?_
            refine lv_iadd hx hb dX12_sendsAll_45 ?_
            refine k_top (z := t53) et53.symm ?_
            refine lv_aload_n hx hb dX12_sendsAll_46 rfl (lv_at hl 1 rfl) ?_
            refine lv_iload_n hx hb dX12_sendsAll_47 rfl (lv_at hl 0 rfl) ?_
            refine kI.callV (As := [.int y9]) (rest := [.int t53, .ref (r 2)]) ⟨hx, hb, hml, hown, hg⟩ (m_bestPart l o r F10 B11 G12 hI y9 b21 ) (cwV 1 hg (kgV wt7_219 wt7_221 wp7_8 wt1_14 wt7_222) rfl rfl rfl (by decide +kernel) ⟨by decide, by decide⟩) hK hP hD hS hA mIs [] rfl (wr := []) rfl rfl rfl (fun i h => by cases h) 0 12 rfl rfl rfl hl.1 rfl (Nat.le_of_ble_eq_true rfl) dX12_sendsAll_48 ⟨Nat.le_refl _, Nat.le_refl _⟩ (fun v61 u62 H locs hw60 hP hD hS => ?_)
            obtain ⟨f63, a64, g65⟩ := u62
            have hP : va_P D vwCl (mW K o r f63 a64 g65) H := hP
            have hD : va_D A (mW K o r f63 a64 g65) := hD
            have hI : mI f63 a64 := hw60.2.1
            have hE : mE (XR [(0, 23)]) f a f63 a64 := mE_tr hE (mE_w (XR_w (by decide)) hw60.2.2.1)
            have eE66 : mE (XR []) F10 B11 f63 a64 := hw60.2.2.1
            have eZ67 : mZ [22, 23, 24, 25] [26] F10 B11 f63 a64 := hw60.2.2.2
            have hZ : mZ [22, 23, 24, 25] [2, 26, 34] f a f63 a64 := mZ_tr hZ (mZ_w (by decide) (by decide) eZ67)
            refine va_iast hx hb hK hP hD hS 2 0 rfl rfl (kb_in b54 (by decide) (by decide)) dX12_sendsAll_51 (fun H locs hP hD hS => ?_)
            have hP : va_P D vwCl (mW K o r f63 (va_up a64 2 (upd (a64 2) t53.toNatClampNeg v61)) g65) H := hP
            have hD : va_D A (mW K o r f63 (va_up a64 2 (upd (a64 2) t53.toNatClampNeg v61)) g65) := hD
            refine k_gen (P := fun z => va_P D vwCl (mW K o r f63 z g65) H ∧ va_D A (mW K o r f63 z g65) ∧ (mI f63 z) ∧ (mE (XR [(0, 23)]) f a f63 z) ∧ (mZ [22, 23, 24, 25] [2, 26, 34] f a f63 z)) (va_up a64 2 (upd (a64 2) t53.toNatClampNeg v61)) ⟨hP, hD, (mI_2 hI (aI_sx hI.2.1 2 16 6 b54 (by decide) (by decide) hw60.1 (by decide +kernel)) (kb_clt b54 (by decide) (by decide))), (mE_2 hE (bX_at 16 6 b54 (by decide) (by decide) (by decide))), (mZ_a hZ rfl)⟩ (fun a_68 ea_68 hq => ?_)
            obtain ⟨hP, hD, hI, hE, hZ⟩ := hq
            exact jn47 f63 a_68 g65 _ _ _  hI hE hZ hP hD hS (lv_sub hl [0, 1, 2] rfl)
  exact lp13 (7)  f4 a5 g6 _ _ _ 0 (by have h1 := (kc_0); unfold kb at h1; omega) hI hE hZ (kb_w kc_0 (by decide) (by decide)) hP hD hS (lv_sub hl [0, 1, 2] rfl)
set_option maxHeartbeats 4000000 in
set_option maxRecDepth 100000 in
theorem m_planned  (l : Launch) {D : va_G} {K : Nat → ClassId} (o : Nat) (r : Nat → Nat) (f : Nat → Int32) (a : Nat → Nat → Int32) (g : Nat → Int64) (hI : mI f a) (who : Int32) (ps : Int32) (mo : Int32) (bmo : kb (-2147483648) mo 200)   : kI l yX12_planned (Cond.code yX12_planned cX12_planned 6 (some .int) :: kG) (rmD 52 0 0) D (tysK K) [.ref o, .int who, .int ps, .int mo] (mW K o r f a g) (fun v (u : mS) => kb (-1) v 200 ∧ mI u.1 u.2.1 ∧ mE (XR []) f a u.1 u.2.1 ∧ mZ [22, 23, 24, 25] [2, 5, 26, 29, 30, 34] f a u.1 u.2.1) (fun u => mW K o r u.1 u.2.1 u.2.2) 0 0 := by
  refine kI.of (cc := cX12_planned) (maxL := 6) (ret := (some .int)) (by decide) rfl (Nat.le_of_ble_eq_true rfl) ?_
  intro p e s m below meth c A hx hb hr hml hown hts hlocks hnm hK hP hD hS hA ls hl
  have hE : mE (XR [(0, 23)]) f a f a := mE_rf
  have hZ : mZ [22, 23, 24, 25] [2, 5, 26, 29, 30, 34] f a f a := mZ_rf
  have hg : ∀ w ∈ kG, w.before _ s = true := fun w h => hts w (List.mem_cons_of_mem _ h)
  have hown : s.vm.findClass RX12 = some m.cls := hown
  have hl : lv_has ls 6 [(0, .ref o), (1, .int who), (2, .int ps), (3, .int mo)] := hl
  refine lv_aload_n hx hb dX12_planned_0 rfl (lv_at hl 0 rfl) ?_
  refine kV.callV (As := []) (rest := []) ⟨hx, hb, hml, hown, hg⟩ (m_begins l o r f a g hI   ) (cwV 0 hg (kgV wt7_203 wt7_205 wp7_4 wt1_14 wt7_206) rfl rfl rfl (by decide +kernel) ⟨by decide, by decide⟩) hK hP hD hS hA mIs [] rfl (wr := []) rfl rfl rfl (fun i h => by cases h) 0 12 rfl rfl rfl hl.1 rfl (Nat.le_of_ble_eq_true rfl) dX12_planned_1 ⟨Nat.le_refl _, Nat.le_refl _⟩ (fun u3 H locs hw1 hP hD hS => ?_)
  obtain ⟨f4, a5, g6⟩ := u3
  have hP : va_P D vwCl (mW K o r f4 a5 g6) H := hP
  have hD : va_D A (mW K o r f4 a5 g6) := hD
  have hI : mI f4 a5 := hw1.1
  have hE : mE (XR [(0, 23)]) f a f4 a5 := mE_tr hE hw1.2.1
  have eE7 : mE (XR [(0, 23)]) f a f4 a5 := hw1.2.1
  have eZ8 : mZ [] [2, 5] f a f4 a5 := hw1.2.2.2
  have hZ : mZ [22, 23, 24, 25] [2, 5, 26, 29, 30, 34] f a f4 a5 := mZ_tr hZ (mZ_w (by decide) (by decide) eZ8)
  have hk0 : ∀ i, i < 23 → a5 5 i = a 2 i := hw1.2.2.1
  refine lv_iconst (v := 0) hx hb dX12_planned_4 (by decide) ?_
  refine lv_istore (lv' := [(4, .int 0), (0, .ref o), (1, .int who), (2, .int ps), (3, .int mo)]) hx hb dX12_planned_5 hl (by decide) rfl (fun ls hl => ?_)
  have lp13 : ∀ (n14 : Nat) (F10 : Nat → Int32) (B11 : Nat → Nat → Int32) (G12 : Nat → Int64) (H : Heap) (locs : List Loc) (ls : Array Slot) (y9 : Int32), (200 < y9.toInt + (n14 : Int)) → (mI F10 B11) → (mE (XR [(0, 23)]) f a F10 B11) → (mZ [22, 23, 24, 25] [2, 5, 26, 29, 30, 34] f a F10 B11) → (∀ i, i < 23 → B11 5 i = a 2 i) → (kb 0 y9 200) → va_P D vwCl (mW K o r F10 B11 G12) H → va_D A (mW K o r F10 B11 G12) → va_S A s.heap H locs → lv_has ls 6 [(4, .int y9), (0, .ref o), (1, .int who), (2, .int ps), (3, .int mo)] → W p l e (rmD 52 0 0) s m ([.ref o, .int who, .int ps, .int mo] : List Value).toArray below meth c H locs 0 0 (kQi D (tysK K) (fun v (u : mS) => kb (-1) v 200 ∧ mI u.1 u.2.1 ∧ mE (XR []) f a u.1 u.2.1 ∧ mZ [22, 23, 24, 25] [2, 5, 26, 29, 30, 34] f a u.1 u.2.1) (fun u => mW K o r u.1 u.2.1 u.2.2) A below ([.ref o, .int who, .int ps, .int mo] : List Value).toArray s 0 0) (F0 m 7 ls []) := by
    intro n14
    induction n14 with
    | zero =>
      intro  F10 B11 G12  H locs ls y9 hmlp13 hI hE hZ hk0 b15 hP hD hS hl
      exact (by have h1 := b15.2; have h2 := hmlp13; omega : False).elim
    | succ n14 ihlp13 =>
      intro  F10 B11 G12  H locs ls y9 hmlp13 hI hE hZ hk0 b15 hP hD hS hl
      refine lv_iload hx hb dX12_planned_7 (lv_at hl 0 rfl) ?_
      refine lv_iload_n hx hb dX12_planned_9 rfl (lv_at hl 4 rfl) ?_
      have jn44 : ∀ (H : Heap) (locs : List Loc) (ls : Array Slot), va_P D vwCl (mW K o r F10 B11 G12) H → va_D A (mW K o r F10 B11 G12) → va_S A s.heap H locs → lv_has ls 6 [(4, .int y9), (0, .ref o), (1, .int who), (2, .int ps), (3, .int mo)] → W p l e (rmD 52 0 0) s m ([.ref o, .int who, .int ps, .int mo] : List Value).toArray below meth c H locs 0 0 (kQi D (tysK K) (fun v (u : mS) => kb (-1) v 200 ∧ mI u.1 u.2.1 ∧ mE (XR []) f a u.1 u.2.1 ∧ mZ [22, 23, 24, 25] [2, 5, 26, 29, 30, 34] f a u.1 u.2.1) (fun u => mW K o r u.1 u.2.1 u.2.2) A below ([.ref o, .int who, .int ps, .int mo] : List Value).toArray s 0 0) (F0 m 38 ls []) := by
        intro  H locs ls   hP hD hS hl
        refine lv_aload_n hx hb dX12_planned_38 rfl (lv_at hl 1 rfl) ?_
        refine lv_iload_n hx hb dX12_planned_39 rfl (lv_at hl 3 rfl) ?_
        refine kI.callV (As := [.int ps]) (rest := []) ⟨hx, hb, hml, hown, hg⟩ (m_areStanding l o r F10 B11 G12 hI ps  ) (cwV 1 hg (kgV wt7_211 wt7_213 wp7_6 wt1_14 wt7_214) rfl rfl rfl (by decide +kernel) ⟨by decide, by decide⟩) hK hP hD hS hA mIs [] rfl (wr := []) rfl rfl rfl (fun i h => by cases h) 0 12 rfl rfl rfl hl.1 rfl (Nat.le_of_ble_eq_true rfl) dX12_planned_40 ⟨Nat.le_refl _, Nat.le_refl _⟩ (fun v46 u47 H locs hw45 hP hD hS => ?_)
        have hP : va_P D vwCl (mW K o r F10 B11 G12) H := hP
        have hD : va_D A (mW K o r F10 B11 G12) := hD
        have jn51 : ∀ (H : Heap) (locs : List Loc) (ls : Array Slot) (z50 : Int32), (kb (-1) z50 200) → va_P D vwCl (mW K o r F10 B11 G12) H → va_D A (mW K o r F10 B11 G12) → va_S A s.heap H locs → lv_has ls 6 [(4, .int y9), (0, .ref o), (1, .int who), (2, .int ps), (3, .int mo)] → W p l e (rmD 52 0 0) s m ([.ref o, .int who, .int ps, .int mo] : List Value).toArray below meth c H locs 0 0 (kQi D (tysK K) (fun v (u : mS) => kb (-1) v 200 ∧ mI u.1 u.2.1 ∧ mE (XR []) f a u.1 u.2.1 ∧ mZ [22, 23, 24, 25] [2, 5, 26, 29, 30, 34] f a u.1 u.2.1) (fun u => mW K o r u.1 u.2.1 u.2.2) A below ([.ref o, .int who, .int ps, .int mo] : List Value).toArray s 0 0) (F0 m 52 ls [.int z50]) := by
          intro  H locs ls z50 b52 hP hD hS hl
          refine lv_istore (lv' := [(5, .int z50), (4, .int y9), (0, .ref o), (1, .int who), (2, .int ps), (3, .int mo)]) hx hb dX12_planned_52 hl (by decide) rfl (fun ls hl => ?_)
          refine lv_aload_n hx hb dX12_planned_54 rfl (lv_at hl 2 rfl) ?_
          refine lv_iconst (v := 0) hx hb dX12_planned_55 (by decide) ?_
          refine kV.callV (As := [.int 0]) (rest := []) ⟨hx, hb, hml, hown, hg⟩ (m_takesBack l o r F10 B11 G12 hI 0 (kb_w kc_0 (by decide) (by decide)) ) (cwV 1 hg (kgV wt7_223 wt7_225 wp7_9 wt1_14 wt7_226) rfl rfl rfl (by decide +kernel) ⟨by decide, by decide⟩) hK hP hD hS hA mIs [] rfl (wr := []) rfl rfl rfl (fun i h => by cases h) 0 12 rfl rfl rfl hl.1 rfl (Nat.le_of_ble_eq_true rfl) dX12_planned_56 ⟨Nat.le_refl _, Nat.le_refl _⟩ (fun u55 H locs hw53 hP hD hS => ?_)
          obtain ⟨f56, a57, g58⟩ := u55
          have hP : va_P D vwCl (mW K o r f56 a57 g58) H := hP
          have hD : va_D A (mW K o r f56 a57 g58) := hD
          have hI : mI f56 a57 := hw53.1
          have hE : mE (XR [(0, 23)]) f a f56 a57 := mE_tr hE hw53.2.1
          have eE59 : mE (XR [(0, 23)]) F10 B11 f56 a57 := hw53.2.1
          have eZ60 : mZ [] [2] F10 B11 f56 a57 := hw53.2.2.2
          have hZ : mZ [22, 23, 24, 25] [2, 5, 26, 29, 30, 34] f a f56 a57 := mZ_tr hZ (mZ_w (by decide) (by decide) eZ60)
          have hk0 : ∀ i, i < 23 → a57 5 i = a 2 i := (fun i hi => (congrFun (eZ60.2 5 rfl) i).trans (hk0 i hi))
          have htb : ∀ i, a57 2 i = a 2 i := fun i => by by_cases hi : i < 23; (exact (hw53.2.2.1 i hi).trans (by rw [show 23 * (0 : Int32).toInt.toNat + i = i from (by rw [show (0 : Int32).toInt.toNat = 0 from by decide +kernel]; omega)]; exact (congrFun (eZ60.2 5 rfl) i).symm.trans (hk0 i hi))); (exact hE.2.2.1 i (XR23 hi))
          refine lv_iload hx hb dX12_planned_59 (lv_at hl 0 rfl) ?_
          exact kI_ret (v := z50) hx hb hr hlocks rfl hK hS dX12_planned_61 (f56, a57, g58) hP hD ⟨b52, hI, ⟨hE.1, hE.2.1, fun i _ => htb i, hE.2.2.2.1, hE.2.2.2.2⟩, hZ⟩
        refine lv_if_eq (tgt := 51) hx hb dX12_planned_43 (by decide) (fun c61 => ?_) (fun c61 => ?_)
        · have b62 : kb 0 v46 0 := kb_eq c61 kc_0
          refine lv_iconst (v := (-1)) hx hb dX12_planned_51 (by decide) ?_
          exact jn51 _ _ _ (-1) (kb_w kc_m1 (by decide) (by decide)) hP hD hS (lv_sub hl [0, 1, 2, 3, 4] rfl)
        · have b63 : kb 1 v46 1 := kr_nel c61 hw45 kc_0 (by decide)
          refine lv_iload hx hb dX12_planned_46 (lv_at hl 0 rfl) ?_
          refine lv_goto (tgt := 52) hx hb dX12_planned_48 (by decide) ?_
          exact jn51 _ _ _ y9 (kb_w b15 (by decide) (by decide)) hP hD hS (lv_sub hl [0, 1, 2, 3, 4] rfl)
      refine lv_icmp_ge (tgt := 38) hx hb dX12_planned_10 (by decide) (fun c64 => ?_) (fun c64 => ?_)
      · have h65 := (kc_le c64)
        exact jn44 _ _ _   hP hD hS (lv_sub hl [0, 1, 2, 3, 4] rfl)
      · have h66 := (kc_nle c64)
        have b67 : kb 0 y9 199 := kr_lt1 h66 b15 bmo (by decide)
        have b68 : kb 1 mo 200 := kr_lt2 h66 b15 bmo (by decide)
        refine lv_aload_n hx hb dX12_planned_13 rfl (lv_at hl 1 rfl) ?_
        refine lv_iload_n hx hb dX12_planned_14 rfl (lv_at hl 3 rfl) ?_
        refine kI.callV (As := [.int ps]) (rest := []) ⟨hx, hb, hml, hown, hg⟩ (m_areStanding l o r F10 B11 G12 hI ps  ) (cwV 1 hg (kgV wt7_211 wt7_213 wp7_6 wt1_14 wt7_214) rfl rfl rfl (by decide +kernel) ⟨by decide, by decide⟩) hK hP hD hS hA mIs [] rfl (wr := []) rfl rfl rfl (fun i h => by cases h) 0 12 rfl rfl rfl hl.1 rfl (Nat.le_of_ble_eq_true rfl) dX12_planned_15 ⟨Nat.le_refl _, Nat.le_refl _⟩ (fun v70 u71 H locs hw69 hP hD hS => ?_)
        have hP : va_P D vwCl (mW K o r F10 B11 G12) H := hP
        have hD : va_D A (mW K o r F10 B11 G12) := hD
        refine lv_if_ne (tgt := 38) hx hb dX12_planned_18 (by decide) (fun c72 => ?_) (fun c72 => ?_)
        · have b73 : kb 1 v70 1 := kr_nel c72 hw69 kc_0 (by decide)
          exact jn44 _ _ _   hP hD hS (lv_sub hl [0, 1, 2, 3, 4] rfl)
        · have b74 : kb 0 v70 0 := kb_eq c72 kc_0
          refine lv_aload_n hx hb dX12_planned_21 rfl (lv_at hl 1 rfl) ?_
          refine lv_iload_n hx hb dX12_planned_22 rfl (lv_at hl 2 rfl) ?_
          refine kV.callV (As := [.int who]) (rest := []) ⟨hx, hb, hml, hown, hg⟩ (m_sendsAll l o r F10 B11 G12 hI who  ) (cwV 1 hg (kgV wt7_215 wt7_217 wp7_7 wt1_14 wt7_218) rfl rfl rfl (by decide +kernel) ⟨by decide, by decide⟩) hK hP hD hS hA mIs [] rfl (wr := []) rfl rfl rfl (fun i h => by cases h) 0 12 rfl rfl rfl hl.1 rfl (Nat.le_of_ble_eq_true rfl) dX12_planned_23 ⟨Nat.le_refl _, Nat.le_refl _⟩ (fun u77 H locs hw75 hP hD hS => ?_)
          obtain ⟨f78, a79, g80⟩ := u77
          have hP : va_P D vwCl (mW K o r f78 a79 g80) H := hP
          have hD : va_D A (mW K o r f78 a79 g80) := hD
          have hI : mI f78 a79 := hw75.1
          have hE : mE (XR [(0, 23)]) f a f78 a79 := mE_tr hE hw75.2.1
          have eE81 : mE (XR [(0, 23)]) F10 B11 f78 a79 := hw75.2.1
          have eZ82 : mZ [22, 23, 24, 25] [2, 26, 34] F10 B11 f78 a79 := hw75.2.2
          have hZ : mZ [22, 23, 24, 25] [2, 5, 26, 29, 30, 34] f a f78 a79 := mZ_tr hZ (mZ_w (by decide) (by decide) eZ82)
          have hk0 : ∀ i, i < 23 → a79 5 i = a 2 i := (fun i hi => (congrFun (eZ82.2 5 rfl) i).trans (hk0 i hi))
          refine lv_aload_n hx hb dX12_planned_26 rfl (lv_at hl 1 rfl) ?_
          refine lv_iload_n hx hb dX12_planned_27 rfl (lv_at hl 2 rfl) ?_
          refine kI.callV (As := [.int who]) (rest := []) ⟨hx, hb, hml, hown, hg⟩ (m_ticks l o r f78 a79 g80 hI who  ) (cwV 1 hg (kgV wt7_168 wt7_170 wp6_15 wt1_14 wt7_171) rfl rfl rfl (by decide +kernel) ⟨by decide, by decide⟩) hK hP hD hS hA mIs [] rfl (wr := []) rfl rfl rfl (fun i h => by cases h) 0 12 rfl rfl rfl hl.1 rfl (Nat.le_of_ble_eq_true rfl) dX12_planned_28 ⟨Nat.le_refl _, Nat.le_refl _⟩ (fun v84 u85 H locs hw83 hP hD hS => ?_)
          obtain ⟨f86, a87, g88⟩ := u85
          have hP : va_P D vwCl (mW K o r f86 a87 g88) H := hP
          have hD : va_D A (mW K o r f86 a87 g88) := hD
          have hI : mI f86 a87 := hw83.2.1
          have hE : mE (XR [(0, 23)]) f a f86 a87 := mE_tr hE hw83.2.2.1
          have eE89 : mE (XR [(0, 23)]) f78 a79 f86 a87 := hw83.2.2.1
          have eZ90 : mZ [22, 23, 24, 25] [2, 26, 29, 30] f78 a79 f86 a87 := hw83.2.2.2
          have hZ : mZ [22, 23, 24, 25] [2, 5, 26, 29, 30, 34] f a f86 a87 := mZ_tr hZ (mZ_w (by decide) (by decide) eZ90)
          have hk0 : ∀ i, i < 23 → a87 5 i = a 2 i := (fun i hi => (congrFun (eZ90.2 5 rfl) i).trans (hk0 i hi))
          refine lv_pop hx hb dX12_planned_31 rfl ?_
          obtain ⟨t91, et91⟩ : ∃ z : Int32, z = y9 + Int32.ofInt 1 := ⟨_, rfl⟩
          have qt91 : t91.toInt = y9.toInt + 1 := by rw [et91]; exact km_inc b67 (by decide) (by decide)
          have b92 : kb 1 t91 200 := kb_inc (k := 1) qt91 b67
          refine lv_iinc (v := t91) (lv' := [(4, .int t91), (0, .ref o), (1, .int who), (2, .int ps), (3, .int mo)]) hx hb dX12_planned_32 hl (k := 0) rfl et91.symm (by decide) rfl (fun ls hl => ?_)
          refine lv_goto (tgt := 7) hx hb dX12_planned_35 (by decide) ?_
          exact ihlp13  f86 a87 g88 _ _ _ t91 (km_up hmlp13 qt91) hI hE hZ hk0 (kb_w b92 (by decide) (by decide)) hP hD hS (lv_sub hl [0, 1, 2, 3, 4] rfl)
  exact lp13 (201)  f4 a5 g6 _ _ _ 0 (by have h1 := (kc_0); unfold kb at h1; omega) hI hE hZ hk0 (kb_w kc_0 (by decide) (by decide)) hP hD hS (lv_sub hl [0, 1, 2, 3, 4] rfl)
set_option maxHeartbeats 4000000 in
set_option maxRecDepth 100000 in
theorem m_plan  (l : Launch) {D : va_G} {K : Nat → ClassId} (o : Nat) (r : Nat → Nat) (f : Nat → Int32) (a : Nat → Nat → Int32) (g : Nat → Int64) (hI : mI f a) (x : Int32)    : kI l yX12_plan (Cond.code yX12_plan cX12_plan 2 (some .int) :: kG) (rmD 53 0 0) D (tysK K) [.ref o, .int x] (mW K o r f a g) (fun v (u : mS) => kb (-1) v 200 ∧ mI u.1 u.2.1 ∧ mE (XR []) f a u.1 u.2.1 ∧ mZ [22, 23, 24, 25] [2, 5, 26, 29, 30, 34] f a u.1 u.2.1) (fun u => mW K o r u.1 u.2.1 u.2.2) 0 0 := by
  refine kI.of (cc := cX12_plan) (maxL := 2) (ret := (some .int)) (by decide) rfl (Nat.le_of_ble_eq_true rfl) ?_
  intro p e s m below meth c A hx hb hr hml hown hts hlocks hnm hK hP hD hS hA ls hl
  have hE : mE (XR []) f a f a := mE_rf
  have hZ : mZ [22, 23, 24, 25] [2, 5, 26, 29, 30, 34] f a f a := mZ_rf
  have hg : ∀ w ∈ kG, w.before _ s = true := fun w h => hts w (List.mem_cons_of_mem _ h)
  have hown : s.vm.findClass RX12 = some m.cls := hown
  have hl : lv_has ls 2 [(0, .ref o), (1, .int x)] := hl
  refine lv_iload_n hx hb dX12_plan_0 rfl (lv_at hl 1 rfl) ?_
  refine lv_iconst (v := (-1)) hx hb dX12_plan_1 (by decide) ?_
  have jn10 : ∀ (H : Heap) (locs : List Loc) (ls : Array Slot), va_P D vwCl (mW K o r f a g) H → va_D A (mW K o r f a g) → va_S A s.heap H locs → lv_has ls 2 [(0, .ref o), (1, .int x)] → W p l e (rmD 53 0 0) s m ([.ref o, .int x] : List Value).toArray below meth c H locs 0 0 (kQi D (tysK K) (fun v (u : mS) => kb (-1) v 200 ∧ mI u.1 u.2.1 ∧ mE (XR []) f a u.1 u.2.1 ∧ mZ [22, 23, 24, 25] [2, 5, 26, 29, 30, 34] f a u.1 u.2.1) (fun u => mW K o r u.1 u.2.1 u.2.2) A below ([.ref o, .int x] : List Value).toArray s 0 0) (F0 m 15 ls []) := by
    intro  H locs ls   hP hD hS hl
    refine lv_aload_n hx hb dX12_plan_15 rfl (lv_at hl 0 rfl) ?_
    refine lv_aload_n hx hb dX12_plan_16 rfl (lv_at hl 0 rfl) ?_
    refine kI.callV (As := []) (rest := [.ref o]) ⟨hx, hb, hml, hown, hg⟩ (m_allBuilders l o r f a g hI   ) (cwV 0 hg (kgV wt7_164 wt7_166 wp6_14 wt1_14 wt7_167) rfl rfl rfl (by decide +kernel) ⟨by decide, by decide⟩) hK hP hD hS hA mIs [] rfl (wr := []) rfl rfl rfl (fun i h => by cases h) 0 12 rfl rfl rfl hl.1 rfl (Nat.le_of_ble_eq_true rfl) dX12_plan_17 ⟨Nat.le_refl _, Nat.le_refl _⟩ (fun v12 u13 H locs hw11 hP hD hS => ?_)
    have hP : va_P D vwCl (mW K o r f a g) H := hP
    have hD : va_D A (mW K o r f a g) := hD
    refine lv_iload_n hx hb dX12_plan_20 rfl (lv_at hl 1 rfl) ?_
    refine lv_iconst (v := (-1)) hx hb dX12_plan_21 (by decide) ?_
    have jn20 : ∀ (H : Heap) (locs : List Loc) (ls : Array Slot) (z19 : Int32), va_P D vwCl (mW K o r f a g) H → va_D A (mW K o r f a g) → va_S A s.heap H locs → lv_has ls 2 [(0, .ref o), (1, .int x)] → W p l e (rmD 53 0 0) s m ([.ref o, .int x] : List Value).toArray below meth c H locs 0 0 (kQi D (tysK K) (fun v (u : mS) => kb (-1) v 200 ∧ mI u.1 u.2.1 ∧ mE (XR []) f a u.1 u.2.1 ∧ mZ [22, 23, 24, 25] [2, 5, 26, 29, 30, 34] f a u.1 u.2.1) (fun u => mW K o r u.1 u.2.1 u.2.2) A below ([.ref o, .int x] : List Value).toArray s 0 0) (F0 m 35 ls [.int z19, .int v12, .ref o]) := by
      intro  H locs ls z19  hP hD hS hl
      refine lv_sipush (v := 200) hx hb dX12_plan_35 (by decide) ?_
      refine kI.callV (As := [.int v12, .int z19, .int 200]) (rest := []) ⟨hx, hb, hml, hown, hg⟩ (m_planned l o r f a g hI v12 z19 200 (kb_w kc_200 (by decide) (by decide)) ) (cwV 3 hg (kgV wt7_199 wt7_201 wp7_3 wt1_14 wt7_202) rfl rfl rfl (by decide +kernel) ⟨by decide, by decide⟩) hK hP hD hS hA mIs [] rfl (wr := []) rfl rfl rfl (fun i h => by cases h) 0 12 rfl rfl rfl hl.1 rfl (Nat.le_of_ble_eq_true rfl) dX12_plan_38 ⟨Nat.le_refl _, Nat.le_refl _⟩ (fun v22 u23 H locs hw21 hP hD hS => ?_)
      obtain ⟨f24, a25, g26⟩ := u23
      have hP : va_P D vwCl (mW K o r f24 a25 g26) H := hP
      have hD : va_D A (mW K o r f24 a25 g26) := hD
      have hI : mI f24 a25 := hw21.2.1
      have hE : mE (XR []) f a f24 a25 := mE_tr hE hw21.2.2.1
      have eE27 : mE (XR []) f a f24 a25 := hw21.2.2.1
      have eZ28 : mZ [22, 23, 24, 25] [2, 5, 26, 29, 30, 34] f a f24 a25 := hw21.2.2.2
      have hZ : mZ [22, 23, 24, 25] [2, 5, 26, 29, 30, 34] f a f24 a25 := mZ_tr hZ (mZ_w (by decide) (by decide) eZ28)
      exact kI_ret (v := v22) hx hb hr hlocks rfl hK hS dX12_plan_41 (f24, a25, g26) hP hD ⟨hw21.1, hI, hE, hZ⟩
    refine lv_icmp_ne (tgt := 32) hx hb dX12_plan_22 (by decide) (fun c29 => ?_) (fun c29 => ?_)
    · refine lv_iconst (v := 1) hx hb dX12_plan_32 (by decide) ?_
      refine lv_iload_n hx hb dX12_plan_33 rfl (lv_at hl 1 rfl) ?_
      refine lv_ishl hx hb dX12_plan_34 ?_
      refine lv_topi (fun t30 et30 => ?_)
      exact jn20 _ _ _ t30  hP hD hS (lv_sub hl [0, 1] rfl)
    · have b31 : kb (-1) x (-1) := kb_eq c29 kc_m1
      refine lv_aload_n hx hb dX12_plan_25 rfl (lv_at hl 0 rfl) ?_
      refine kI.callV (As := []) (rest := [.int v12, .ref o]) ⟨hx, hb, hml, hown, hg⟩ (m_allParts l o r f a g hI   ) (cwV 0 hg (kgV wt7_187 wt7_189 wp7_1 wt1_14 wt7_190) rfl rfl rfl (by decide +kernel) ⟨by decide, by decide⟩) hK hP hD hS hA mIs [] rfl (wr := []) rfl rfl rfl (fun i h => by cases h) 0 12 rfl rfl rfl hl.1 rfl (Nat.le_of_ble_eq_true rfl) dX12_plan_26 ⟨Nat.le_refl _, Nat.le_refl _⟩ (fun v33 u34 H locs hw32 hP hD hS => ?_)
      have hP : va_P D vwCl (mW K o r f a g) H := hP
      have hD : va_D A (mW K o r f a g) := hD
      refine lv_goto (tgt := 35) hx hb dX12_plan_29 (by decide) ?_
      exact jn20 _ _ _ v33  hP hD hS (lv_sub hl [0, 1] rfl)
  refine lv_icmp_eq (tgt := 15) hx hb dX12_plan_2 (by decide) (fun c35 => ?_) (fun c35 => ?_)
  · have b36 : kb (-1) x (-1) := kb_eq c35 kc_m1
    exact jn10 _ _ _   hP hD hS (lv_sub hl [0, 1] rfl)
  · refine lv_aload_n hx hb dX12_plan_5 rfl (lv_at hl 0 rfl) ?_
    refine lv_iload_n hx hb dX12_plan_6 rfl (lv_at hl 1 rfl) ?_
    refine kI.callV (As := [.int x]) (rest := []) ⟨hx, hb, hml, hown, hg⟩ (m_isPart l o r f a g hI x  ) (cwV 1 hg (kgV wt6_104 wt6_106 wp3_10 wt1_14 wt6_107) rfl rfl rfl (by decide +kernel) ⟨by decide, by decide⟩) hK hP hD hS hA mIs [] rfl (wr := []) rfl rfl rfl (fun i h => by cases h) 0 12 rfl rfl rfl hl.1 rfl (Nat.le_of_ble_eq_true rfl) dX12_plan_7 ⟨Nat.le_refl _, Nat.le_refl _⟩ (fun v38 u39 H locs hw37 hP hD hS => ?_)
    have hP : va_P D vwCl (mW K o r f a g) H := hP
    have hD : va_D A (mW K o r f a g) := hD
    refine lv_if_ne (tgt := 15) hx hb dX12_plan_10 (by decide) (fun c40 => ?_) (fun c40 => ?_)
    · have b41 : kb 1 v38 1 := kr_nel c40 hw37.1 kc_0 (by decide)
      have h42 := hw37.2.1 c40
      have b43 : kb 0 x 9 := ⟨by have h1 := h42.1; omega, (by have h1 := h42.2; have h2 := (aI_at hI.2.1 2 102 (by decide) (by decide) : kb 0 (a 2 102) 10).2; omega)⟩
      exact jn10 _ _ _   hP hD hS (lv_sub hl [0, 1] rfl)
    · have b44 : kb 0 v38 0 := kb_eq c40 kc_0
      refine lv_iconst (v := (-1)) hx hb dX12_plan_13 (by decide) ?_
      exact kI_ret (v := (-1)) hx hb hr hlocks rfl hK hS dX12_plan_14 (f, a, g) hP hD ⟨(kb_w kc_m1 (by decide) (by decide)), hI, hE, hZ⟩
set_option maxHeartbeats 4000000 in
set_option maxRecDepth 100000 in
theorem m_hands  (l : Launch) {D : va_G} {K : Nat → ClassId} (o : Nat) (r : Nat → Nat) (f : Nat → Int32) (a : Nat → Nat → Int32) (g : Nat → Int64) (hI : mI f a) (x : Int32)    : kI l yX12_hands (Cond.code yX12_hands cX12_hands 4 (some .int) :: kG) (rmD 53 0 0) D (tysK K) [.ref o, .int x] (mW K o r f a g) (fun v (u : mS) => kb (-2147483648) v 2147483647 ∧ mI u.1 u.2.1 ∧ mE (XR []) f a u.1 u.2.1 ∧ mZ [22, 23, 24, 25] [2, 5, 26, 29, 30, 34] f a u.1 u.2.1) (fun u => mW K o r u.1 u.2.1 u.2.2) 0 0 := by
  refine kI.of (cc := cX12_hands) (maxL := 4) (ret := (some .int)) (by decide) rfl (Nat.le_of_ble_eq_true rfl) ?_
  intro p e s m below meth c A hx hb hr hml hown hts hlocks hnm hK hP hD hS hA ls hl
  have hE : mE (XR []) f a f a := mE_rf
  have hZ : mZ [22, 23, 24, 25] [2, 5, 26, 29, 30, 34] f a f a := mZ_rf
  have hg : ∀ w ∈ kG, w.before _ s = true := fun w h => hts w (List.mem_cons_of_mem _ h)
  have hown : s.vm.findClass RX12 = some m.cls := hown
  have hl : lv_has ls 4 [(0, .ref o), (1, .int x)] := hl
  refine lv_iload_n hx hb dX12_hands_0 rfl (lv_at hl 1 rfl) ?_
  refine lv_iconst (v := 0) hx hb dX12_hands_1 (by decide) ?_
  refine lv_iconst (v := 1) hx hb dX12_hands_2 (by decide) ?_
  refine kN.callS (As := [.int x, .int 0, .int 1]) (rest := []) ⟨hx, hb, hml, hown, hg⟩ (m_lies l x 0 1 ) (va_cwS 3 hg (kgS wt6_69 wt6_70 wt1_14 wt6_71) rfl rfl rfl (by decide +kernel) ⟨by decide, by decide⟩) hP hS rfl hl.1 rfl (Nat.le_of_ble_eq_true rfl) dX12_hands_3 ⟨Nat.le_refl _, Nat.le_refl _⟩ (fun v2 H locs hw1 hP hS => ?_)
  refine lv_if_ne (tgt := 11) hx hb dX12_hands_6 (by decide) (fun c4 => ?_) (fun c4 => ?_)
  · have b5 : kb 1 v2 1 := kr_nel c4 hw1.1 kc_0 (by decide)
    have h6 := mLies_ne (hw1.2 ▸ c4)
    have b7 : kb 0 x 2147483647 := kr_le2 h6.1 kc_0 (kb_any x)
    have b8 : kb 0 x 1 := kr_le1 h6.2 b7 kc_1
    refine lv_iconst (v := (-1)) hx hb dX12_hands_11 (by decide) ?_
    refine lv_istore_n (lv' := [(2, .int (-1)), (0, .ref o), (1, .int x)]) hx hb dX12_hands_12 rfl hl (by decide) rfl (fun ls hl => ?_)
    refine lv_iconst (v := 0) hx hb dX12_hands_13 (by decide) ?_
    refine lv_istore_n (lv' := [(3, .int 0), (2, .int (-1)), (0, .ref o), (1, .int x)]) hx hb dX12_hands_14 rfl hl (by decide) rfl (fun ls hl => ?_)
    have lp14 : ∀ (n15 : Nat) (F11 : Nat → Int32) (B12 : Nat → Nat → Int32) (G13 : Nat → Int64) (H : Heap) (locs : List Loc) (ls : Array Slot) (y9 : Int32) (y10 : Int32), (64 < y9.toInt + (n15 : Int)) → (mI F11 B12) → (mE (XR []) f a F11 B12) → (mZ [22, 23, 24, 25] [2, 5, 26, 29, 30, 34] f a F11 B12) → (kb 0 y9 64) → (kb (-1) y10 63) → va_P D vwCl (mW K o r F11 B12 G13) H → va_D A (mW K o r F11 B12 G13) → va_S A s.heap H locs → lv_has ls 4 [(3, .int y9), (2, .int y10), (0, .ref o), (1, .int x)] → W p l e (rmD 53 0 0) s m ([.ref o, .int x] : List Value).toArray below meth c H locs 0 0 (kQi D (tysK K) (fun v (u : mS) => kb (-2147483648) v 2147483647 ∧ mI u.1 u.2.1 ∧ mE (XR []) f a u.1 u.2.1 ∧ mZ [22, 23, 24, 25] [2, 5, 26, 29, 30, 34] f a u.1 u.2.1) (fun u => mW K o r u.1 u.2.1 u.2.2) A below ([.ref o, .int x] : List Value).toArray s 0 0) (F0 m 15 ls []) := by
      intro n15
      induction n15 with
      | zero =>
        intro  F11 B12 G13  H locs ls y9 y10 hmlp14 hI hE hZ b16 b17 hP hD hS hl
        exact (by have h1 := b16.2; have h2 := hmlp14; omega : False).elim
      | succ n15 ihlp14 =>
        intro  F11 B12 G13  H locs ls y9 y10 hmlp14 hI hE hZ b16 b17 hP hD hS hl
        refine lv_iload_n hx hb dX12_hands_15 rfl (lv_at hl 0 rfl) ?_
        refine lv_aload_n hx hb dX12_hands_16 rfl (lv_at hl 2 rfl) ?_
        refine kI.callV (As := []) (rest := [.int y9]) ⟨hx, hb, hml, hown, hg⟩ (m_allBuilders l o r F11 B12 G13 hI   ) (cwV 0 hg (kgV wt7_164 wt7_166 wp6_14 wt1_14 wt7_167) rfl rfl rfl (by decide +kernel) ⟨by decide, by decide⟩) hK hP hD hS hA mIs [] rfl (wr := []) rfl rfl rfl (fun i h => by cases h) 0 12 rfl rfl rfl hl.1 rfl (Nat.le_of_ble_eq_true rfl) dX12_hands_17 ⟨Nat.le_refl _, Nat.le_refl _⟩ (fun v19 u20 H locs hw18 hP hD hS => ?_)
        have hP : va_P D vwCl (mW K o r F11 B12 G13) H := hP
        have hD : va_D A (mW K o r F11 B12 G13) := hD
        refine lv_icmp_gt (tgt := 70) hx hb dX12_hands_20 (by decide) (fun c21 => ?_) (fun c21 => ?_)
        · have h22 := (kc_lt c21)
          have b23 : kb 1 y9 64 := kr_lt2 h22 hw18 b16 (by decide)
          refine lv_iload_n hx hb dX12_hands_70 rfl (lv_at hl 1 rfl) ?_
          refine lv_iconst (v := (-1)) hx hb dX12_hands_71 (by decide) ?_
          refine lv_icmp_eq (tgt := 80) hx hb dX12_hands_72 (by decide) (fun c24 => ?_) (fun c24 => ?_)
          · have b25 : kb (-1) y10 (-1) := kb_eq c24 kc_m1
            refine lv_iload_n hx hb dX12_hands_80 rfl (lv_at hl 1 rfl) ?_
            refine lv_goto (tgt := 88) hx hb dX12_hands_81 (by decide) ?_
            exact kI_ret (v := y10) hx hb hr hlocks rfl hK hS dX12_hands_88 (F11, B12, G13) hP hD ⟨(kb_w b25 (by decide) (by decide)), hI, hE, hZ⟩
          · have b26 : kb 0 y10 63 := kr_nel c24 b17 kc_m1 (by decide)
            refine lv_iload_n hx hb dX12_hands_75 rfl (lv_at hl 3 rfl) ?_
            refine lv_iconst (v := 1) hx hb dX12_hands_76 (by decide) ?_
            refine lv_icmp_ne (tgt := 84) hx hb dX12_hands_77 (by decide) (fun c27 => ?_) (fun c27 => ?_)
            · have b28 : kb 0 x 0 := kr_neh c27 b8 kc_1 (by decide)
              refine lv_iload_n hx hb dX12_hands_84 rfl (lv_at hl 1 rfl) ?_
              refine kN.callS (As := [.int y10]) (rest := []) ⟨hx, hb, hml, hown, hg⟩ (m_ones l y10 ) (va_cwS 1 hg (kgS wt7_71 wt7_72 wt1_14 wt7_73) rfl rfl rfl (by decide +kernel) ⟨by decide, by decide⟩) hP hS rfl hl.1 rfl (Nat.le_of_ble_eq_true rfl) dX12_hands_85 ⟨Nat.le_refl _, Nat.le_refl _⟩ (fun v30 H locs hw29 hP hS => ?_)
              exact kI_ret (v := v30) hx hb hr hlocks rfl hK hS dX12_hands_88 (F11, B12, G13) hP hD ⟨(kb_w hw29 (by decide) (by decide)), hI, hE, hZ⟩
            · have b32 : kb 1 x 1 := kb_eq c27 kc_1
              refine lv_iload_n hx hb dX12_hands_80 rfl (lv_at hl 1 rfl) ?_
              refine lv_goto (tgt := 88) hx hb dX12_hands_81 (by decide) ?_
              exact kI_ret (v := y10) hx hb hr hlocks rfl hK hS dX12_hands_88 (F11, B12, G13) hP hD ⟨(kb_w b26 (by decide) (by decide)), hI, hE, hZ⟩
        · have h33 := (kc_nlt c21)
          have b34 : kb 0 y9 63 := kr_le1 h33 b16 hw18
          refine lv_iload_n hx hb dX12_hands_23 rfl (lv_at hl 1 rfl) ?_
          refine lv_iconst (v := (-1)) hx hb dX12_hands_24 (by decide) ?_
          have jn54 : ∀ (H : Heap) (locs : List Loc) (ls : Array Slot), va_P D vwCl (mW K o r F11 B12 G13) H → va_D A (mW K o r F11 B12 G13) → va_S A s.heap H locs → lv_has ls 4 [(3, .int y9), (2, .int y10), (0, .ref o), (1, .int x)] → W p l e (rmD 53 0 0) s m ([.ref o, .int x] : List Value).toArray below meth c H locs 0 0 (kQi D (tysK K) (fun v (u : mS) => kb (-2147483648) v 2147483647 ∧ mI u.1 u.2.1 ∧ mE (XR []) f a u.1 u.2.1 ∧ mZ [22, 23, 24, 25] [2, 5, 26, 29, 30, 34] f a u.1 u.2.1) (fun u => mW K o r u.1 u.2.1 u.2.2) A below ([.ref o, .int x] : List Value).toArray s 0 0) (F0 m 42 ls []) := by
            intro  H locs ls   hP hD hS hl
            refine lv_aload_n hx hb dX12_hands_42 rfl (lv_at hl 2 rfl) ?_
            refine lv_iload_n hx hb dX12_hands_43 rfl (lv_at hl 0 rfl) ?_
            refine lv_aload_n hx hb dX12_hands_44 rfl (lv_at hl 2 rfl) ?_
            refine kI.callV (As := []) (rest := [.int y9, .ref o]) ⟨hx, hb, hml, hown, hg⟩ (m_allParts l o r F11 B12 G13 hI   ) (cwV 0 hg (kgV wt7_187 wt7_189 wp7_1 wt1_14 wt7_190) rfl rfl rfl (by decide +kernel) ⟨by decide, by decide⟩) hK hP hD hS hA mIs [] rfl (wr := []) rfl rfl rfl (fun i h => by cases h) 0 12 rfl rfl rfl hl.1 rfl (Nat.le_of_ble_eq_true rfl) dX12_hands_45 ⟨Nat.le_refl _, Nat.le_refl _⟩ (fun v56 u57 H locs hw55 hP hD hS => ?_)
            have hP : va_P D vwCl (mW K o r F11 B12 G13) H := hP
            have hD : va_D A (mW K o r F11 B12 G13) := hD
            refine lv_aload_n hx hb dX12_hands_48 rfl (lv_at hl 2 rfl) ?_
            refine va_get (D := D) (ci := 12) (v := .ref (r 2)) (C := RX12) (T := TX12) (N := 48) hx hb hg inC12 hown hK hP 0 rfl rfl 2 (by decide) (hg _ wt5_162) (fun _ h9 => h9) rfl dX12_hands_49 ?_
            refine lv_bipush (v := 99) hx hb dX12_hands_52 (by decide) ?_
            refine va_iald hx hb hK hP 2 0 rfl rfl (kb_in kc_99 (by decide) (by decide)) dX12_hands_54 ?_
            refine lv_topi (fun t58 et58 => ?_)
            rw [cl_99] at et58
            have b59 : kb 0 t58 99 := kb_eq et58 (aI_at hI.2.1 2 99 (by decide) (by decide))
            refine kI.callV (As := [.int y9, .int v56, .int t58]) (rest := []) ⟨hx, hb, hml, hown, hg⟩ (m_planned l o r F11 B12 G13 hI y9 v56 t58 (kb_w b59 (by decide) (by decide)) ) (cwV 3 hg (kgV wt7_199 wt7_201 wp7_3 wt1_14 wt7_202) rfl rfl rfl (by decide +kernel) ⟨by decide, by decide⟩) hK hP hD hS hA mIs [] rfl (wr := []) rfl rfl rfl (fun i h => by cases h) 0 12 rfl rfl rfl hl.1 rfl (Nat.le_of_ble_eq_true rfl) dX12_hands_55 ⟨Nat.le_refl _, Nat.le_refl _⟩ (fun v61 u62 H locs hw60 hP hD hS => ?_)
            obtain ⟨f63, a64, g65⟩ := u62
            have hP : va_P D vwCl (mW K o r f63 a64 g65) H := hP
            have hD : va_D A (mW K o r f63 a64 g65) := hD
            have hI : mI f63 a64 := hw60.2.1
            have hE : mE (XR []) f a f63 a64 := mE_tr hE hw60.2.2.1
            have eE66 : mE (XR []) F11 B12 f63 a64 := hw60.2.2.1
            have eZ67 : mZ [22, 23, 24, 25] [2, 5, 26, 29, 30, 34] F11 B12 f63 a64 := hw60.2.2.2
            have hZ : mZ [22, 23, 24, 25] [2, 5, 26, 29, 30, 34] f a f63 a64 := mZ_tr hZ (mZ_w (by decide) (by decide) eZ67)
            refine lv_iconst (v := (-1)) hx hb dX12_hands_58 (by decide) ?_
            have jn71 : ∀ (H : Heap) (locs : List Loc) (ls : Array Slot) (y70 : Int32), (kb (-1) y70 63) → va_P D vwCl (mW K o r f63 a64 g65) H → va_D A (mW K o r f63 a64 g65) → va_S A s.heap H locs → lv_has ls 4 [(3, .int y9), (2, .int y70), (0, .ref o), (1, .int x)] → W p l e (rmD 53 0 0) s m ([.ref o, .int x] : List Value).toArray below meth c H locs 0 0 (kQi D (tysK K) (fun v (u : mS) => kb (-2147483648) v 2147483647 ∧ mI u.1 u.2.1 ∧ mE (XR []) f a u.1 u.2.1 ∧ mZ [22, 23, 24, 25] [2, 5, 26, 29, 30, 34] f a u.1 u.2.1) (fun u => mW K o r u.1 u.2.1 u.2.2) A below ([.ref o, .int x] : List Value).toArray s 0 0) (F0 m 64 ls []) := by
              intro  H locs ls y70 b72 hP hD hS hl
              obtain ⟨t73, et73⟩ : ∃ z : Int32, z = y9 + Int32.ofInt 1 := ⟨_, rfl⟩
              have qt73 : t73.toInt = y9.toInt + 1 := by rw [et73]; exact km_inc b34 (by decide) (by decide)
              have b74 : kb 1 t73 64 := kb_inc (k := 1) qt73 b34
              refine lv_iinc (v := t73) (lv' := [(3, .int t73), (2, .int y70), (0, .ref o), (1, .int x)]) hx hb dX12_hands_64 hl (k := 0) rfl et73.symm (by decide) rfl (fun ls hl => ?_)
              refine lv_goto (tgt := 15) hx hb dX12_hands_67 (by decide) ?_
              exact ihlp14  f63 a64 g65 _ _ _ t73 y70 (km_up hmlp14 qt73) hI hE hZ (kb_w b74 (by decide) (by decide)) b72 hP hD hS (lv_sub hl [0, 1, 2, 3] rfl)
            refine lv_icmp_eq (tgt := 64) hx hb dX12_hands_59 (by decide) (fun c75 => ?_) (fun c75 => ?_)
            · have b76 : kb (-1) v61 (-1) := kb_eq c75 kc_m1
              exact jn71 _ _ _ y10 b17 hP hD hS (lv_sub hl [0, 1, 2, 3] rfl)
            · have b77 : kb 0 v61 200 := kr_nel c75 hw60.1 kc_m1 (by decide)
              refine lv_iload_n hx hb dX12_hands_62 rfl (lv_at hl 0 rfl) ?_
              refine lv_istore_n (lv' := [(2, .int y9), (3, .int y9), (0, .ref o), (1, .int x)]) hx hb dX12_hands_63 rfl hl (by decide) rfl (fun ls hl => ?_)
              exact jn71 _ _ _ y9 (kb_w b34 (by decide) (by decide)) hP hD hS (lv_sub hl [1, 0, 2, 3] rfl)
          refine lv_icmp_eq (tgt := 42) hx hb dX12_hands_25 (by decide) (fun c78 => ?_) (fun c78 => ?_)
          · have b79 : kb (-1) y10 (-1) := kb_eq c78 kc_m1
            exact jn54 _ _ _   hP hD hS (lv_sub hl [0, 1, 2, 3] rfl)
          · have b80 : kb 0 y10 63 := kr_nel c78 b17 kc_m1 (by decide)
            refine lv_iload_n hx hb dX12_hands_28 rfl (lv_at hl 0 rfl) ?_
            refine kN.callS (As := [.int y9]) (rest := []) ⟨hx, hb, hml, hown, hg⟩ (m_ones l y9 ) (va_cwS 1 hg (kgS wt7_71 wt7_72 wt1_14 wt7_73) rfl rfl rfl (by decide +kernel) ⟨by decide, by decide⟩) hP hS rfl hl.1 rfl (Nat.le_of_ble_eq_true rfl) dX12_hands_29 ⟨Nat.le_refl _, Nat.le_refl _⟩ (fun v82 H locs hw81 hP hS => ?_)
            refine lv_iload_n hx hb dX12_hands_32 rfl (lv_at hl 1 rfl) ?_
            refine kN.callS (As := [.int y10]) (rest := [.int v82]) ⟨hx, hb, hml, hown, hg⟩ (m_ones l y10 ) (va_cwS 1 hg (kgS wt7_71 wt7_72 wt1_14 wt7_73) rfl rfl rfl (by decide +kernel) ⟨by decide, by decide⟩) hP hS rfl hl.1 rfl (Nat.le_of_ble_eq_true rfl) dX12_hands_33 ⟨Nat.le_refl _, Nat.le_refl _⟩ (fun v85 H locs hw84 hP hS => ?_)
            refine lv_icmp_lt (tgt := 42) hx hb dX12_hands_36 (by decide) (fun c91 => ?_) (fun c91 => ?_)
            · have h92 := (kc_lt c91)
              have b93 : kb 0 v82 9 := kr_lt1 h92 hw81 hw84 (by decide)
              have b94 : kb 1 v85 10 := kr_lt2 h92 hw81 hw84 (by decide)
              exact jn54 _ _ _   hP hD hS (lv_sub hl [0, 1, 2, 3] rfl)
            · have h95 := (kc_nlt c91)
              refine lv_goto (tgt := 64) hx hb dX12_hands_39 (by decide) ?_
              obtain ⟨t96, et96⟩ : ∃ z : Int32, z = y9 + Int32.ofInt 1 := ⟨_, rfl⟩
              have qt96 : t96.toInt = y9.toInt + 1 := by rw [et96]; exact km_inc b34 (by decide) (by decide)
              have b97 : kb 1 t96 64 := kb_inc (k := 1) qt96 b34
              refine lv_iinc (v := t96) (lv' := [(3, .int t96), (2, .int y10), (0, .ref o), (1, .int x)]) hx hb dX12_hands_64 hl (k := 0) rfl et96.symm (by decide) rfl (fun ls hl => ?_)
              refine lv_goto (tgt := 15) hx hb dX12_hands_67 (by decide) ?_
              exact ihlp14  F11 B12 G13 _ _ _ t96 y10 (km_up hmlp14 qt96) hI hE hZ (kb_w b97 (by decide) (by decide)) (kb_w b80 (by decide) (by decide)) hP hD hS (lv_sub hl [0, 1, 2, 3] rfl)
    exact lp14 (65)  f a g _ _ _ 0 (-1) (by have h1 := (kc_0); unfold kb at h1; omega) hI hE hZ (kb_w kc_0 (by decide) (by decide)) (kb_w kc_m1 (by decide) (by decide)) hP hD hS (lv_sub hl [0, 1, 2, 3] rfl)
  · have b98 : kb 0 v2 0 := kb_eq c4 kc_0
    refine lv_iconst (v := (-1)) hx hb dX12_hands_9 (by decide) ?_
    exact kI_ret (v := (-1)) hx hb hr hlocks rfl hK hS dX12_hands_10 (f, a, g) hP hD ⟨(kb_w kc_m1 (by decide) (by decide)), hI, hE, hZ⟩
set_option maxHeartbeats 4000000 in
set_option maxRecDepth 100000 in
theorem m_taughtIn  (l : Launch) {D : va_G} {K : Nat → ClassId} (o : Nat) (r : Nat → Nat) (f : Nat → Int32) (a : Nat → Nat → Int32) (g : Nat → Int64) (hI : mI f a) (bd : Int32) (cr : Int32) (bbd : kb 0 bd 5) (bcr : kb 0 cr 3)   : kI l yX12_taughtIn (Cond.code yX12_taughtIn cX12_taughtIn 5 (some .int) :: kG) (rmD 53 0 0) D (tysK K) [.ref o, .int bd, .int cr] (mW K o r f a g) (fun v (u : mS) => kb 0 v 1000000 ∧ mI u.1 u.2.1 ∧ mE (XR []) f a u.1 u.2.1 ∧ mZ [22, 23, 24, 25] [2, 5, 26, 29, 30, 34] f a u.1 u.2.1) (fun u => mW K o r u.1 u.2.1 u.2.2) 0 0 := by
  refine kI.of (cc := cX12_taughtIn) (maxL := 5) (ret := (some .int)) (by decide) rfl (Nat.le_of_ble_eq_true rfl) ?_
  intro p e s m below meth c A hx hb hr hml hown hts hlocks hnm hK hP hD hS hA ls hl
  have hE : mE (XR [(63, 69)]) f a f a := mE_rf
  have hZ : mZ [22, 23, 24, 25] [2, 5, 26, 29, 30, 34] f a f a := mZ_rf
  have hg : ∀ w ∈ kG, w.before _ s = true := fun w h => hts w (List.mem_cons_of_mem _ h)
  have hown : s.vm.findClass RX12 = some m.cls := hown
  have hl : lv_has ls 5 [(0, .ref o), (1, .int bd), (2, .int cr)] := hl
  refine lv_aload_n hx hb dX12_taughtIn_0 rfl (lv_at hl 0 rfl) ?_
  refine va_get (D := D) (ci := 12) (v := .ref (r 2)) (C := RX12) (T := TX12) (N := 48) hx hb hg inC12 hown hK hP 0 rfl rfl 2 (by decide) (hg _ wt5_162) (fun _ h9 => h9) rfl dX12_taughtIn_1 ?_
  refine lv_bipush (v := 63) hx hb dX12_taughtIn_4 (by decide) ?_
  refine lv_iload_n hx hb dX12_taughtIn_6 rfl (lv_at hl 1 rfl) ?_
  refine lv_iadd hx hb dX12_taughtIn_7 ?_
  refine lv_topi (fun t1 et1 => ?_)
  have b2 : kb 63 t1 68 := kb_eq et1 (kb_add kc_63 bbd (by decide) (by decide))
  have qt1 : t1.toInt = 63 + bd.toInt := by rw [et1]; exact kt_cadd kc_63 bbd (by decide) (by decide)
  refine va_iald hx hb hK hP 2 0 rfl rfl (kb_in b2 (by decide) (by decide)) dX12_taughtIn_8 ?_
  refine lv_topi (fun t3 et3 => ?_)
  refine lv_istore_n (lv' := [(3, .int t3), (0, .ref o), (1, .int bd), (2, .int cr)]) hx hb dX12_taughtIn_9 rfl hl (by decide) rfl (fun ls hl => ?_)
  refine lv_aload_n hx hb dX12_taughtIn_10 rfl (lv_at hl 1 rfl) ?_
  refine va_get (D := D) (ci := 12) (v := .ref (r 2)) (C := RX12) (T := TX12) (N := 48) hx hb hg inC12 hown hK hP 0 rfl rfl 2 (by decide) (hg _ wt5_162) (fun _ h9 => h9) rfl dX12_taughtIn_11 ?_
  refine lv_bipush (v := 63) hx hb dX12_taughtIn_14 (by decide) ?_
  refine lv_iload_n hx hb dX12_taughtIn_16 rfl (lv_at hl 2 rfl) ?_
  refine lv_iadd hx hb dX12_taughtIn_17 ?_
  refine k_top (z := t1) et1.symm ?_
  refine lv_iload_n hx hb dX12_taughtIn_18 rfl (lv_at hl 0 rfl) ?_
  refine lv_iconst (v := 1) hx hb dX12_taughtIn_19 (by decide) ?_
  refine lv_iload_n hx hb dX12_taughtIn_20 rfl (lv_at hl 3 rfl) ?_
  refine lv_ishl hx hb dX12_taughtIn_21 ?_
  refine lv_topi (fun t4 et4 => ?_)
  have b5 : kb 1 t4 8 := kb_eq et4 (kb_shl (l := 0) (h := 3) bcr (by decide))
  refine lv_ior hx hb dX12_taughtIn_22 ?_
  refine lv_topi (fun t6 et6 => ?_)
  refine va_iast hx hb hK hP hD hS 2 0 rfl rfl (kb_in b2 (by decide) (by decide)) dX12_taughtIn_23 (fun H locs hP hD hS => ?_)
  have hP : va_P D vwCl (mW K o r f (va_up a 2 (upd (a 2) t1.toNatClampNeg t6)) g) H := hP
  have hD : va_D A (mW K o r f (va_up a 2 (upd (a 2) t1.toNatClampNeg t6)) g) := hD
  refine k_gen (P := fun z => va_P D vwCl (mW K o r f z g) H ∧ va_D A (mW K o r f z g) ∧ (mI f z) ∧ (mE (XR [(63, 69)]) f a f z) ∧ (mZ [22, 23, 24, 25] [2, 5, 26, 29, 30, 34] f a f z)) (va_up a 2 (upd (a 2) t1.toNatClampNeg t6)) ⟨hP, hD, (mI_2 hI (aI_sx hI.2.1 2 63 6 b2 (by decide) (by decide) (kb_any t6) (by decide +kernel)) (kb_clt b2 (by decide) (by decide))), (mE_2 hE (bX_at 63 6 b2 (by decide) (by decide) (by decide))), (mZ_a hZ rfl)⟩ (fun a_7 ea_7 hq => ?_)
  obtain ⟨hP, hD, hI, hE, hZ⟩ := hq
  refine lv_aload_n hx hb dX12_taughtIn_24 rfl (lv_at hl 1 rfl) ?_
  refine lv_aload_n hx hb dX12_taughtIn_25 rfl (lv_at hl 1 rfl) ?_
  refine kI.callV (As := []) (rest := [.ref o]) ⟨hx, hb, hml, hown, hg⟩ (m_allBuilders l o r f a_7 g hI   ) (cwV 0 hg (kgV wt7_164 wt7_166 wp6_14 wt1_14 wt7_167) rfl rfl rfl (by decide +kernel) ⟨by decide, by decide⟩) hK hP hD hS hA mIs [] rfl (wr := []) rfl rfl rfl (fun i h => by cases h) 0 12 rfl rfl rfl hl.1 rfl (Nat.le_of_ble_eq_true rfl) dX12_taughtIn_26 ⟨Nat.le_refl _, Nat.le_refl _⟩ (fun v9 u10 H locs hw8 hP hD hS => ?_)
  have hP : va_P D vwCl (mW K o r f a_7 g) H := hP
  have hD : va_D A (mW K o r f a_7 g) := hD
  refine lv_aload_n hx hb dX12_taughtIn_29 rfl (lv_at hl 1 rfl) ?_
  refine kI.callV (As := []) (rest := [.int v9, .ref o]) ⟨hx, hb, hml, hown, hg⟩ (m_allParts l o r f a_7 g hI   ) (cwV 0 hg (kgV wt7_187 wt7_189 wp7_1 wt1_14 wt7_190) rfl rfl rfl (by decide +kernel) ⟨by decide, by decide⟩) hK hP hD hS hA mIs [] rfl (wr := []) rfl rfl rfl (fun i h => by cases h) 0 12 rfl rfl rfl hl.1 rfl (Nat.le_of_ble_eq_true rfl) dX12_taughtIn_30 ⟨Nat.le_refl _, Nat.le_refl _⟩ (fun v12 u13 H locs hw11 hP hD hS => ?_)
  have hP : va_P D vwCl (mW K o r f a_7 g) H := hP
  have hD : va_D A (mW K o r f a_7 g) := hD
  refine lv_sipush (v := 200) hx hb dX12_taughtIn_33 (by decide) ?_
  refine kI.callV (As := [.int v9, .int v12, .int 200]) (rest := []) ⟨hx, hb, hml, hown, hg⟩ (m_planned l o r f a_7 g hI v9 v12 200 (kb_w kc_200 (by decide) (by decide)) ) (cwV 3 hg (kgV wt7_199 wt7_201 wp7_3 wt1_14 wt7_202) rfl rfl rfl (by decide +kernel) ⟨by decide, by decide⟩) hK hP hD hS hA mIs [] rfl (wr := []) rfl rfl rfl (fun i h => by cases h) 0 12 rfl rfl rfl hl.1 rfl (Nat.le_of_ble_eq_true rfl) dX12_taughtIn_36 ⟨Nat.le_refl _, Nat.le_refl _⟩ (fun v15 u16 H locs hw14 hP hD hS => ?_)
  obtain ⟨f17, a18, g19⟩ := u16
  have hP : va_P D vwCl (mW K o r f17 a18 g19) H := hP
  have hD : va_D A (mW K o r f17 a18 g19) := hD
  have hI : mI f17 a18 := hw14.2.1
  have hE : mE (XR [(63, 69)]) f a f17 a18 := mE_tr hE (mE_w (XR_w (by decide)) hw14.2.2.1)
  have eE20 : mE (XR []) f a_7 f17 a18 := hw14.2.2.1
  have eZ21 : mZ [22, 23, 24, 25] [2, 5, 26, 29, 30, 34] f a_7 f17 a18 := hw14.2.2.2
  have hZ : mZ [22, 23, 24, 25] [2, 5, 26, 29, 30, 34] f a f17 a18 := mZ_tr hZ (mZ_w (by decide) (by decide) eZ21)
  refine lv_istore (lv' := [(4, .int v15), (3, .int t3), (0, .ref o), (1, .int bd), (2, .int cr)]) hx hb dX12_taughtIn_39 hl (by decide) rfl (fun ls hl => ?_)
  refine lv_aload_n hx hb dX12_taughtIn_41 rfl (lv_at hl 2 rfl) ?_
  refine va_get (D := D) (ci := 12) (v := .ref (r 2)) (C := RX12) (T := TX12) (N := 48) hx hb hg inC12 hown hK hP 0 rfl rfl 2 (by decide) (hg _ wt5_162) (fun _ h9 => h9) rfl dX12_taughtIn_42 ?_
  refine lv_bipush (v := 63) hx hb dX12_taughtIn_45 (by decide) ?_
  refine lv_iload_n hx hb dX12_taughtIn_47 rfl (lv_at hl 3 rfl) ?_
  refine lv_iadd hx hb dX12_taughtIn_48 ?_
  refine k_top (z := t1) et1.symm ?_
  refine lv_iload_n hx hb dX12_taughtIn_49 rfl (lv_at hl 1 rfl) ?_
  refine va_iast hx hb hK hP hD hS 2 0 rfl rfl (kb_in b2 (by decide) (by decide)) dX12_taughtIn_50 (fun H locs hP hD hS => ?_)
  have hP : va_P D vwCl (mW K o r f17 (va_up a18 2 (upd (a18 2) t1.toNatClampNeg t3)) g19) H := hP
  have hD : va_D A (mW K o r f17 (va_up a18 2 (upd (a18 2) t1.toNatClampNeg t3)) g19) := hD
  refine k_gen (P := fun z => va_P D vwCl (mW K o r f17 z g19) H ∧ va_D A (mW K o r f17 z g19) ∧ (mI f17 z) ∧ (mE (XR [(63, 69)]) f a f17 z) ∧ (mZ [22, 23, 24, 25] [2, 5, 26, 29, 30, 34] f a f17 z)) (va_up a18 2 (upd (a18 2) t1.toNatClampNeg t3)) ⟨hP, hD, (mI_2 hI (aI_sx hI.2.1 2 63 6 b2 (by decide) (by decide) (kb_any t3) (by decide +kernel)) (kb_clt b2 (by decide) (by decide))), (mE_2 hE (bX_at 63 6 b2 (by decide) (by decide) (by decide))), (mZ_a hZ rfl)⟩ (fun a_22 ea_22 hq => ?_)
  obtain ⟨hP, hD, hI, hE, hZ⟩ := hq
  refine lv_iload hx hb dX12_taughtIn_51 (lv_at hl 0 rfl) ?_
  refine lv_iconst (v := (-1)) hx hb dX12_taughtIn_53 (by decide) ?_
  refine lv_icmp_ne (tgt := 62) hx hb dX12_taughtIn_54 (by decide) (fun c23 => ?_) (fun c23 => ?_)
  · have b24 : kb 0 v15 200 := kr_nel c23 hw14.1 kc_m1 (by decide)
    refine lv_iload hx hb dX12_taughtIn_62 (lv_at hl 0 rfl) ?_
    exact kI_ret (v := v15) hx hb hr hlocks rfl hK hS dX12_taughtIn_64 (f17, a_22, g19) hP hD ⟨(kb_w b24 (by decide) (by decide)), hI, ⟨hE.1, hE.2.1, fun i _ => ti_b ea_7 (funext fun i => (hw14.2.2.1).2.2.1 i rfl) ea_22 et3 i, hE.2.2.2.1, hE.2.2.2.2⟩, hZ⟩
  · have b25 : kb (-1) v15 (-1) := kb_eq c23 kc_m1
    refine lv_ldc (v := (1000000)) hx hb hown (hg _ wt6_191) dX12_taughtIn_57 ?_
    refine lv_goto (tgt := 64) hx hb dX12_taughtIn_59 (by decide) ?_
    exact kI_ret (v := 1000000) hx hb hr hlocks rfl hK hS dX12_taughtIn_64 (f17, a_22, g19) hP hD ⟨(kb_w kc_1000000 (by decide) (by decide)), hI, ⟨hE.1, hE.2.1, fun i _ => ti_b ea_7 (funext fun i => (hw14.2.2.1).2.2.1 i rfl) ea_22 et3 i, hE.2.2.2.1, hE.2.2.2.2⟩, hZ⟩
set_option maxHeartbeats 4000000 in
set_option maxRecDepth 100000 in
theorem m_taught  (l : Launch) {D : va_G} {K : Nat → ClassId} (o : Nat) (r : Nat → Nat) (f : Nat → Int32) (a : Nat → Nat → Int32) (g : Nat → Int64) (hI : mI f a) (x : Int32)    : kI l yX12_taught (Cond.code yX12_taught cX12_taught 8 (some .int) :: kG) (rmD 54 0 0) D (tysK K) [.ref o, .int x] (mW K o r f a g) (fun v (u : mS) => kb (-2147483648) v 2147483647 ∧ mI u.1 u.2.1 ∧ mE (XR []) f a u.1 u.2.1 ∧ mZ [22, 23, 24, 25] [2, 5, 26, 29, 30, 34] f a u.1 u.2.1) (fun u => mW K o r u.1 u.2.1 u.2.2) 0 0 := by
  refine kI.of (cc := cX12_taught) (maxL := 8) (ret := (some .int)) (by decide) rfl (Nat.le_of_ble_eq_true rfl) ?_
  intro p e s m below meth c A hx hb hr hml hown hts hlocks hnm hK hP hD hS hA ls hl
  have hE : mE (XR []) f a f a := mE_rf
  have hZ : mZ [22, 23, 24, 25] [2, 5, 26, 29, 30, 34] f a f a := mZ_rf
  have hg : ∀ w ∈ kG, w.before _ s = true := fun w h => hts w (List.mem_cons_of_mem _ h)
  have hown : s.vm.findClass RX12 = some m.cls := hown
  have hl : lv_has ls 8 [(0, .ref o), (1, .int x)] := hl
  refine lv_iload_n hx hb dX12_taught_0 rfl (lv_at hl 1 rfl) ?_
  refine lv_iconst (v := 0) hx hb dX12_taught_1 (by decide) ?_
  refine lv_iconst (v := 2) hx hb dX12_taught_2 (by decide) ?_
  refine kN.callS (As := [.int x, .int 0, .int 2]) (rest := []) ⟨hx, hb, hml, hown, hg⟩ (m_lies l x 0 2 ) (va_cwS 3 hg (kgS wt6_69 wt6_70 wt1_14 wt6_71) rfl rfl rfl (by decide +kernel) ⟨by decide, by decide⟩) hP hS rfl hl.1 rfl (Nat.le_of_ble_eq_true rfl) dX12_taught_3 ⟨Nat.le_refl _, Nat.le_refl _⟩ (fun v2 H locs hw1 hP hS => ?_)
  refine lv_if_ne (tgt := 11) hx hb dX12_taught_6 (by decide) (fun c4 => ?_) (fun c4 => ?_)
  · have b5 : kb 1 v2 1 := kr_nel c4 hw1.1 kc_0 (by decide)
    have h6 := mLies_ne (hw1.2 ▸ c4)
    have b7 : kb 0 x 2147483647 := kr_le2 h6.1 kc_0 (kb_any x)
    have b8 : kb 0 x 2 := kr_le1 h6.2 b7 kc_2
    refine lv_aload_n hx hb dX12_taught_11 rfl (lv_at hl 0 rfl) ?_
    refine lv_iconst (v := (-1)) hx hb dX12_taught_12 (by decide) ?_
    refine kI.callV (As := [.int (-1)]) (rest := []) ⟨hx, hb, hml, hown, hg⟩ (m_plan l o r f a g hI (-1)  ) (cwV 1 hg (kgV wt7_235 wt7_196 wt7_197 wt1_14 wt7_198) rfl rfl rfl (by decide +kernel) ⟨by decide, by decide⟩) hK hP hD hS hA mIs [] rfl (wr := []) rfl rfl rfl (fun i h => by cases h) 0 12 rfl rfl rfl hl.1 rfl (Nat.le_of_ble_eq_true rfl) dX12_taught_13 ⟨Nat.le_refl _, Nat.le_refl _⟩ (fun v10 u11 H locs hw9 hP hD hS => ?_)
    obtain ⟨f12, a13, g14⟩ := u11
    have hP : va_P D vwCl (mW K o r f12 a13 g14) H := hP
    have hD : va_D A (mW K o r f12 a13 g14) := hD
    have hI : mI f12 a13 := hw9.2.1
    have hE : mE (XR []) f a f12 a13 := mE_tr hE hw9.2.2.1
    have eE15 : mE (XR []) f a f12 a13 := hw9.2.2.1
    have eZ16 : mZ [22, 23, 24, 25] [2, 5, 26, 29, 30, 34] f a f12 a13 := hw9.2.2.2
    have hZ : mZ [22, 23, 24, 25] [2, 5, 26, 29, 30, 34] f a f12 a13 := mZ_tr hZ (mZ_w (by decide) (by decide) eZ16)
    refine lv_istore_n (lv' := [(2, .int v10), (0, .ref o), (1, .int x)]) hx hb dX12_taught_16 rfl hl (by decide) rfl (fun ls hl => ?_)
    refine lv_iload_n hx hb dX12_taught_17 rfl (lv_at hl 0 rfl) ?_
    refine lv_iconst (v := (-1)) hx hb dX12_taught_18 (by decide) ?_
    have jn20 : ∀ (H : Heap) (locs : List Loc) (ls : Array Slot) (z19 : Int32), (kb 0 z19 1000000) → va_P D vwCl (mW K o r f12 a13 g14) H → va_D A (mW K o r f12 a13 g14) → va_S A s.heap H locs → lv_has ls 8 [(2, .int v10), (0, .ref o), (1, .int x)] → W p l e (rmD 54 0 0) s m ([.ref o, .int x] : List Value).toArray below meth c H locs 0 0 (kQi D (tysK K) (fun v (u : mS) => kb (-2147483648) v 2147483647 ∧ mI u.1 u.2.1 ∧ mE (XR []) f a u.1 u.2.1 ∧ mZ [22, 23, 24, 25] [2, 5, 26, 29, 30, 34] f a u.1 u.2.1) (fun u => mW K o r u.1 u.2.1 u.2.2) A below ([.ref o, .int x] : List Value).toArray s 0 0) (F0 m 28 ls [.int z19]) := by
      intro  H locs ls z19 b21 hP hD hS hl
      refine lv_istore_n (lv' := [(3, .int z19), (2, .int v10), (0, .ref o), (1, .int x)]) hx hb dX12_taught_28 rfl hl (by decide) rfl (fun ls hl => ?_)
      refine lv_iconst (v := (-1)) hx hb dX12_taught_29 (by decide) ?_
      refine lv_istore (lv' := [(4, .int (-1)), (3, .int z19), (2, .int v10), (0, .ref o), (1, .int x)]) hx hb dX12_taught_30 hl (by decide) rfl (fun ls hl => ?_)
      refine lv_iconst (v := 0) hx hb dX12_taught_32 (by decide) ?_
      refine lv_istore (lv' := [(5, .int 0), (4, .int (-1)), (3, .int z19), (2, .int v10), (0, .ref o), (1, .int x)]) hx hb dX12_taught_33 hl (by decide) rfl (fun ls hl => ?_)
      have lp28 : ∀ (n29 : Nat) (F25 : Nat → Int32) (B26 : Nat → Nat → Int32) (G27 : Nat → Int64) (H : Heap) (locs : List Loc) (ls : Array Slot) (y22 : Int32) (y23 : Int32) (y24 : Int32), (6 < y22.toInt + (n29 : Int)) → (mI F25 B26) → (mE (XR []) f a F25 B26) → (mZ [22, 23, 24, 25] [2, 5, 26, 29, 30, 34] f a F25 B26) → (kb 0 y22 6) → (kb (-1) y23 23) → va_P D vwCl (mW K o r F25 B26 G27) H → va_D A (mW K o r F25 B26 G27) → va_S A s.heap H locs → lv_has ls 8 [(5, .int y22), (4, .int y23), (3, .int y24), (2, .int v10), (0, .ref o), (1, .int x)] → W p l e (rmD 54 0 0) s m ([.ref o, .int x] : List Value).toArray below meth c H locs 0 0 (kQi D (tysK K) (fun v (u : mS) => kb (-2147483648) v 2147483647 ∧ mI u.1 u.2.1 ∧ mE (XR []) f a u.1 u.2.1 ∧ mZ [22, 23, 24, 25] [2, 5, 26, 29, 30, 34] f a u.1 u.2.1) (fun u => mW K o r u.1 u.2.1 u.2.2) A below ([.ref o, .int x] : List Value).toArray s 0 0) (F0 m 35 ls []) := by
        intro n29
        induction n29 with
        | zero =>
          intro  F25 B26 G27  H locs ls y22 y23 y24 hmlp28 hI hE hZ b30 b31 hP hD hS hl
          exact (by have h1 := b30.2; have h2 := hmlp28; omega : False).elim
        | succ n29 ihlp28 =>
          intro  F25 B26 G27  H locs ls y22 y23 y24 hmlp28 hI hE hZ b30 b31 hP hD hS hl
          refine lv_iload hx hb dX12_taught_35 (lv_at hl 0 rfl) ?_
          refine lv_aload_n hx hb dX12_taught_37 rfl (lv_at hl 4 rfl) ?_
          refine va_get (D := D) (ci := 12) (v := .ref (r 2)) (C := RX12) (T := TX12) (N := 48) hx hb hg inC12 hown hK hP 0 rfl rfl 2 (by decide) (hg _ wt5_162) (fun _ h9 => h9) rfl dX12_taught_38 ?_
          refine lv_bipush (v := 103) hx hb dX12_taught_41 (by decide) ?_
          refine va_iald hx hb hK hP 2 0 rfl rfl (kb_in kc_103 (by decide) (by decide)) dX12_taught_43 ?_
          refine lv_topi (fun t32 et32 => ?_)
          rw [cl_103] at et32
          have b33 : kb 0 t32 6 := kb_eq et32 (aI_at hI.2.1 2 103 (by decide) (by decide))
          refine lv_icmp_ge (tgt := 120) hx hb dX12_taught_44 (by decide) (fun c34 => ?_) (fun c34 => ?_)
          · have h35 := (kc_le c34)
            refine lv_iload hx hb dX12_taught_120 (lv_at hl 1 rfl) ?_
            refine lv_iconst (v := (-1)) hx hb dX12_taught_122 (by decide) ?_
            refine lv_icmp_ne (tgt := 128) hx hb dX12_taught_123 (by decide) (fun c36 => ?_) (fun c36 => ?_)
            · have b37 : kb 0 y23 23 := kr_nel c36 b31 kc_m1 (by decide)
              refine lv_iload_n hx hb dX12_taught_128 rfl (lv_at hl 5 rfl) ?_
              refine lv_if_ne (tgt := 139) hx hb dX12_taught_129 (by decide) (fun c38 => ?_) (fun c38 => ?_)
              · have b39 : kb 1 x 2 := kr_nel c38 b8 kc_0 (by decide)
                refine lv_iload_n hx hb dX12_taught_139 rfl (lv_at hl 5 rfl) ?_
                refine lv_iconst (v := 1) hx hb dX12_taught_140 (by decide) ?_
                refine lv_icmp_ne (tgt := 151) hx hb dX12_taught_141 (by decide) (fun c40 => ?_) (fun c40 => ?_)
                · have b41 : kb 2 x 2 := kr_nel c40 b39 kc_1 (by decide)
                  refine lv_iload_n hx hb dX12_taught_151 rfl (lv_at hl 2 rfl) ?_
                  exact kI_ret (v := y24) hx hb hr hlocks rfl hK hS dX12_taught_152 (F25, B26, G27) hP hD ⟨(kb_any y24), hI, hE, hZ⟩
                · have b42 : kb 1 x 1 := kb_eq c40 kc_1
                  refine lv_iload hx hb dX12_taught_144 (lv_at hl 1 rfl) ?_
                  refine lv_iconst (v := 4) hx hb dX12_taught_146 (by decide) ?_
                  refine lv_irem hx hb dX12_taught_147 (by decide +kernel) ?_
                  refine lv_topi (fun t43 et43 => ?_)
                  have b44 : kb 0 t43 3 := kb_eq et43 (kb_rem (d := 4) b37 (by decide) rfl (by decide) (by decide))
                  refine lv_goto (tgt := 152) hx hb dX12_taught_148 (by decide) ?_
                  exact kI_ret (v := t43) hx hb hr hlocks rfl hK hS dX12_taught_152 (F25, B26, G27) hP hD ⟨(kb_w b44 (by decide) (by decide)), hI, hE, hZ⟩
              · have b45 : kb 0 x 0 := kb_eq c38 kc_0
                refine lv_iload hx hb dX12_taught_132 (lv_at hl 1 rfl) ?_
                refine lv_iconst (v := 4) hx hb dX12_taught_134 (by decide) ?_
                refine lv_idiv hx hb dX12_taught_135 (by decide +kernel) ?_
                refine lv_topi (fun t46 et46 => ?_)
                have b47 : kb 0 t46 5 := kb_eq et46 (kb_div (d := 4) b37 (by decide) rfl (by decide) (by decide))
                have qt46 : t46.toInt = y23.toInt / 4 := by rw [et46]; exact kt_div (d := 4) b37 (by decide) rfl (by decide) (by decide)
                refine lv_goto (tgt := 152) hx hb dX12_taught_136 (by decide) ?_
                exact kI_ret (v := t46) hx hb hr hlocks rfl hK hS dX12_taught_152 (F25, B26, G27) hP hD ⟨(kb_w b47 (by decide) (by decide)), hI, hE, hZ⟩
            · have b48 : kb (-1) y23 (-1) := kb_eq c36 kc_m1
              refine lv_iconst (v := (-1)) hx hb dX12_taught_126 (by decide) ?_
              exact kI_ret (v := (-1)) hx hb hr hlocks rfl hK hS dX12_taught_127 (F25, B26, G27) hP hD ⟨(kb_w kc_m1 (by decide) (by decide)), hI, hE, hZ⟩
          · have h49 := (kc_nle c34)
            have b50 : kb 0 y22 5 := kr_lt1 h49 b30 b33 (by decide)
            have b51 : kb 1 t32 6 := kr_lt2 h49 b30 b33 (by decide)
            refine lv_iconst (v := 0) hx hb dX12_taught_47 (by decide) ?_
            refine lv_istore (lv' := [(6, .int 0), (5, .int y22), (4, .int y23), (3, .int y24), (2, .int v10), (0, .ref o), (1, .int x)]) hx hb dX12_taught_48 hl (by decide) rfl (fun ls hl => ?_)
            have lp58 : ∀ (n59 : Nat) (F55 : Nat → Int32) (B56 : Nat → Nat → Int32) (G57 : Nat → Int64) (H : Heap) (locs : List Loc) (ls : Array Slot) (y52 : Int32) (y53 : Int32) (y54 : Int32), (4 < y52.toInt + (n59 : Int)) → (mI F55 B56) → (mE (XR []) f a F55 B56) → (mZ [22, 23, 24, 25] [2, 5, 26, 29, 30, 34] f a F55 B56) → (kb 0 y52 4) → (kb (-1) y53 23) → va_P D vwCl (mW K o r F55 B56 G57) H → va_D A (mW K o r F55 B56 G57) → va_S A s.heap H locs → lv_has ls 8 [(6, .int y52), (5, .int y22), (4, .int y53), (3, .int y54), (2, .int v10), (0, .ref o), (1, .int x)] → W p l e (rmD 54 0 0) s m ([.ref o, .int x] : List Value).toArray below meth c H locs 0 0 (kQi D (tysK K) (fun v (u : mS) => kb (-2147483648) v 2147483647 ∧ mI u.1 u.2.1 ∧ mE (XR []) f a u.1 u.2.1 ∧ mZ [22, 23, 24, 25] [2, 5, 26, 29, 30, 34] f a u.1 u.2.1) (fun u => mW K o r u.1 u.2.1 u.2.2) A below ([.ref o, .int x] : List Value).toArray s 0 0) (F0 m 50 ls []) := by
              intro n59
              induction n59 with
              | zero =>
                intro  F55 B56 G57  H locs ls y52 y53 y54 hmlp58 hI hE hZ b60 b61 hP hD hS hl
                exact (by have h1 := b60.2; have h2 := hmlp58; omega : False).elim
              | succ n59 ihlp58 =>
                intro  F55 B56 G57  H locs ls y52 y53 y54 hmlp58 hI hE hZ b60 b61 hP hD hS hl
                refine lv_iload hx hb dX12_taught_50 (lv_at hl 0 rfl) ?_
                refine lv_iconst (v := 4) hx hb dX12_taught_52 (by decide) ?_
                refine lv_icmp_ge (tgt := 114) hx hb dX12_taught_53 (by decide) (fun c62 => ?_) (fun c62 => ?_)
                · have h63 := (kc_le c62)
                  have b64 : kb 4 y52 4 := kr_le2 h63 kc_4 b60
                  obtain ⟨t65, et65⟩ : ∃ z : Int32, z = y22 + Int32.ofInt 1 := ⟨_, rfl⟩
                  have qt65 : t65.toInt = y22.toInt + 1 := by rw [et65]; exact km_inc b50 (by decide) (by decide)
                  have b66 : kb 1 t65 6 := kb_inc (k := 1) qt65 b50
                  refine lv_iinc (v := t65) (lv' := [(5, .int t65), (6, .int y52), (4, .int y53), (3, .int y54), (2, .int v10), (0, .ref o), (1, .int x)]) hx hb dX12_taught_114 hl (k := 1) rfl et65.symm (by decide) rfl (fun ls hl => ?_)
                  refine lv_goto (tgt := 35) hx hb dX12_taught_117 (by decide) ?_
                  exact ihlp28  F55 B56 G57 _ _ _ t65 y53 y54 (km_up hmlp28 qt65) hI hE hZ (kb_w b66 (by decide) (by decide)) b61 hP hD hS (lv_sub hl [0, 2, 3, 4, 5, 6] rfl)
                · have h67 := (kc_nle c62)
                  have b68 : kb 0 y52 3 := kr_lt1 h67 b60 kc_4 (by decide)
                  refine lv_aload_n hx hb dX12_taught_56 rfl (lv_at hl 5 rfl) ?_
                  refine va_get (D := D) (ci := 12) (v := .ref (r 2)) (C := RX12) (T := TX12) (N := 48) hx hb hg inC12 hown hK hP 0 rfl rfl 2 (by decide) (hg _ wt5_162) (fun _ h9 => h9) rfl dX12_taught_57 ?_
                  refine lv_bipush (v := 63) hx hb dX12_taught_60 (by decide) ?_
                  refine lv_iload hx hb dX12_taught_62 (lv_at hl 1 rfl) ?_
                  refine lv_iadd hx hb dX12_taught_64 ?_
                  refine lv_topi (fun t69 et69 => ?_)
                  have b70 : kb 63 t69 68 := kb_eq et69 (kb_add kc_63 b50 (by decide) (by decide))
                  have qt69 : t69.toInt = 63 + y22.toInt := by rw [et69]; exact kt_cadd kc_63 b50 (by decide) (by decide)
                  refine va_iald hx hb hK hP 2 0 rfl rfl (kb_in b70 (by decide) (by decide)) dX12_taught_65 ?_
                  refine lv_topi (fun t71 et71 => ?_)
                  refine lv_iload hx hb dX12_taught_66 (lv_at hl 0 rfl) ?_
                  refine kN.callS (As := [.int t71, .int y52]) (rest := []) ⟨hx, hb, hml, hown, hg⟩ (m_isIn l t71 y52 ) (va_cwS 2 hg (kgS wt6_124 wt6_125 wt1_14 wt6_126) rfl rfl rfl (by decide +kernel) ⟨by decide, by decide⟩) hP hS rfl hl.1 rfl (Nat.le_of_ble_eq_true rfl) dX12_taught_68 ⟨Nat.le_refl _, Nat.le_refl _⟩ (fun v73 H locs hw72 hP hS => ?_)
                  have jn99 : ∀ (F96 : Nat → Int32) (B97 : Nat → Nat → Int32) (G98 : Nat → Int64) (H : Heap) (locs : List Loc) (ls : Array Slot) (y94 : Int32) (y95 : Int32), (mI F96 B97) → (mE (XR []) f a F96 B97) → (mZ [22, 23, 24, 25] [2, 5, 26, 29, 30, 34] f a F96 B97) → (kb (-1) y94 23) → va_P D vwCl (mW K o r F96 B97 G98) H → va_D A (mW K o r F96 B97 G98) → va_S A s.heap H locs → lv_has ls 8 [(6, .int y52), (5, .int y22), (4, .int y94), (3, .int y95), (2, .int v10), (0, .ref o), (1, .int x)] → W p l e (rmD 54 0 0) s m ([.ref o, .int x] : List Value).toArray below meth c H locs 0 0 (kQi D (tysK K) (fun v (u : mS) => kb (-2147483648) v 2147483647 ∧ mI u.1 u.2.1 ∧ mE (XR []) f a u.1 u.2.1 ∧ mZ [22, 23, 24, 25] [2, 5, 26, 29, 30, 34] f a u.1 u.2.1) (fun u => mW K o r u.1 u.2.1 u.2.2) A below ([.ref o, .int x] : List Value).toArray s 0 0) (F0 m 108 ls []) := by
                    intro F96 B97 G98  H locs ls y94 y95 hI hE hZ b100 hP hD hS hl
                    obtain ⟨t101, et101⟩ : ∃ z : Int32, z = y52 + Int32.ofInt 1 := ⟨_, rfl⟩
                    have qt101 : t101.toInt = y52.toInt + 1 := by rw [et101]; exact km_inc b68 (by decide) (by decide)
                    have b102 : kb 1 t101 4 := kb_inc (k := 1) qt101 b68
                    refine lv_iinc (v := t101) (lv' := [(6, .int t101), (5, .int y22), (4, .int y94), (3, .int y95), (2, .int v10), (0, .ref o), (1, .int x)]) hx hb dX12_taught_108 hl (k := 0) rfl et101.symm (by decide) rfl (fun ls hl => ?_)
                    refine lv_goto (tgt := 50) hx hb dX12_taught_111 (by decide) ?_
                    exact ihlp58  F96 B97 G98 _ _ _ t101 y94 y95 (km_up hmlp58 qt101) hI hE hZ (kb_w b102 (by decide) (by decide)) b100 hP hD hS (lv_sub hl [0, 1, 2, 3, 4, 5, 6] rfl)
                  refine lv_if_eq (tgt := 77) hx hb dX12_taught_71 (by decide) (fun c103 => ?_) (fun c103 => ?_)
                  · have b104 : kb 0 v73 0 := kb_eq c103 kc_0
                    refine lv_aload_n hx hb dX12_taught_77 rfl (lv_at hl 5 rfl) ?_
                    refine lv_iload hx hb dX12_taught_78 (lv_at hl 1 rfl) ?_
                    refine lv_iload hx hb dX12_taught_80 (lv_at hl 0 rfl) ?_
                    refine kI.callV (As := [.int y22, .int y52]) (rest := []) ⟨hx, hb, hml, hown, hg⟩ (m_taughtIn l o r F55 B56 G57 hI y22 y52 b50 b68 ) (cwV 2 hg (kgV wt7_236 wt7_238 wp7_10 wt1_14 wt7_239) rfl rfl rfl (by decide +kernel) ⟨by decide, by decide⟩) hK hP hD hS hA mIs [] rfl (wr := []) rfl rfl rfl (fun i h => by cases h) 0 12 rfl rfl rfl hl.1 rfl (Nat.le_of_ble_eq_true rfl) dX12_taught_82 ⟨Nat.le_refl _, Nat.le_refl _⟩ (fun v106 u107 H locs hw105 hP hD hS => ?_)
                    obtain ⟨f108, a109, g110⟩ := u107
                    have hP : va_P D vwCl (mW K o r f108 a109 g110) H := hP
                    have hD : va_D A (mW K o r f108 a109 g110) := hD
                    have hI : mI f108 a109 := hw105.2.1
                    have hE : mE (XR []) f a f108 a109 := mE_tr hE hw105.2.2.1
                    have eE111 : mE (XR []) F55 B56 f108 a109 := hw105.2.2.1
                    have eZ112 : mZ [22, 23, 24, 25] [2, 5, 26, 29, 30, 34] F55 B56 f108 a109 := hw105.2.2.2
                    have hZ : mZ [22, 23, 24, 25] [2, 5, 26, 29, 30, 34] f a f108 a109 := mZ_tr hZ (mZ_w (by decide) (by decide) eZ112)
                    refine lv_istore (lv' := [(7, .int v106), (6, .int y52), (5, .int y22), (4, .int y53), (3, .int y54), (2, .int v10), (0, .ref o), (1, .int x)]) hx hb dX12_taught_85 hl (by decide) rfl (fun ls hl => ?_)
                    refine lv_iload hx hb dX12_taught_87 (lv_at hl 0 rfl) ?_
                    refine lv_iload_n hx hb dX12_taught_89 rfl (lv_at hl 4 rfl) ?_
                    refine lv_icmp_lt (tgt := 96) hx hb dX12_taught_90 (by decide) (fun c113 => ?_) (fun c113 => ?_)
                    · have h114 := (kc_lt c113)
                      have b115 : kb 1 y54 2147483647 := kr_lt2 h114 hw105.1 (kb_any y54) (by decide)
                      refine lv_iload hx hb dX12_taught_96 (lv_at hl 0 rfl) ?_
                      refine lv_istore_n (lv' := [(3, .int v106), (7, .int v106), (6, .int y52), (5, .int y22), (4, .int y53), (2, .int v10), (0, .ref o), (1, .int x)]) hx hb dX12_taught_98 rfl hl (by decide) rfl (fun ls hl => ?_)
                      refine lv_iconst (v := 4) hx hb dX12_taught_99 (by decide) ?_
                      refine lv_iload hx hb dX12_taught_100 (lv_at hl 3 rfl) ?_
                      refine lv_imul hx hb dX12_taught_102 ?_
                      refine lv_topi (fun t116 et116 => ?_)
                      have b117 : kb 0 t116 20 := kb_eq et116 (kb_mul kc_4 b50 (by decide) (by decide) (by decide))
                      have qt116 : t116.toInt = 4 * y22.toInt := by rw [et116]; exact kt_cmul kc_4 b50 (by decide) (by decide) (by decide)
                      refine lv_iload hx hb dX12_taught_103 (lv_at hl 2 rfl) ?_
                      refine lv_iadd hx hb dX12_taught_105 ?_
                      refine lv_topi (fun t118 et118 => ?_)
                      have b119 : kb 0 t118 23 := kb_eq et118 (kb_add b117 b68 (by decide) (by decide))
                      have qt118 : t118.toInt = t116.toInt + y52.toInt := by rw [et118]; exact kt_add b117 b68 (by decide) (by decide)
                      refine lv_istore (lv' := [(4, .int t118), (3, .int v106), (7, .int v106), (6, .int y52), (5, .int y22), (2, .int v10), (0, .ref o), (1, .int x)]) hx hb dX12_taught_106 hl (by decide) rfl (fun ls hl => ?_)
                      exact jn99 f108 a109 g110 _ _ _ t118 v106 hI hE hZ (kb_w b119 (by decide) (by decide)) hP hD hS (lv_sub hl [3, 4, 0, 1, 5, 6, 7] rfl)
                    · have h120 := (kc_nlt c113)
                      have b121 : kb (-2147483648) y54 1000000 := kr_le1 h120 (kb_any y54) hw105.1
                      refine lv_goto (tgt := 108) hx hb dX12_taught_93 (by decide) ?_
                      exact jn99 f108 a109 g110 _ _ _ y53 y54 hI hE hZ b61 hP hD hS (lv_sub hl [1, 2, 3, 4, 5, 6, 7] rfl)
                  · have b122 : kb 1 v73 1 := kr_nel c103 hw72 kc_0 (by decide)
                    refine lv_goto (tgt := 108) hx hb dX12_taught_74 (by decide) ?_
                    exact jn99 F55 B56 G57 _ _ _ y53 y54 hI hE hZ b61 hP hD hS (lv_sub hl [0, 1, 2, 3, 4, 5, 6] rfl)
            exact lp58 (5)  F25 B26 G27 _ _ _ 0 y23 y24 (by have h1 := (kc_0); unfold kb at h1; omega) hI hE hZ (kb_w kc_0 (by decide) (by decide)) b31 hP hD hS (lv_sub hl [0, 1, 2, 3, 4, 5, 6] rfl)
      exact lp28 (7)  f12 a13 g14 _ _ _ 0 (-1) z19 (by have h1 := (kc_0); unfold kb at h1; omega) hI hE hZ (kb_w kc_0 (by decide) (by decide)) (kb_w kc_m1 (by decide) (by decide)) hP hD hS (lv_sub hl [0, 1, 2, 3, 4, 5] rfl)
    refine lv_icmp_ne (tgt := 27) hx hb dX12_taught_19 (by decide) (fun c123 => ?_) (fun c123 => ?_)
    · have b124 : kb 0 v10 200 := kr_nel c123 hw9.1 kc_m1 (by decide)
      refine lv_iload_n hx hb dX12_taught_27 rfl (lv_at hl 0 rfl) ?_
      exact jn20 _ _ _ v10 (kb_w b124 (by decide) (by decide)) hP hD hS (lv_sub hl [0, 1, 2] rfl)
    · have b125 : kb (-1) v10 (-1) := kb_eq c123 kc_m1
      refine lv_ldc (v := (1000000)) hx hb hown (hg _ wt6_191) dX12_taught_22 ?_
      refine lv_goto (tgt := 28) hx hb dX12_taught_24 (by decide) ?_
      exact jn20 _ _ _ 1000000 (kb_w kc_1000000 (by decide) (by decide)) hP hD hS (lv_sub hl [0, 1, 2] rfl)
  · have b126 : kb 0 v2 0 := kb_eq c4 kc_0
    refine lv_iconst (v := (-1)) hx hb dX12_taught_9 (by decide) ?_
    exact kI_ret (v := (-1)) hx hb hr hlocks rfl hK hS dX12_taught_10 (f, a, g) hP hD ⟨(kb_w kc_m1 (by decide) (by decide)), hI, hE, hZ⟩
set_option maxHeartbeats 4000000 in
set_option maxRecDepth 100000 in
theorem m_unseen  (l : Launch) {D : va_G} {K : Nat → ClassId} (o : Nat) (r : Nat → Nat) (f : Nat → Int32) (a : Nat → Nat → Int32) (g : Nat → Int64) (hI : mI f a) (x : Int32)    : kL l yX12_unseen (Cond.code yX12_unseen cX12_unseen 6 (some .long) :: kG) (rmD 52 0 0) D (tysK K) [.ref o, .int x] (mW K o r f a g) (fun v (u : mS) => kbl (-9223372036854775808) v 9223372036854775807 ∧ mI u.1 u.2.1 ∧ mE (XR []) f a u.1 u.2.1 ∧ mZ [22, 23, 24, 25] [2, 5, 26, 29, 30, 34] f a u.1 u.2.1) (fun u => mW K o r u.1 u.2.1 u.2.2) 0 0 := by
  refine kL.of (cc := cX12_unseen) (maxL := 6) (ret := (some .long)) (by decide) rfl (Nat.le_of_ble_eq_true rfl) ?_
  intro p e s m below meth c A hx hb hr hml hown hts hlocks hnm hK hP hD hS hA ls hl
  have hE : mE (XR [(0, 23)]) f a f a := mE_rf
  have hZ : mZ [22, 23, 24, 25] [2, 5, 26, 29, 30, 34] f a f a := mZ_rf
  have hg : ∀ w ∈ kG, w.before _ s = true := fun w h => hts w (List.mem_cons_of_mem _ h)
  have hown : s.vm.findClass RX12 = some m.cls := hown
  have hl : lv_has ls 6 [(0, .ref o), (1, .int x)] := hl
  refine lv_iload_n hx hb dX12_unseen_0 rfl (lv_at hl 1 rfl) ?_
  refine lv_iconst (v := 0) hx hb dX12_unseen_1 (by decide) ?_
  refine lv_bipush (v := 99) hx hb dX12_unseen_2 (by decide) ?_
  refine kN.callS (As := [.int x, .int 0, .int 99]) (rest := []) ⟨hx, hb, hml, hown, hg⟩ (m_lies l x 0 99 ) (va_cwS 3 hg (kgS wt6_69 wt6_70 wt1_14 wt6_71) rfl rfl rfl (by decide +kernel) ⟨by decide, by decide⟩) hP hS rfl hl.1 rfl (Nat.le_of_ble_eq_true rfl) dX12_unseen_4 ⟨Nat.le_refl _, Nat.le_refl _⟩ (fun v2 H locs hw1 hP hS => ?_)
  refine lv_if_ne (tgt := 14) hx hb dX12_unseen_7 (by decide) (fun c4 => ?_) (fun c4 => ?_)
  · have b5 : kb 1 v2 1 := kr_nel c4 hw1.1 kc_0 (by decide)
    have h6 := mLies_ne (hw1.2 ▸ c4)
    have b7 : kb 0 x 2147483647 := kr_le2 h6.1 kc_0 (kb_any x)
    have b8 : kb 0 x 99 := kr_le1 h6.2 b7 kc_99
    refine lv_aload_n hx hb dX12_unseen_14 rfl (lv_at hl 0 rfl) ?_
    refine kV.callV (As := []) (rest := []) ⟨hx, hb, hml, hown, hg⟩ (m_begins l o r f a g hI   ) (cwV 0 hg (kgV wt7_203 wt7_205 wp7_4 wt1_14 wt7_206) rfl rfl rfl (by decide +kernel) ⟨by decide, by decide⟩) hK hP hD hS hA mIs [] rfl (wr := []) rfl rfl rfl (fun i h => by cases h) 0 12 rfl rfl rfl hl.1 rfl (Nat.le_of_ble_eq_true rfl) dX12_unseen_15 ⟨Nat.le_refl _, Nat.le_refl _⟩ (fun u11 H locs hw9 hP hD hS => ?_)
    obtain ⟨f12, a13, g14⟩ := u11
    have hP : va_P D vwCl (mW K o r f12 a13 g14) H := hP
    have hD : va_D A (mW K o r f12 a13 g14) := hD
    have hI : mI f12 a13 := hw9.1
    have hE : mE (XR [(0, 23)]) f a f12 a13 := mE_tr hE hw9.2.1
    have eE15 : mE (XR [(0, 23)]) f a f12 a13 := hw9.2.1
    have eZ16 : mZ [] [2, 5] f a f12 a13 := hw9.2.2.2
    have hZ : mZ [22, 23, 24, 25] [2, 5, 26, 29, 30, 34] f a f12 a13 := mZ_tr hZ (mZ_w (by decide) (by decide) eZ16)
    have hk0 : ∀ i, i < 23 → a13 5 i = a 2 i := hw9.2.2.1
    refine lv_ldc2 (v := (1000000000000)) hx hb hown (hg _ wt8_5) dX12_unseen_18 ?_
    refine lv_lstore_n (lv' := [(2, .long (1000000000000)), (0, .ref o), (1, .int x)]) hx hb dX12_unseen_21 rfl hl (by decide) rfl (fun ls hl => ?_)
    refine lv_iconst (v := 0) hx hb dX12_unseen_22 (by decide) ?_
    refine lv_istore (lv' := [(4, .int 0), (2, .long (1000000000000)), (0, .ref o), (1, .int x)]) hx hb dX12_unseen_23 hl (by decide) rfl (fun ls hl => ?_)
    have lp22 : ∀ (n23 : Nat) (F19 : Nat → Int32) (B20 : Nat → Nat → Int32) (G21 : Nat → Int64) (H : Heap) (locs : List Loc) (ls : Array Slot) (y17 : Int32) (y18 : Int64), (99 < y17.toInt + (n23 : Int)) → (mI F19 B20) → (mE (XR [(0, 23)]) f a F19 B20) → (mZ [22, 23, 24, 25] [2, 5, 26, 29, 30, 34] f a F19 B20) → (∀ i, i < 23 → B20 5 i = a 2 i) → (kb 0 y17 99) → va_P D vwCl (mW K o r F19 B20 G21) H → va_D A (mW K o r F19 B20 G21) → va_S A s.heap H locs → lv_has ls 6 [(4, .int y17), (2, .long y18), (0, .ref o), (1, .int x)] → W p l e (rmD 52 0 0) s m ([.ref o, .int x] : List Value).toArray below meth c H locs 0 0 (kQl D (tysK K) (fun v (u : mS) => kbl (-9223372036854775808) v 9223372036854775807 ∧ mI u.1 u.2.1 ∧ mE (XR []) f a u.1 u.2.1 ∧ mZ [22, 23, 24, 25] [2, 5, 26, 29, 30, 34] f a u.1 u.2.1) (fun u => mW K o r u.1 u.2.1 u.2.2) A below ([.ref o, .int x] : List Value).toArray s 0 0) (F0 m 25 ls []) := by
      intro n23
      induction n23 with
      | zero =>
        intro  F19 B20 G21  H locs ls y17 y18 hmlp22 hI hE hZ hk0 b24 hP hD hS hl
        exact (by have h1 := b24.2; have h2 := hmlp22; omega : False).elim
      | succ n23 ihlp22 =>
        intro  F19 B20 G21  H locs ls y17 y18 hmlp22 hI hE hZ hk0 b24 hP hD hS hl
        refine lv_iload hx hb dX12_unseen_25 (lv_at hl 0 rfl) ?_
        refine lv_iload_n hx hb dX12_unseen_27 rfl (lv_at hl 3 rfl) ?_
        refine lv_icmp_ge (tgt := 127) hx hb dX12_unseen_28 (by decide) (fun c25 => ?_) (fun c25 => ?_)
        · have h26 := (kc_le c25)
          refine lv_aload_n hx hb dX12_unseen_127 rfl (lv_at hl 2 rfl) ?_
          refine lv_iconst (v := 0) hx hb dX12_unseen_128 (by decide) ?_
          refine kV.callV (As := [.int 0]) (rest := []) ⟨hx, hb, hml, hown, hg⟩ (m_takesBack l o r F19 B20 G21 hI 0 (kb_w kc_0 (by decide) (by decide)) ) (cwV 1 hg (kgV wt7_223 wt7_225 wp7_9 wt1_14 wt7_226) rfl rfl rfl (by decide +kernel) ⟨by decide, by decide⟩) hK hP hD hS hA mIs [] rfl (wr := []) rfl rfl rfl (fun i h => by cases h) 0 12 rfl rfl rfl hl.1 rfl (Nat.le_of_ble_eq_true rfl) dX12_unseen_129 ⟨Nat.le_refl _, Nat.le_refl _⟩ (fun u29 H locs hw27 hP hD hS => ?_)
          obtain ⟨f30, a31, g32⟩ := u29
          have hP : va_P D vwCl (mW K o r f30 a31 g32) H := hP
          have hD : va_D A (mW K o r f30 a31 g32) := hD
          have hI : mI f30 a31 := hw27.1
          have hE : mE (XR [(0, 23)]) f a f30 a31 := mE_tr hE hw27.2.1
          have eE33 : mE (XR [(0, 23)]) F19 B20 f30 a31 := hw27.2.1
          have eZ34 : mZ [] [2] F19 B20 f30 a31 := hw27.2.2.2
          have hZ : mZ [22, 23, 24, 25] [2, 5, 26, 29, 30, 34] f a f30 a31 := mZ_tr hZ (mZ_w (by decide) (by decide) eZ34)
          have hk0 : ∀ i, i < 23 → a31 5 i = a 2 i := (fun i hi => (congrFun (eZ34.2 5 rfl) i).trans (hk0 i hi))
          have htb : ∀ i, a31 2 i = a 2 i := fun i => by by_cases hi : i < 23; (exact (hw27.2.2.1 i hi).trans (by rw [show 23 * (0 : Int32).toInt.toNat + i = i from (by rw [show (0 : Int32).toInt.toNat = 0 from by decide +kernel]; omega)]; exact (congrFun (eZ34.2 5 rfl) i).symm.trans (hk0 i hi))); (exact hE.2.2.1 i (XR23 hi))
          refine lv_lload_n hx hb dX12_unseen_132 rfl (lv_at hl 1 rfl) ?_
          exact kL_ret (v := y18) hx hb hr hlocks hK hS dX12_unseen_133 (f30, a31, g32) hP hD ⟨(kbl_any y18), hI, ⟨hE.1, hE.2.1, fun i _ => htb i, hE.2.2.2.1, hE.2.2.2.2⟩, hZ⟩
        · have h35 := (kc_nle c25)
          have b36 : kb 0 y17 98 := kr_lt1 h35 b24 b8 (by decide)
          have b37 : kb 1 x 99 := kr_lt2 h35 b24 b8 (by decide)
          refine lv_aload_n hx hb dX12_unseen_31 rfl (lv_at hl 2 rfl) ?_
          refine lv_aload_n hx hb dX12_unseen_32 rfl (lv_at hl 2 rfl) ?_
          refine kI.callV (As := []) (rest := [.ref o]) ⟨hx, hb, hml, hown, hg⟩ (m_allParts l o r F19 B20 G21 hI   ) (cwV 0 hg (kgV wt7_187 wt7_189 wp7_1 wt1_14 wt7_190) rfl rfl rfl (by decide +kernel) ⟨by decide, by decide⟩) hK hP hD hS hA mIs [] rfl (wr := []) rfl rfl rfl (fun i h => by cases h) 0 12 rfl rfl rfl hl.1 rfl (Nat.le_of_ble_eq_true rfl) dX12_unseen_33 ⟨Nat.le_refl _, Nat.le_refl _⟩ (fun v39 u40 H locs hw38 hP hD hS => ?_)
          have hP : va_P D vwCl (mW K o r F19 B20 G21) H := hP
          have hD : va_D A (mW K o r F19 B20 G21) := hD
          refine kI.callV (As := [.int v39]) (rest := []) ⟨hx, hb, hml, hown, hg⟩ (m_areStanding l o r F19 B20 G21 hI v39  ) (cwV 1 hg (kgV wt7_211 wt7_213 wp7_6 wt1_14 wt7_214) rfl rfl rfl (by decide +kernel) ⟨by decide, by decide⟩) hK hP hD hS hA mIs [] rfl (wr := []) rfl rfl rfl (fun i h => by cases h) 0 12 rfl rfl rfl hl.1 rfl (Nat.le_of_ble_eq_true rfl) dX12_unseen_36 ⟨Nat.le_refl _, Nat.le_refl _⟩ (fun v42 u43 H locs hw41 hP hD hS => ?_)
          have hP : va_P D vwCl (mW K o r F19 B20 G21) H := hP
          have hD : va_D A (mW K o r F19 B20 G21) := hD
          refine lv_if_ne (tgt := 127) hx hb dX12_unseen_39 (by decide) (fun c44 => ?_) (fun c44 => ?_)
          · have b45 : kb 1 v42 1 := kr_nel c44 hw41 kc_0 (by decide)
            refine lv_aload_n hx hb dX12_unseen_127 rfl (lv_at hl 2 rfl) ?_
            refine lv_iconst (v := 0) hx hb dX12_unseen_128 (by decide) ?_
            refine kV.callV (As := [.int 0]) (rest := []) ⟨hx, hb, hml, hown, hg⟩ (m_takesBack l o r F19 B20 G21 hI 0 (kb_w kc_0 (by decide) (by decide)) ) (cwV 1 hg (kgV wt7_223 wt7_225 wp7_9 wt1_14 wt7_226) rfl rfl rfl (by decide +kernel) ⟨by decide, by decide⟩) hK hP hD hS hA mIs [] rfl (wr := []) rfl rfl rfl (fun i h => by cases h) 0 12 rfl rfl rfl hl.1 rfl (Nat.le_of_ble_eq_true rfl) dX12_unseen_129 ⟨Nat.le_refl _, Nat.le_refl _⟩ (fun u48 H locs hw46 hP hD hS => ?_)
            obtain ⟨f49, a50, g51⟩ := u48
            have hP : va_P D vwCl (mW K o r f49 a50 g51) H := hP
            have hD : va_D A (mW K o r f49 a50 g51) := hD
            have hI : mI f49 a50 := hw46.1
            have hE : mE (XR [(0, 23)]) f a f49 a50 := mE_tr hE hw46.2.1
            have eE52 : mE (XR [(0, 23)]) F19 B20 f49 a50 := hw46.2.1
            have eZ53 : mZ [] [2] F19 B20 f49 a50 := hw46.2.2.2
            have hZ : mZ [22, 23, 24, 25] [2, 5, 26, 29, 30, 34] f a f49 a50 := mZ_tr hZ (mZ_w (by decide) (by decide) eZ53)
            have hk0 : ∀ i, i < 23 → a50 5 i = a 2 i := (fun i hi => (congrFun (eZ53.2 5 rfl) i).trans (hk0 i hi))
            have htb : ∀ i, a50 2 i = a 2 i := fun i => by by_cases hi : i < 23; (exact (hw46.2.2.1 i hi).trans (by rw [show 23 * (0 : Int32).toInt.toNat + i = i from (by rw [show (0 : Int32).toInt.toNat = 0 from by decide +kernel]; omega)]; exact (congrFun (eZ53.2 5 rfl) i).symm.trans (hk0 i hi))); (exact hE.2.2.1 i (XR23 hi))
            refine lv_lload_n hx hb dX12_unseen_132 rfl (lv_at hl 1 rfl) ?_
            exact kL_ret (v := y18) hx hb hr hlocks hK hS dX12_unseen_133 (f49, a50, g51) hP hD ⟨(kbl_any y18), hI, ⟨hE.1, hE.2.1, fun i _ => htb i, hE.2.2.2.1, hE.2.2.2.2⟩, hZ⟩
          · have b54 : kb 0 v42 0 := kb_eq c44 kc_0
            refine lv_aload_n hx hb dX12_unseen_42 rfl (lv_at hl 2 rfl) ?_
            refine lv_aload_n hx hb dX12_unseen_43 rfl (lv_at hl 2 rfl) ?_
            refine kI.callV (As := []) (rest := [.ref o]) ⟨hx, hb, hml, hown, hg⟩ (m_allBuilders l o r F19 B20 G21 hI   ) (cwV 0 hg (kgV wt7_164 wt7_166 wp6_14 wt1_14 wt7_167) rfl rfl rfl (by decide +kernel) ⟨by decide, by decide⟩) hK hP hD hS hA mIs [] rfl (wr := []) rfl rfl rfl (fun i h => by cases h) 0 12 rfl rfl rfl hl.1 rfl (Nat.le_of_ble_eq_true rfl) dX12_unseen_44 ⟨Nat.le_refl _, Nat.le_refl _⟩ (fun v56 u57 H locs hw55 hP hD hS => ?_)
            have hP : va_P D vwCl (mW K o r F19 B20 G21) H := hP
            have hD : va_D A (mW K o r F19 B20 G21) := hD
            refine kV.callV (As := [.int v56]) (rest := []) ⟨hx, hb, hml, hown, hg⟩ (m_sendsAll l o r F19 B20 G21 hI v56  ) (cwV 1 hg (kgV wt7_215 wt7_217 wp7_7 wt1_14 wt7_218) rfl rfl rfl (by decide +kernel) ⟨by decide, by decide⟩) hK hP hD hS hA mIs [] rfl (wr := []) rfl rfl rfl (fun i h => by cases h) 0 12 rfl rfl rfl hl.1 rfl (Nat.le_of_ble_eq_true rfl) dX12_unseen_47 ⟨Nat.le_refl _, Nat.le_refl _⟩ (fun u60 H locs hw58 hP hD hS => ?_)
            obtain ⟨f61, a62, g63⟩ := u60
            have hP : va_P D vwCl (mW K o r f61 a62 g63) H := hP
            have hD : va_D A (mW K o r f61 a62 g63) := hD
            have hI : mI f61 a62 := hw58.1
            have hE : mE (XR [(0, 23)]) f a f61 a62 := mE_tr hE hw58.2.1
            have eE64 : mE (XR [(0, 23)]) F19 B20 f61 a62 := hw58.2.1
            have eZ65 : mZ [22, 23, 24, 25] [2, 26, 34] F19 B20 f61 a62 := hw58.2.2
            have hZ : mZ [22, 23, 24, 25] [2, 5, 26, 29, 30, 34] f a f61 a62 := mZ_tr hZ (mZ_w (by decide) (by decide) eZ65)
            have hk0 : ∀ i, i < 23 → a62 5 i = a 2 i := (fun i hi => (congrFun (eZ65.2 5 rfl) i).trans (hk0 i hi))
            refine lv_iconst (v := 0) hx hb dX12_unseen_50 (by decide) ?_
            refine lv_istore (lv' := [(5, .int 0), (4, .int y17), (2, .long y18), (0, .ref o), (1, .int x)]) hx hb dX12_unseen_51 hl (by decide) rfl (fun ls hl => ?_)
            have lp71 : ∀ (n72 : Nat) (F68 : Nat → Int32) (B69 : Nat → Nat → Int32) (G70 : Nat → Int64) (H : Heap) (locs : List Loc) (ls : Array Slot) (y66 : Int32) (y67 : Int64), (6 < y66.toInt + (n72 : Int)) → (mI F68 B69) → (mE (XR [(0, 23)]) f a F68 B69) → (mZ [22, 23, 24, 25] [2, 5, 26, 29, 30, 34] f a F68 B69) → (∀ i, i < 23 → B69 5 i = a 2 i) → (kb 0 y66 6) → va_P D vwCl (mW K o r F68 B69 G70) H → va_D A (mW K o r F68 B69 G70) → va_S A s.heap H locs → lv_has ls 6 [(5, .int y66), (4, .int y17), (2, .long y67), (0, .ref o), (1, .int x)] → W p l e (rmD 52 0 0) s m ([.ref o, .int x] : List Value).toArray below meth c H locs 0 0 (kQl D (tysK K) (fun v (u : mS) => kbl (-9223372036854775808) v 9223372036854775807 ∧ mI u.1 u.2.1 ∧ mE (XR []) f a u.1 u.2.1 ∧ mZ [22, 23, 24, 25] [2, 5, 26, 29, 30, 34] f a u.1 u.2.1) (fun u => mW K o r u.1 u.2.1 u.2.2) A below ([.ref o, .int x] : List Value).toArray s 0 0) (F0 m 53 ls []) := by
              intro n72
              induction n72 with
              | zero =>
                intro  F68 B69 G70  H locs ls y66 y67 hmlp71 hI hE hZ hk0 b73 hP hD hS hl
                exact (by have h1 := b73.2; have h2 := hmlp71; omega : False).elim
              | succ n72 ihlp71 =>
                intro  F68 B69 G70  H locs ls y66 y67 hmlp71 hI hE hZ hk0 b73 hP hD hS hl
                refine lv_iload hx hb dX12_unseen_53 (lv_at hl 0 rfl) ?_
                refine lv_aload_n hx hb dX12_unseen_55 rfl (lv_at hl 3 rfl) ?_
                refine va_get (D := D) (ci := 12) (v := .ref (r 2)) (C := RX12) (T := TX12) (N := 48) hx hb hg inC12 hown hK hP 0 rfl rfl 2 (by decide) (hg _ wt5_162) (fun _ h9 => h9) rfl dX12_unseen_56 ?_
                refine lv_bipush (v := 103) hx hb dX12_unseen_59 (by decide) ?_
                refine va_iald hx hb hK hP 2 0 rfl rfl (kb_in kc_103 (by decide) (by decide)) dX12_unseen_61 ?_
                refine lv_topi (fun t74 et74 => ?_)
                rw [cl_103] at et74
                have b75 : kb 0 t74 6 := kb_eq et74 (aI_at hI.2.1 2 103 (by decide) (by decide))
                refine lv_icmp_ge (tgt := 112) hx hb dX12_unseen_62 (by decide) (fun c76 => ?_) (fun c76 => ?_)
                · have h77 := (kc_le c76)
                  refine lv_aload_n hx hb dX12_unseen_112 rfl (lv_at hl 3 rfl) ?_
                  refine lv_aload_n hx hb dX12_unseen_113 rfl (lv_at hl 3 rfl) ?_
                  refine kI.callV (As := []) (rest := [.ref o]) ⟨hx, hb, hml, hown, hg⟩ (m_allBuilders l o r F68 B69 G70 hI   ) (cwV 0 hg (kgV wt7_164 wt7_166 wp6_14 wt1_14 wt7_167) rfl rfl rfl (by decide +kernel) ⟨by decide, by decide⟩) hK hP hD hS hA mIs [] rfl (wr := []) rfl rfl rfl (fun i h => by cases h) 0 12 rfl rfl rfl hl.1 rfl (Nat.le_of_ble_eq_true rfl) dX12_unseen_114 ⟨Nat.le_refl _, Nat.le_refl _⟩ (fun v79 u80 H locs hw78 hP hD hS => ?_)
                  have hP : va_P D vwCl (mW K o r F68 B69 G70) H := hP
                  have hD : va_D A (mW K o r F68 B69 G70) := hD
                  refine kI.callV (As := [.int v79]) (rest := []) ⟨hx, hb, hml, hown, hg⟩ (m_ticks l o r F68 B69 G70 hI v79  ) (cwV 1 hg (kgV wt7_168 wt7_170 wp6_15 wt1_14 wt7_171) rfl rfl rfl (by decide +kernel) ⟨by decide, by decide⟩) hK hP hD hS hA mIs [] rfl (wr := []) rfl rfl rfl (fun i h => by cases h) 0 12 rfl rfl rfl hl.1 rfl (Nat.le_of_ble_eq_true rfl) dX12_unseen_117 ⟨Nat.le_refl _, Nat.le_refl _⟩ (fun v82 u83 H locs hw81 hP hD hS => ?_)
                  obtain ⟨f84, a85, g86⟩ := u83
                  have hP : va_P D vwCl (mW K o r f84 a85 g86) H := hP
                  have hD : va_D A (mW K o r f84 a85 g86) := hD
                  have hI : mI f84 a85 := hw81.2.1
                  have hE : mE (XR [(0, 23)]) f a f84 a85 := mE_tr hE hw81.2.2.1
                  have eE87 : mE (XR [(0, 23)]) F68 B69 f84 a85 := hw81.2.2.1
                  have eZ88 : mZ [22, 23, 24, 25] [2, 26, 29, 30] F68 B69 f84 a85 := hw81.2.2.2
                  have hZ : mZ [22, 23, 24, 25] [2, 5, 26, 29, 30, 34] f a f84 a85 := mZ_tr hZ (mZ_w (by decide) (by decide) eZ88)
                  have hk0 : ∀ i, i < 23 → a85 5 i = a 2 i := (fun i hi => (congrFun (eZ88.2 5 rfl) i).trans (hk0 i hi))
                  refine lv_pop hx hb dX12_unseen_120 rfl ?_
                  obtain ⟨t89, et89⟩ : ∃ z : Int32, z = y17 + Int32.ofInt 1 := ⟨_, rfl⟩
                  have qt89 : t89.toInt = y17.toInt + 1 := by rw [et89]; exact km_inc b36 (by decide) (by decide)
                  have b90 : kb 1 t89 99 := kb_inc (k := 1) qt89 b36
                  refine lv_iinc (v := t89) (lv' := [(4, .int t89), (5, .int y66), (2, .long y67), (0, .ref o), (1, .int x)]) hx hb dX12_unseen_121 hl (k := 1) rfl et89.symm (by decide) rfl (fun ls hl => ?_)
                  refine lv_goto (tgt := 25) hx hb dX12_unseen_124 (by decide) ?_
                  exact ihlp22  f84 a85 g86 _ _ _ t89 y67 (km_up hmlp22 qt89) hI hE hZ hk0 (kb_w b90 (by decide) (by decide)) hP hD hS (lv_sub hl [0, 2, 3, 4] rfl)
                · have h91 := (kc_nle c76)
                  have b92 : kb 0 y66 5 := kr_lt1 h91 b73 b75 (by decide)
                  have b93 : kb 1 t74 6 := kr_lt2 h91 b73 b75 (by decide)
                  refine lv_aload_n hx hb dX12_unseen_65 rfl (lv_at hl 3 rfl) ?_
                  refine va_get (D := D) (ci := 12) (v := .ref (r 2)) (C := RX12) (T := TX12) (N := 48) hx hb hg inC12 hown hK hP 0 rfl rfl 2 (by decide) (hg _ wt5_162) (fun _ h9 => h9) rfl dX12_unseen_66 ?_
                  refine lv_bipush (v := 16) hx hb dX12_unseen_69 (by decide) ?_
                  refine lv_iload hx hb dX12_unseen_71 (lv_at hl 0 rfl) ?_
                  refine lv_iadd hx hb dX12_unseen_73 ?_
                  refine lv_topi (fun t94 et94 => ?_)
                  have b95 : kb 16 t94 21 := kb_eq et94 (kb_add kc_16 b92 (by decide) (by decide))
                  have qt94 : t94.toInt = 16 + y66.toInt := by rw [et94]; exact kt_cadd kc_16 b92 (by decide) (by decide)
                  refine va_iald hx hb hK hP 2 0 rfl rfl (kb_in b95 (by decide) (by decide)) dX12_unseen_74 ?_
                  refine lv_topi (fun t96 et96 => ?_)
                  have b97 : kb (-1) t96 9 := kb_eq et96 (aI_ld hI.2.1 2 16 6 b95 (by decide) (by decide) (by decide +kernel))
                  refine lv_iconst (v := (-1)) hx hb dX12_unseen_75 (by decide) ?_
                  refine lv_icmp_eq (tgt := 106) hx hb dX12_unseen_76 (by decide) (fun c98 => ?_) (fun c98 => ?_)
                  · have b99 : kb (-1) t96 (-1) := kb_eq c98 kc_m1
                    obtain ⟨t100, et100⟩ : ∃ z : Int32, z = y66 + Int32.ofInt 1 := ⟨_, rfl⟩
                    have qt100 : t100.toInt = y66.toInt + 1 := by rw [et100]; exact km_inc b92 (by decide) (by decide)
                    have b101 : kb 1 t100 6 := kb_inc (k := 1) qt100 b92
                    refine lv_iinc (v := t100) (lv' := [(5, .int t100), (4, .int y17), (2, .long y67), (0, .ref o), (1, .int x)]) hx hb dX12_unseen_106 hl (k := 0) rfl et100.symm (by decide) rfl (fun ls hl => ?_)
                    refine lv_goto (tgt := 53) hx hb dX12_unseen_109 (by decide) ?_
                    exact ihlp71  F68 B69 G70 _ _ _ t100 y67 (km_up hmlp71 qt100) hI hE hZ hk0 (kb_w b101 (by decide) (by decide)) hP hD hS (lv_sub hl [0, 1, 2, 3, 4] rfl)
                  · have b102 : kb 0 t96 9 := kr_nel c98 b97 kc_m1 (by decide)
                    refine lv_lload_n hx hb dX12_unseen_79 rfl (lv_at hl 2 rfl) ?_
                    refine lv_bipush (v := 10) hx hb dX12_unseen_80 (by decide) ?_
                    refine lv_aload_n hx hb dX12_unseen_82 rfl (lv_at hl 3 rfl) ?_
                    refine lv_iload hx hb dX12_unseen_83 (lv_at hl 0 rfl) ?_
                    refine lv_aload_n hx hb dX12_unseen_85 rfl (lv_at hl 3 rfl) ?_
                    refine va_get (D := D) (ci := 12) (v := .ref (r 2)) (C := RX12) (T := TX12) (N := 48) hx hb hg inC12 hown hK hP 0 rfl rfl 2 (by decide) (hg _ wt5_162) (fun _ h9 => h9) rfl dX12_unseen_86 ?_
                    refine lv_bipush (v := 16) hx hb dX12_unseen_89 (by decide) ?_
                    refine lv_iload hx hb dX12_unseen_91 (lv_at hl 0 rfl) ?_
                    refine lv_iadd hx hb dX12_unseen_93 ?_
                    refine k_top (z := t94) et94.symm ?_
                    refine va_iald hx hb hK hP 2 0 rfl rfl (kb_in b95 (by decide) (by decide)) dX12_unseen_94 ?_
                    refine k_top (z := t96) et96.symm ?_
                    refine kI.callV (As := [.int y66, .int t96]) (rest := [.int 10, .long y67]) ⟨hx, hb, hml, hown, hg⟩ (m_showsIn l o r F68 B69 G70 hI y66 t96 b92 b102 ) (cwV 2 hg (kgV wt7_100 wt7_102 wp6_4 wt1_14 wt7_103) rfl rfl rfl (by decide +kernel) ⟨by decide, by decide⟩) hK hP hD hS hA mIs [] rfl (wr := []) rfl rfl rfl (fun i h => by cases h) 0 12 rfl rfl rfl hl.1 rfl (Nat.le_of_ble_eq_true rfl) dX12_unseen_95 ⟨Nat.le_refl _, Nat.le_refl _⟩ (fun v104 u105 H locs hw103 hP hD hS => ?_)
                    obtain ⟨f106, a107, g108⟩ := u105
                    have hP : va_P D vwCl (mW K o r f106 a107 g108) H := hP
                    have hD : va_D A (mW K o r f106 a107 g108) := hD
                    have hI : mI f106 a107 := hw103.2.1
                    have hE : mE (XR [(0, 23)]) f a f106 a107 := mE_tr hE (mE_w (XR_w (by decide)) hw103.2.2.1)
                    have eE109 : mE (XR []) F68 B69 f106 a107 := hw103.2.2.1
                    have eZ110 : mZ [22, 23, 24, 25] [26] F68 B69 f106 a107 := hw103.2.2.2
                    have hZ : mZ [22, 23, 24, 25] [2, 5, 26, 29, 30, 34] f a f106 a107 := mZ_tr hZ (mZ_w (by decide) (by decide) eZ110)
                    have hk0 : ∀ i, i < 23 → a107 5 i = a 2 i := (fun i hi => (congrFun (eZ110.2 5 rfl) i).trans (hk0 i hi))
                    refine lv_isub hx hb dX12_unseen_98 ?_
                    refine lv_topi (fun t111 et111 => ?_)
                    have b112 : kb (-10) t111 10 := kb_eq et111 (kb_sub kc_10 hw103.1 (by decide) (by decide))
                    have qt111 : t111.toInt = 10 - v104.toInt := by rw [et111]; exact kt_csub kc_10 hw103.1 (by decide) (by decide)
                    refine lv_i2l hx hb dX12_unseen_99 rfl ?_
                    refine lv_topl (fun t113 et113 => ?_)
                    have b114 : kbl (-10) t113 10 := kbl_eq et113 (kbl_i2l b112)
                    refine lv_lmul hx hb dX12_unseen_100 ?_
                    refine lv_topl (fun t115 et115 => ?_)
                    refine lv_ldc2 (v := (10)) hx hb hown (hg _ wt8_6) dX12_unseen_101 ?_
                    refine lv_ldiv hx hb dX12_unseen_104 (by decide +kernel) ?_
                    refine lv_topl (fun t116 et116 => ?_)
                    refine lv_lstore_n (lv' := [(2, .long t116), (5, .int y66), (4, .int y17), (0, .ref o), (1, .int x)]) hx hb dX12_unseen_105 rfl hl (by decide) rfl (fun ls hl => ?_)
                    obtain ⟨t117, et117⟩ : ∃ z : Int32, z = y66 + Int32.ofInt 1 := ⟨_, rfl⟩
                    have qt117 : t117.toInt = y66.toInt + 1 := by rw [et117]; exact km_inc b92 (by decide) (by decide)
                    have b118 : kb 1 t117 6 := kb_inc (k := 1) qt117 b92
                    refine lv_iinc (v := t117) (lv' := [(5, .int t117), (2, .long t116), (4, .int y17), (0, .ref o), (1, .int x)]) hx hb dX12_unseen_106 hl (k := 1) rfl et117.symm (by decide) rfl (fun ls hl => ?_)
                    refine lv_goto (tgt := 53) hx hb dX12_unseen_109 (by decide) ?_
                    exact ihlp71  f106 a107 g108 _ _ _ t117 t116 (km_up hmlp71 qt117) hI hE hZ hk0 (kb_w b118 (by decide) (by decide)) hP hD hS (lv_sub hl [0, 2, 1, 3, 4] rfl)
            exact lp71 (7)  f61 a62 g63 _ _ _ 0 y18 (by have h1 := (kc_0); unfold kb at h1; omega) hI hE hZ hk0 (kb_w kc_0 (by decide) (by decide)) hP hD hS (lv_sub hl [0, 1, 2, 3, 4] rfl)
    exact lp22 (100)  f12 a13 g14 _ _ _ 0 (1000000000000) (by have h1 := (kc_0); unfold kb at h1; omega) hI hE hZ hk0 (kb_w kc_0 (by decide) (by decide)) hP hD hS (lv_sub hl [0, 1, 2, 3] rfl)
  · have b119 : kb 0 v2 0 := kb_eq c4 kc_0
    refine lv_ldc2 (v := (-1)) hx hb hown (hg _ wt8_4) dX12_unseen_10 ?_
    exact kL_ret (v := (-1)) hx hb hr hlocks hK hS dX12_unseen_13 (f, a, g) hP hD ⟨(kbl_w kcl_m1 (by decide) (by decide)), hI, ⟨hE.1, hE.2.1, fun i _ => rfl, hE.2.2.2.1, hE.2.2.2.2⟩, hZ⟩
set_option maxHeartbeats 4000000 in
set_option maxRecDepth 100000 in
theorem m_areSo  (l : Launch) {D : va_G} {K : Nat → ClassId} (o : Nat) (r : Nat → Nat) (f : Nat → Int32) (a : Nat → Nat → Int32) (g : Nat → Int64) (hI : mI f a) (x : Int32)    : kI l yX12_areSo (Cond.code yX12_areSo cX12_areSo 4 (some .boolean) :: kG) (rmD 2 0 0) D (tysK K) [.ref o, .int x] (mW K o r f a g) (fun v (_ : Unit) => kb 0 v 1) (fun _ => mW K o r f a g) 0 0 := by
  refine kI.of (cc := cX12_areSo) (maxL := 4) (ret := (some .boolean)) (by decide) rfl (Nat.le_of_ble_eq_true rfl) ?_
  intro p e s m below meth c A hx hb hr hml hown hts hlocks hnm hK hP hD hS hA ls hl
  have hg : ∀ w ∈ kG, w.before _ s = true := fun w h => hts w (List.mem_cons_of_mem _ h)
  have hown : s.vm.findClass RX12 = some m.cls := hown
  have hl : lv_has ls 4 [(0, .ref o), (1, .int x)] := hl
  refine lv_iconst (v := 1) hx hb dX12_areSo_0 (by decide) ?_
  refine lv_istore_n (lv' := [(2, .int 1), (0, .ref o), (1, .int x)]) hx hb dX12_areSo_1 rfl hl (by decide) rfl (fun ls hl => ?_)
  refine lv_iconst (v := 0) hx hb dX12_areSo_2 (by decide) ?_
  refine lv_istore_n (lv' := [(3, .int 0), (2, .int 1), (0, .ref o), (1, .int x)]) hx hb dX12_areSo_3 rfl hl (by decide) rfl (fun ls hl => ?_)
  have lp3 : ∀ (n4 : Nat) (H : Heap) (locs : List Loc) (ls : Array Slot) (y1 : Int32) (y2 : Int32), (8 < y1.toInt + (n4 : Int)) → (kb 0 y1 8) → (kb 0 y2 1) → va_P D vwCl (mW K o r f a g) H → va_D A (mW K o r f a g) → va_S A s.heap H locs → lv_has ls 4 [(3, .int y1), (2, .int y2), (0, .ref o), (1, .int x)] → W p l e (rmD 2 0 0) s m ([.ref o, .int x] : List Value).toArray below meth c H locs 0 0 (kQi D (tysK K) (fun v (_ : Unit) => kb 0 v 1) (fun _ => mW K o r f a g) A below ([.ref o, .int x] : List Value).toArray s 0 0) (F0 m 4 ls []) := by
    intro n4
    induction n4 with
    | zero =>
      intro   H locs ls y1 y2 hmlp3 b5 b6 hP hD hS hl
      exact (by have h1 := b5.2; have h2 := hmlp3; omega : False).elim
    | succ n4 ihlp3 =>
      intro   H locs ls y1 y2 hmlp3 b5 b6 hP hD hS hl
      refine lv_iload_n hx hb dX12_areSo_4 rfl (lv_at hl 0 rfl) ?_
      refine lv_aload_n hx hb dX12_areSo_5 rfl (lv_at hl 2 rfl) ?_
      refine va_get (D := D) (ci := 12) (v := .ref (r 2)) (C := RX12) (T := TX12) (N := 48) hx hb hg inC12 hown hK hP 0 rfl rfl 2 (by decide) (hg _ wt5_162) (fun _ h9 => h9) rfl dX12_areSo_6 ?_
      refine lv_bipush (v := 104) hx hb dX12_areSo_9 (by decide) ?_
      refine va_iald hx hb hK hP 2 0 rfl rfl (kb_in kc_104 (by decide) (by decide)) dX12_areSo_11 ?_
      refine lv_topi (fun t7 et7 => ?_)
      rw [cl_104] at et7
      have b8 : kb 0 t7 8 := kb_eq et7 (aI_at hI.2.1 2 104 (by decide) (by decide))
      refine lv_icmp_ge (tgt := 88) hx hb dX12_areSo_12 (by decide) (fun c9 => ?_) (fun c9 => ?_)
      · have h10 := (kc_le c9)
        refine lv_iload_n hx hb dX12_areSo_88 rfl (lv_at hl 1 rfl) ?_
        exact kI_ret (v := y2) hx hb hr hlocks (kb_bo b6) hK hS dX12_areSo_89 () hP hD b6
      · have h11 := (kc_nle c9)
        have b12 : kb 0 y1 7 := kr_lt1 h11 b5 b8 (by decide)
        have b13 : kb 1 t7 8 := kr_lt2 h11 b5 b8 (by decide)
        refine lv_iload_n hx hb dX12_areSo_15 rfl (lv_at hl 1 rfl) ?_
        have jn64 : ∀ (H : Heap) (locs : List Loc) (ls : Array Slot), va_P D vwCl (mW K o r f a g) H → va_D A (mW K o r f a g) → va_S A s.heap H locs → lv_has ls 4 [(3, .int y1), (2, .int y2), (0, .ref o), (1, .int x)] → W p l e (rmD 2 0 0) s m ([.ref o, .int x] : List Value).toArray below meth c H locs 0 0 (kQi D (tysK K) (fun v (_ : Unit) => kb 0 v 1) (fun _ => mW K o r f a g) A below ([.ref o, .int x] : List Value).toArray s 0 0) (F0 m 80 ls []) := by
          intro  H locs ls   hP hD hS hl
          refine lv_iconst (v := 0) hx hb dX12_areSo_80 (by decide) ?_
          refine lv_istore_n (lv' := [(2, .int 0), (3, .int y1), (0, .ref o), (1, .int x)]) hx hb dX12_areSo_81 rfl hl (by decide) rfl (fun ls hl => ?_)
          obtain ⟨t65, et65⟩ : ∃ z : Int32, z = y1 + Int32.ofInt 1 := ⟨_, rfl⟩
          have qt65 : t65.toInt = y1.toInt + 1 := by rw [et65]; exact km_inc b12 (by decide) (by decide)
          have b66 : kb 1 t65 8 := kb_inc (k := 1) qt65 b12
          refine lv_iinc (v := t65) (lv' := [(3, .int t65), (2, .int 0), (0, .ref o), (1, .int x)]) hx hb dX12_areSo_82 hl (k := 1) rfl et65.symm (by decide) rfl (fun ls hl => ?_)
          refine lv_goto (tgt := 4) hx hb dX12_areSo_85 (by decide) ?_
          exact ihlp3  _ _ _ t65 0 (km_up hmlp3 qt65) (kb_w b66 (by decide) (by decide)) (kb_w kc_0 (by decide) (by decide)) hP hD hS (lv_sub hl [0, 1, 2, 3] rfl)
        refine lv_if_eq (tgt := 80) hx hb dX12_areSo_16 (by decide) (fun c67 => ?_) (fun c67 => ?_)
        · have b68 : kb 0 y2 0 := kb_eq c67 kc_0
          exact jn64 _ _ _   hP hD hS (lv_sub hl [0, 1, 2, 3] rfl)
        · have b69 : kb 1 y2 1 := kr_nel c67 b6 kc_0 (by decide)
          refine lv_aload_n hx hb dX12_areSo_19 rfl (lv_at hl 2 rfl) ?_
          refine va_get (D := D) (ci := 12) (v := .ref (r 2)) (C := RX12) (T := TX12) (N := 48) hx hb hg inC12 hown hK hP 0 rfl rfl 2 (by decide) (hg _ wt5_162) (fun _ h9 => h9) rfl dX12_areSo_20 ?_
          refine lv_bipush (v := 75) hx hb dX12_areSo_23 (by decide) ?_
          refine lv_iconst (v := 3) hx hb dX12_areSo_25 (by decide) ?_
          refine lv_iload_n hx hb dX12_areSo_26 rfl (lv_at hl 0 rfl) ?_
          refine lv_imul hx hb dX12_areSo_27 ?_
          refine lv_topi (fun t70 et70 => ?_)
          have b71 : kb 0 t70 21 := kb_eq et70 (kb_mul kc_3 b12 (by decide) (by decide) (by decide))
          have qt70 : t70.toInt = 3 * y1.toInt := by rw [et70]; exact kt_cmul kc_3 b12 (by decide) (by decide) (by decide)
          refine lv_iadd hx hb dX12_areSo_28 ?_
          refine lv_topi (fun t72 et72 => ?_)
          have b73 : kb 75 t72 96 := kb_eq et72 (kb_add kc_75 b71 (by decide) (by decide))
          have qt72 : t72.toInt = 75 + t70.toInt := by rw [et72]; exact kt_cadd kc_75 b71 (by decide) (by decide)
          refine va_iald hx hb hK hP 2 0 rfl rfl (kb_in b73 (by decide) (by decide)) dX12_areSo_29 ?_
          refine lv_topi (fun t74 et74 => ?_)
          have b75 : kb 0 t74 99 := kb_eq et74 (aI_ld hI.2.1 2 75 22 b73 (by decide) (by decide) (by decide +kernel))
          refine lv_iload_n hx hb dX12_areSo_30 rfl (lv_at hl 3 rfl) ?_
          have jn95 : ∀ (H : Heap) (locs : List Loc) (ls : Array Slot), va_P D vwCl (mW K o r f a g) H → va_D A (mW K o r f a g) → va_S A s.heap H locs → lv_has ls 4 [(3, .int y1), (2, .int y2), (0, .ref o), (1, .int x)] → W p l e (rmD 2 0 0) s m ([.ref o, .int x] : List Value).toArray below meth c H locs 0 0 (kQi D (tysK K) (fun v (_ : Unit) => kb 0 v 1) (fun _ => mW K o r f a g) A below ([.ref o, .int x] : List Value).toArray s 0 0) (F0 m 76 ls []) := by
            intro  H locs ls   hP hD hS hl
            refine lv_iconst (v := 1) hx hb dX12_areSo_76 (by decide) ?_
            refine lv_goto (tgt := 81) hx hb dX12_areSo_77 (by decide) ?_
            refine lv_istore_n (lv' := [(2, .int 1), (3, .int y1), (0, .ref o), (1, .int x)]) hx hb dX12_areSo_81 rfl hl (by decide) rfl (fun ls hl => ?_)
            obtain ⟨t96, et96⟩ : ∃ z : Int32, z = y1 + Int32.ofInt 1 := ⟨_, rfl⟩
            have qt96 : t96.toInt = y1.toInt + 1 := by rw [et96]; exact km_inc b12 (by decide) (by decide)
            have b97 : kb 1 t96 8 := kb_inc (k := 1) qt96 b12
            refine lv_iinc (v := t96) (lv' := [(3, .int t96), (2, .int 1), (0, .ref o), (1, .int x)]) hx hb dX12_areSo_82 hl (k := 1) rfl et96.symm (by decide) rfl (fun ls hl => ?_)
            refine lv_goto (tgt := 4) hx hb dX12_areSo_85 (by decide) ?_
            exact ihlp3  _ _ _ t96 1 (km_up hmlp3 qt96) (kb_w b97 (by decide) (by decide)) (kb_w kc_1 (by decide) (by decide)) hP hD hS (lv_sub hl [0, 1, 2, 3] rfl)
          refine lv_icmp_ne (tgt := 76) hx hb dX12_areSo_31 (by decide) (fun c98 => ?_) (fun c98 => ?_)
          · exact jn95 _ _ _   hP hD hS (lv_sub hl [0, 1, 2, 3] rfl)
          · have b99 : kb 0 x 99 := kb_eq c98.symm b75
            refine lv_aload_n hx hb dX12_areSo_34 rfl (lv_at hl 2 rfl) ?_
            refine lv_aload_n hx hb dX12_areSo_35 rfl (lv_at hl 2 rfl) ?_
            refine va_get (D := D) (ci := 12) (v := .ref (r 2)) (C := RX12) (T := TX12) (N := 48) hx hb hg inC12 hown hK hP 0 rfl rfl 2 (by decide) (hg _ wt5_162) (fun _ h9 => h9) rfl dX12_areSo_36 ?_
            refine lv_bipush (v := 75) hx hb dX12_areSo_39 (by decide) ?_
            refine lv_iconst (v := 3) hx hb dX12_areSo_41 (by decide) ?_
            refine lv_iload_n hx hb dX12_areSo_42 rfl (lv_at hl 0 rfl) ?_
            refine lv_imul hx hb dX12_areSo_43 ?_
            refine k_top (z := t70) et70.symm ?_
            refine lv_iadd hx hb dX12_areSo_44 ?_
            refine k_top (z := t72) et72.symm ?_
            refine lv_iconst (v := 1) hx hb dX12_areSo_45 (by decide) ?_
            refine lv_iadd hx hb dX12_areSo_46 ?_
            refine lv_topi (fun t100 et100 => ?_)
            have b101 : kb 76 t100 97 := kb_eq et100 (kb_add b73 kc_1 (by decide) (by decide))
            have qt100 : t100.toInt = t72.toInt + 1 := by rw [et100]; exact kt_addc b73 kc_1 (by decide) (by decide)
            refine va_iald hx hb hK hP 2 0 rfl rfl (kb_in b101 (by decide) (by decide)) dX12_areSo_47 ?_
            refine lv_topi (fun t102 et102 => ?_)
            have b103 : kb 0 t102 99 := kb_eq et102 (aI_ld hI.2.1 2 76 22 b101 (by decide) (by decide) (by decide +kernel))
            refine kI.callV (As := [.int t102]) (rest := []) ⟨hx, hb, hml, hown, hg⟩ (m_stands0 l o r f a g hI t102 b103 ) (cwV 1 hg (kgV wt6_112 wt6_114 wp3_12 wt1_14 wt6_115) rfl rfl rfl (by decide +kernel) ⟨by decide, by decide⟩) hK hP hD hS hA mIs [] rfl (wr := []) rfl rfl rfl (fun i h => by cases h) 0 12 rfl rfl rfl hl.1 rfl (Nat.le_of_ble_eq_true rfl) dX12_areSo_48 ⟨Nat.le_refl _, Nat.le_refl _⟩ (fun v105 u106 H locs hw104 hP hD hS => ?_)
            have hP : va_P D vwCl (mW K o r f a g) H := hP
            have hD : va_D A (mW K o r f a g) := hD
            refine lv_aload_n hx hb dX12_areSo_51 rfl (lv_at hl 2 rfl) ?_
            refine va_get (D := D) (ci := 12) (v := .ref (r 2)) (C := RX12) (T := TX12) (N := 48) hx hb hg inC12 hown hK hP 0 rfl rfl 2 (by decide) (hg _ wt5_162) (fun _ h9 => h9) rfl dX12_areSo_52 ?_
            refine lv_bipush (v := 75) hx hb dX12_areSo_55 (by decide) ?_
            refine lv_iconst (v := 3) hx hb dX12_areSo_57 (by decide) ?_
            refine lv_iload_n hx hb dX12_areSo_58 rfl (lv_at hl 0 rfl) ?_
            refine lv_imul hx hb dX12_areSo_59 ?_
            refine k_top (z := t70) et70.symm ?_
            refine lv_iadd hx hb dX12_areSo_60 ?_
            refine k_top (z := t72) et72.symm ?_
            refine lv_iconst (v := 2) hx hb dX12_areSo_61 (by decide) ?_
            refine lv_iadd hx hb dX12_areSo_62 ?_
            refine lv_topi (fun t107 et107 => ?_)
            have b108 : kb 77 t107 98 := kb_eq et107 (kb_add b73 kc_2 (by decide) (by decide))
            have qt107 : t107.toInt = t72.toInt + 2 := by rw [et107]; exact kt_addc b73 kc_2 (by decide) (by decide)
            refine va_iald hx hb hK hP 2 0 rfl rfl (kb_in b108 (by decide) (by decide)) dX12_areSo_63 ?_
            refine lv_topi (fun t109 et109 => ?_)
            have b110 : kb 0 t109 99 := kb_eq et109 (aI_ld hI.2.1 2 77 22 b108 (by decide) (by decide) (by decide +kernel))
            refine lv_iconst (v := 1) hx hb dX12_areSo_64 (by decide) ?_
            have jn113 : ∀ (H : Heap) (locs : List Loc) (ls : Array Slot) (z112 : Int32), (kb 0 z112 1) → va_P D vwCl (mW K o r f a g) H → va_D A (mW K o r f a g) → va_S A s.heap H locs → lv_has ls 4 [(3, .int y1), (2, .int y2), (0, .ref o), (1, .int x)] → W p l e (rmD 2 0 0) s m ([.ref o, .int x] : List Value).toArray below meth c H locs 0 0 (kQi D (tysK K) (fun v (_ : Unit) => kb 0 v 1) (fun _ => mW K o r f a g) A below ([.ref o, .int x] : List Value).toArray s 0 0) (F0 m 73 ls [.int z112, .int v105]) := by
              intro  H locs ls z112 b114 hP hD hS hl
              refine lv_icmp_ne (tgt := 80) hx hb dX12_areSo_73 (by decide) (fun c115 => ?_) (fun c115 => ?_)
              · exact jn64 _ _ _   hP hD hS (lv_sub hl [0, 1, 2, 3] rfl)
              · exact jn95 _ _ _   hP hD hS (lv_sub hl [0, 1, 2, 3] rfl)
            refine lv_icmp_ne (tgt := 72) hx hb dX12_areSo_65 (by decide) (fun c116 => ?_) (fun c116 => ?_)
            · refine lv_iconst (v := 0) hx hb dX12_areSo_72 (by decide) ?_
              exact jn113 _ _ _ 0 (kb_w kc_0 (by decide) (by decide)) hP hD hS (lv_sub hl [0, 1, 2, 3] rfl)
            · have b117 : kb 1 t109 1 := kb_eq c116 kc_1
              refine lv_iconst (v := 1) hx hb dX12_areSo_68 (by decide) ?_
              refine lv_goto (tgt := 73) hx hb dX12_areSo_69 (by decide) ?_
              exact jn113 _ _ _ 1 (kb_w kc_1 (by decide) (by decide)) hP hD hS (lv_sub hl [0, 1, 2, 3] rfl)
  exact lp3 (9)  _ _ _ 0 1 (by have h1 := (kc_0); unfold kb at h1; omega) (kb_w kc_0 (by decide) (by decide)) (kb_w kc_1 (by decide) (by decide)) hP hD hS (lv_sub hl [0, 1, 2, 3] rfl)
set_option maxHeartbeats 4000000 in
set_option maxRecDepth 100000 in
theorem m_lastSight  (l : Launch) {D : va_G} {K : Nat → ClassId} (o : Nat) (r : Nat → Nat) (f : Nat → Int32) (a : Nat → Nat → Int32) (g : Nat → Int64) (hI : mI f a)     : kI l yX12_lastSight (Cond.code yX12_lastSight cX12_lastSight 3 (some .int) :: kG) (rmD 2 0 0) D (tysK K) [.ref o] (mW K o r f a g) (fun v (_ : Unit) => kb 0 v 99) (fun _ => mW K o r f a g) 0 0 := by
  refine kI.of (cc := cX12_lastSight) (maxL := 3) (ret := (some .int)) (by decide) rfl (Nat.le_of_ble_eq_true rfl) ?_
  intro p e s m below meth c A hx hb hr hml hown hts hlocks hnm hK hP hD hS hA ls hl
  have hg : ∀ w ∈ kG, w.before _ s = true := fun w h => hts w (List.mem_cons_of_mem _ h)
  have hown : s.vm.findClass RX12 = some m.cls := hown
  have hl : lv_has ls 3 [(0, .ref o)] := hl
  refine lv_iconst (v := 0) hx hb dX12_lastSight_0 (by decide) ?_
  refine lv_istore_n (lv' := [(1, .int 0), (0, .ref o)]) hx hb dX12_lastSight_1 rfl hl (by decide) rfl (fun ls hl => ?_)
  refine lv_iconst (v := 0) hx hb dX12_lastSight_2 (by decide) ?_
  refine lv_istore_n (lv' := [(2, .int 0), (1, .int 0), (0, .ref o)]) hx hb dX12_lastSight_3 rfl hl (by decide) rfl (fun ls hl => ?_)
  have lp3 : ∀ (n4 : Nat) (H : Heap) (locs : List Loc) (ls : Array Slot) (y1 : Int32) (y2 : Int32), (8 < y1.toInt + (n4 : Int)) → (kb 0 y1 8) → (kb 0 y2 99) → va_P D vwCl (mW K o r f a g) H → va_D A (mW K o r f a g) → va_S A s.heap H locs → lv_has ls 3 [(2, .int y1), (1, .int y2), (0, .ref o)] → W p l e (rmD 2 0 0) s m ([.ref o] : List Value).toArray below meth c H locs 0 0 (kQi D (tysK K) (fun v (_ : Unit) => kb 0 v 99) (fun _ => mW K o r f a g) A below ([.ref o] : List Value).toArray s 0 0) (F0 m 4 ls []) := by
    intro n4
    induction n4 with
    | zero =>
      intro   H locs ls y1 y2 hmlp3 b5 b6 hP hD hS hl
      exact (by have h1 := b5.2; have h2 := hmlp3; omega : False).elim
    | succ n4 ihlp3 =>
      intro   H locs ls y1 y2 hmlp3 b5 b6 hP hD hS hl
      refine lv_iload_n hx hb dX12_lastSight_4 rfl (lv_at hl 0 rfl) ?_
      refine lv_aload_n hx hb dX12_lastSight_5 rfl (lv_at hl 2 rfl) ?_
      refine va_get (D := D) (ci := 12) (v := .ref (r 2)) (C := RX12) (T := TX12) (N := 48) hx hb hg inC12 hown hK hP 0 rfl rfl 2 (by decide) (hg _ wt5_162) (fun _ h9 => h9) rfl dX12_lastSight_6 ?_
      refine lv_bipush (v := 104) hx hb dX12_lastSight_9 (by decide) ?_
      refine va_iald hx hb hK hP 2 0 rfl rfl (kb_in kc_104 (by decide) (by decide)) dX12_lastSight_11 ?_
      refine lv_topi (fun t7 et7 => ?_)
      rw [cl_104] at et7
      have b8 : kb 0 t7 8 := kb_eq et7 (aI_at hI.2.1 2 104 (by decide) (by decide))
      refine lv_icmp_ge (tgt := 37) hx hb dX12_lastSight_12 (by decide) (fun c9 => ?_) (fun c9 => ?_)
      · have h10 := (kc_le c9)
        refine lv_iload_n hx hb dX12_lastSight_37 rfl (lv_at hl 1 rfl) ?_
        exact kI_ret (v := y2) hx hb hr hlocks rfl hK hS dX12_lastSight_38 () hP hD b6
      · have h11 := (kc_nle c9)
        have b12 : kb 0 y1 7 := kr_lt1 h11 b5 b8 (by decide)
        have b13 : kb 1 t7 8 := kr_lt2 h11 b5 b8 (by decide)
        refine lv_iload_n hx hb dX12_lastSight_15 rfl (lv_at hl 1 rfl) ?_
        refine lv_aload_n hx hb dX12_lastSight_16 rfl (lv_at hl 2 rfl) ?_
        refine va_get (D := D) (ci := 12) (v := .ref (r 2)) (C := RX12) (T := TX12) (N := 48) hx hb hg inC12 hown hK hP 0 rfl rfl 2 (by decide) (hg _ wt5_162) (fun _ h9 => h9) rfl dX12_lastSight_17 ?_
        refine lv_bipush (v := 75) hx hb dX12_lastSight_20 (by decide) ?_
        refine lv_iconst (v := 3) hx hb dX12_lastSight_22 (by decide) ?_
        refine lv_iload_n hx hb dX12_lastSight_23 rfl (lv_at hl 0 rfl) ?_
        refine lv_imul hx hb dX12_lastSight_24 ?_
        refine lv_topi (fun t14 et14 => ?_)
        have b15 : kb 0 t14 21 := kb_eq et14 (kb_mul kc_3 b12 (by decide) (by decide) (by decide))
        have qt14 : t14.toInt = 3 * y1.toInt := by rw [et14]; exact kt_cmul kc_3 b12 (by decide) (by decide) (by decide)
        refine lv_iadd hx hb dX12_lastSight_25 ?_
        refine lv_topi (fun t16 et16 => ?_)
        have b17 : kb 75 t16 96 := kb_eq et16 (kb_add kc_75 b15 (by decide) (by decide))
        have qt16 : t16.toInt = 75 + t14.toInt := by rw [et16]; exact kt_cadd kc_75 b15 (by decide) (by decide)
        refine va_iald hx hb hK hP 2 0 rfl rfl (kb_in b17 (by decide) (by decide)) dX12_lastSight_26 ?_
        refine lv_topi (fun t18 et18 => ?_)
        have b19 : kb 0 t18 99 := kb_eq et18 (aI_ld hI.2.1 2 75 22 b17 (by decide) (by decide) (by decide +kernel))
        refine kN.callS (As := [.int y2, .int t18]) (rest := []) ⟨hx, hb, hml, hown, hg⟩ (m_greater l y2 t18 ) (va_cwS 2 hg (kgS wt6_127 wt6_128 wt1_14 wt6_129) rfl rfl rfl (by decide +kernel) ⟨by decide, by decide⟩) hP hS rfl hl.1 rfl (Nat.le_of_ble_eq_true rfl) dX12_lastSight_27 ⟨Nat.le_refl _, Nat.le_refl _⟩ (fun v21 H locs hw20 hP hS => ?_)
        have b23 : kb 0 v21 99 := kb_max hw20.2.1 hw20.2.2.1 hw20.2.2.2 b6 b19 (by decide) (by decide) (by decide)
        refine lv_istore_n (lv' := [(1, .int v21), (2, .int y1), (0, .ref o)]) hx hb dX12_lastSight_30 rfl hl (by decide) rfl (fun ls hl => ?_)
        obtain ⟨t24, et24⟩ : ∃ z : Int32, z = y1 + Int32.ofInt 1 := ⟨_, rfl⟩
        have qt24 : t24.toInt = y1.toInt + 1 := by rw [et24]; exact km_inc b12 (by decide) (by decide)
        have b25 : kb 1 t24 8 := kb_inc (k := 1) qt24 b12
        refine lv_iinc (v := t24) (lv' := [(2, .int t24), (1, .int v21), (0, .ref o)]) hx hb dX12_lastSight_31 hl (k := 1) rfl et24.symm (by decide) rfl (fun ls hl => ?_)
        refine lv_goto (tgt := 4) hx hb dX12_lastSight_34 (by decide) ?_
        exact ihlp3  _ _ _ t24 v21 (km_up hmlp3 qt24) (kb_w b25 (by decide) (by decide)) b23 hP hD hS (lv_sub hl [0, 1, 2] rfl)
  exact lp3 (9)  _ _ _ 0 0 (by have h1 := (kc_0); unfold kb at h1; omega) (kb_w kc_0 (by decide) (by decide)) (kb_w kc_0 (by decide) (by decide)) hP hD hS (lv_sub hl [0, 1, 2] rfl)
set_option maxHeartbeats 4000000 in
set_option maxRecDepth 100000 in
theorem m_goesOn  (l : Launch) {D : va_G} {K : Nat → ClassId} (o : Nat) (r : Nat → Nat) (f : Nat → Int32) (a : Nat → Nat → Int32) (g : Nat → Int64) (hI : mI f a) (who : Int32)    : kV l yX12_goesOn (Cond.code yX12_goesOn cX12_goesOn 2 none :: kG) (rmD 52 0 0) D (tysK K) [.ref o, .int who] (mW K o r f a g) (fun (u : mS) => mI u.1 u.2.1 ∧ mE (XR [(0, 23)]) f a u.1 u.2.1 ∧ mZ [22, 23, 24, 25] [2, 26, 29, 30, 34] f a u.1 u.2.1) (fun u => mW K o r u.1 u.2.1 u.2.2) 0 0 := by
  refine kV.of (cc := cX12_goesOn) (maxL := 2) (ret := none) (by decide) rfl (Nat.le_of_ble_eq_true rfl) ?_
  intro p e s m below meth c A hx hb hr hml hown hts hlocks hnm hK hP hD hS hA ls hl
  have hE : mE (XR [(0, 23)]) f a f a := mE_rf
  have hZ : mZ [22, 23, 24, 25] [2, 26, 29, 30, 34] f a f a := mZ_rf
  have hg : ∀ w ∈ kG, w.before _ s = true := fun w h => hts w (List.mem_cons_of_mem _ h)
  have hown : s.vm.findClass RX12 = some m.cls := hown
  have hl : lv_has ls 2 [(0, .ref o), (1, .int who)] := hl
  refine lv_aload_n hx hb dX12_goesOn_0 rfl (lv_at hl 0 rfl) ?_
  refine lv_aload_n hx hb dX12_goesOn_1 rfl (lv_at hl 0 rfl) ?_
  refine kI.callV (As := []) (rest := [.ref o]) ⟨hx, hb, hml, hown, hg⟩ (m_allParts l o r f a g hI   ) (cwV 0 hg (kgV wt7_187 wt7_189 wp7_1 wt1_14 wt7_190) rfl rfl rfl (by decide +kernel) ⟨by decide, by decide⟩) hK hP hD hS hA mIs [] rfl (wr := []) rfl rfl rfl (fun i h => by cases h) 0 12 rfl rfl rfl hl.1 rfl (Nat.le_of_ble_eq_true rfl) dX12_goesOn_2 ⟨Nat.le_refl _, Nat.le_refl _⟩ (fun v2 u3 H locs hw1 hP hD hS => ?_)
  have hP : va_P D vwCl (mW K o r f a g) H := hP
  have hD : va_D A (mW K o r f a g) := hD
  refine kI.callV (As := [.int v2]) (rest := []) ⟨hx, hb, hml, hown, hg⟩ (m_areStanding l o r f a g hI v2  ) (cwV 1 hg (kgV wt7_211 wt7_213 wp7_6 wt1_14 wt7_214) rfl rfl rfl (by decide +kernel) ⟨by decide, by decide⟩) hK hP hD hS hA mIs [] rfl (wr := []) rfl rfl rfl (fun i h => by cases h) 0 12 rfl rfl rfl hl.1 rfl (Nat.le_of_ble_eq_true rfl) dX12_goesOn_5 ⟨Nat.le_refl _, Nat.le_refl _⟩ (fun v5 u6 H locs hw4 hP hD hS => ?_)
  have hP : va_P D vwCl (mW K o r f a g) H := hP
  have hD : va_D A (mW K o r f a g) := hD
  refine lv_if_eq (tgt := 12) hx hb dX12_goesOn_8 (by decide) (fun c7 => ?_) (fun c7 => ?_)
  · have b8 : kb 0 v5 0 := kb_eq c7 kc_0
    refine lv_aload_n hx hb dX12_goesOn_12 rfl (lv_at hl 0 rfl) ?_
    refine lv_iload_n hx hb dX12_goesOn_13 rfl (lv_at hl 1 rfl) ?_
    refine kV.callV (As := [.int who]) (rest := []) ⟨hx, hb, hml, hown, hg⟩ (m_sendsAll l o r f a g hI who  ) (cwV 1 hg (kgV wt7_215 wt7_217 wp7_7 wt1_14 wt7_218) rfl rfl rfl (by decide +kernel) ⟨by decide, by decide⟩) hK hP hD hS hA mIs [] rfl (wr := []) rfl rfl rfl (fun i h => by cases h) 0 12 rfl rfl rfl hl.1 rfl (Nat.le_of_ble_eq_true rfl) dX12_goesOn_14 ⟨Nat.le_refl _, Nat.le_refl _⟩ (fun u11 H locs hw9 hP hD hS => ?_)
    obtain ⟨f12, a13, g14⟩ := u11
    have hP : va_P D vwCl (mW K o r f12 a13 g14) H := hP
    have hD : va_D A (mW K o r f12 a13 g14) := hD
    have hI : mI f12 a13 := hw9.1
    have hE : mE (XR [(0, 23)]) f a f12 a13 := mE_tr hE hw9.2.1
    have eE15 : mE (XR [(0, 23)]) f a f12 a13 := hw9.2.1
    have eZ16 : mZ [22, 23, 24, 25] [2, 26, 34] f a f12 a13 := hw9.2.2
    have hZ : mZ [22, 23, 24, 25] [2, 26, 29, 30, 34] f a f12 a13 := mZ_tr hZ (mZ_w (by decide) (by decide) eZ16)
    refine lv_aload_n hx hb dX12_goesOn_17 rfl (lv_at hl 0 rfl) ?_
    refine lv_iload_n hx hb dX12_goesOn_18 rfl (lv_at hl 1 rfl) ?_
    refine kI.callV (As := [.int who]) (rest := []) ⟨hx, hb, hml, hown, hg⟩ (m_ticks l o r f12 a13 g14 hI who  ) (cwV 1 hg (kgV wt7_168 wt7_170 wp6_15 wt1_14 wt7_171) rfl rfl rfl (by decide +kernel) ⟨by decide, by decide⟩) hK hP hD hS hA mIs [] rfl (wr := []) rfl rfl rfl (fun i h => by cases h) 0 12 rfl rfl rfl hl.1 rfl (Nat.le_of_ble_eq_true rfl) dX12_goesOn_19 ⟨Nat.le_refl _, Nat.le_refl _⟩ (fun v18 u19 H locs hw17 hP hD hS => ?_)
    obtain ⟨f20, a21, g22⟩ := u19
    have hP : va_P D vwCl (mW K o r f20 a21 g22) H := hP
    have hD : va_D A (mW K o r f20 a21 g22) := hD
    have hI : mI f20 a21 := hw17.2.1
    have hE : mE (XR [(0, 23)]) f a f20 a21 := mE_tr hE hw17.2.2.1
    have eE23 : mE (XR [(0, 23)]) f12 a13 f20 a21 := hw17.2.2.1
    have eZ24 : mZ [22, 23, 24, 25] [2, 26, 29, 30] f12 a13 f20 a21 := hw17.2.2.2
    have hZ : mZ [22, 23, 24, 25] [2, 26, 29, 30, 34] f a f20 a21 := mZ_tr hZ (mZ_w (by decide) (by decide) eZ24)
    refine lv_pop hx hb dX12_goesOn_22 rfl ?_
    exact kV_ret hx hb hr hlocks hK hS dX12_goesOn_23 (f20, a21, g22) hP hD ⟨hI, hE, hZ⟩
  · have b25 : kb 1 v5 1 := kr_nel c7 hw4 kc_0 (by decide)
    exact kV_ret hx hb hr hlocks hK hS dX12_goesOn_11 (f, a, g) hP hD ⟨hI, hE, hZ⟩
set_option maxHeartbeats 4000000 in
set_option maxRecDepth 100000 in
theorem m_canBeWhose  (l : Launch) {D : va_G} {K : Nat → ClassId} (o : Nat) (r : Nat → Nat) (f : Nat → Int32) (a : Nat → Nat → Int32) (g : Nat → Int64) (hI : mI f a) (who : Int32)    : kI l yX12_canBeWhose (Cond.code yX12_canBeWhose cX12_canBeWhose 5 (some .boolean) :: kG) (rmD 53 0 0) D (tysK K) [.ref o, .int who] (mW K o r f a g) (fun v (u : mS) => kb 0 v 1 ∧ mI u.1 u.2.1 ∧ mE (XR []) f a u.1 u.2.1 ∧ mZ [22, 23, 24, 25] [2, 5, 26, 29, 30, 34] f a u.1 u.2.1) (fun u => mW K o r u.1 u.2.1 u.2.2) 0 0 := by
  refine kI.of (cc := cX12_canBeWhose) (maxL := 5) (ret := (some .boolean)) (by decide) rfl (Nat.le_of_ble_eq_true rfl) ?_
  intro p e s m below meth c A hx hb hr hml hown hts hlocks hnm hK hP hD hS hA ls hl
  have hE : mE (XR [(0, 23)]) f a f a := mE_rf
  have hZ : mZ [22, 23, 24, 25] [2, 5, 26, 29, 30, 34] f a f a := mZ_rf
  have hg : ∀ w ∈ kG, w.before _ s = true := fun w h => hts w (List.mem_cons_of_mem _ h)
  have hown : s.vm.findClass RX12 = some m.cls := hown
  have hl : lv_has ls 5 [(0, .ref o), (1, .int who)] := hl
  refine lv_aload_n hx hb dX12_canBeWhose_0 rfl (lv_at hl 0 rfl) ?_
  refine kV.callV (As := []) (rest := []) ⟨hx, hb, hml, hown, hg⟩ (m_begins l o r f a g hI   ) (cwV 0 hg (kgV wt7_203 wt7_205 wp7_4 wt1_14 wt7_206) rfl rfl rfl (by decide +kernel) ⟨by decide, by decide⟩) hK hP hD hS hA mIs [] rfl (wr := []) rfl rfl rfl (fun i h => by cases h) 0 12 rfl rfl rfl hl.1 rfl (Nat.le_of_ble_eq_true rfl) dX12_canBeWhose_1 ⟨Nat.le_refl _, Nat.le_refl _⟩ (fun u3 H locs hw1 hP hD hS => ?_)
  obtain ⟨f4, a5, g6⟩ := u3
  have hP : va_P D vwCl (mW K o r f4 a5 g6) H := hP
  have hD : va_D A (mW K o r f4 a5 g6) := hD
  have hI : mI f4 a5 := hw1.1
  have hE : mE (XR [(0, 23)]) f a f4 a5 := mE_tr hE hw1.2.1
  have eE7 : mE (XR [(0, 23)]) f a f4 a5 := hw1.2.1
  have eZ8 : mZ [] [2, 5] f a f4 a5 := hw1.2.2.2
  have hZ : mZ [22, 23, 24, 25] [2, 5, 26, 29, 30, 34] f a f4 a5 := mZ_tr hZ (mZ_w (by decide) (by decide) eZ8)
  have hk0 : ∀ i, i < 23 → a5 5 i = a 2 i := hw1.2.2.1
  refine lv_aload_n hx hb dX12_canBeWhose_4 rfl (lv_at hl 0 rfl) ?_
  refine kI.callV (As := []) (rest := []) ⟨hx, hb, hml, hown, hg⟩ (m_lastSight l o r f4 a5 g6 hI   ) (cwV 0 hg (kgV wt8_23 wt8_25 wp7_12 wt1_14 wt8_26) rfl rfl rfl (by decide +kernel) ⟨by decide, by decide⟩) hK hP hD hS hA mIs [] rfl (wr := []) rfl rfl rfl (fun i h => by cases h) 0 12 rfl rfl rfl hl.1 rfl (Nat.le_of_ble_eq_true rfl) dX12_canBeWhose_5 ⟨Nat.le_refl _, Nat.le_refl _⟩ (fun v10 u11 H locs hw9 hP hD hS => ?_)
  have hP : va_P D vwCl (mW K o r f4 a5 g6) H := hP
  have hD : va_D A (mW K o r f4 a5 g6) := hD
  refine lv_istore_n (lv' := [(2, .int v10), (0, .ref o), (1, .int who)]) hx hb dX12_canBeWhose_8 rfl hl (by decide) rfl (fun ls hl => ?_)
  refine lv_aload_n hx hb dX12_canBeWhose_9 rfl (lv_at hl 1 rfl) ?_
  refine lv_iconst (v := 0) hx hb dX12_canBeWhose_10 (by decide) ?_
  refine kI.callV (As := [.int 0]) (rest := []) ⟨hx, hb, hml, hown, hg⟩ (m_areSo l o r f4 a5 g6 hI 0  ) (cwV 1 hg (kgV wt8_27 wt8_29 wp7_13 wt1_14 wt8_30) rfl rfl rfl (by decide +kernel) ⟨by decide, by decide⟩) hK hP hD hS hA mIs [] rfl (wr := []) rfl rfl rfl (fun i h => by cases h) 0 12 rfl rfl rfl hl.1 rfl (Nat.le_of_ble_eq_true rfl) dX12_canBeWhose_11 ⟨Nat.le_refl _, Nat.le_refl _⟩ (fun v13 u14 H locs hw12 hP hD hS => ?_)
  have hP : va_P D vwCl (mW K o r f4 a5 g6) H := hP
  have hD : va_D A (mW K o r f4 a5 g6) := hD
  refine lv_istore_n (lv' := [(3, .int v13), (2, .int v10), (0, .ref o), (1, .int who)]) hx hb dX12_canBeWhose_14 rfl hl (by decide) rfl (fun ls hl => ?_)
  refine lv_iconst (v := 1) hx hb dX12_canBeWhose_15 (by decide) ?_
  refine lv_istore (lv' := [(4, .int 1), (3, .int v13), (2, .int v10), (0, .ref o), (1, .int who)]) hx hb dX12_canBeWhose_16 hl (by decide) rfl (fun ls hl => ?_)
  have lp20 : ∀ (n21 : Nat) (F17 : Nat → Int32) (B18 : Nat → Nat → Int32) (G19 : Nat → Int64) (H : Heap) (locs : List Loc) (ls : Array Slot) (y15 : Int32) (y16 : Int32), (100 < y15.toInt + (n21 : Int)) → (mI F17 B18) → (mE (XR [(0, 23)]) f a F17 B18) → (mZ [22, 23, 24, 25] [2, 5, 26, 29, 30, 34] f a F17 B18) → (∀ i, i < 23 → B18 5 i = a 2 i) → (kb 1 y15 100) → (kb 0 y16 1) → va_P D vwCl (mW K o r F17 B18 G19) H → va_D A (mW K o r F17 B18 G19) → va_S A s.heap H locs → lv_has ls 5 [(4, .int y15), (3, .int y16), (2, .int v10), (0, .ref o), (1, .int who)] → W p l e (rmD 53 0 0) s m ([.ref o, .int who] : List Value).toArray below meth c H locs 0 0 (kQi D (tysK K) (fun v (u : mS) => kb 0 v 1 ∧ mI u.1 u.2.1 ∧ mE (XR []) f a u.1 u.2.1 ∧ mZ [22, 23, 24, 25] [2, 5, 26, 29, 30, 34] f a u.1 u.2.1) (fun u => mW K o r u.1 u.2.1 u.2.2) A below ([.ref o, .int who] : List Value).toArray s 0 0) (F0 m 18 ls []) := by
    intro n21
    induction n21 with
    | zero =>
      intro  F17 B18 G19  H locs ls y15 y16 hmlp20 hI hE hZ hk0 b22 b23 hP hD hS hl
      exact (by have h1 := b22.2; have h2 := hmlp20; omega : False).elim
    | succ n21 ihlp20 =>
      intro  F17 B18 G19  H locs ls y15 y16 hmlp20 hI hE hZ hk0 b22 b23 hP hD hS hl
      refine lv_iload hx hb dX12_canBeWhose_18 (lv_at hl 0 rfl) ?_
      refine lv_iload_n hx hb dX12_canBeWhose_20 rfl (lv_at hl 2 rfl) ?_
      have jn44 : ∀ (H : Heap) (locs : List Loc) (ls : Array Slot), va_P D vwCl (mW K o r F17 B18 G19) H → va_D A (mW K o r F17 B18 G19) → va_S A s.heap H locs → lv_has ls 5 [(4, .int y15), (3, .int y16), (2, .int v10), (0, .ref o), (1, .int who)] → W p l e (rmD 53 0 0) s m ([.ref o, .int who] : List Value).toArray below meth c H locs 0 0 (kQi D (tysK K) (fun v (u : mS) => kb 0 v 1 ∧ mI u.1 u.2.1 ∧ mE (XR []) f a u.1 u.2.1 ∧ mZ [22, 23, 24, 25] [2, 5, 26, 29, 30, 34] f a u.1 u.2.1) (fun u => mW K o r u.1 u.2.1 u.2.2) A below ([.ref o, .int who] : List Value).toArray s 0 0) (F0 m 46 ls []) := by
        intro  H locs ls   hP hD hS hl
        refine lv_aload_n hx hb dX12_canBeWhose_46 rfl (lv_at hl 3 rfl) ?_
        refine lv_iconst (v := 0) hx hb dX12_canBeWhose_47 (by decide) ?_
        refine kV.callV (As := [.int 0]) (rest := []) ⟨hx, hb, hml, hown, hg⟩ (m_takesBack l o r F17 B18 G19 hI 0 (kb_w kc_0 (by decide) (by decide)) ) (cwV 1 hg (kgV wt7_223 wt7_225 wp7_9 wt1_14 wt7_226) rfl rfl rfl (by decide +kernel) ⟨by decide, by decide⟩) hK hP hD hS hA mIs [] rfl (wr := []) rfl rfl rfl (fun i h => by cases h) 0 12 rfl rfl rfl hl.1 rfl (Nat.le_of_ble_eq_true rfl) dX12_canBeWhose_48 ⟨Nat.le_refl _, Nat.le_refl _⟩ (fun u47 H locs hw45 hP hD hS => ?_)
        obtain ⟨f48, a49, g50⟩ := u47
        have hP : va_P D vwCl (mW K o r f48 a49 g50) H := hP
        have hD : va_D A (mW K o r f48 a49 g50) := hD
        have hI : mI f48 a49 := hw45.1
        have hE : mE (XR [(0, 23)]) f a f48 a49 := mE_tr hE hw45.2.1
        have eE51 : mE (XR [(0, 23)]) F17 B18 f48 a49 := hw45.2.1
        have eZ52 : mZ [] [2] F17 B18 f48 a49 := hw45.2.2.2
        have hZ : mZ [22, 23, 24, 25] [2, 5, 26, 29, 30, 34] f a f48 a49 := mZ_tr hZ (mZ_w (by decide) (by decide) eZ52)
        have hk0 : ∀ i, i < 23 → a49 5 i = a 2 i := (fun i hi => (congrFun (eZ52.2 5 rfl) i).trans (hk0 i hi))
        have htb : ∀ i, a49 2 i = a 2 i := fun i => by by_cases hi : i < 23; (exact (hw45.2.2.1 i hi).trans (by rw [show 23 * (0 : Int32).toInt.toNat + i = i from (by rw [show (0 : Int32).toInt.toNat = 0 from by decide +kernel]; omega)]; exact (congrFun (eZ52.2 5 rfl) i).symm.trans (hk0 i hi))); (exact hE.2.2.1 i (XR23 hi))
        refine lv_iload_n hx hb dX12_canBeWhose_51 rfl (lv_at hl 1 rfl) ?_
        exact kI_ret (v := y16) hx hb hr hlocks (kb_bo b23) hK hS dX12_canBeWhose_52 (f48, a49, g50) hP hD ⟨b23, hI, ⟨hE.1, hE.2.1, fun i _ => htb i, hE.2.2.2.1, hE.2.2.2.2⟩, hZ⟩
      refine lv_icmp_gt (tgt := 46) hx hb dX12_canBeWhose_21 (by decide) (fun c53 => ?_) (fun c53 => ?_)
      · have h54 := (kc_lt c53)
        exact jn44 _ _ _   hP hD hS (lv_sub hl [0, 1, 2, 3, 4] rfl)
      · have h55 := (kc_nlt c53)
        have b56 : kb 1 y15 99 := kr_le1 h55 b22 hw9
        have b57 : kb 1 v10 99 := kr_le2 h55 b22 hw9
        refine lv_iload_n hx hb dX12_canBeWhose_24 rfl (lv_at hl 1 rfl) ?_
        refine lv_if_eq (tgt := 46) hx hb dX12_canBeWhose_25 (by decide) (fun c58 => ?_) (fun c58 => ?_)
        · have b59 : kb 0 y16 0 := kb_eq c58 kc_0
          exact jn44 _ _ _   hP hD hS (lv_sub hl [0, 1, 2, 3, 4] rfl)
        · have b60 : kb 1 y16 1 := kr_nel c58 b23 kc_0 (by decide)
          refine lv_aload_n hx hb dX12_canBeWhose_28 rfl (lv_at hl 3 rfl) ?_
          refine lv_iload_n hx hb dX12_canBeWhose_29 rfl (lv_at hl 4 rfl) ?_
          refine kV.callV (As := [.int who]) (rest := []) ⟨hx, hb, hml, hown, hg⟩ (m_goesOn l o r F17 B18 G19 hI who  ) (cwV 1 hg (kgV wt8_31 wt8_33 wp7_14 wt1_14 wt8_34) rfl rfl rfl (by decide +kernel) ⟨by decide, by decide⟩) hK hP hD hS hA mIs [] rfl (wr := []) rfl rfl rfl (fun i h => by cases h) 0 12 rfl rfl rfl hl.1 rfl (Nat.le_of_ble_eq_true rfl) dX12_canBeWhose_30 ⟨Nat.le_refl _, Nat.le_refl _⟩ (fun u63 H locs hw61 hP hD hS => ?_)
          obtain ⟨f64, a65, g66⟩ := u63
          have hP : va_P D vwCl (mW K o r f64 a65 g66) H := hP
          have hD : va_D A (mW K o r f64 a65 g66) := hD
          have hI : mI f64 a65 := hw61.1
          have hE : mE (XR [(0, 23)]) f a f64 a65 := mE_tr hE hw61.2.1
          have eE67 : mE (XR [(0, 23)]) F17 B18 f64 a65 := hw61.2.1
          have eZ68 : mZ [22, 23, 24, 25] [2, 26, 29, 30, 34] F17 B18 f64 a65 := hw61.2.2
          have hZ : mZ [22, 23, 24, 25] [2, 5, 26, 29, 30, 34] f a f64 a65 := mZ_tr hZ (mZ_w (by decide) (by decide) eZ68)
          have hk0 : ∀ i, i < 23 → a65 5 i = a 2 i := (fun i hi => (congrFun (eZ68.2 5 rfl) i).trans (hk0 i hi))
          refine lv_aload_n hx hb dX12_canBeWhose_33 rfl (lv_at hl 3 rfl) ?_
          refine lv_iload hx hb dX12_canBeWhose_34 (lv_at hl 0 rfl) ?_
          refine kI.callV (As := [.int y15]) (rest := []) ⟨hx, hb, hml, hown, hg⟩ (m_areSo l o r f64 a65 g66 hI y15  ) (cwV 1 hg (kgV wt8_27 wt8_29 wp7_13 wt1_14 wt8_30) rfl rfl rfl (by decide +kernel) ⟨by decide, by decide⟩) hK hP hD hS hA mIs [] rfl (wr := []) rfl rfl rfl (fun i h => by cases h) 0 12 rfl rfl rfl hl.1 rfl (Nat.le_of_ble_eq_true rfl) dX12_canBeWhose_36 ⟨Nat.le_refl _, Nat.le_refl _⟩ (fun v70 u71 H locs hw69 hP hD hS => ?_)
          have hP : va_P D vwCl (mW K o r f64 a65 g66) H := hP
          have hD : va_D A (mW K o r f64 a65 g66) := hD
          refine lv_istore_n (lv' := [(3, .int v70), (4, .int y15), (2, .int v10), (0, .ref o), (1, .int who)]) hx hb dX12_canBeWhose_39 rfl hl (by decide) rfl (fun ls hl => ?_)
          obtain ⟨t72, et72⟩ : ∃ z : Int32, z = y15 + Int32.ofInt 1 := ⟨_, rfl⟩
          have qt72 : t72.toInt = y15.toInt + 1 := by rw [et72]; exact km_inc b56 (by decide) (by decide)
          have b73 : kb 2 t72 100 := kb_inc (k := 1) qt72 b56
          refine lv_iinc (v := t72) (lv' := [(4, .int t72), (3, .int v70), (2, .int v10), (0, .ref o), (1, .int who)]) hx hb dX12_canBeWhose_40 hl (k := 1) rfl et72.symm (by decide) rfl (fun ls hl => ?_)
          refine lv_goto (tgt := 18) hx hb dX12_canBeWhose_43 (by decide) ?_
          exact ihlp20  f64 a65 g66 _ _ _ t72 v70 (km_up hmlp20 qt72) hI hE hZ hk0 (kb_w b73 (by decide) (by decide)) hw69 hP hD hS (lv_sub hl [0, 1, 2, 3, 4] rfl)
  exact lp20 (100)  f4 a5 g6 _ _ _ 1 v13 (by have h1 := (kc_1); unfold kb at h1; omega) hI hE hZ hk0 (kb_w kc_1 (by decide) (by decide)) hw12 hP hD hS (lv_sub hl [0, 1, 2, 3, 4] rfl)
set_option maxHeartbeats 4000000 in
set_option maxRecDepth 100000 in
theorem m_whose  (l : Launch) {D : va_G} {K : Nat → ClassId} (o : Nat) (r : Nat → Nat) (f : Nat → Int32) (a : Nat → Nat → Int32) (g : Nat → Int64) (hI : mI f a) (x : Int32)    : kI l yX12_whose (Cond.code yX12_whose cX12_whose 4 (some .int) :: kG) (rmD 54 0 0) D (tysK K) [.ref o, .int x] (mW K o r f a g) (fun v (u : mS) => kb (-2147483648) v 2147483647 ∧ mI u.1 u.2.1 ∧ mE (XR []) f a u.1 u.2.1 ∧ mZ [22, 23, 24, 25] [2, 5, 26, 29, 30, 34] f a u.1 u.2.1) (fun u => mW K o r u.1 u.2.1 u.2.2) 0 0 := by
  refine kI.of (cc := cX12_whose) (maxL := 4) (ret := (some .int)) (by decide) rfl (Nat.le_of_ble_eq_true rfl) ?_
  intro p e s m below meth c A hx hb hr hml hown hts hlocks hnm hK hP hD hS hA ls hl
  have hE : mE (XR []) f a f a := mE_rf
  have hZ : mZ [22, 23, 24, 25] [2, 5, 26, 29, 30, 34] f a f a := mZ_rf
  have hg : ∀ w ∈ kG, w.before _ s = true := fun w h => hts w (List.mem_cons_of_mem _ h)
  have hown : s.vm.findClass RX12 = some m.cls := hown
  have hl : lv_has ls 4 [(0, .ref o), (1, .int x)] := hl
  refine lv_iload_n hx hb dX12_whose_0 rfl (lv_at hl 1 rfl) ?_
  refine lv_iconst (v := (-1)) hx hb dX12_whose_1 (by decide) ?_
  refine lv_icmp_ge (tgt := 7) hx hb dX12_whose_2 (by decide) (fun c1 => ?_) (fun c1 => ?_)
  · have h2 := (kc_le c1)
    have b3 : kb (-1) x 2147483647 := kr_le2 h2 kc_m1 (kb_any x)
    refine lv_iconst (v := 0) hx hb dX12_whose_7 (by decide) ?_
    refine lv_istore_n (lv' := [(2, .int 0), (0, .ref o), (1, .int x)]) hx hb dX12_whose_8 rfl hl (by decide) rfl (fun ls hl => ?_)
    refine lv_iconst (v := 0) hx hb dX12_whose_9 (by decide) ?_
    refine lv_istore_n (lv' := [(3, .int 0), (2, .int 0), (0, .ref o), (1, .int x)]) hx hb dX12_whose_10 rfl hl (by decide) rfl (fun ls hl => ?_)
    have lp9 : ∀ (n10 : Nat) (F6 : Nat → Int32) (B7 : Nat → Nat → Int32) (G8 : Nat → Int64) (H : Heap) (locs : List Loc) (ls : Array Slot) (y4 : Int32) (y5 : Int32), (64 < y4.toInt + (n10 : Int)) → (mI F6 B7) → (mE (XR []) f a F6 B7) → (mZ [22, 23, 24, 25] [2, 5, 26, 29, 30, 34] f a F6 B7) → (kb 0 y4 64) → va_P D vwCl (mW K o r F6 B7 G8) H → va_D A (mW K o r F6 B7 G8) → va_S A s.heap H locs → lv_has ls 4 [(3, .int y4), (2, .int y5), (0, .ref o), (1, .int x)] → W p l e (rmD 54 0 0) s m ([.ref o, .int x] : List Value).toArray below meth c H locs 0 0 (kQi D (tysK K) (fun v (u : mS) => kb (-2147483648) v 2147483647 ∧ mI u.1 u.2.1 ∧ mE (XR []) f a u.1 u.2.1 ∧ mZ [22, 23, 24, 25] [2, 5, 26, 29, 30, 34] f a u.1 u.2.1) (fun u => mW K o r u.1 u.2.1 u.2.2) A below ([.ref o, .int x] : List Value).toArray s 0 0) (F0 m 11 ls []) := by
      intro n10
      induction n10 with
      | zero =>
        intro  F6 B7 G8  H locs ls y4 y5 hmlp9 hI hE hZ b11 hP hD hS hl
        exact (by have h1 := b11.2; have h2 := hmlp9; omega : False).elim
      | succ n10 ihlp9 =>
        intro  F6 B7 G8  H locs ls y4 y5 hmlp9 hI hE hZ b11 hP hD hS hl
        refine lv_iload_n hx hb dX12_whose_11 rfl (lv_at hl 0 rfl) ?_
        refine lv_aload_n hx hb dX12_whose_12 rfl (lv_at hl 2 rfl) ?_
        refine kI.callV (As := []) (rest := [.int y4]) ⟨hx, hb, hml, hown, hg⟩ (m_allBuilders l o r F6 B7 G8 hI   ) (cwV 0 hg (kgV wt7_164 wt7_166 wp6_14 wt1_14 wt7_167) rfl rfl rfl (by decide +kernel) ⟨by decide, by decide⟩) hK hP hD hS hA mIs [] rfl (wr := []) rfl rfl rfl (fun i h => by cases h) 0 12 rfl rfl rfl hl.1 rfl (Nat.le_of_ble_eq_true rfl) dX12_whose_13 ⟨Nat.le_refl _, Nat.le_refl _⟩ (fun v13 u14 H locs hw12 hP hD hS => ?_)
        have hP : va_P D vwCl (mW K o r F6 B7 G8) H := hP
        have hD : va_D A (mW K o r F6 B7 G8) := hD
        refine lv_icmp_gt (tgt := 46) hx hb dX12_whose_16 (by decide) (fun c15 => ?_) (fun c15 => ?_)
        · have h16 := (kc_lt c15)
          have b17 : kb 1 y4 64 := kr_lt2 h16 hw12 b11 (by decide)
          refine lv_iload_n hx hb dX12_whose_46 rfl (lv_at hl 3 rfl) ?_
          refine lv_iconst (v := (-1)) hx hb dX12_whose_47 (by decide) ?_
          refine lv_icmp_ne (tgt := 55) hx hb dX12_whose_48 (by decide) (fun c18 => ?_) (fun c18 => ?_)
          · have b19 : kb 0 x 2147483647 := kr_nel c18 b3 kc_m1 (by decide)
            refine lv_iconst (v := (-1)) hx hb dX12_whose_55 (by decide) ?_
            exact kI_ret (v := (-1)) hx hb hr hlocks rfl hK hS dX12_whose_56 (F6, B7, G8) hP hD ⟨(kb_w kc_m1 (by decide) (by decide)), hI, hE, hZ⟩
          · have b20 : kb (-1) x (-1) := kb_eq c18 kc_m1
            refine lv_iload_n hx hb dX12_whose_51 rfl (lv_at hl 1 rfl) ?_
            refine lv_goto (tgt := 56) hx hb dX12_whose_52 (by decide) ?_
            exact kI_ret (v := y5) hx hb hr hlocks rfl hK hS dX12_whose_56 (F6, B7, G8) hP hD ⟨(kb_any y5), hI, hE, hZ⟩
        · have h21 := (kc_nlt c15)
          have b22 : kb 0 y4 63 := kr_le1 h21 b11 hw12
          refine lv_aload_n hx hb dX12_whose_19 rfl (lv_at hl 2 rfl) ?_
          refine lv_iload_n hx hb dX12_whose_20 rfl (lv_at hl 0 rfl) ?_
          refine kI.callV (As := [.int y4]) (rest := []) ⟨hx, hb, hml, hown, hg⟩ (m_canBeWhose l o r F6 B7 G8 hI y4  ) (cwV 1 hg (kgV wt8_19 wt8_21 wp7_11 wt1_14 wt8_22) rfl rfl rfl (by decide +kernel) ⟨by decide, by decide⟩) hK hP hD hS hA mIs [] rfl (wr := []) rfl rfl rfl (fun i h => by cases h) 0 12 rfl rfl rfl hl.1 rfl (Nat.le_of_ble_eq_true rfl) dX12_whose_21 ⟨Nat.le_refl _, Nat.le_refl _⟩ (fun v24 u25 H locs hw23 hP hD hS => ?_)
          obtain ⟨f26, a27, g28⟩ := u25
          have hP : va_P D vwCl (mW K o r f26 a27 g28) H := hP
          have hD : va_D A (mW K o r f26 a27 g28) := hD
          have hI : mI f26 a27 := hw23.2.1
          have hE : mE (XR []) f a f26 a27 := mE_tr hE hw23.2.2.1
          have eE29 : mE (XR []) F6 B7 f26 a27 := hw23.2.2.1
          have eZ30 : mZ [22, 23, 24, 25] [2, 5, 26, 29, 30, 34] F6 B7 f26 a27 := hw23.2.2.2
          have hZ : mZ [22, 23, 24, 25] [2, 5, 26, 29, 30, 34] f a f26 a27 := mZ_tr hZ (mZ_w (by decide) (by decide) eZ30)
          have jn37 : ∀ (H : Heap) (locs : List Loc) (ls : Array Slot) (y36 : Int32), va_P D vwCl (mW K o r f26 a27 g28) H → va_D A (mW K o r f26 a27 g28) → va_S A s.heap H locs → lv_has ls 4 [(3, .int y4), (2, .int y36), (0, .ref o), (1, .int x)] → W p l e (rmD 54 0 0) s m ([.ref o, .int x] : List Value).toArray below meth c H locs 0 0 (kQi D (tysK K) (fun v (u : mS) => kb (-2147483648) v 2147483647 ∧ mI u.1 u.2.1 ∧ mE (XR []) f a u.1 u.2.1 ∧ mZ [22, 23, 24, 25] [2, 5, 26, 29, 30, 34] f a u.1 u.2.1) (fun u => mW K o r u.1 u.2.1 u.2.2) A below ([.ref o, .int x] : List Value).toArray s 0 0) (F0 m 40 ls []) := by
            intro  H locs ls y36  hP hD hS hl
            obtain ⟨t38, et38⟩ : ∃ z : Int32, z = y4 + Int32.ofInt 1 := ⟨_, rfl⟩
            have qt38 : t38.toInt = y4.toInt + 1 := by rw [et38]; exact km_inc b22 (by decide) (by decide)
            have b39 : kb 1 t38 64 := kb_inc (k := 1) qt38 b22
            refine lv_iinc (v := t38) (lv' := [(3, .int t38), (2, .int y36), (0, .ref o), (1, .int x)]) hx hb dX12_whose_40 hl (k := 0) rfl et38.symm (by decide) rfl (fun ls hl => ?_)
            refine lv_goto (tgt := 11) hx hb dX12_whose_43 (by decide) ?_
            exact ihlp9  f26 a27 g28 _ _ _ t38 y36 (km_up hmlp9 qt38) hI hE hZ (kb_w b39 (by decide) (by decide)) hP hD hS (lv_sub hl [0, 1, 2, 3] rfl)
          refine lv_if_ne (tgt := 30) hx hb dX12_whose_24 (by decide) (fun c40 => ?_) (fun c40 => ?_)
          · have b41 : kb 1 v24 1 := kr_nel c40 hw23.1 kc_0 (by decide)
            refine lv_iload_n hx hb dX12_whose_30 rfl (lv_at hl 1 rfl) ?_
            refine lv_iload_n hx hb dX12_whose_31 rfl (lv_at hl 3 rfl) ?_
            refine lv_icmp_ne (tgt := 37) hx hb dX12_whose_32 (by decide) (fun c42 => ?_) (fun c42 => ?_)
            · obtain ⟨t43, et43⟩ : ∃ z : Int32, z = y5 + Int32.ofInt 1 := ⟨_, rfl⟩
              refine lv_iinc (v := t43) (lv' := [(2, .int t43), (3, .int y4), (0, .ref o), (1, .int x)]) hx hb dX12_whose_37 hl (k := 1) rfl et43.symm (by decide) rfl (fun ls hl => ?_)
              exact jn37 _ _ _ t43  hP hD hS (lv_sub hl [1, 0, 2, 3] rfl)
            · have b44 : kb (-1) y5 2147483647 := kb_eq c42 b3
              refine lv_iload_n hx hb dX12_whose_35 rfl (lv_at hl 0 rfl) ?_
              exact kI_ret (v := y4) hx hb hr hlocks rfl hK hS dX12_whose_36 (f26, a27, g28) hP hD ⟨(kb_w b22 (by decide) (by decide)), hI, hE, hZ⟩
          · have b45 : kb 0 v24 0 := kb_eq c40 kc_0
            refine lv_goto (tgt := 40) hx hb dX12_whose_27 (by decide) ?_
            exact jn37 _ _ _ y5  hP hD hS (lv_sub hl [0, 1, 2, 3] rfl)
    exact lp9 (65)  f a g _ _ _ 0 0 (by have h1 := (kc_0); unfold kb at h1; omega) hI hE hZ (kb_w kc_0 (by decide) (by decide)) hP hD hS (lv_sub hl [0, 1, 2, 3] rfl)
  · have h46 := (kc_nle c1)
    have b47 : kb (-2147483648) x (-2) := kr_lt1 h46 (kb_any x) kc_m1 (by decide)
    refine lv_iconst (v := (-1)) hx hb dX12_whose_5 (by decide) ?_
    exact kI_ret (v := (-1)) hx hb hr hlocks rfl hK hS dX12_whose_6 (f, a, g) hP hD ⟨(kb_w kc_m1 (by decide) (by decide)), hI, hE, hZ⟩
set_option maxHeartbeats 4000000 in
set_option maxRecDepth 100000 in
theorem m_shows  (l : Launch) {D : va_G} {K : Nat → ClassId} (o : Nat) (r : Nat → Nat) (f : Nat → Int32) (a : Nat → Nat → Int32) (g : Nat → Int64) (hI : mI f a) (who : Int32)    : kV l yX12_shows (Cond.code yX12_shows cX12_shows 3 none :: kG) (rmD 53 0 0) D (tysK K) [.ref o, .int who] (mW K o r f a g) (fun (u : mS) => mI u.1 u.2.1 ∧ mE (XR []) f a u.1 u.2.1 ∧ mZ [22, 23, 24, 25] [2, 5, 26, 29, 30, 34, 36] f a u.1 u.2.1) (fun u => mW K o r u.1 u.2.1 u.2.2) 0 0 := by
  refine kV.of (cc := cX12_shows) (maxL := 3) (ret := none) (by decide) rfl (Nat.le_of_ble_eq_true rfl) ?_
  intro p e s m below meth c A hx hb hr hml hown hts hlocks hnm hK hP hD hS hA ls hl
  have hE : mE (XR [(0, 23)]) f a f a := mE_rf
  have hZ : mZ [22, 23, 24, 25] [2, 5, 26, 29, 30, 34, 36] f a f a := mZ_rf
  have hg : ∀ w ∈ kG, w.before _ s = true := fun w h => hts w (List.mem_cons_of_mem _ h)
  have hown : s.vm.findClass RX12 = some m.cls := hown
  have hl : lv_has ls 3 [(0, .ref o), (1, .int who)] := hl
  refine lv_aload_n hx hb dX12_shows_0 rfl (lv_at hl 0 rfl) ?_
  refine kV.callV (As := []) (rest := []) ⟨hx, hb, hml, hown, hg⟩ (m_begins l o r f a g hI   ) (cwV 0 hg (kgV wt7_203 wt7_205 wp7_4 wt1_14 wt7_206) rfl rfl rfl (by decide +kernel) ⟨by decide, by decide⟩) hK hP hD hS hA mIs [] rfl (wr := []) rfl rfl rfl (fun i h => by cases h) 0 12 rfl rfl rfl hl.1 rfl (Nat.le_of_ble_eq_true rfl) dX12_shows_1 ⟨Nat.le_refl _, Nat.le_refl _⟩ (fun u3 H locs hw1 hP hD hS => ?_)
  obtain ⟨f4, a5, g6⟩ := u3
  have hP : va_P D vwCl (mW K o r f4 a5 g6) H := hP
  have hD : va_D A (mW K o r f4 a5 g6) := hD
  have hI : mI f4 a5 := hw1.1
  have hE : mE (XR [(0, 23)]) f a f4 a5 := mE_tr hE hw1.2.1
  have eE7 : mE (XR [(0, 23)]) f a f4 a5 := hw1.2.1
  have eZ8 : mZ [] [2, 5] f a f4 a5 := hw1.2.2.2
  have hZ : mZ [22, 23, 24, 25] [2, 5, 26, 29, 30, 34, 36] f a f4 a5 := mZ_tr hZ (mZ_w (by decide) (by decide) eZ8)
  have hk0 : ∀ i, i < 23 → a5 5 i = a 2 i := hw1.2.2.1
  refine lv_iconst (v := 0) hx hb dX12_shows_4 (by decide) ?_
  refine lv_istore_n (lv' := [(2, .int 0), (0, .ref o), (1, .int who)]) hx hb dX12_shows_5 rfl hl (by decide) rfl (fun ls hl => ?_)
  have lp13 : ∀ (n14 : Nat) (F10 : Nat → Int32) (B11 : Nat → Nat → Int32) (G12 : Nat → Int64) (H : Heap) (locs : List Loc) (ls : Array Slot) (y9 : Int32), (41 < y9.toInt + (n14 : Int)) → (mI F10 B11) → (mE (XR [(0, 23)]) f a F10 B11) → (mZ [22, 23, 24, 25] [2, 5, 26, 29, 30, 34, 36] f a F10 B11) → (∀ i, i < 23 → B11 5 i = a 2 i) → (kb 0 y9 41) → va_P D vwCl (mW K o r F10 B11 G12) H → va_D A (mW K o r F10 B11 G12) → va_S A s.heap H locs → lv_has ls 3 [(2, .int y9), (0, .ref o), (1, .int who)] → W p l e (rmD 53 0 0) s m ([.ref o, .int who] : List Value).toArray below meth c H locs 0 0 (kQv D (tysK K) (fun (u : mS) => mI u.1 u.2.1 ∧ mE (XR []) f a u.1 u.2.1 ∧ mZ [22, 23, 24, 25] [2, 5, 26, 29, 30, 34, 36] f a u.1 u.2.1) (fun u => mW K o r u.1 u.2.1 u.2.2) A below ([.ref o, .int who] : List Value).toArray s 0 0) (F0 m 6 ls []) := by
    intro n14
    induction n14 with
    | zero =>
      intro  F10 B11 G12  H locs ls y9 hmlp13 hI hE hZ hk0 b15 hP hD hS hl
      exact (by have h1 := b15.2; have h2 := hmlp13; omega : False).elim
    | succ n14 ihlp13 =>
      intro  F10 B11 G12  H locs ls y9 hmlp13 hI hE hZ hk0 b15 hP hD hS hl
      refine lv_iload_n hx hb dX12_shows_6 rfl (lv_at hl 0 rfl) ?_
      refine lv_bipush (v := 40) hx hb dX12_shows_7 (by decide) ?_
      refine lv_icmp_gt (tgt := 44) hx hb dX12_shows_9 (by decide) (fun c16 => ?_) (fun c16 => ?_)
      · have h17 := (kc_lt c16)
        have b18 : kb 41 y9 41 := kr_lt2 h17 kc_40 b15 (by decide)
        refine lv_aload_n hx hb dX12_shows_44 rfl (lv_at hl 1 rfl) ?_
        refine lv_iconst (v := 0) hx hb dX12_shows_45 (by decide) ?_
        refine kV.callV (As := [.int 0]) (rest := []) ⟨hx, hb, hml, hown, hg⟩ (m_takesBack l o r F10 B11 G12 hI 0 (kb_w kc_0 (by decide) (by decide)) ) (cwV 1 hg (kgV wt7_223 wt7_225 wp7_9 wt1_14 wt7_226) rfl rfl rfl (by decide +kernel) ⟨by decide, by decide⟩) hK hP hD hS hA mIs [] rfl (wr := []) rfl rfl rfl (fun i h => by cases h) 0 12 rfl rfl rfl hl.1 rfl (Nat.le_of_ble_eq_true rfl) dX12_shows_46 ⟨Nat.le_refl _, Nat.le_refl _⟩ (fun u21 H locs hw19 hP hD hS => ?_)
        obtain ⟨f22, a23, g24⟩ := u21
        have hP : va_P D vwCl (mW K o r f22 a23 g24) H := hP
        have hD : va_D A (mW K o r f22 a23 g24) := hD
        have hI : mI f22 a23 := hw19.1
        have hE : mE (XR [(0, 23)]) f a f22 a23 := mE_tr hE hw19.2.1
        have eE25 : mE (XR [(0, 23)]) F10 B11 f22 a23 := hw19.2.1
        have eZ26 : mZ [] [2] F10 B11 f22 a23 := hw19.2.2.2
        have hZ : mZ [22, 23, 24, 25] [2, 5, 26, 29, 30, 34, 36] f a f22 a23 := mZ_tr hZ (mZ_w (by decide) (by decide) eZ26)
        have hk0 : ∀ i, i < 23 → a23 5 i = a 2 i := (fun i hi => (congrFun (eZ26.2 5 rfl) i).trans (hk0 i hi))
        have htb : ∀ i, a23 2 i = a 2 i := fun i => by by_cases hi : i < 23; (exact (hw19.2.2.1 i hi).trans (by rw [show 23 * (0 : Int32).toInt.toNat + i = i from (by rw [show (0 : Int32).toInt.toNat = 0 from by decide +kernel]; omega)]; exact (congrFun (eZ26.2 5 rfl) i).symm.trans (hk0 i hi))); (exact hE.2.2.1 i (XR23 hi))
        exact kV_ret hx hb hr hlocks hK hS dX12_shows_49 (f22, a23, g24) hP hD ⟨hI, ⟨hE.1, hE.2.1, fun i _ => htb i, hE.2.2.2.1, hE.2.2.2.2⟩, hZ⟩
      · have h27 := (kc_nlt c16)
        have b28 : kb 0 y9 40 := kr_le1 h27 b15 kc_40
        refine lv_aload_n hx hb dX12_shows_12 rfl (lv_at hl 1 rfl) ?_
        refine va_get (D := D) (ci := 12) (v := .ref (r 36)) (C := RX12) (T := TX12) (N := 48) hx hb hg inC12 hown hK hP 0 rfl rfl 36 (by decide) (hg _ wt5_196) (fun _ h9 => h9) rfl dX12_shows_13 ?_
        refine lv_bipush (v := 11) hx hb dX12_shows_16 (by decide) ?_
        refine lv_iload_n hx hb dX12_shows_18 rfl (lv_at hl 0 rfl) ?_
        refine lv_imul hx hb dX12_shows_19 ?_
        refine lv_topi (fun t29 et29 => ?_)
        have b30 : kb 0 t29 440 := kb_eq et29 (kb_mul kc_11 b28 (by decide) (by decide) (by decide))
        have qt29 : t29.toInt = 11 * y9.toInt := by rw [et29]; exact kt_cmul kc_11 b28 (by decide) (by decide) (by decide)
        refine lv_aload_n hx hb dX12_shows_20 rfl (lv_at hl 1 rfl) ?_
        refine kI.callV (As := []) (rest := [.int t29, .ref (r 36)]) ⟨hx, hb, hml, hown, hg⟩ (m_standing l o r F10 B11 G12 hI   ) (cwV 0 hg (kgV wt6_116 wt6_118 wp3_13 wt1_14 wt6_119) rfl rfl rfl (by decide +kernel) ⟨by decide, by decide⟩) hK hP hD hS hA mIs [] rfl (wr := []) rfl rfl rfl (fun i h => by cases h) 0 12 rfl rfl rfl hl.1 rfl (Nat.le_of_ble_eq_true rfl) dX12_shows_21 ⟨Nat.le_refl _, Nat.le_refl _⟩ (fun v32 u33 H locs hw31 hP hD hS => ?_)
        have hP : va_P D vwCl (mW K o r F10 B11 G12) H := hP
        have hD : va_D A (mW K o r F10 B11 G12) := hD
        refine kN.callS (As := [.int v32]) (rest := [.int t29, .ref (r 36)]) ⟨hx, hb, hml, hown, hg⟩ (m_ones l v32 ) (va_cwS 1 hg (kgS wt7_71 wt7_72 wt1_14 wt7_73) rfl rfl rfl (by decide +kernel) ⟨by decide, by decide⟩) hP hS rfl hl.1 rfl (Nat.le_of_ble_eq_true rfl) dX12_shows_24 ⟨Nat.le_refl _, Nat.le_refl _⟩ (fun v35 H locs hw34 hP hS => ?_)
        refine lv_iadd hx hb dX12_shows_27 ?_
        refine lv_topi (fun t37 et37 => ?_)
        have b38 : kb 0 t37 450 := kb_eq et37 (kb_add b30 hw34 (by decide) (by decide))
        have qt37 : t37.toInt = t29.toInt + v35.toInt := by rw [et37]; exact kt_add b30 hw34 (by decide) (by decide)
        refine lv_dup2_11 hx hb dX12_shows_28 rfl rfl ?_
        refine va_iald hx hb hK hP 19 0 rfl rfl (kb_in b38 (by decide) (by decide)) dX12_shows_29 ?_
        refine lv_topi (fun t39 et39 => ?_)
        refine lv_iconst (v := 1) hx hb dX12_shows_30 (by decide) ?_
        refine lv_iadd hx hb dX12_shows_31 ?_
        refine lv_topi (fun t40 et40 => ?_)
        refine va_iast hx hb hK hP hD hS 19 0 rfl rfl (kb_in b38 (by decide) (by decide)) dX12_shows_32 (fun H locs hP hD hS => ?_)
        have hP : va_P D vwCl (mW K o r F10 (va_up B11 36 (upd (B11 36) t37.toNatClampNeg t40)) G12) H := hP
        have hD : va_D A (mW K o r F10 (va_up B11 36 (upd (B11 36) t37.toNatClampNeg t40)) G12) := hD
        refine k_gen (P := fun z => va_P D vwCl (mW K o r F10 z G12) H ∧ va_D A (mW K o r F10 z G12) ∧ (mI F10 z) ∧ (mE (XR [(0, 23)]) f a F10 z) ∧ (mZ [22, 23, 24, 25] [2, 5, 26, 29, 30, 34, 36] f a F10 z) ∧ (∀ i, i < 23 → z 5 i = a 2 i)) (va_up B11 36 (upd (B11 36) t37.toNatClampNeg t40)) ⟨hP, hD, (mI_s hI (aI_free hI.2.1 36 _ (fun j => ⟨by show (mBa 36 j).1 ≤ _; exact Int.le_refl _, by show _ ≤ (mBa 36 j).2; exact Int.le_refl _⟩)) (by decide) (by decide)), (mE_s hE (by decide) (by decide) (by decide) (by decide)), (mZ_a hZ rfl), hk0⟩ (fun a_41 ea_41 hq => ?_)
        obtain ⟨hP, hD, hI, hE, hZ, hk0⟩ := hq
        refine lv_aload_n hx hb dX12_shows_33 rfl (lv_at hl 1 rfl) ?_
        refine lv_iload_n hx hb dX12_shows_34 rfl (lv_at hl 2 rfl) ?_
        refine kV.callV (As := [.int who]) (rest := []) ⟨hx, hb, hml, hown, hg⟩ (m_goesOn l o r F10 a_41 G12 hI who  ) (cwV 1 hg (kgV wt8_31 wt8_33 wp7_14 wt1_14 wt8_34) rfl rfl rfl (by decide +kernel) ⟨by decide, by decide⟩) hK hP hD hS hA mIs [] rfl (wr := []) rfl rfl rfl (fun i h => by cases h) 0 12 rfl rfl rfl hl.1 rfl (Nat.le_of_ble_eq_true rfl) dX12_shows_35 ⟨Nat.le_refl _, Nat.le_refl _⟩ (fun u44 H locs hw42 hP hD hS => ?_)
        obtain ⟨f45, a46, g47⟩ := u44
        have hP : va_P D vwCl (mW K o r f45 a46 g47) H := hP
        have hD : va_D A (mW K o r f45 a46 g47) := hD
        have hI : mI f45 a46 := hw42.1
        have hE : mE (XR [(0, 23)]) f a f45 a46 := mE_tr hE hw42.2.1
        have eE48 : mE (XR [(0, 23)]) F10 a_41 f45 a46 := hw42.2.1
        have eZ49 : mZ [22, 23, 24, 25] [2, 26, 29, 30, 34] F10 a_41 f45 a46 := hw42.2.2
        have hZ : mZ [22, 23, 24, 25] [2, 5, 26, 29, 30, 34, 36] f a f45 a46 := mZ_tr hZ (mZ_w (by decide) (by decide) eZ49)
        have hk0 : ∀ i, i < 23 → a46 5 i = a 2 i := (fun i hi => (congrFun (eZ49.2 5 rfl) i).trans (hk0 i hi))
        obtain ⟨t50, et50⟩ : ∃ z : Int32, z = y9 + Int32.ofInt 1 := ⟨_, rfl⟩
        have qt50 : t50.toInt = y9.toInt + 1 := by rw [et50]; exact km_inc b28 (by decide) (by decide)
        have b51 : kb 1 t50 41 := kb_inc (k := 1) qt50 b28
        refine lv_iinc (v := t50) (lv' := [(2, .int t50), (0, .ref o), (1, .int who)]) hx hb dX12_shows_38 hl (k := 0) rfl et50.symm (by decide) rfl (fun ls hl => ?_)
        refine lv_goto (tgt := 6) hx hb dX12_shows_41 (by decide) ?_
        exact ihlp13  f45 a46 g47 _ _ _ t50 (km_up hmlp13 qt50) hI hE hZ hk0 (kb_w b51 (by decide) (by decide)) hP hD hS (lv_sub hl [0, 1, 2] rfl)
  exact lp13 (42)  f4 a5 g6 _ _ _ 0 (by have h1 := (kc_0); unfold kb at h1; omega) hI hE hZ hk0 (kb_w kc_0 (by decide) (by decide)) hP hD hS (lv_sub hl [0, 1, 2] rfl)
set_option maxHeartbeats 4000000 in
set_option maxRecDepth 100000 in
theorem m_look  (l : Launch) {D : va_G} {K : Nat → ClassId} (o : Nat) (r : Nat → Nat) (f : Nat → Int32) (a : Nat → Nat → Int32) (g : Nat → Int64) (hI : mI f a) (x : Int32)    : kI l yX12_look (Cond.code yX12_look cX12_look 8 (some .int) :: kG) (rmD 54 0 0) D (tysK K) [.ref o, .int x] (mW K o r f a g) (fun v (u : mS) => kb (-2147483648) v 2147483647 ∧ mI u.1 u.2.1 ∧ mE (XR []) f a u.1 u.2.1 ∧ mZ [22, 23, 24, 25] [2, 5, 26, 29, 30, 34, 36] f a u.1 u.2.1) (fun u => mW K o r u.1 u.2.1 u.2.2) 0 0 := by
  refine kI.of (cc := cX12_look) (maxL := 8) (ret := (some .int)) (by decide) rfl (Nat.le_of_ble_eq_true rfl) ?_
  intro p e s m below meth c A hx hb hr hml hown hts hlocks hnm hK hP hD hS hA ls hl
  have hE : mE (XR []) f a f a := mE_rf
  have hZ : mZ [22, 23, 24, 25] [2, 5, 26, 29, 30, 34, 36] f a f a := mZ_rf
  have hg : ∀ w ∈ kG, w.before _ s = true := fun w h => hts w (List.mem_cons_of_mem _ h)
  have hown : s.vm.findClass RX12 = some m.cls := hown
  have hl : lv_has ls 8 [(0, .ref o), (1, .int x)] := hl
  refine lv_iload_n hx hb dX12_look_0 rfl (lv_at hl 1 rfl) ?_
  refine lv_iconst (v := 0) hx hb dX12_look_1 (by decide) ?_
  refine lv_iconst (v := 1) hx hb dX12_look_2 (by decide) ?_
  refine kN.callS (As := [.int x, .int 0, .int 1]) (rest := []) ⟨hx, hb, hml, hown, hg⟩ (m_lies l x 0 1 ) (va_cwS 3 hg (kgS wt6_69 wt6_70 wt1_14 wt6_71) rfl rfl rfl (by decide +kernel) ⟨by decide, by decide⟩) hP hS rfl hl.1 rfl (Nat.le_of_ble_eq_true rfl) dX12_look_3 ⟨Nat.le_refl _, Nat.le_refl _⟩ (fun v2 H locs hw1 hP hS => ?_)
  refine lv_if_ne (tgt := 11) hx hb dX12_look_6 (by decide) (fun c4 => ?_) (fun c4 => ?_)
  · have b5 : kb 1 v2 1 := kr_nel c4 hw1.1 kc_0 (by decide)
    have h6 := mLies_ne (hw1.2 ▸ c4)
    have b7 : kb 0 x 2147483647 := kr_le2 h6.1 kc_0 (kb_any x)
    have b8 : kb 0 x 1 := kr_le1 h6.2 b7 kc_1
    refine lv_iconst (v := 0) hx hb dX12_look_11 (by decide) ?_
    refine lv_istore_n (lv' := [(2, .int 0), (0, .ref o), (1, .int x)]) hx hb dX12_look_12 rfl hl (by decide) rfl (fun ls hl => ?_)
    refine lv_iconst (v := 0) hx hb dX12_look_13 (by decide) ?_
    refine lv_istore_n (lv' := [(3, .int 0), (2, .int 0), (0, .ref o), (1, .int x)]) hx hb dX12_look_14 rfl hl (by decide) rfl (fun ls hl => ?_)
    have lp11 : ∀ (n12 : Nat) (B10 : Nat → Nat → Int32) (H : Heap) (locs : List Loc) (ls : Array Slot) (y9 : Int32), (451 < y9.toInt + (n12 : Int)) → (mI f B10) → (mE (XR []) f a f B10) → (mZ [22, 23, 24, 25] [2, 5, 26, 29, 30, 34, 36] f a f B10) → (kb 0 y9 451) → va_P D vwCl (mW K o r f B10 g) H → va_D A (mW K o r f B10 g) → va_S A s.heap H locs → lv_has ls 8 [(3, .int y9), (2, .int 0), (0, .ref o), (1, .int x)] → W p l e (rmD 54 0 0) s m ([.ref o, .int x] : List Value).toArray below meth c H locs 0 0 (kQi D (tysK K) (fun v (u : mS) => kb (-2147483648) v 2147483647 ∧ mI u.1 u.2.1 ∧ mE (XR []) f a u.1 u.2.1 ∧ mZ [22, 23, 24, 25] [2, 5, 26, 29, 30, 34, 36] f a u.1 u.2.1) (fun u => mW K o r u.1 u.2.1 u.2.2) A below ([.ref o, .int x] : List Value).toArray s 0 0) (F0 m 15 ls []) := by
      intro n12
      induction n12 with
      | zero =>
        intro  B10  H locs ls y9 hmlp11 hI hE hZ b13 hP hD hS hl
        exact (by have h1 := b13.2; have h2 := hmlp11; omega : False).elim
      | succ n12 ihlp11 =>
        intro  B10  H locs ls y9 hmlp11 hI hE hZ b13 hP hD hS hl
        refine lv_iload_n hx hb dX12_look_15 rfl (lv_at hl 0 rfl) ?_
        refine lv_sipush (v := 451) hx hb dX12_look_16 (by decide) ?_
        refine lv_icmp_ge (tgt := 35) hx hb dX12_look_19 (by decide) (fun c14 => ?_) (fun c14 => ?_)
        · have h15 := (kc_le c14)
          have b16 : kb 451 y9 451 := kr_le2 h15 kc_451 b13
          refine lv_iconst (v := 0) hx hb dX12_look_35 (by decide) ?_
          refine lv_istore_n (lv' := [(3, .int 0), (2, .int 0), (0, .ref o), (1, .int x)]) hx hb dX12_look_36 rfl hl (by decide) rfl (fun ls hl => ?_)
          have lp22 : ∀ (n23 : Nat) (F19 : Nat → Int32) (B20 : Nat → Nat → Int32) (G21 : Nat → Int64) (H : Heap) (locs : List Loc) (ls : Array Slot) (y17 : Int32) (y18 : Int32), (64 < y17.toInt + (n23 : Int)) → (mI F19 B20) → (mE (XR []) f a F19 B20) → (mZ [22, 23, 24, 25] [2, 5, 26, 29, 30, 34, 36] f a F19 B20) → (kb 0 y17 64) → va_P D vwCl (mW K o r F19 B20 G21) H → va_D A (mW K o r F19 B20 G21) → va_S A s.heap H locs → lv_has ls 8 [(3, .int y17), (2, .int y18), (0, .ref o), (1, .int x)] → W p l e (rmD 54 0 0) s m ([.ref o, .int x] : List Value).toArray below meth c H locs 0 0 (kQi D (tysK K) (fun v (u : mS) => kb (-2147483648) v 2147483647 ∧ mI u.1 u.2.1 ∧ mE (XR []) f a u.1 u.2.1 ∧ mZ [22, 23, 24, 25] [2, 5, 26, 29, 30, 34, 36] f a u.1 u.2.1) (fun u => mW K o r u.1 u.2.1 u.2.2) A below ([.ref o, .int x] : List Value).toArray s 0 0) (F0 m 37 ls []) := by
            intro n23
            induction n23 with
            | zero =>
              intro  F19 B20 G21  H locs ls y17 y18 hmlp22 hI hE hZ b24 hP hD hS hl
              exact (by have h1 := b24.2; have h2 := hmlp22; omega : False).elim
            | succ n23 ihlp22 =>
              intro  F19 B20 G21  H locs ls y17 y18 hmlp22 hI hE hZ b24 hP hD hS hl
              refine lv_iload_n hx hb dX12_look_37 rfl (lv_at hl 0 rfl) ?_
              refine lv_aload_n hx hb dX12_look_38 rfl (lv_at hl 2 rfl) ?_
              refine kI.callV (As := []) (rest := [.int y17]) ⟨hx, hb, hml, hown, hg⟩ (m_allBuilders l o r F19 B20 G21 hI   ) (cwV 0 hg (kgV wt7_164 wt7_166 wp6_14 wt1_14 wt7_167) rfl rfl rfl (by decide +kernel) ⟨by decide, by decide⟩) hK hP hD hS hA mIs [] rfl (wr := []) rfl rfl rfl (fun i h => by cases h) 0 12 rfl rfl rfl hl.1 rfl (Nat.le_of_ble_eq_true rfl) dX12_look_39 ⟨Nat.le_refl _, Nat.le_refl _⟩ (fun v26 u27 H locs hw25 hP hD hS => ?_)
              have hP : va_P D vwCl (mW K o r F19 B20 G21) H := hP
              have hD : va_D A (mW K o r F19 B20 G21) := hD
              refine lv_icmp_gt (tgt := 70) hx hb dX12_look_42 (by decide) (fun c28 => ?_) (fun c28 => ?_)
              · have h29 := (kc_lt c28)
                have b30 : kb 1 y17 64 := kr_lt2 h29 hw25 b24 (by decide)
                refine lv_iconst (v := (-1)) hx hb dX12_look_70 (by decide) ?_
                refine lv_istore_n (lv' := [(3, .int (-1)), (2, .int y18), (0, .ref o), (1, .int x)]) hx hb dX12_look_71 rfl hl (by decide) rfl (fun ls hl => ?_)
                refine lv_ldc (v := (1000000)) hx hb hown (hg _ wt6_191) dX12_look_72 ?_
                refine lv_istore (lv' := [(4, .int 1000000), (3, .int (-1)), (2, .int y18), (0, .ref o), (1, .int x)]) hx hb dX12_look_74 hl (by decide) rfl (fun ls hl => ?_)
                refine lv_iconst (v := 0) hx hb dX12_look_76 (by decide) ?_
                refine lv_istore (lv' := [(5, .int 0), (4, .int 1000000), (3, .int (-1)), (2, .int y18), (0, .ref o), (1, .int x)]) hx hb dX12_look_77 hl (by decide) rfl (fun ls hl => ?_)
                have lp34 : ∀ (n35 : Nat) (H : Heap) (locs : List Loc) (ls : Array Slot) (y31 : Int32) (y32 : Int32) (y33 : Int32), (41 < y31.toInt + (n35 : Int)) → (kb 0 y31 41) → va_P D vwCl (mW K o r F19 B20 G21) H → va_D A (mW K o r F19 B20 G21) → va_S A s.heap H locs → lv_has ls 8 [(5, .int y31), (4, .int y32), (3, .int y33), (2, .int y18), (0, .ref o), (1, .int x)] → W p l e (rmD 54 0 0) s m ([.ref o, .int x] : List Value).toArray below meth c H locs 0 0 (kQi D (tysK K) (fun v (u : mS) => kb (-2147483648) v 2147483647 ∧ mI u.1 u.2.1 ∧ mE (XR []) f a u.1 u.2.1 ∧ mZ [22, 23, 24, 25] [2, 5, 26, 29, 30, 34, 36] f a u.1 u.2.1) (fun u => mW K o r u.1 u.2.1 u.2.2) A below ([.ref o, .int x] : List Value).toArray s 0 0) (F0 m 79 ls []) := by
                  intro n35
                  induction n35 with
                  | zero =>
                    intro   H locs ls y31 y32 y33 hmlp34 b36 hP hD hS hl
                    exact (by have h1 := b36.2; have h2 := hmlp34; omega : False).elim
                  | succ n35 ihlp34 =>
                    intro   H locs ls y31 y32 y33 hmlp34 b36 hP hD hS hl
                    refine lv_iload hx hb dX12_look_79 (lv_at hl 0 rfl) ?_
                    refine lv_bipush (v := 40) hx hb dX12_look_81 (by decide) ?_
                    have jn80 : ∀ (H : Heap) (locs : List Loc) (ls : Array Slot), va_P D vwCl (mW K o r F19 B20 G21) H → va_D A (mW K o r F19 B20 G21) → va_S A s.heap H locs → lv_has ls 8 [(5, .int y31), (4, .int y32), (3, .int y33), (2, .int y18), (0, .ref o), (1, .int x)] → W p l e (rmD 54 0 0) s m ([.ref o, .int x] : List Value).toArray below meth c H locs 0 0 (kQi D (tysK K) (fun v (u : mS) => kb (-2147483648) v 2147483647 ∧ mI u.1 u.2.1 ∧ mE (XR []) f a u.1 u.2.1 ∧ mZ [22, 23, 24, 25] [2, 5, 26, 29, 30, 34, 36] f a u.1 u.2.1) (fun u => mW K o r u.1 u.2.1 u.2.2) A below ([.ref o, .int x] : List Value).toArray s 0 0) (F0 m 152 ls []) := by
                      intro  H locs ls   hP hD hS hl
                      refine lv_iload_n hx hb dX12_look_152 rfl (lv_at hl 2 rfl) ?_
                      refine lv_iconst (v := (-1)) hx hb dX12_look_153 (by decide) ?_
                      refine lv_icmp_eq (tgt := 161) hx hb dX12_look_154 (by decide) (fun c81 => ?_) (fun c81 => ?_)
                      · have b82 : kb (-1) y33 (-1) := kb_eq c81 kc_m1
                        refine lv_iload_n hx hb dX12_look_161 rfl (lv_at hl 2 rfl) ?_
                        refine lv_goto (tgt := 167) hx hb dX12_look_162 (by decide) ?_
                        exact kI_ret (v := y33) hx hb hr hlocks rfl hK hS dX12_look_167 (F19, B20, G21) hP hD ⟨(kb_w b82 (by decide) (by decide)), hI, hE, hZ⟩
                      · refine lv_iload_n hx hb dX12_look_157 rfl (lv_at hl 5 rfl) ?_
                        refine lv_if_ne (tgt := 165) hx hb dX12_look_158 (by decide) (fun c83 => ?_) (fun c83 => ?_)
                        · have b84 : kb 1 x 1 := kr_nel c83 b8 kc_0 (by decide)
                          refine lv_iload hx hb dX12_look_165 (lv_at hl 1 rfl) ?_
                          exact kI_ret (v := y32) hx hb hr hlocks rfl hK hS dX12_look_167 (F19, B20, G21) hP hD ⟨(kb_any y32), hI, hE, hZ⟩
                        · have b85 : kb 0 x 0 := kb_eq c83 kc_0
                          refine lv_iload_n hx hb dX12_look_161 rfl (lv_at hl 2 rfl) ?_
                          refine lv_goto (tgt := 167) hx hb dX12_look_162 (by decide) ?_
                          exact kI_ret (v := y33) hx hb hr hlocks rfl hK hS dX12_look_167 (F19, B20, G21) hP hD ⟨(kb_any y33), hI, hE, hZ⟩
                    refine lv_icmp_gt (tgt := 152) hx hb dX12_look_83 (by decide) (fun c86 => ?_) (fun c86 => ?_)
                    · have h87 := (kc_lt c86)
                      have b88 : kb 41 y31 41 := kr_lt2 h87 kc_40 b36 (by decide)
                      exact jn80 _ _ _   hP hD hS (lv_sub hl [0, 1, 2, 3, 4, 5] rfl)
                    · have h89 := (kc_nlt c86)
                      have b90 : kb 0 y31 40 := kr_le1 h89 b36 kc_40
                      refine lv_iload_n hx hb dX12_look_86 rfl (lv_at hl 3 rfl) ?_
                      refine lv_if_le (tgt := 152) hx hb dX12_look_87 (by decide) (fun c91 => ?_) (fun c91 => ?_)
                      · have h92 := (kc_le c91)
                        have b93 : kb (-2147483648) y18 0 := kr_le1 h92 (kb_any y18) kc_0
                        exact jn80 _ _ _   hP hD hS (lv_sub hl [0, 1, 2, 3, 4, 5] rfl)
                      · have h94 := (kc_nle c91)
                        have b95 : kb 1 y18 2147483647 := kr_lt2 h94 kc_0 (kb_any y18) (by decide)
                        refine lv_iconst (v := 0) hx hb dX12_look_90 (by decide) ?_
                        refine lv_istore (lv' := [(6, .int 0), (5, .int y31), (4, .int y32), (3, .int y33), (2, .int y18), (0, .ref o), (1, .int x)]) hx hb dX12_look_91 hl (by decide) rfl (fun ls hl => ?_)
                        refine lv_iconst (v := 0) hx hb dX12_look_93 (by decide) ?_
                        refine lv_istore (lv' := [(7, .int 0), (6, .int 0), (5, .int y31), (4, .int y32), (3, .int y33), (2, .int y18), (0, .ref o), (1, .int x)]) hx hb dX12_look_94 hl (by decide) rfl (fun ls hl => ?_)
                        have lp98 : ∀ (n99 : Nat) (H : Heap) (locs : List Loc) (ls : Array Slot) (y96 : Int32) (y97 : Int32), (11 < y96.toInt + (n99 : Int)) → (kb 0 y96 11) → va_P D vwCl (mW K o r F19 B20 G21) H → va_D A (mW K o r F19 B20 G21) → va_S A s.heap H locs → lv_has ls 8 [(7, .int y96), (6, .int y97), (5, .int y31), (4, .int y32), (3, .int y33), (2, .int y18), (0, .ref o), (1, .int x)] → W p l e (rmD 54 0 0) s m ([.ref o, .int x] : List Value).toArray below meth c H locs 0 0 (kQi D (tysK K) (fun v (u : mS) => kb (-2147483648) v 2147483647 ∧ mI u.1 u.2.1 ∧ mE (XR []) f a u.1 u.2.1 ∧ mZ [22, 23, 24, 25] [2, 5, 26, 29, 30, 34, 36] f a u.1 u.2.1) (fun u => mW K o r u.1 u.2.1 u.2.2) A below ([.ref o, .int x] : List Value).toArray s 0 0) (F0 m 96 ls []) := by
                          intro n99
                          induction n99 with
                          | zero =>
                            intro   H locs ls y96 y97 hmlp98 b100 hP hD hS hl
                            exact (by have h1 := b100.2; have h2 := hmlp98; omega : False).elim
                          | succ n99 ihlp98 =>
                            intro   H locs ls y96 y97 hmlp98 b100 hP hD hS hl
                            refine lv_iload hx hb dX12_look_96 (lv_at hl 0 rfl) ?_
                            refine lv_bipush (v := 10) hx hb dX12_look_98 (by decide) ?_
                            refine lv_icmp_gt (tgt := 129) hx hb dX12_look_100 (by decide) (fun c101 => ?_) (fun c101 => ?_)
                            · have h102 := (kc_lt c101)
                              have b103 : kb 11 y96 11 := kr_lt2 h102 kc_10 b100 (by decide)
                              refine lv_iload hx hb dX12_look_129 (lv_at hl 1 rfl) ?_
                              refine lv_iload hx hb dX12_look_131 (lv_at hl 3 rfl) ?_
                              have jn110 : ∀ (H : Heap) (locs : List Loc) (ls : Array Slot) (y108 : Int32) (y109 : Int32), va_P D vwCl (mW K o r F19 B20 G21) H → va_D A (mW K o r F19 B20 G21) → va_S A s.heap H locs → lv_has ls 8 [(7, .int y96), (6, .int y97), (5, .int y31), (4, .int y108), (3, .int y109), (2, .int y18), (0, .ref o), (1, .int x)] → W p l e (rmD 54 0 0) s m ([.ref o, .int x] : List Value).toArray below meth c H locs 0 0 (kQi D (tysK K) (fun v (u : mS) => kb (-2147483648) v 2147483647 ∧ mI u.1 u.2.1 ∧ mE (XR []) f a u.1 u.2.1 ∧ mZ [22, 23, 24, 25] [2, 5, 26, 29, 30, 34, 36] f a u.1 u.2.1) (fun u => mW K o r u.1 u.2.1 u.2.2) A below ([.ref o, .int x] : List Value).toArray s 0 0) (F0 m 146 ls []) := by
                                intro  H locs ls y108 y109  hP hD hS hl
                                obtain ⟨t111, et111⟩ : ∃ z : Int32, z = y31 + Int32.ofInt 1 := ⟨_, rfl⟩
                                have qt111 : t111.toInt = y31.toInt + 1 := by rw [et111]; exact km_inc b90 (by decide) (by decide)
                                have b112 : kb 1 t111 41 := kb_inc (k := 1) qt111 b90
                                refine lv_iinc (v := t111) (lv' := [(5, .int t111), (7, .int y96), (6, .int y97), (4, .int y108), (3, .int y109), (2, .int y18), (0, .ref o), (1, .int x)]) hx hb dX12_look_146 hl (k := 2) rfl et111.symm (by decide) rfl (fun ls hl => ?_)
                                refine lv_goto (tgt := 79) hx hb dX12_look_149 (by decide) ?_
                                exact ihlp34  _ _ _ t111 y108 y109 (km_up hmlp34 qt111) (kb_w b112 (by decide) (by decide)) hP hD hS (lv_sub hl [0, 3, 4, 5, 6, 7] rfl)
                              refine lv_icmp_lt (tgt := 139) hx hb dX12_look_133 (by decide) (fun c113 => ?_) (fun c113 => ?_)
                              · have h114 := (kc_lt c113)
                                have b115 : kb (-2147483648) y97 2147483646 := kr_lt1 h114 (kb_any y97) (kb_any y32) (by decide)
                                have b116 : kb (-2147483647) y32 2147483647 := kr_lt2 h114 (kb_any y97) (kb_any y32) (by decide)
                                refine lv_iload hx hb dX12_look_139 (lv_at hl 1 rfl) ?_
                                refine lv_istore (lv' := [(4, .int y97), (7, .int y96), (6, .int y97), (5, .int y31), (3, .int y33), (2, .int y18), (0, .ref o), (1, .int x)]) hx hb dX12_look_141 hl (by decide) rfl (fun ls hl => ?_)
                                refine lv_iload hx hb dX12_look_143 (lv_at hl 3 rfl) ?_
                                refine lv_istore_n (lv' := [(3, .int y31), (4, .int y97), (7, .int y96), (6, .int y97), (5, .int y31), (2, .int y18), (0, .ref o), (1, .int x)]) hx hb dX12_look_145 rfl hl (by decide) rfl (fun ls hl => ?_)
                                exact jn110 _ _ _ y97 y31  hP hD hS (lv_sub hl [2, 3, 4, 1, 0, 5, 6, 7] rfl)
                              · have h117 := (kc_nlt c113)
                                refine lv_goto (tgt := 146) hx hb dX12_look_136 (by decide) ?_
                                exact jn110 _ _ _ y32 y33  hP hD hS (lv_sub hl [0, 1, 2, 3, 4, 5, 6, 7] rfl)
                            · have h118 := (kc_nlt c101)
                              have b119 : kb 0 y96 10 := kr_le1 h118 b100 kc_10
                              refine lv_iload hx hb dX12_look_103 (lv_at hl 1 rfl) ?_
                              refine lv_aload_n hx hb dX12_look_105 rfl (lv_at hl 6 rfl) ?_
                              refine va_get (D := D) (ci := 12) (v := .ref (r 36)) (C := RX12) (T := TX12) (N := 48) hx hb hg inC12 hown hK hP 0 rfl rfl 36 (by decide) (hg _ wt5_196) (fun _ h9 => h9) rfl dX12_look_106 ?_
                              refine lv_bipush (v := 11) hx hb dX12_look_109 (by decide) ?_
                              refine lv_iload hx hb dX12_look_111 (lv_at hl 2 rfl) ?_
                              refine lv_imul hx hb dX12_look_113 ?_
                              refine lv_topi (fun t120 et120 => ?_)
                              have b121 : kb 0 t120 440 := kb_eq et120 (kb_mul kc_11 b90 (by decide) (by decide) (by decide))
                              have qt120 : t120.toInt = 11 * y31.toInt := by rw [et120]; exact kt_cmul kc_11 b90 (by decide) (by decide) (by decide)
                              refine lv_iload hx hb dX12_look_114 (lv_at hl 0 rfl) ?_
                              refine lv_iadd hx hb dX12_look_116 ?_
                              refine lv_topi (fun t122 et122 => ?_)
                              have b123 : kb 0 t122 450 := kb_eq et122 (kb_add b121 b119 (by decide) (by decide))
                              have qt122 : t122.toInt = t120.toInt + y96.toInt := by rw [et122]; exact kt_add b121 b119 (by decide) (by decide)
                              refine va_iald hx hb hK hP 19 0 rfl rfl (kb_in b123 (by decide) (by decide)) dX12_look_117 ?_
                              refine lv_topi (fun t124 et124 => ?_)
                              refine kN.callS (As := [.int y97, .int t124]) (rest := []) ⟨hx, hb, hml, hown, hg⟩ (m_greater l y97 t124 ) (va_cwS 2 hg (kgS wt6_127 wt6_128 wt1_14 wt6_129) rfl rfl rfl (by decide +kernel) ⟨by decide, by decide⟩) hP hS rfl hl.1 rfl (Nat.le_of_ble_eq_true rfl) dX12_look_118 ⟨Nat.le_refl _, Nat.le_refl _⟩ (fun v126 H locs hw125 hP hS => ?_)
                              refine lv_istore (lv' := [(6, .int v126), (7, .int y96), (5, .int y31), (4, .int y32), (3, .int y33), (2, .int y18), (0, .ref o), (1, .int x)]) hx hb dX12_look_121 hl (by decide) rfl (fun ls hl => ?_)
                              obtain ⟨t128, et128⟩ : ∃ z : Int32, z = y96 + Int32.ofInt 1 := ⟨_, rfl⟩
                              have qt128 : t128.toInt = y96.toInt + 1 := by rw [et128]; exact km_inc b119 (by decide) (by decide)
                              have b129 : kb 1 t128 11 := kb_inc (k := 1) qt128 b119
                              refine lv_iinc (v := t128) (lv' := [(7, .int t128), (6, .int v126), (5, .int y31), (4, .int y32), (3, .int y33), (2, .int y18), (0, .ref o), (1, .int x)]) hx hb dX12_look_123 hl (k := 1) rfl et128.symm (by decide) rfl (fun ls hl => ?_)
                              refine lv_goto (tgt := 96) hx hb dX12_look_126 (by decide) ?_
                              exact ihlp98  _ _ _ t128 v126 (km_up hmlp98 qt128) (kb_w b129 (by decide) (by decide)) hP hD hS (lv_sub hl [0, 1, 2, 3, 4, 5, 6, 7] rfl)
                        exact lp98 (12)  _ _ _ 0 0 (by have h1 := (kc_0); unfold kb at h1; omega) (kb_w kc_0 (by decide) (by decide)) hP hD hS (lv_sub hl [0, 1, 2, 3, 4, 5, 6, 7] rfl)
                exact lp34 (42)  _ _ _ 0 1000000 (-1) (by have h1 := (kc_0); unfold kb at h1; omega) (kb_w kc_0 (by decide) (by decide)) hP hD hS (lv_sub hl [0, 1, 2, 3, 4, 5] rfl)
              · have h130 := (kc_nlt c28)
                have b131 : kb 0 y17 63 := kr_le1 h130 b24 hw25
                refine lv_aload_n hx hb dX12_look_45 rfl (lv_at hl 2 rfl) ?_
                refine lv_iload_n hx hb dX12_look_46 rfl (lv_at hl 0 rfl) ?_
                refine kI.callV (As := [.int y17]) (rest := []) ⟨hx, hb, hml, hown, hg⟩ (m_canBeWhose l o r F19 B20 G21 hI y17  ) (cwV 1 hg (kgV wt8_19 wt8_21 wp7_11 wt1_14 wt8_22) rfl rfl rfl (by decide +kernel) ⟨by decide, by decide⟩) hK hP hD hS hA mIs [] rfl (wr := []) rfl rfl rfl (fun i h => by cases h) 0 12 rfl rfl rfl hl.1 rfl (Nat.le_of_ble_eq_true rfl) dX12_look_47 ⟨Nat.le_refl _, Nat.le_refl _⟩ (fun v133 u134 H locs hw132 hP hD hS => ?_)
                obtain ⟨f135, a136, g137⟩ := u134
                have hP : va_P D vwCl (mW K o r f135 a136 g137) H := hP
                have hD : va_D A (mW K o r f135 a136 g137) := hD
                have hI : mI f135 a136 := hw132.2.1
                have hE : mE (XR []) f a f135 a136 := mE_tr hE hw132.2.2.1
                have eE138 : mE (XR []) F19 B20 f135 a136 := hw132.2.2.1
                have eZ139 : mZ [22, 23, 24, 25] [2, 5, 26, 29, 30, 34] F19 B20 f135 a136 := hw132.2.2.2
                have hZ : mZ [22, 23, 24, 25] [2, 5, 26, 29, 30, 34, 36] f a f135 a136 := mZ_tr hZ (mZ_w (by decide) (by decide) eZ139)
                have jn155 : ∀ (F152 : Nat → Int32) (B153 : Nat → Nat → Int32) (G154 : Nat → Int64) (H : Heap) (locs : List Loc) (ls : Array Slot) (y151 : Int32), (mI F152 B153) → (mE (XR []) f a F152 B153) → (mZ [22, 23, 24, 25] [2, 5, 26, 29, 30, 34, 36] f a F152 B153) → va_P D vwCl (mW K o r F152 B153 G154) H → va_D A (mW K o r F152 B153 G154) → va_S A s.heap H locs → lv_has ls 8 [(3, .int y17), (2, .int y151), (0, .ref o), (1, .int x)] → W p l e (rmD 54 0 0) s m ([.ref o, .int x] : List Value).toArray below meth c H locs 0 0 (kQi D (tysK K) (fun v (u : mS) => kb (-2147483648) v 2147483647 ∧ mI u.1 u.2.1 ∧ mE (XR []) f a u.1 u.2.1 ∧ mZ [22, 23, 24, 25] [2, 5, 26, 29, 30, 34, 36] f a u.1 u.2.1) (fun u => mW K o r u.1 u.2.1 u.2.2) A below ([.ref o, .int x] : List Value).toArray s 0 0) (F0 m 64 ls []) := by
                  intro F152 B153 G154  H locs ls y151 hI hE hZ hP hD hS hl
                  obtain ⟨t156, et156⟩ : ∃ z : Int32, z = y17 + Int32.ofInt 1 := ⟨_, rfl⟩
                  have qt156 : t156.toInt = y17.toInt + 1 := by rw [et156]; exact km_inc b131 (by decide) (by decide)
                  have b157 : kb 1 t156 64 := kb_inc (k := 1) qt156 b131
                  refine lv_iinc (v := t156) (lv' := [(3, .int t156), (2, .int y151), (0, .ref o), (1, .int x)]) hx hb dX12_look_64 hl (k := 0) rfl et156.symm (by decide) rfl (fun ls hl => ?_)
                  refine lv_goto (tgt := 37) hx hb dX12_look_67 (by decide) ?_
                  exact ihlp22  F152 B153 G154 _ _ _ t156 y151 (km_up hmlp22 qt156) hI hE hZ (kb_w b157 (by decide) (by decide)) hP hD hS (lv_sub hl [0, 1, 2, 3] rfl)
                refine lv_if_ne (tgt := 56) hx hb dX12_look_50 (by decide) (fun c158 => ?_) (fun c158 => ?_)
                · have b159 : kb 1 v133 1 := kr_nel c158 hw132.1 kc_0 (by decide)
                  obtain ⟨t160, et160⟩ : ∃ z : Int32, z = y18 + Int32.ofInt 1 := ⟨_, rfl⟩
                  refine lv_iinc (v := t160) (lv' := [(2, .int t160), (3, .int y17), (0, .ref o), (1, .int x)]) hx hb dX12_look_56 hl (k := 1) rfl et160.symm (by decide) rfl (fun ls hl => ?_)
                  refine lv_aload_n hx hb dX12_look_59 rfl (lv_at hl 2 rfl) ?_
                  refine lv_iload_n hx hb dX12_look_60 rfl (lv_at hl 1 rfl) ?_
                  refine kV.callV (As := [.int y17]) (rest := []) ⟨hx, hb, hml, hown, hg⟩ (m_shows l o r f135 a136 g137 hI y17  ) (cwV 1 hg (kgV wt8_39 wt8_41 wp7_15 wt1_14 wt8_42) rfl rfl rfl (by decide +kernel) ⟨by decide, by decide⟩) hK hP hD hS hA mIs [] rfl (wr := []) rfl rfl rfl (fun i h => by cases h) 0 12 rfl rfl rfl hl.1 rfl (Nat.le_of_ble_eq_true rfl) dX12_look_61 ⟨Nat.le_refl _, Nat.le_refl _⟩ (fun u163 H locs hw161 hP hD hS => ?_)
                  obtain ⟨f164, a165, g166⟩ := u163
                  have hP : va_P D vwCl (mW K o r f164 a165 g166) H := hP
                  have hD : va_D A (mW K o r f164 a165 g166) := hD
                  have hI : mI f164 a165 := hw161.1
                  have hE : mE (XR []) f a f164 a165 := mE_tr hE hw161.2.1
                  have eE167 : mE (XR []) f135 a136 f164 a165 := hw161.2.1
                  have eZ168 : mZ [22, 23, 24, 25] [2, 5, 26, 29, 30, 34, 36] f135 a136 f164 a165 := hw161.2.2
                  have hZ : mZ [22, 23, 24, 25] [2, 5, 26, 29, 30, 34, 36] f a f164 a165 := mZ_tr hZ (mZ_w (by decide) (by decide) eZ168)
                  exact jn155 f164 a165 g166 _ _ _ t160 hI hE hZ hP hD hS (lv_sub hl [1, 0, 2, 3] rfl)
                · have b169 : kb 0 v133 0 := kb_eq c158 kc_0
                  refine lv_goto (tgt := 64) hx hb dX12_look_53 (by decide) ?_
                  exact jn155 f135 a136 g137 _ _ _ y18 hI hE hZ hP hD hS (lv_sub hl [0, 1, 2, 3] rfl)
          exact lp22 (65)  f B10 g _ _ _ 0 0 (by have h1 := (kc_0); unfold kb at h1; omega) hI hE hZ (kb_w kc_0 (by decide) (by decide)) hP hD hS (lv_sub hl [0, 1, 2, 3] rfl)
        · have h170 := (kc_nle c14)
          have b171 : kb 0 y9 450 := kr_lt1 h170 b13 kc_451 (by decide)
          refine lv_aload_n hx hb dX12_look_22 rfl (lv_at hl 2 rfl) ?_
          refine va_get (D := D) (ci := 12) (v := .ref (r 36)) (C := RX12) (T := TX12) (N := 48) hx hb hg inC12 hown hK hP 0 rfl rfl 36 (by decide) (hg _ wt5_196) (fun _ h9 => h9) rfl dX12_look_23 ?_
          refine lv_iload_n hx hb dX12_look_26 rfl (lv_at hl 0 rfl) ?_
          refine lv_iconst (v := 0) hx hb dX12_look_27 (by decide) ?_
          refine va_iast hx hb hK hP hD hS 19 0 rfl rfl (kb_in b171 (by decide) (by decide)) dX12_look_28 (fun H locs hP hD hS => ?_)
          have hP : va_P D vwCl (mW K o r f (va_up B10 36 (upd (B10 36) y9.toNatClampNeg 0)) g) H := hP
          have hD : va_D A (mW K o r f (va_up B10 36 (upd (B10 36) y9.toNatClampNeg 0)) g) := hD
          refine k_gen (P := fun z => va_P D vwCl (mW K o r f z g) H ∧ va_D A (mW K o r f z g) ∧ (mI f z) ∧ (mE (XR []) f a f z) ∧ (mZ [22, 23, 24, 25] [2, 5, 26, 29, 30, 34, 36] f a f z)) (va_up B10 36 (upd (B10 36) y9.toNatClampNeg 0)) ⟨hP, hD, (mI_s hI (aI_free hI.2.1 36 _ (fun j => ⟨by show (mBa 36 j).1 ≤ _; exact Int.le_refl _, by show _ ≤ (mBa 36 j).2; exact Int.le_refl _⟩)) (by decide) (by decide)), (mE_s hE (by decide) (by decide) (by decide) (by decide)), (mZ_a hZ rfl)⟩ (fun a_172 ea_172 hq => ?_)
          obtain ⟨hP, hD, hI, hE, hZ⟩ := hq
          obtain ⟨t173, et173⟩ : ∃ z : Int32, z = y9 + Int32.ofInt 1 := ⟨_, rfl⟩
          have qt173 : t173.toInt = y9.toInt + 1 := by rw [et173]; exact km_inc b171 (by decide) (by decide)
          have b174 : kb 1 t173 451 := kb_inc (k := 1) qt173 b171
          refine lv_iinc (v := t173) (lv' := [(3, .int t173), (2, .int 0), (0, .ref o), (1, .int x)]) hx hb dX12_look_29 hl (k := 0) rfl et173.symm (by decide) rfl (fun ls hl => ?_)
          refine lv_goto (tgt := 15) hx hb dX12_look_32 (by decide) ?_
          exact ihlp11  a_172 _ _ _ t173 (km_up hmlp11 qt173) hI hE hZ (kb_w b174 (by decide) (by decide)) hP hD hS (lv_sub hl [0, 1, 2, 3] rfl)
    exact lp11 (452)  a _ _ _ 0 (by have h1 := (kc_0); unfold kb at h1; omega) hI hE hZ (kb_w kc_0 (by decide) (by decide)) hP hD hS (lv_sub hl [0, 1, 2, 3] rfl)
  · have b175 : kb 0 v2 0 := kb_eq c4 kc_0
    refine lv_iconst (v := (-1)) hx hb dX12_look_9 (by decide) ?_
    exact kI_ret (v := (-1)) hx hb hr hlocks rfl hK hS dX12_look_10 (f, a, g) hP hD ⟨(kb_w kc_m1 (by decide) (by decide)), hI, hE, hZ⟩
set_option maxHeartbeats 4000000 in
set_option maxRecDepth 100000 in
theorem m_draws  (l : Launch) {D : va_G} {K : Nat → ClassId} (o : Nat) (r : Nat → Nat) (f : Nat → Int32) (a : Nat → Nat → Int32) (g : Nat → Int64) (hI : mI f a) (kk : Int32) (bkk : kb 10 kk 10)   : kI l yX12_draws (Cond.code yX12_draws cX12_draws 2 (some .int) :: kG) (rmD 1 0 0) D (tysK K) [.ref o, .int kk] (mW K o r f a g) (fun v (u : mS) => kb (-2147483648) v 2147483647 ∧ mI u.1 u.2.1 ∧ mE (XR []) f a u.1 u.2.1 ∧ mZ [47] [] f a u.1 u.2.1) (fun u => mW K o r u.1 u.2.1 u.2.2) 0 0 := by
  refine kI.of (cc := cX12_draws) (maxL := 2) (ret := (some .int)) (by decide) rfl (Nat.le_of_ble_eq_true rfl) ?_
  intro p e s m below meth c A hx hb hr hml hown hts hlocks hnm hK hP hD hS hA ls hl
  have hE : mE (XR []) f a f a := mE_rf
  have hZ : mZ [47] [] f a f a := mZ_rf
  have hg : ∀ w ∈ kG, w.before _ s = true := fun w h => hts w (List.mem_cons_of_mem _ h)
  have hown : s.vm.findClass RX12 = some m.cls := hown
  have hl : lv_has ls 2 [(0, .ref o), (1, .int kk)] := hl
  refine lv_aload_n hx hb dX12_draws_0 rfl (lv_at hl 0 rfl) ?_
  refine lv_ldc2 (v := (1103)) hx hb hown (hg _ wt8_75) dX12_draws_1 ?_
  refine lv_aload_n hx hb dX12_draws_4 rfl (lv_at hl 0 rfl) ?_
  refine va_get (D := D) (ci := 12) (v := .int (f 47)) (C := RX12) (T := TX12) (N := 48) hx hb hg inC12 hown hK hP 0 rfl rfl 47 (by decide) (hg _ wt5_207) (fun _ h9 => h9) rfl dX12_draws_5 ?_
  refine lv_topi (fun t1 et1 => ?_)
  refine lv_i2l hx hb dX12_draws_8 rfl ?_
  refine lv_topl (fun t2 et2 => ?_)
  refine lv_lmul hx hb dX12_draws_9 ?_
  refine lv_topl (fun t3 et3 => ?_)
  refine lv_ldc2 (v := (12345)) hx hb hown (hg _ wt8_76) dX12_draws_10 ?_
  refine lv_ladd hx hb dX12_draws_13 ?_
  refine lv_topl (fun t4 et4 => ?_)
  refine lv_ldc2 (v := (1000003)) hx hb hown (hg _ wt8_77) dX12_draws_14 ?_
  refine lv_lrem hx hb dX12_draws_17 (by decide +kernel) ?_
  refine lv_topl (fun t5 et5 => ?_)
  refine lv_l2i hx hb dX12_draws_18 rfl ?_
  refine lv_topi (fun t6 et6 => ?_)
  refine va_put (D := D) (ci := 12) (v := .int t6) (ty := .int) (C := RX12) (T := TX12) (N := 48) hx hb hg inC12 tyX12 tyX12_ok nmX12 hown hK hP hD hS 0 rfl rfl 47 (by decide) (hg _ wt5_207) (fun _ h9 => h9) rfl (by decide +kernel) rfl rfl (Nat.le_of_ble_eq_true rfl) dX12_draws_19 (fun H locs hP hD hS => ?_)
  have hP : va_P D vwCl (mW K o r (upd f 47 t6) a g) H := hP
  have hD : va_D A (mW K o r (upd f 47 t6) a g) := hD
  refine k_gen (P := fun z => va_P D vwCl (mW K o r z a g) H ∧ va_D A (mW K o r z a g) ∧ (mI z a) ∧ (mE (XR []) f a z a) ∧ (mZ [47] [] f a z a)) (upd f 47 t6) ⟨hP, hD, (mI_f hI (fI_st hI.1 47 (kb_any _) (by decide) (by decide))), (mE_f hE (by decide)), (mZ_f hZ rfl)⟩ (fun f_7 ef_7 hq => ?_)
  obtain ⟨hP, hD, hI, hE, hZ⟩ := hq
  refine lv_aload_n hx hb dX12_draws_22 rfl (lv_at hl 0 rfl) ?_
  refine va_get (D := D) (ci := 12) (v := .int (f_7 47)) (C := RX12) (T := TX12) (N := 48) hx hb hg inC12 hown hK hP 0 rfl rfl 47 (by decide) (hg _ wt5_207) (fun _ h9 => h9) rfl dX12_draws_23 ?_
  refine k_top (z := t6) (show f_7 47 = t6 from by rw [← ef_7]; rfl) ?_
  refine lv_iload_n hx hb dX12_draws_26 rfl (lv_at hl 1 rfl) ?_
  refine lv_irem hx hb dX12_draws_27 (kb_nz bkk (by decide)) ?_
  refine lv_topi (fun t8 et8 => ?_)
  exact kI_ret (v := t8) hx hb hr hlocks rfl hK hS dX12_draws_28 (f_7, a, g) hP hD ⟨(kb_any t8), hI, hE, hZ⟩
set_option maxHeartbeats 4000000 in
set_option maxRecDepth 100000 in
theorem m_drawn  (l : Launch) {D : va_G} {K : Nat → ClassId} (o : Nat) (r : Nat → Nat) (f : Nat → Int32) (a : Nat → Nat → Int32) (g : Nat → Int64) (hI : mI f a) (x : Int32) (y : Int32)    : kI l yX12_drawn (Cond.code yX12_drawn cX12_drawn 3 (some .int) :: kG) (rmD 2 0 0) D (tysK K) [.ref o, .int x, .int y] (mW K o r f a g) (fun v (_ : Unit) => kb (-2147483648) v 2147483647) (fun _ => mW K o r f a g) 0 0 := by
  refine kI.of (cc := cX12_drawn) (maxL := 3) (ret := (some .int)) (by decide) rfl (Nat.le_of_ble_eq_true rfl) ?_
  intro p e s m below meth c A hx hb hr hml hown hts hlocks hnm hK hP hD hS hA ls hl
  have hg : ∀ w ∈ kG, w.before _ s = true := fun w h => hts w (List.mem_cons_of_mem _ h)
  have hown : s.vm.findClass RX12 = some m.cls := hown
  have hl : lv_has ls 3 [(0, .ref o), (1, .int x), (2, .int y)] := hl
  refine lv_aload_n hx hb dX12_drawn_0 rfl (lv_at hl 0 rfl) ?_
  refine va_get (D := D) (ci := 12) (v := .int (f 45)) (C := RX12) (T := TX12) (N := 48) hx hb hg inC12 hown hK hP 0 rfl rfl 45 (by decide) (hg _ wt5_205) (fun _ h9 => h9) rfl dX12_drawn_1 ?_
  refine lv_topi (fun t1 et1 => ?_)
  have b2 : kb (-1) t1 10 := kb_eq et1 (fI_at hI.1 45 (by decide) (by decide))
  refine lv_iconst (v := (-1)) hx hb dX12_drawn_4 (by decide) ?_
  refine lv_icmp_eq (tgt := 42) hx hb dX12_drawn_5 (by decide) (fun c3 => ?_) (fun c3 => ?_)
  · have b4 : kb (-1) t1 (-1) := kb_eq c3 kc_m1
    refine lv_iconst (v := (-1)) hx hb dX12_drawn_42 (by decide) ?_
    exact kI_ret (v := (-1)) hx hb hr hlocks rfl hK hS dX12_drawn_43 () hP hD (kb_w kc_m1 (by decide) (by decide))
  · have b5 : kb 0 t1 10 := kr_nel c3 b2 kc_m1 (by decide)
    refine lv_iload_n hx hb dX12_drawn_8 rfl (lv_at hl 2 rfl) ?_
    refine lv_iconst (v := 0) hx hb dX12_drawn_9 (by decide) ?_
    refine lv_iconst (v := 1) hx hb dX12_drawn_10 (by decide) ?_
    refine kN.callS (As := [.int y, .int 0, .int 1]) (rest := []) ⟨hx, hb, hml, hown, hg⟩ (m_lies l y 0 1 ) (va_cwS 3 hg (kgS wt6_69 wt6_70 wt1_14 wt6_71) rfl rfl rfl (by decide +kernel) ⟨by decide, by decide⟩) hP hS rfl hl.1 rfl (Nat.le_of_ble_eq_true rfl) dX12_drawn_11 ⟨Nat.le_refl _, Nat.le_refl _⟩ (fun v7 H locs hw6 hP hS => ?_)
    refine lv_if_eq (tgt := 42) hx hb dX12_drawn_14 (by decide) (fun c9 => ?_) (fun c9 => ?_)
    · have b10 : kb 0 v7 0 := kb_eq c9 kc_0
      refine lv_iconst (v := (-1)) hx hb dX12_drawn_42 (by decide) ?_
      exact kI_ret (v := (-1)) hx hb hr hlocks rfl hK hS dX12_drawn_43 () hP hD (kb_w kc_m1 (by decide) (by decide))
    · have b11 : kb 1 v7 1 := kr_nel c9 hw6.1 kc_0 (by decide)
      have h12 := mLies_ne (hw6.2 ▸ c9)
      have b13 : kb 0 y 2147483647 := kr_le2 h12.1 kc_0 (kb_any y)
      have b14 : kb 0 y 1 := kr_le1 h12.2 b13 kc_1
      refine lv_iload_n hx hb dX12_drawn_17 rfl (lv_at hl 1 rfl) ?_
      refine lv_iconst (v := 0) hx hb dX12_drawn_18 (by decide) ?_
      refine lv_iload_n hx hb dX12_drawn_19 rfl (lv_at hl 2 rfl) ?_
      have jn20 : ∀ (H : Heap) (locs : List Loc) (ls : Array Slot) (z19 : Int32), (kb 0 z19 10) → va_P D vwCl (mW K o r f a g) H → va_D A (mW K o r f a g) → va_S A s.heap H locs → lv_has ls 3 [(0, .ref o), (1, .int x), (2, .int y)] → W p l e (rmD 2 0 0) s m ([.ref o, .int x, .int y] : List Value).toArray below meth c H locs 0 0 (kQi D (tysK K) (fun v (_ : Unit) => kb (-2147483648) v 2147483647) (fun _ => mW K o r f a g) A below ([.ref o, .int x, .int y] : List Value).toArray s 0 0) (F0 m 34 ls [.int z19, .int 0, .int x]) := by
        intro  H locs ls z19 b21 hP hD hS hl
        refine lv_iconst (v := 1) hx hb dX12_drawn_34 (by decide) ?_
        refine lv_isub hx hb dX12_drawn_35 ?_
        refine lv_topi (fun t22 et22 => ?_)
        have b23 : kb (-1) t22 9 := kb_eq et22 (kb_sub b21 kc_1 (by decide) (by decide))
        have qt22 : t22.toInt = z19.toInt - 1 := by rw [et22]; exact kt_subc b21 kc_1 (by decide) (by decide)
        refine kN.callS (As := [.int x, .int 0, .int t22]) (rest := []) ⟨hx, hb, hml, hown, hg⟩ (m_lies l x 0 t22 ) (va_cwS 3 hg (kgS wt6_69 wt6_70 wt1_14 wt6_71) rfl rfl rfl (by decide +kernel) ⟨by decide, by decide⟩) hP hS rfl hl.1 rfl (Nat.le_of_ble_eq_true rfl) dX12_drawn_36 ⟨Nat.le_refl _, Nat.le_refl _⟩ (fun v25 H locs hw24 hP hS => ?_)
        refine lv_if_ne (tgt := 44) hx hb dX12_drawn_39 (by decide) (fun c27 => ?_) (fun c27 => ?_)
        · have b28 : kb 1 v25 1 := kr_nel c27 hw24.1 kc_0 (by decide)
          have h29 := mLies_ne (hw24.2 ▸ c27)
          have b30 : kb 0 x 2147483647 := kr_le2 h29.1 kc_0 (kb_any x)
          have b31 : kb 0 x 9 := kr_le1 h29.2 b30 b23
          refine lv_aload_n hx hb dX12_drawn_44 rfl (lv_at hl 0 rfl) ?_
          refine va_get (D := D) (ci := 12) (v := .ref (r 44)) (C := RX12) (T := TX12) (N := 48) hx hb hg inC12 hown hK hP 0 rfl rfl 44 (by decide) (hg _ wt5_204) (fun _ h9 => h9) rfl dX12_drawn_45 ?_
          refine lv_iload_n hx hb dX12_drawn_48 rfl (lv_at hl 2 rfl) ?_
          refine lv_if_ne (tgt := 56) hx hb dX12_drawn_49 (by decide) (fun c32 => ?_) (fun c32 => ?_)
          · have b33 : kb 1 y 1 := kr_nel c32 b14 kc_0 (by decide)
            refine lv_bipush (v := 10) hx hb dX12_drawn_56 (by decide) ?_
            refine lv_iload_n hx hb dX12_drawn_58 rfl (lv_at hl 1 rfl) ?_
            refine lv_iadd hx hb dX12_drawn_59 ?_
            refine lv_topi (fun t34 et34 => ?_)
            have b35 : kb 10 t34 19 := kb_eq et34 (kb_add kc_10 b31 (by decide) (by decide))
            have qt34 : t34.toInt = 10 + x.toInt := by rw [et34]; exact kt_cadd kc_10 b31 (by decide) (by decide)
            refine va_iald hx hb hK hP 21 0 rfl rfl (kb_in b35 (by decide) (by decide)) dX12_drawn_60 ?_
            refine lv_topi (fun t36 et36 => ?_)
            exact kI_ret (v := t36) hx hb hr hlocks rfl hK hS dX12_drawn_61 () hP hD (kb_any t36)
          · have b37 : kb 0 y 0 := kb_eq c32 kc_0
            refine lv_iconst (v := 0) hx hb dX12_drawn_52 (by decide) ?_
            refine lv_goto (tgt := 58) hx hb dX12_drawn_53 (by decide) ?_
            refine lv_iload_n hx hb dX12_drawn_58 rfl (lv_at hl 1 rfl) ?_
            refine lv_iadd hx hb dX12_drawn_59 ?_
            refine k_top (z := x) (Int32.zero_add _) ?_
            refine va_iald hx hb hK hP 21 0 rfl rfl (kb_in b31 (by decide) (by decide)) dX12_drawn_60 ?_
            refine lv_topi (fun t38 et38 => ?_)
            exact kI_ret (v := t38) hx hb hr hlocks rfl hK hS dX12_drawn_61 () hP hD (kb_any t38)
        · have b39 : kb 0 v25 0 := kb_eq c27 kc_0
          refine lv_iconst (v := (-1)) hx hb dX12_drawn_42 (by decide) ?_
          exact kI_ret (v := (-1)) hx hb hr hlocks rfl hK hS dX12_drawn_43 () hP hD (kb_w kc_m1 (by decide) (by decide))
      refine lv_if_ne (tgt := 30) hx hb dX12_drawn_20 (by decide) (fun c40 => ?_) (fun c40 => ?_)
      · have b41 : kb 1 y 1 := kr_nel c40 b14 kc_0 (by decide)
        refine lv_aload_n hx hb dX12_drawn_30 rfl (lv_at hl 0 rfl) ?_
        refine va_get (D := D) (ci := 12) (v := .int (f 46)) (C := RX12) (T := TX12) (N := 48) hx hb hg inC12 hown hK hP 0 rfl rfl 46 (by decide) (hg _ wt5_206) (fun _ h9 => h9) rfl dX12_drawn_31 ?_
        refine lv_topi (fun t42 et42 => ?_)
        have b43 : kb 0 t42 6 := kb_eq et42 (fI_at hI.1 46 (by decide) (by decide))
        exact jn20 _ _ _ t42 (kb_w b43 (by decide) (by decide)) hP hD hS (lv_sub hl [0, 1, 2] rfl)
      · have b44 : kb 0 y 0 := kb_eq c40 kc_0
        refine lv_aload_n hx hb dX12_drawn_23 rfl (lv_at hl 0 rfl) ?_
        refine va_get (D := D) (ci := 12) (v := .int (f 45)) (C := RX12) (T := TX12) (N := 48) hx hb hg inC12 hown hK hP 0 rfl rfl 45 (by decide) (hg _ wt5_205) (fun _ h9 => h9) rfl dX12_drawn_24 ?_
        refine k_top (z := t1) et1.symm ?_
        refine lv_goto (tgt := 34) hx hb dX12_drawn_27 (by decide) ?_
        exact jn20 _ _ _ t1 b5 hP hD hS (lv_sub hl [0, 1, 2] rfl)