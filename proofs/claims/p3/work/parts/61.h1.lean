theorem kb_mx {l1 h1 l2 h2 L H : Int} {x y : Int32} (bx : kb l1 x h1) (by_ : kb l2 y h2) (p1 : L ≤ l1 ∨ L ≤ l2) (p2 : h1 ≤ H) (p3 : h2 ≤ H) (p4 : True) : kb L (if x < y then y else x) H := by
  have := bx.1; have := bx.2; have := by_.1; have := by_.2
  by_cases h : x < y
  · rw [if_pos h]; rw [Int32.lt_iff_toInt_lt] at h; unfold kb; omega
  · rw [if_neg h]; rw [Int32.lt_iff_toInt_lt] at h; unfold kb; omega
theorem kb_mn {l1 h1 l2 h2 L H : Int} {x y : Int32} (bx : kb l1 x h1) (by_ : kb l2 y h2) (p1 : h1 ≤ H ∨ h2 ≤ H) (p2 : L ≤ l1) (p3 : L ≤ l2) (p4 : True) : kb L (if y < x then y else x) H := by
  have := bx.1; have := bx.2; have := by_.1; have := by_.2
  by_cases h : y < x
  · rw [if_pos h]; rw [Int32.lt_iff_toInt_lt] at h; unfold kb; omega
  · rw [if_neg h]; rw [Int32.lt_iff_toInt_lt] at h; unfold kb; omega
theorem kb_nl {l h : Int} {x : Int32} (b : kb l x h) (p : 0 ≤ l) : ¬ x < 0 := by
  have := b.1
  have e0 : (0 : Int32).toInt = 0 := by decide +kernel
  rw [Int32.lt_iff_toInt_lt]; omega
theorem kb_cpl {l h : Int} {x : Int32} {n N : Nat} (b : kb l x h) (p : 0 ≤ l) (q : h + (n : Int) ≤ (N : Int)) : x.toNatClampNeg + n ≤ N := by
  have := b.2; have e := kb_cl b p; omega
theorem kb_inn {x : Int32} {n : Nat} (h0 : 0 ≤ x.toInt) (h1 : x.toInt < (n : Int)) : vp_in x n := by
  intro q
  have e0 : (0 : Int32).toInt = 0 := by decide +kernel
  rcases q with q | q
  · rw [Int32.lt_iff_toInt_lt] at q; omega
  · unfold Int32.toNatClampNeg at q; omega
theorem dX7_hasPart_0 : decode cX7_hasPart 0 = .ok (.iload_n 1, 1) := by decide +kernel
theorem dX7_hasPart_1 : decode cX7_hasPart 1 = .ok (.ifCond .lt 21, 3) := by decide +kernel
theorem dX7_hasPart_4 : decode cX7_hasPart 4 = .ok (.iload_n 1, 1) := by decide +kernel
theorem dX7_hasPart_5 : decode cX7_hasPart 5 = .ok (.aload_n 0, 1) := by decide +kernel
theorem dX7_hasPart_6 : decode cX7_hasPart 6 = .ok (.getfield 9, 3) := by decide +kernel
theorem dX7_hasPart_9 : decode cX7_hasPart 9 = .ok (.if_icmp .ge 13, 3) := by decide +kernel
theorem dX7_hasPart_12 : decode cX7_hasPart 12 = .ok (.iload_n 1, 1) := by decide +kernel
theorem dX7_hasPart_13 : decode cX7_hasPart 13 = .ok (.bipush 10, 2) := by decide +kernel
theorem dX7_hasPart_15 : decode cX7_hasPart 15 = .ok (.if_icmp .ge 7, 3) := by decide +kernel
theorem dX7_hasPart_18 : decode cX7_hasPart 18 = .ok (.iconst 1, 1) := by decide +kernel
theorem dX7_hasPart_19 : decode cX7_hasPart 19 = .ok (.goto 4, 3) := by decide +kernel
theorem dX7_hasPart_22 : decode cX7_hasPart 22 = .ok (.iconst 0, 1) := by decide +kernel
theorem dX7_hasPart_23 : decode cX7_hasPart 23 = .ok (.ireturn, 1) := by decide +kernel
theorem dX7_hasBuilder_0 : decode cX7_hasBuilder 0 = .ok (.iload_n 1, 1) := by decide +kernel
theorem dX7_hasBuilder_1 : decode cX7_hasBuilder 1 = .ok (.ifCond .lt 21, 3) := by decide +kernel
theorem dX7_hasBuilder_4 : decode cX7_hasBuilder 4 = .ok (.iload_n 1, 1) := by decide +kernel
theorem dX7_hasBuilder_5 : decode cX7_hasBuilder 5 = .ok (.aload_n 0, 1) := by decide +kernel
theorem dX7_hasBuilder_6 : decode cX7_hasBuilder 6 = .ok (.getfield 31, 3) := by decide +kernel
theorem dX7_hasBuilder_9 : decode cX7_hasBuilder 9 = .ok (.if_icmp .ge 13, 3) := by decide +kernel
theorem dX7_hasBuilder_12 : decode cX7_hasBuilder 12 = .ok (.iload_n 1, 1) := by decide +kernel
theorem dX7_hasBuilder_13 : decode cX7_hasBuilder 13 = .ok (.bipush 6, 2) := by decide +kernel
theorem dX7_hasBuilder_15 : decode cX7_hasBuilder 15 = .ok (.if_icmp .ge 7, 3) := by decide +kernel
theorem dX7_hasBuilder_18 : decode cX7_hasBuilder 18 = .ok (.iconst 1, 1) := by decide +kernel
theorem dX7_hasBuilder_19 : decode cX7_hasBuilder 19 = .ok (.goto 4, 3) := by decide +kernel
theorem dX7_hasBuilder_22 : decode cX7_hasBuilder 22 = .ok (.iconst 0, 1) := by decide +kernel
theorem dX7_hasBuilder_23 : decode cX7_hasBuilder 23 = .ok (.ireturn, 1) := by decide +kernel
theorem dX7_upMask_0 : decode cX7_upMask 0 = .ok (.iconst 0, 1) := by decide +kernel
theorem dX7_upMask_1 : decode cX7_upMask 1 = .ok (.istore_n 1, 1) := by decide +kernel
theorem dX7_upMask_2 : decode cX7_upMask 2 = .ok (.iconst 0, 1) := by decide +kernel
theorem dX7_upMask_3 : decode cX7_upMask 3 = .ok (.istore_n 2, 1) := by decide +kernel
theorem dX7_upMask_4 : decode cX7_upMask 4 = .ok (.iload_n 2, 1) := by decide +kernel
theorem dX7_upMask_5 : decode cX7_upMask 5 = .ok (.aload_n 0, 1) := by decide +kernel
theorem dX7_upMask_6 : decode cX7_upMask 6 = .ok (.getfield 9, 3) := by decide +kernel
theorem dX7_upMask_9 : decode cX7_upMask 9 = .ok (.if_icmp .ge 30, 3) := by decide +kernel
theorem dX7_upMask_12 : decode cX7_upMask 12 = .ok (.iload_n 2, 1) := by decide +kernel
theorem dX7_upMask_13 : decode cX7_upMask 13 = .ok (.bipush 10, 2) := by decide +kernel
theorem dX7_upMask_15 : decode cX7_upMask 15 = .ok (.if_icmp .ge 24, 3) := by decide +kernel
theorem dX7_upMask_18 : decode cX7_upMask 18 = .ok (.aload_n 0, 1) := by decide +kernel
theorem dX7_upMask_19 : decode cX7_upMask 19 = .ok (.getfield 28, 3) := by decide +kernel
theorem dX7_upMask_22 : decode cX7_upMask 22 = .ok (.iload_n 2, 1) := by decide +kernel
theorem dX7_upMask_23 : decode cX7_upMask 23 = .ok (.iaload, 1) := by decide +kernel
theorem dX7_upMask_24 : decode cX7_upMask 24 = .ok (.ifCond .ne 9, 3) := by decide +kernel
theorem dX7_upMask_27 : decode cX7_upMask 27 = .ok (.iload_n 1, 1) := by decide +kernel
theorem dX7_upMask_28 : decode cX7_upMask 28 = .ok (.iconst 1, 1) := by decide +kernel
theorem dX7_upMask_29 : decode cX7_upMask 29 = .ok (.iload_n 2, 1) := by decide +kernel
theorem dX7_upMask_30 : decode cX7_upMask 30 = .ok (.ishl, 1) := by decide +kernel
theorem dX7_upMask_31 : decode cX7_upMask 31 = .ok (.ior, 1) := by decide +kernel
theorem dX7_upMask_32 : decode cX7_upMask 32 = .ok (.istore_n 1, 1) := by decide +kernel
theorem dX7_upMask_33 : decode cX7_upMask 33 = .ok (.iinc 2 1, 3) := by decide +kernel
theorem dX7_upMask_36 : decode cX7_upMask 36 = .ok (.goto (-32), 3) := by decide +kernel
theorem dX7_upMask_39 : decode cX7_upMask 39 = .ok (.iload_n 1, 1) := by decide +kernel
theorem dX7_upMask_40 : decode cX7_upMask 40 = .ok (.ireturn, 1) := by decide +kernel
theorem dX7_readyMask_0 : decode cX7_readyMask 0 = .ok (.aload_n 0, 1) := by decide +kernel
theorem dX7_readyMask_1 : decode cX7_readyMask 1 = .ok (.invokevirtual 94, 3) := by decide +kernel
theorem dX7_readyMask_4 : decode cX7_readyMask 4 = .ok (.istore_n 1, 1) := by decide +kernel
theorem dX7_readyMask_5 : decode cX7_readyMask 5 = .ok (.iconst 0, 1) := by decide +kernel
theorem dX7_readyMask_6 : decode cX7_readyMask 6 = .ok (.istore_n 2, 1) := by decide +kernel
theorem dX7_readyMask_7 : decode cX7_readyMask 7 = .ok (.iconst 0, 1) := by decide +kernel
theorem dX7_readyMask_8 : decode cX7_readyMask 8 = .ok (.istore_n 3, 1) := by decide +kernel
theorem dX7_readyMask_9 : decode cX7_readyMask 9 = .ok (.iload_n 3, 1) := by decide +kernel
theorem dX7_readyMask_10 : decode cX7_readyMask 10 = .ok (.aload_n 0, 1) := by decide +kernel
theorem dX7_readyMask_11 : decode cX7_readyMask 11 = .ok (.getfield 9, 3) := by decide +kernel
theorem dX7_readyMask_14 : decode cX7_readyMask 14 = .ok (.if_icmp .ge 43, 3) := by decide +kernel
theorem dX7_readyMask_17 : decode cX7_readyMask 17 = .ok (.iload_n 3, 1) := by decide +kernel
theorem dX7_readyMask_18 : decode cX7_readyMask 18 = .ok (.bipush 10, 2) := by decide +kernel
theorem dX7_readyMask_20 : decode cX7_readyMask 20 = .ok (.if_icmp .ge 37, 3) := by decide +kernel
theorem dX7_readyMask_23 : decode cX7_readyMask 23 = .ok (.aload_n 0, 1) := by decide +kernel
theorem dX7_readyMask_24 : decode cX7_readyMask 24 = .ok (.getfield 28, 3) := by decide +kernel
theorem dX7_readyMask_27 : decode cX7_readyMask 27 = .ok (.iload_n 3, 1) := by decide +kernel
theorem dX7_readyMask_28 : decode cX7_readyMask 28 = .ok (.iaload, 1) := by decide +kernel
theorem dX7_readyMask_29 : decode cX7_readyMask 29 = .ok (.ifCond .eq 22, 3) := by decide +kernel
theorem dX7_readyMask_32 : decode cX7_readyMask 32 = .ok (.aload_n 0, 1) := by decide +kernel
theorem dX7_readyMask_33 : decode cX7_readyMask 33 = .ok (.getfield 19, 3) := by decide +kernel
theorem dX7_readyMask_36 : decode cX7_readyMask 36 = .ok (.iload_n 3, 1) := by decide +kernel
theorem dX7_readyMask_37 : decode cX7_readyMask 37 = .ok (.iaload, 1) := by decide +kernel
theorem dX7_readyMask_38 : decode cX7_readyMask 38 = .ok (.iload_n 1, 1) := by decide +kernel
theorem dX7_readyMask_39 : decode cX7_readyMask 39 = .ok (.iconst (-1), 1) := by decide +kernel
theorem dX7_readyMask_40 : decode cX7_readyMask 40 = .ok (.ixor, 1) := by decide +kernel
theorem dX7_readyMask_41 : decode cX7_readyMask 41 = .ok (.iand, 1) := by decide +kernel
theorem dX7_readyMask_42 : decode cX7_readyMask 42 = .ok (.ifCond .ne 9, 3) := by decide +kernel
theorem dX7_readyMask_45 : decode cX7_readyMask 45 = .ok (.iload_n 2, 1) := by decide +kernel
theorem dX7_readyMask_46 : decode cX7_readyMask 46 = .ok (.iconst 1, 1) := by decide +kernel
theorem dX7_readyMask_47 : decode cX7_readyMask 47 = .ok (.iload_n 3, 1) := by decide +kernel
theorem dX7_readyMask_48 : decode cX7_readyMask 48 = .ok (.ishl, 1) := by decide +kernel
theorem dX7_readyMask_49 : decode cX7_readyMask 49 = .ok (.ior, 1) := by decide +kernel
theorem dX7_readyMask_50 : decode cX7_readyMask 50 = .ok (.istore_n 2, 1) := by decide +kernel
theorem dX7_readyMask_51 : decode cX7_readyMask 51 = .ok (.iinc 3 1, 3) := by decide +kernel
theorem dX7_readyMask_54 : decode cX7_readyMask 54 = .ok (.goto (-45), 3) := by decide +kernel
theorem dX7_readyMask_57 : decode cX7_readyMask 57 = .ok (.iload_n 2, 1) := by decide +kernel
theorem dX7_readyMask_58 : decode cX7_readyMask 58 = .ok (.ireturn, 1) := by decide +kernel
theorem dX7_withoutLaw_0 : decode cX7_withoutLaw 0 = .ok (.iload_n 1, 1) := by decide +kernel
theorem dX7_withoutLaw_1 : decode cX7_withoutLaw 1 = .ok (.ifCond .ne 23, 3) := by decide +kernel
theorem dX7_withoutLaw_4 : decode cX7_withoutLaw 4 = .ok (.aload_n 0, 1) := by decide +kernel
theorem dX7_withoutLaw_5 : decode cX7_withoutLaw 5 = .ok (.iload_n 2, 1) := by decide +kernel
theorem dX7_withoutLaw_6 : decode cX7_withoutLaw 6 = .ok (.iload_n 3, 1) := by decide +kernel
theorem dX7_withoutLaw_7 : decode cX7_withoutLaw 7 = .ok (.invokevirtual 152, 3) := by decide +kernel
theorem dX7_withoutLaw_10 : decode cX7_withoutLaw 10 = .ok (.ifCond .eq 12, 3) := by decide +kernel
theorem dX7_withoutLaw_13 : decode cX7_withoutLaw 13 = .ok (.aload_n 0, 1) := by decide +kernel
theorem dX7_withoutLaw_14 : decode cX7_withoutLaw 14 = .ok (.getfield 37, 3) := by decide +kernel
theorem dX7_withoutLaw_17 : decode cX7_withoutLaw 17 = .ok (.iload_n 2, 1) := by decide +kernel
theorem dX7_withoutLaw_18 : decode cX7_withoutLaw 18 = .ok (.iaload, 1) := by decide +kernel
theorem dX7_withoutLaw_19 : decode cX7_withoutLaw 19 = .ok (.goto 4, 3) := by decide +kernel
theorem dX7_withoutLaw_22 : decode cX7_withoutLaw 22 = .ok (.iconst 0, 1) := by decide +kernel
theorem dX7_withoutLaw_23 : decode cX7_withoutLaw 23 = .ok (.ireturn, 1) := by decide +kernel
theorem dX7_withoutLaw_24 : decode cX7_withoutLaw 24 = .ok (.iload_n 1, 1) := by decide +kernel
theorem dX7_withoutLaw_25 : decode cX7_withoutLaw 25 = .ok (.iconst 3, 1) := by decide +kernel
theorem dX7_withoutLaw_26 : decode cX7_withoutLaw 26 = .ok (.if_icmp .ne 7, 3) := by decide +kernel
theorem dX7_withoutLaw_29 : decode cX7_withoutLaw 29 = .ok (.iconst 0, 1) := by decide +kernel
theorem dX7_withoutLaw_30 : decode cX7_withoutLaw 30 = .ok (.goto 4, 3) := by decide +kernel
theorem dX7_withoutLaw_33 : decode cX7_withoutLaw 33 = .ok (.iconst 1, 1) := by decide +kernel
theorem dX7_withoutLaw_34 : decode cX7_withoutLaw 34 = .ok (.ireturn, 1) := by decide +kernel
theorem dX7_hasCraft_0 : decode cX7_hasCraft 0 = .ok (.aload_n 0, 1) := by decide +kernel
theorem dX7_hasCraft_1 : decode cX7_hasCraft 1 = .ok (.getfield 34, 3) := by decide +kernel
theorem dX7_hasCraft_4 : decode cX7_hasCraft 4 = .ok (.iload_n 1, 1) := by decide +kernel
theorem dX7_hasCraft_5 : decode cX7_hasCraft 5 = .ok (.iaload, 1) := by decide +kernel
theorem dX7_hasCraft_6 : decode cX7_hasCraft 6 = .ok (.aload_n 0, 1) := by decide +kernel
theorem dX7_hasCraft_7 : decode cX7_hasCraft 7 = .ok (.getfield 22, 3) := by decide +kernel
theorem dX7_hasCraft_10 : decode cX7_hasCraft 10 = .ok (.iload_n 2, 1) := by decide +kernel
theorem dX7_hasCraft_11 : decode cX7_hasCraft 11 = .ok (.iaload, 1) := by decide +kernel
theorem dX7_hasCraft_12 : decode cX7_hasCraft 12 = .ok (.ishr, 1) := by decide +kernel
theorem dX7_hasCraft_13 : decode cX7_hasCraft 13 = .ok (.iconst 1, 1) := by decide +kernel
theorem dX7_hasCraft_14 : decode cX7_hasCraft 14 = .ok (.iand, 1) := by decide +kernel
theorem dX7_hasCraft_15 : decode cX7_hasCraft 15 = .ok (.iconst 1, 1) := by decide +kernel
theorem dX7_hasCraft_16 : decode cX7_hasCraft 16 = .ok (.if_icmp .ne 7, 3) := by decide +kernel
theorem dX7_hasCraft_19 : decode cX7_hasCraft 19 = .ok (.iconst 1, 1) := by decide +kernel
theorem dX7_hasCraft_20 : decode cX7_hasCraft 20 = .ok (.goto 4, 3) := by decide +kernel
theorem dX7_hasCraft_23 : decode cX7_hasCraft 23 = .ok (.iconst 0, 1) := by decide +kernel
theorem dX7_hasCraft_24 : decode cX7_hasCraft 24 = .ok (.ireturn, 1) := by decide +kernel
theorem dX7_writeWords_0 : decode cX7_writeWords 0 = .ok (.iconst 0, 1) := by decide +kernel
theorem dX7_writeWords_1 : decode cX7_writeWords 1 = .ok (.istore_n 3, 1) := by decide +kernel
theorem dX7_writeWords_2 : decode cX7_writeWords 2 = .ok (.iconst 0, 1) := by decide +kernel
theorem dX7_writeWords_3 : decode cX7_writeWords 3 = .ok (.istore 4, 2) := by decide +kernel
theorem dX7_writeWords_5 : decode cX7_writeWords 5 = .ok (.iload 4, 2) := by decide +kernel
theorem dX7_writeWords_7 : decode cX7_writeWords 7 = .ok (.aload_n 0, 1) := by decide +kernel
theorem dX7_writeWords_8 : decode cX7_writeWords 8 = .ok (.getfield 31, 3) := by decide +kernel
theorem dX7_writeWords_11 : decode cX7_writeWords 11 = .ok (.if_icmp .ge 36, 3) := by decide +kernel
theorem dX7_writeWords_14 : decode cX7_writeWords 14 = .ok (.iload 4, 2) := by decide +kernel
theorem dX7_writeWords_16 : decode cX7_writeWords 16 = .ok (.bipush 6, 2) := by decide +kernel
theorem dX7_writeWords_18 : decode cX7_writeWords 18 = .ok (.if_icmp .ge 29, 3) := by decide +kernel
theorem dX7_writeWords_21 : decode cX7_writeWords 21 = .ok (.iload 4, 2) := by decide +kernel
theorem dX7_writeWords_23 : decode cX7_writeWords 23 = .ok (.iload_n 1, 1) := by decide +kernel
theorem dX7_writeWords_24 : decode cX7_writeWords 24 = .ok (.if_icmp .eq 17, 3) := by decide +kernel
theorem dX7_writeWords_27 : decode cX7_writeWords 27 = .ok (.aload_n 0, 1) := by decide +kernel
theorem dX7_writeWords_28 : decode cX7_writeWords 28 = .ok (.getfield 43, 3) := by decide +kernel
theorem dX7_writeWords_31 : decode cX7_writeWords 31 = .ok (.iload 4, 2) := by decide +kernel
theorem dX7_writeWords_33 : decode cX7_writeWords 33 = .ok (.iaload, 1) := by decide +kernel
theorem dX7_writeWords_34 : decode cX7_writeWords 34 = .ok (.iload_n 2, 1) := by decide +kernel
theorem dX7_writeWords_35 : decode cX7_writeWords 35 = .ok (.if_icmp .ne 6, 3) := by decide +kernel
theorem dX7_writeWords_38 : decode cX7_writeWords 38 = .ok (.iinc 3 1, 3) := by decide +kernel
theorem dX7_writeWords_41 : decode cX7_writeWords 41 = .ok (.iinc 4 1, 3) := by decide +kernel
theorem dX7_writeWords_44 : decode cX7_writeWords 44 = .ok (.goto (-39), 3) := by decide +kernel
theorem dX7_writeWords_47 : decode cX7_writeWords 47 = .ok (.aload_n 0, 1) := by decide +kernel
theorem dX7_writeWords_48 : decode cX7_writeWords 48 = .ok (.getfield 84, 3) := by decide +kernel
theorem dX7_writeWords_51 : decode cX7_writeWords 51 = .ok (.getfield 134, 3) := by decide +kernel
theorem dX7_writeWords_54 : decode cX7_writeWords 54 = .ok (.iconst 0, 1) := by decide +kernel
theorem dX7_writeWords_55 : decode cX7_writeWords 55 = .ok (.iload_n 1, 1) := by decide +kernel
theorem dX7_writeWords_56 : decode cX7_writeWords 56 = .ok (.i2l, 1) := by decide +kernel
theorem dX7_writeWords_57 : decode cX7_writeWords 57 = .ok (.lastore, 1) := by decide +kernel
theorem dX7_writeWords_58 : decode cX7_writeWords 58 = .ok (.aload_n 0, 1) := by decide +kernel
theorem dX7_writeWords_59 : decode cX7_writeWords 59 = .ok (.getfield 84, 3) := by decide +kernel
theorem dX7_writeWords_62 : decode cX7_writeWords 62 = .ok (.getfield 134, 3) := by decide +kernel
theorem dX7_writeWords_65 : decode cX7_writeWords 65 = .ok (.iconst 1, 1) := by decide +kernel
theorem dX7_writeWords_66 : decode cX7_writeWords 66 = .ok (.aload_n 0, 1) := by decide +kernel
theorem dX7_writeWords_67 : decode cX7_writeWords 67 = .ok (.getfield 37, 3) := by decide +kernel
theorem dX7_writeWords_70 : decode cX7_writeWords 70 = .ok (.iload_n 1, 1) := by decide +kernel
theorem dX7_writeWords_71 : decode cX7_writeWords 71 = .ok (.iaload, 1) := by decide +kernel
theorem dX7_writeWords_72 : decode cX7_writeWords 72 = .ok (.i2l, 1) := by decide +kernel
theorem dX7_writeWords_73 : decode cX7_writeWords 73 = .ok (.lastore, 1) := by decide +kernel
theorem dX7_writeWords_74 : decode cX7_writeWords 74 = .ok (.aload_n 0, 1) := by decide +kernel
theorem dX7_writeWords_75 : decode cX7_writeWords 75 = .ok (.getfield 84, 3) := by decide +kernel
theorem dX7_writeWords_78 : decode cX7_writeWords 78 = .ok (.getfield 134, 3) := by decide +kernel
theorem dX7_writeWords_81 : decode cX7_writeWords 81 = .ok (.iconst 2, 1) := by decide +kernel
theorem dX7_writeWords_82 : decode cX7_writeWords 82 = .ok (.aload_n 0, 1) := by decide +kernel
theorem dX7_writeWords_83 : decode cX7_writeWords 83 = .ok (.getfield 40, 3) := by decide +kernel
theorem dX7_writeWords_86 : decode cX7_writeWords 86 = .ok (.iload_n 1, 1) := by decide +kernel
theorem dX7_writeWords_87 : decode cX7_writeWords 87 = .ok (.iaload, 1) := by decide +kernel
theorem dX7_writeWords_88 : decode cX7_writeWords 88 = .ok (.i2l, 1) := by decide +kernel
theorem dX7_writeWords_89 : decode cX7_writeWords 89 = .ok (.lastore, 1) := by decide +kernel
theorem dX7_writeWords_90 : decode cX7_writeWords 90 = .ok (.aload_n 0, 1) := by decide +kernel
theorem dX7_writeWords_91 : decode cX7_writeWords 91 = .ok (.getfield 84, 3) := by decide +kernel
theorem dX7_writeWords_94 : decode cX7_writeWords 94 = .ok (.getfield 134, 3) := by decide +kernel
theorem dX7_writeWords_97 : decode cX7_writeWords 97 = .ok (.iconst 3, 1) := by decide +kernel
theorem dX7_writeWords_98 : decode cX7_writeWords 98 = .ok (.iload_n 2, 1) := by decide +kernel
theorem dX7_writeWords_99 : decode cX7_writeWords 99 = .ok (.i2l, 1) := by decide +kernel
theorem dX7_writeWords_100 : decode cX7_writeWords 100 = .ok (.lastore, 1) := by decide +kernel
theorem dX7_writeWords_101 : decode cX7_writeWords 101 = .ok (.aload_n 0, 1) := by decide +kernel
theorem dX7_writeWords_102 : decode cX7_writeWords 102 = .ok (.getfield 84, 3) := by decide +kernel
theorem dX7_writeWords_105 : decode cX7_writeWords 105 = .ok (.getfield 134, 3) := by decide +kernel
theorem dX7_writeWords_108 : decode cX7_writeWords 108 = .ok (.iconst 4, 1) := by decide +kernel
theorem dX7_writeWords_109 : decode cX7_writeWords 109 = .ok (.aload_n 0, 1) := by decide +kernel
theorem dX7_writeWords_110 : decode cX7_writeWords 110 = .ok (.getfield 34, 3) := by decide +kernel
theorem dX7_writeWords_113 : decode cX7_writeWords 113 = .ok (.iload_n 1, 1) := by decide +kernel
theorem dX7_writeWords_114 : decode cX7_writeWords 114 = .ok (.iaload, 1) := by decide +kernel
theorem dX7_writeWords_115 : decode cX7_writeWords 115 = .ok (.aload_n 0, 1) := by decide +kernel
theorem dX7_writeWords_116 : decode cX7_writeWords 116 = .ok (.getfield 22, 3) := by decide +kernel
theorem dX7_writeWords_119 : decode cX7_writeWords 119 = .ok (.iload_n 2, 1) := by decide +kernel
theorem dX7_writeWords_120 : decode cX7_writeWords 120 = .ok (.iaload, 1) := by decide +kernel
theorem dX7_writeWords_121 : decode cX7_writeWords 121 = .ok (.ishr, 1) := by decide +kernel
theorem dX7_writeWords_122 : decode cX7_writeWords 122 = .ok (.iconst 1, 1) := by decide +kernel
theorem dX7_writeWords_123 : decode cX7_writeWords 123 = .ok (.iand, 1) := by decide +kernel
theorem dX7_writeWords_124 : decode cX7_writeWords 124 = .ok (.i2l, 1) := by decide +kernel
theorem dX7_writeWords_125 : decode cX7_writeWords 125 = .ok (.lastore, 1) := by decide +kernel
theorem dX7_writeWords_126 : decode cX7_writeWords 126 = .ok (.aload_n 0, 1) := by decide +kernel
theorem dX7_writeWords_127 : decode cX7_writeWords 127 = .ok (.getfield 84, 3) := by decide +kernel
theorem dX7_writeWords_130 : decode cX7_writeWords 130 = .ok (.getfield 134, 3) := by decide +kernel
theorem dX7_writeWords_133 : decode cX7_writeWords 133 = .ok (.iconst 5, 1) := by decide +kernel
theorem dX7_writeWords_134 : decode cX7_writeWords 134 = .ok (.aload_n 0, 1) := by decide +kernel
theorem dX7_writeWords_135 : decode cX7_writeWords 135 = .ok (.getfield 25, 3) := by decide +kernel
theorem dX7_writeWords_138 : decode cX7_writeWords 138 = .ok (.iload_n 2, 1) := by decide +kernel
theorem dX7_writeWords_139 : decode cX7_writeWords 139 = .ok (.iaload, 1) := by decide +kernel
theorem dX7_writeWords_140 : decode cX7_writeWords 140 = .ok (.i2l, 1) := by decide +kernel
theorem dX7_writeWords_141 : decode cX7_writeWords 141 = .ok (.lastore, 1) := by decide +kernel
theorem dX7_writeWords_142 : decode cX7_writeWords 142 = .ok (.aload_n 0, 1) := by decide +kernel
theorem dX7_writeWords_143 : decode cX7_writeWords 143 = .ok (.getfield 84, 3) := by decide +kernel
theorem dX7_writeWords_146 : decode cX7_writeWords 146 = .ok (.getfield 134, 3) := by decide +kernel
theorem dX7_writeWords_149 : decode cX7_writeWords 149 = .ok (.bipush 6, 2) := by decide +kernel
theorem dX7_writeWords_151 : decode cX7_writeWords 151 = .ok (.aload_n 0, 1) := by decide +kernel
theorem dX7_writeWords_152 : decode cX7_writeWords 152 = .ok (.getfield 28, 3) := by decide +kernel
theorem dX7_writeWords_155 : decode cX7_writeWords 155 = .ok (.iload_n 2, 1) := by decide +kernel
theorem dX7_writeWords_156 : decode cX7_writeWords 156 = .ok (.iaload, 1) := by decide +kernel
theorem dX7_writeWords_157 : decode cX7_writeWords 157 = .ok (.i2l, 1) := by decide +kernel
theorem dX7_writeWords_158 : decode cX7_writeWords 158 = .ok (.lastore, 1) := by decide +kernel
theorem dX7_writeWords_159 : decode cX7_writeWords 159 = .ok (.aload_n 0, 1) := by decide +kernel
theorem dX7_writeWords_160 : decode cX7_writeWords 160 = .ok (.getfield 84, 3) := by decide +kernel
theorem dX7_writeWords_163 : decode cX7_writeWords 163 = .ok (.getfield 134, 3) := by decide +kernel
theorem dX7_writeWords_166 : decode cX7_writeWords 166 = .ok (.bipush 7, 2) := by decide +kernel
theorem dX7_writeWords_168 : decode cX7_writeWords 168 = .ok (.iload_n 3, 1) := by decide +kernel
theorem dX7_writeWords_169 : decode cX7_writeWords 169 = .ok (.i2l, 1) := by decide +kernel
theorem dX7_writeWords_170 : decode cX7_writeWords 170 = .ok (.lastore, 1) := by decide +kernel
theorem dX7_writeWords_171 : decode cX7_writeWords 171 = .ok (.aload_n 0, 1) := by decide +kernel
theorem dX7_writeWords_172 : decode cX7_writeWords 172 = .ok (.getfield 84, 3) := by decide +kernel
theorem dX7_writeWords_175 : decode cX7_writeWords 175 = .ok (.getfield 134, 3) := by decide +kernel
theorem dX7_writeWords_178 : decode cX7_writeWords 178 = .ok (.bipush 8, 2) := by decide +kernel
theorem dX7_writeWords_180 : decode cX7_writeWords 180 = .ok (.aload_n 0, 1) := by decide +kernel
theorem dX7_writeWords_181 : decode cX7_writeWords 181 = .ok (.getfield 54, 3) := by decide +kernel
theorem dX7_writeWords_184 : decode cX7_writeWords 184 = .ok (.iconst 0, 1) := by decide +kernel
theorem dX7_writeWords_185 : decode cX7_writeWords 185 = .ok (.iaload, 1) := by decide +kernel
theorem dX7_writeWords_186 : decode cX7_writeWords 186 = .ok (.i2l, 1) := by decide +kernel
theorem dX7_writeWords_187 : decode cX7_writeWords 187 = .ok (.lastore, 1) := by decide +kernel
theorem dX7_writeWords_188 : decode cX7_writeWords 188 = .ok (.aload_n 0, 1) := by decide +kernel
theorem dX7_writeWords_189 : decode cX7_writeWords 189 = .ok (.getfield 84, 3) := by decide +kernel
theorem dX7_writeWords_192 : decode cX7_writeWords 192 = .ok (.getfield 134, 3) := by decide +kernel
theorem dX7_writeWords_195 : decode cX7_writeWords 195 = .ok (.bipush 9, 2) := by decide +kernel
theorem dX7_writeWords_197 : decode cX7_writeWords 197 = .ok (.aload_n 0, 1) := by decide +kernel
theorem dX7_writeWords_198 : decode cX7_writeWords 198 = .ok (.getfield 54, 3) := by decide +kernel
theorem dX7_writeWords_201 : decode cX7_writeWords 201 = .ok (.iconst 3, 1) := by decide +kernel
theorem dX7_writeWords_202 : decode cX7_writeWords 202 = .ok (.iaload, 1) := by decide +kernel
theorem dX7_writeWords_203 : decode cX7_writeWords 203 = .ok (.i2l, 1) := by decide +kernel
theorem dX7_writeWords_204 : decode cX7_writeWords 204 = .ok (.lastore, 1) := by decide +kernel
theorem dX7_writeWords_205 : decode cX7_writeWords 205 = .ok (.return_, 1) := by decide +kernel
theorem dX10_joined_0 : decode cX10_joined 0 = .ok (.iload_n 0, 1) := by decide +kernel
theorem dX10_joined_1 : decode cX10_joined 1 = .ok (.tableswitch 131 5 11 #[43, 51, 59, 67, 87, 107, 119], 43) := by decide +kernel
theorem dX10_joined_44 : decode cX10_joined 44 = .ok (.lload_n 1, 1) := by decide +kernel
theorem dX10_joined_45 : decode cX10_joined 45 = .ok (.lload_n 3, 1) := by decide +kernel
theorem dX10_joined_46 : decode cX10_joined 46 = .ok (.ladd, 1) := by decide +kernel
theorem dX10_joined_47 : decode cX10_joined 47 = .ok (.lstore 5, 2) := by decide +kernel
theorem dX10_joined_49 : decode cX10_joined 49 = .ok (.goto 95, 3) := by decide +kernel
theorem dX10_joined_52 : decode cX10_joined 52 = .ok (.lload_n 1, 1) := by decide +kernel
theorem dX10_joined_53 : decode cX10_joined 53 = .ok (.lload_n 3, 1) := by decide +kernel
theorem dX10_joined_54 : decode cX10_joined 54 = .ok (.lsub, 1) := by decide +kernel
theorem dX10_joined_55 : decode cX10_joined 55 = .ok (.lstore 5, 2) := by decide +kernel
theorem dX10_joined_57 : decode cX10_joined 57 = .ok (.goto 87, 3) := by decide +kernel
theorem dX10_joined_60 : decode cX10_joined 60 = .ok (.lload_n 1, 1) := by decide +kernel
theorem dX10_joined_61 : decode cX10_joined 61 = .ok (.lload_n 3, 1) := by decide +kernel
theorem dX10_joined_62 : decode cX10_joined 62 = .ok (.lmul, 1) := by decide +kernel
theorem dX10_joined_63 : decode cX10_joined 63 = .ok (.lstore 5, 2) := by decide +kernel
theorem dX10_joined_65 : decode cX10_joined 65 = .ok (.goto 79, 3) := by decide +kernel
theorem dX10_joined_68 : decode cX10_joined 68 = .ok (.lload_n 3, 1) := by decide +kernel
theorem dX10_joined_69 : decode cX10_joined 69 = .ok (.lconst 0, 1) := by decide +kernel
theorem dX10_joined_70 : decode cX10_joined 70 = .ok (.lcmp, 1) := by decide +kernel
theorem dX10_joined_71 : decode cX10_joined 71 = .ok (.ifCond .ne 9, 3) := by decide +kernel
theorem dX10_joined_74 : decode cX10_joined 74 = .ok (.ldc2_w 52, 3) := by decide +kernel
theorem dX10_joined_77 : decode cX10_joined 77 = .ok (.goto 6, 3) := by decide +kernel
theorem dX10_joined_80 : decode cX10_joined 80 = .ok (.lload_n 1, 1) := by decide +kernel
theorem dX10_joined_81 : decode cX10_joined 81 = .ok (.lload_n 3, 1) := by decide +kernel
theorem dX10_joined_82 : decode cX10_joined 82 = .ok (.ldiv, 1) := by decide +kernel
theorem dX10_joined_83 : decode cX10_joined 83 = .ok (.lstore 5, 2) := by decide +kernel
theorem dX10_joined_85 : decode cX10_joined 85 = .ok (.goto 59, 3) := by decide +kernel
theorem dX10_joined_88 : decode cX10_joined 88 = .ok (.lload_n 3, 1) := by decide +kernel
theorem dX10_joined_89 : decode cX10_joined 89 = .ok (.lconst 0, 1) := by decide +kernel
theorem dX10_joined_90 : decode cX10_joined 90 = .ok (.lcmp, 1) := by decide +kernel
theorem dX10_joined_91 : decode cX10_joined 91 = .ok (.ifCond .ne 9, 3) := by decide +kernel
theorem dX10_joined_94 : decode cX10_joined 94 = .ok (.ldc2_w 52, 3) := by decide +kernel
theorem dX10_joined_97 : decode cX10_joined 97 = .ok (.goto 6, 3) := by decide +kernel
theorem dX10_joined_100 : decode cX10_joined 100 = .ok (.lload_n 1, 1) := by decide +kernel
theorem dX10_joined_101 : decode cX10_joined 101 = .ok (.lload_n 3, 1) := by decide +kernel
theorem dX10_joined_102 : decode cX10_joined 102 = .ok (.lrem, 1) := by decide +kernel
theorem dX10_joined_103 : decode cX10_joined 103 = .ok (.lstore 5, 2) := by decide +kernel
theorem dX10_joined_105 : decode cX10_joined 105 = .ok (.goto 39, 3) := by decide +kernel
theorem dX10_joined_108 : decode cX10_joined 108 = .ok (.lload_n 1, 1) := by decide +kernel
theorem dX10_joined_109 : decode cX10_joined 109 = .ok (.lload_n 3, 1) := by decide +kernel
theorem dX10_joined_110 : decode cX10_joined 110 = .ok (.lcmp, 1) := by decide +kernel
theorem dX10_joined_111 : decode cX10_joined 111 = .ok (.ifCond .ge 7, 3) := by decide +kernel
theorem dX10_joined_114 : decode cX10_joined 114 = .ok (.lconst 1, 1) := by decide +kernel
theorem dX10_joined_115 : decode cX10_joined 115 = .ok (.goto 4, 3) := by decide +kernel
theorem dX10_joined_118 : decode cX10_joined 118 = .ok (.lconst 0, 1) := by decide +kernel
theorem dX10_joined_119 : decode cX10_joined 119 = .ok (.lreturn, 1) := by decide +kernel
theorem dX10_joined_120 : decode cX10_joined 120 = .ok (.lload_n 1, 1) := by decide +kernel
theorem dX10_joined_121 : decode cX10_joined 121 = .ok (.lload_n 3, 1) := by decide +kernel
theorem dX10_joined_122 : decode cX10_joined 122 = .ok (.lcmp, 1) := by decide +kernel
theorem dX10_joined_123 : decode cX10_joined 123 = .ok (.ifCond .le 7, 3) := by decide +kernel
theorem dX10_joined_126 : decode cX10_joined 126 = .ok (.lconst 1, 1) := by decide +kernel
theorem dX10_joined_127 : decode cX10_joined 127 = .ok (.goto 4, 3) := by decide +kernel
theorem dX10_joined_130 : decode cX10_joined 130 = .ok (.lconst 0, 1) := by decide +kernel
theorem dX10_joined_131 : decode cX10_joined 131 = .ok (.lreturn, 1) := by decide +kernel
theorem dX10_joined_132 : decode cX10_joined 132 = .ok (.lload_n 1, 1) := by decide +kernel
theorem dX10_joined_133 : decode cX10_joined 133 = .ok (.lload_n 3, 1) := by decide +kernel
theorem dX10_joined_134 : decode cX10_joined 134 = .ok (.lcmp, 1) := by decide +kernel
theorem dX10_joined_135 : decode cX10_joined 135 = .ok (.ifCond .ne 7, 3) := by decide +kernel
theorem dX10_joined_138 : decode cX10_joined 138 = .ok (.lconst 1, 1) := by decide +kernel
theorem dX10_joined_139 : decode cX10_joined 139 = .ok (.goto 4, 3) := by decide +kernel
theorem dX10_joined_142 : decode cX10_joined 142 = .ok (.lconst 0, 1) := by decide +kernel
theorem dX10_joined_143 : decode cX10_joined 143 = .ok (.lreturn, 1) := by decide +kernel
theorem dX10_joined_144 : decode cX10_joined 144 = .ok (.lload 5, 2) := by decide +kernel
theorem dX10_joined_146 : decode cX10_joined 146 = .ok (.ldc2_w 58, 3) := by decide +kernel
theorem dX10_joined_149 : decode cX10_joined 149 = .ok (.lcmp, 1) := by decide +kernel
theorem dX10_joined_150 : decode cX10_joined 150 = .ok (.ifCond .lt 12, 3) := by decide +kernel
theorem dX10_joined_153 : decode cX10_joined 153 = .ok (.lload 5, 2) := by decide +kernel
theorem dX10_joined_155 : decode cX10_joined 155 = .ok (.ldc2_w 60, 3) := by decide +kernel
theorem dX10_joined_158 : decode cX10_joined 158 = .ok (.lcmp, 1) := by decide +kernel
theorem dX10_joined_159 : decode cX10_joined 159 = .ok (.ifCond .le 9, 3) := by decide +kernel
theorem dX10_joined_162 : decode cX10_joined 162 = .ok (.ldc2_w 52, 3) := by decide +kernel
theorem dX10_joined_165 : decode cX10_joined 165 = .ok (.goto 5, 3) := by decide +kernel
theorem dX10_joined_168 : decode cX10_joined 168 = .ok (.lload 5, 2) := by decide +kernel
theorem dX10_joined_170 : decode cX10_joined 170 = .ok (.lreturn, 1) := by decide +kernel
theorem dJ6_bitCount_0f7a4_0 : decode cJ6_bitCount_0f7a4 0 = .ok (.iload_n 0, 1) := by decide +kernel
theorem dJ6_bitCount_0f7a4_1 : decode cJ6_bitCount_0f7a4 1 = .ok (.iload_n 0, 1) := by decide +kernel
theorem dJ6_bitCount_0f7a4_2 : decode cJ6_bitCount_0f7a4 2 = .ok (.iconst 1, 1) := by decide +kernel
theorem dJ6_bitCount_0f7a4_3 : decode cJ6_bitCount_0f7a4 3 = .ok (.iushr, 1) := by decide +kernel
theorem dJ6_bitCount_0f7a4_4 : decode cJ6_bitCount_0f7a4 4 = .ok (.ldc_w 265, 3) := by decide +kernel
theorem dJ6_bitCount_0f7a4_7 : decode cJ6_bitCount_0f7a4 7 = .ok (.iand, 1) := by decide +kernel
theorem dJ6_bitCount_0f7a4_8 : decode cJ6_bitCount_0f7a4 8 = .ok (.isub, 1) := by decide +kernel
theorem dJ6_bitCount_0f7a4_9 : decode cJ6_bitCount_0f7a4 9 = .ok (.istore_n 0, 1) := by decide +kernel
theorem dJ6_bitCount_0f7a4_10 : decode cJ6_bitCount_0f7a4 10 = .ok (.iload_n 0, 1) := by decide +kernel
theorem dJ6_bitCount_0f7a4_11 : decode cJ6_bitCount_0f7a4 11 = .ok (.ldc_w 266, 3) := by decide +kernel
theorem dJ6_bitCount_0f7a4_14 : decode cJ6_bitCount_0f7a4 14 = .ok (.iand, 1) := by decide +kernel
theorem dJ6_bitCount_0f7a4_15 : decode cJ6_bitCount_0f7a4 15 = .ok (.iload_n 0, 1) := by decide +kernel
theorem dJ6_bitCount_0f7a4_16 : decode cJ6_bitCount_0f7a4 16 = .ok (.iconst 2, 1) := by decide +kernel
theorem dJ6_bitCount_0f7a4_17 : decode cJ6_bitCount_0f7a4 17 = .ok (.iushr, 1) := by decide +kernel
theorem dJ6_bitCount_0f7a4_18 : decode cJ6_bitCount_0f7a4 18 = .ok (.ldc_w 266, 3) := by decide +kernel
theorem dJ6_bitCount_0f7a4_21 : decode cJ6_bitCount_0f7a4 21 = .ok (.iand, 1) := by decide +kernel
theorem dJ6_bitCount_0f7a4_22 : decode cJ6_bitCount_0f7a4 22 = .ok (.iadd, 1) := by decide +kernel
theorem dJ6_bitCount_0f7a4_23 : decode cJ6_bitCount_0f7a4 23 = .ok (.istore_n 0, 1) := by decide +kernel
theorem dJ6_bitCount_0f7a4_24 : decode cJ6_bitCount_0f7a4 24 = .ok (.iload_n 0, 1) := by decide +kernel
theorem dJ6_bitCount_0f7a4_25 : decode cJ6_bitCount_0f7a4 25 = .ok (.iload_n 0, 1) := by decide +kernel
theorem dJ6_bitCount_0f7a4_26 : decode cJ6_bitCount_0f7a4 26 = .ok (.iconst 4, 1) := by decide +kernel
theorem dJ6_bitCount_0f7a4_27 : decode cJ6_bitCount_0f7a4 27 = .ok (.iushr, 1) := by decide +kernel
theorem dJ6_bitCount_0f7a4_28 : decode cJ6_bitCount_0f7a4 28 = .ok (.iadd, 1) := by decide +kernel
theorem dJ6_bitCount_0f7a4_29 : decode cJ6_bitCount_0f7a4 29 = .ok (.ldc_w 267, 3) := by decide +kernel
theorem dJ6_bitCount_0f7a4_32 : decode cJ6_bitCount_0f7a4 32 = .ok (.iand, 1) := by decide +kernel
theorem dJ6_bitCount_0f7a4_33 : decode cJ6_bitCount_0f7a4 33 = .ok (.istore_n 0, 1) := by decide +kernel
theorem dJ6_bitCount_0f7a4_34 : decode cJ6_bitCount_0f7a4 34 = .ok (.iload_n 0, 1) := by decide +kernel
theorem dJ6_bitCount_0f7a4_35 : decode cJ6_bitCount_0f7a4 35 = .ok (.iload_n 0, 1) := by decide +kernel
theorem dJ6_bitCount_0f7a4_36 : decode cJ6_bitCount_0f7a4 36 = .ok (.bipush 8, 2) := by decide +kernel
theorem dJ6_bitCount_0f7a4_38 : decode cJ6_bitCount_0f7a4 38 = .ok (.iushr, 1) := by decide +kernel
theorem dJ6_bitCount_0f7a4_39 : decode cJ6_bitCount_0f7a4 39 = .ok (.iadd, 1) := by decide +kernel
theorem dJ6_bitCount_0f7a4_40 : decode cJ6_bitCount_0f7a4 40 = .ok (.istore_n 0, 1) := by decide +kernel
theorem dJ6_bitCount_0f7a4_41 : decode cJ6_bitCount_0f7a4 41 = .ok (.iload_n 0, 1) := by decide +kernel
theorem dJ6_bitCount_0f7a4_42 : decode cJ6_bitCount_0f7a4 42 = .ok (.iload_n 0, 1) := by decide +kernel
theorem dJ6_bitCount_0f7a4_43 : decode cJ6_bitCount_0f7a4 43 = .ok (.bipush 16, 2) := by decide +kernel
theorem dJ6_bitCount_0f7a4_45 : decode cJ6_bitCount_0f7a4 45 = .ok (.iushr, 1) := by decide +kernel
theorem dJ6_bitCount_0f7a4_46 : decode cJ6_bitCount_0f7a4 46 = .ok (.iadd, 1) := by decide +kernel
theorem dJ6_bitCount_0f7a4_47 : decode cJ6_bitCount_0f7a4 47 = .ok (.istore_n 0, 1) := by decide +kernel
theorem dJ6_bitCount_0f7a4_48 : decode cJ6_bitCount_0f7a4 48 = .ok (.iload_n 0, 1) := by decide +kernel
theorem dJ6_bitCount_0f7a4_49 : decode cJ6_bitCount_0f7a4 49 = .ok (.bipush 63, 2) := by decide +kernel
theorem dJ6_bitCount_0f7a4_51 : decode cJ6_bitCount_0f7a4 51 = .ok (.iand, 1) := by decide +kernel
theorem dJ6_bitCount_0f7a4_52 : decode cJ6_bitCount_0f7a4 52 = .ok (.ireturn, 1) := by decide +kernel
theorem dJ7_fill_53178_0 : decode cJ7_fill_53178 0 = .ok (.iconst 0, 1) := by decide +kernel
theorem dJ7_fill_53178_1 : decode cJ7_fill_53178 1 = .ok (.istore_n 2, 1) := by decide +kernel
theorem dJ7_fill_53178_2 : decode cJ7_fill_53178 2 = .ok (.aload_n 0, 1) := by decide +kernel
theorem dJ7_fill_53178_3 : decode cJ7_fill_53178 3 = .ok (.arraylength, 1) := by decide +kernel
theorem dJ7_fill_53178_4 : decode cJ7_fill_53178 4 = .ok (.istore_n 3, 1) := by decide +kernel
theorem dJ7_fill_53178_5 : decode cJ7_fill_53178 5 = .ok (.iload_n 2, 1) := by decide +kernel
theorem dJ7_fill_53178_6 : decode cJ7_fill_53178 6 = .ok (.iload_n 3, 1) := by decide +kernel
theorem dJ7_fill_53178_7 : decode cJ7_fill_53178 7 = .ok (.if_icmp .ge 13, 3) := by decide +kernel
theorem dJ7_fill_53178_10 : decode cJ7_fill_53178 10 = .ok (.aload_n 0, 1) := by decide +kernel
theorem dJ7_fill_53178_11 : decode cJ7_fill_53178 11 = .ok (.iload_n 2, 1) := by decide +kernel
theorem dJ7_fill_53178_12 : decode cJ7_fill_53178 12 = .ok (.iload_n 1, 1) := by decide +kernel
theorem dJ7_fill_53178_13 : decode cJ7_fill_53178 13 = .ok (.iastore, 1) := by decide +kernel
theorem dJ7_fill_53178_14 : decode cJ7_fill_53178 14 = .ok (.iinc 2 1, 3) := by decide +kernel
theorem dJ7_fill_53178_17 : decode cJ7_fill_53178 17 = .ok (.goto (-12), 3) := by decide +kernel
theorem dJ7_fill_53178_20 : decode cJ7_fill_53178 20 = .ok (.return_, 1) := by decide +kernel
theorem wt4_101 : Cond.constant RJ6 265 (1431655765) ∈ kG := kt4 101 rfl rfl
theorem wt4_102 : Cond.constant RJ6 266 (858993459) ∈ kG := kt4 102 rfl rfl
theorem wt4_103 : Cond.constant RJ6 267 (252645135) ∈ kG := kt4 103 rfl rfl
theorem wt3_104 : Cond.constantLong RX10 58 (-1000000000) ∈ kG := kt3 104 rfl rfl
theorem wt3_100 : Cond.constantLong RX10 52 (-1000000000000) ∈ kG := kt3 100 rfl rfl
theorem wt3_105 : Cond.constantLong RX10 60 (1000000000) ∈ kG := kt3 105 rfl rfl
theorem wt3_46 : Cond.code yX7_upMask cX7_upMask 3 (some .int) ∈ kG := kt3 46 rfl rfl
theorem wt3_43 : Cond.methodLink RX7 94 yX7_upMask ∈ kG := kt3 43 rfl rfl
theorem wt3_44 : Cond.instanceMethod yX7_upMask ∈ kG := kt3 44 rfl rfl
theorem wt3_45 : Cond.selects RX7 yX7_upMask yX7_upMask ∈ kG := kt3 45 rfl rfl
theorem wt3_91 : Cond.code yX7_hasCraft cX7_hasCraft 3 (some .boolean) ∈ kG := kt3 91 rfl rfl
theorem wt3_88 : Cond.methodLink RX7 152 yX7_hasCraft ∈ kG := kt3 88 rfl rfl
theorem wt3_90 : Cond.instanceMethod yX7_hasCraft ∈ kG := kt3 90 rfl rfl
theorem wp1_4 : Cond.selects RX7 yX7_hasCraft yX7_hasCraft ∈ kG := kp1 4 rfl rfl
theorem wt1_54 : Cond.fieldLink RX7 134 "SunriseRoof$Slate" "words" "[J" ∈ kG := kt1 54 rfl rfl
theorem kcl_m1000000000000 : kbl (-1000000000000) (-1000000000000) (-1000000000000) := ⟨by decide +kernel, by decide +kernel⟩
set_option maxHeartbeats 4000000 in
set_option maxRecDepth 100000 in
/-- Arrays.fill -/
theorem x_fill (l : Launch) {D : va_G} {K : Nat → ClassId} (q n : Nat) (b : Nat → Int32) (v : Int32) (hn : n < 2 ^ 31) : kV l yJ7_fill_53178 (Cond.code yJ7_fill_53178 cJ7_fill_53178 4 none :: kG) (rmD 1 0 0) D (tysK K) [.ref q, .int v] [(q, .inl (K 0, n, .inl b))] (fun (u : Nat → Int32) => ∀ j, j < n → u j = v) (fun u => [(q, .inl (K 0, n, .inl u))]) 0 0 := by
  refine kV.of (cc := cJ7_fill_53178) (maxL := 4) (ret := none) (by decide) rfl (Nat.le_of_ble_eq_true rfl) ?_
  intro p e s m below meth c A hx hb hr hml hown hts hlocks hnm hK hP hD hS hA ls hl
  have hl : lv_has ls 4 [(0, .ref q), (1, .int v)] := hl
  refine lv_iconst (v := 0) hx hb dJ7_fill_53178_0 (by decide) ?_
  refine lv_istore_n (lv' := [(2, .int 0), (0, .ref q), (1, .int v)]) hx hb dJ7_fill_53178_1 rfl hl (by decide) rfl (fun ls hl => ?_)
  refine lv_aload_n hx hb dJ7_fill_53178_2 rfl (lv_at hl 1 rfl) ?_
  refine va_alen (v := nI n) hx hb hK hP 0 0 rfl rfl rfl dJ7_fill_53178_3 ?_
  refine lv_istore_n (lv' := [(3, .int (nI n)), (2, .int 0), (0, .ref q), (1, .int v)]) hx hb dJ7_fill_53178_4 rfl hl (by decide) rfl (fun ls hl => ?_)
  have lp : ∀ (k i : Nat) (B : Nat → Int32) (H : Heap) (locs : List Loc) (ls : Array Slot), i + k = n → (∀ j, j < i → B j = v) → va_P D vwCl [(q, .inl (K 0, n, .inl B))] H → va_D A [(q, .inl (K 0, n, .inl B))] → va_S A s.heap H locs → lv_has ls 4 [(3, .int (nI n)), (2, .int (nI i)), (0, .ref q), (1, .int v)] → W p l e (rmD 1 0 0) s m ([.ref q, .int v] : List Value).toArray below meth c H locs 0 0 (kQv D (tysK K) (fun (u : Nat → Int32) => ∀ j, j < n → u j = v) (fun u => [(q, .inl (K 0, n, .inl u))]) A below ([.ref q, .int v] : List Value).toArray s 0 0) (F0 m 5 ls []) := by
    intro k
    induction k with
    | zero =>
      intro i B H locs ls hin zi hP hD hS hl
      obtain rfl : n = i := by omega
      refine lv_iload_n hx hb dJ7_fill_53178_5 rfl (lv_at hl 1 rfl) ?_
      refine lv_iload_n hx hb dJ7_fill_53178_6 rfl (lv_at hl 0 rfl) ?_
      refine lv_icmp_ge (tgt := 20) hx hb dJ7_fill_53178_7 (by decide) (fun c1 => ?_) (fun c1 => absurd (nI_le (Nat.le_refl n) hn) c1)
      exact kV_ret hx hb hr hlocks hK hS dJ7_fill_53178_20 B hP hD zi
    | succ k ih =>
      intro i B H locs ls hin zi hP hD hS hl
      have hlt : i < n := by omega
      refine lv_iload_n hx hb dJ7_fill_53178_5 rfl (lv_at hl 1 rfl) ?_
      refine lv_iload_n hx hb dJ7_fill_53178_6 rfl (lv_at hl 0 rfl) ?_
      refine lv_icmp_ge (tgt := 20) hx hb dJ7_fill_53178_7 (by decide) (fun c1 => absurd c1 (nI_ge hlt hn)) (fun c1 => ?_)
      refine lv_aload_n hx hb dJ7_fill_53178_10 rfl (lv_at hl 2 rfl) ?_
      refine lv_iload_n hx hb dJ7_fill_53178_11 rfl (lv_at hl 1 rfl) ?_
      refine lv_iload_n hx hb dJ7_fill_53178_12 rfl (lv_at hl 3 rfl) ?_
      refine va_iast hx hb hK hP hD hS 0 0 rfl rfl (vp_in_nI hlt hn) dJ7_fill_53178_13 (fun H locs hP hD hS => ?_)
      rw [nI_clamp (n := i) (by omega)] at hP hD
      have hP : va_P D vwCl [(q, .inl (K 0, n, .inl (upd B i v)))] H := hP
      have hD : va_D A [(q, .inl (K 0, n, .inl (upd B i v)))] := hD
      refine lv_iinc (v := nI (i + 1)) (lv' := [(2, .int (nI (i + 1))), (3, .int (nI n)), (0, .ref q), (1, .int v)]) hx hb dJ7_fill_53178_14 hl (k := 1) rfl (nI_1 _) (by decide) rfl (fun ls hl => ?_)
      refine lv_goto (tgt := 5) hx hb dJ7_fill_53178_17 (by decide) ?_
      refine ih (i + 1) (upd B i v) _ _ _ (by omega) ?_ hP hD hS (lv_sub hl [1, 0, 2, 3] rfl)
      intro j hj
      by_cases e : j = i
      · rw [e]; exact pk_us
      · rw [pk_un e]; exact zi j (by omega)
  exact lp (n - 0) 0 b _ _ _ (by omega) (fun j hj => absurd hj (Nat.not_lt_zero j)) hP hD hS hl
set_option maxHeartbeats 4000000 in
set_option maxRecDepth 100000 in
theorem x_bitCount (l : Launch) (x : Int32)   : kN l yJ6_bitCount_0f7a4 (Cond.code yJ6_bitCount_0f7a4 cJ6_bitCount_0f7a4 1 (some .int) :: kG) (rmD 1 0 0) [.int x] (fun v => kb 0 v 63) := by
  refine kN.of (cc := cJ6_bitCount_0f7a4) (maxL := 1) (ret := (some .int)) (by decide) rfl (Nat.le_of_ble_eq_true rfl) ?_
  intro p e s m below meth c hx hb hr hml hown hts hlocks hS ls hl
  have hg : ∀ w ∈ kG, w.before _ s = true := fun w h => hts w (List.mem_cons_of_mem _ h)
  have hown : s.vm.findClass RJ6 = some m.cls := hown
  have hl : lv_has ls 1 [(0, .int x)] := hl
  refine lv_iload_n hx hb dJ6_bitCount_0f7a4_0 rfl (lv_at hl 0 rfl) ?_
  refine lv_iload_n hx hb dJ6_bitCount_0f7a4_1 rfl (lv_at hl 0 rfl) ?_
  refine lv_iconst (v := 1) hx hb dJ6_bitCount_0f7a4_2 (by decide) ?_
  obtain ⟨t1, et1⟩ : ∃ z : Int32, (Int32.toUInt32 x >>> (Int32.toUInt32 1 &&& Int32.toUInt32 31)).toInt32 = z := ⟨_, rfl⟩
  refine lv_iushr (v := t1) hx hb dJ6_bitCount_0f7a4_3 et1 ?_
  refine lv_ldcw (v := (1431655765)) hx hb hown (hg _ wt4_101) dJ6_bitCount_0f7a4_4 ?_
  refine lv_iand hx hb dJ6_bitCount_0f7a4_7 ?_
  refine lv_topi (fun t2 et2 => ?_)
  refine lv_isub hx hb dJ6_bitCount_0f7a4_8 ?_
  refine lv_topi (fun t3 et3 => ?_)
  refine lv_istore_n (lv' := [(0, .int t3)]) hx hb dJ6_bitCount_0f7a4_9 rfl hl (by decide) rfl (fun ls hl => ?_)
  refine lv_iload_n hx hb dJ6_bitCount_0f7a4_10 rfl (lv_at hl 0 rfl) ?_
  refine lv_ldcw (v := (858993459)) hx hb hown (hg _ wt4_102) dJ6_bitCount_0f7a4_11 ?_
  refine lv_iand hx hb dJ6_bitCount_0f7a4_14 ?_
  refine lv_topi (fun t4 et4 => ?_)
  refine lv_iload_n hx hb dJ6_bitCount_0f7a4_15 rfl (lv_at hl 0 rfl) ?_
  refine lv_iconst (v := 2) hx hb dJ6_bitCount_0f7a4_16 (by decide) ?_
  obtain ⟨t5, et5⟩ : ∃ z : Int32, (Int32.toUInt32 t3 >>> (Int32.toUInt32 2 &&& Int32.toUInt32 31)).toInt32 = z := ⟨_, rfl⟩
  refine lv_iushr (v := t5) hx hb dJ6_bitCount_0f7a4_17 et5 ?_
  refine lv_ldcw (v := (858993459)) hx hb hown (hg _ wt4_102) dJ6_bitCount_0f7a4_18 ?_
  refine lv_iand hx hb dJ6_bitCount_0f7a4_21 ?_
  refine lv_topi (fun t6 et6 => ?_)
  refine lv_iadd hx hb dJ6_bitCount_0f7a4_22 ?_
  refine lv_topi (fun t7 et7 => ?_)
  refine lv_istore_n (lv' := [(0, .int t7)]) hx hb dJ6_bitCount_0f7a4_23 rfl hl (by decide) rfl (fun ls hl => ?_)
  refine lv_iload_n hx hb dJ6_bitCount_0f7a4_24 rfl (lv_at hl 0 rfl) ?_
  refine lv_iload_n hx hb dJ6_bitCount_0f7a4_25 rfl (lv_at hl 0 rfl) ?_
  refine lv_iconst (v := 4) hx hb dJ6_bitCount_0f7a4_26 (by decide) ?_
  obtain ⟨t8, et8⟩ : ∃ z : Int32, (Int32.toUInt32 t7 >>> (Int32.toUInt32 4 &&& Int32.toUInt32 31)).toInt32 = z := ⟨_, rfl⟩
  refine lv_iushr (v := t8) hx hb dJ6_bitCount_0f7a4_27 et8 ?_
  refine lv_iadd hx hb dJ6_bitCount_0f7a4_28 ?_
  refine lv_topi (fun t9 et9 => ?_)
  refine lv_ldcw (v := (252645135)) hx hb hown (hg _ wt4_103) dJ6_bitCount_0f7a4_29 ?_
  refine lv_iand hx hb dJ6_bitCount_0f7a4_32 ?_
  refine lv_topi (fun t10 et10 => ?_)
  refine lv_istore_n (lv' := [(0, .int t10)]) hx hb dJ6_bitCount_0f7a4_33 rfl hl (by decide) rfl (fun ls hl => ?_)
  refine lv_iload_n hx hb dJ6_bitCount_0f7a4_34 rfl (lv_at hl 0 rfl) ?_
  refine lv_iload_n hx hb dJ6_bitCount_0f7a4_35 rfl (lv_at hl 0 rfl) ?_
  refine lv_bipush (v := 8) hx hb dJ6_bitCount_0f7a4_36 (by decide) ?_
  obtain ⟨t11, et11⟩ : ∃ z : Int32, (Int32.toUInt32 t10 >>> (Int32.toUInt32 8 &&& Int32.toUInt32 31)).toInt32 = z := ⟨_, rfl⟩
  refine lv_iushr (v := t11) hx hb dJ6_bitCount_0f7a4_38 et11 ?_
  refine lv_iadd hx hb dJ6_bitCount_0f7a4_39 ?_
  refine lv_topi (fun t12 et12 => ?_)
  refine lv_istore_n (lv' := [(0, .int t12)]) hx hb dJ6_bitCount_0f7a4_40 rfl hl (by decide) rfl (fun ls hl => ?_)
  refine lv_iload_n hx hb dJ6_bitCount_0f7a4_41 rfl (lv_at hl 0 rfl) ?_
  refine lv_iload_n hx hb dJ6_bitCount_0f7a4_42 rfl (lv_at hl 0 rfl) ?_
  refine lv_bipush (v := 16) hx hb dJ6_bitCount_0f7a4_43 (by decide) ?_
  obtain ⟨t13, et13⟩ : ∃ z : Int32, (Int32.toUInt32 t12 >>> (Int32.toUInt32 16 &&& Int32.toUInt32 31)).toInt32 = z := ⟨_, rfl⟩
  refine lv_iushr (v := t13) hx hb dJ6_bitCount_0f7a4_45 et13 ?_
  refine lv_iadd hx hb dJ6_bitCount_0f7a4_46 ?_
  refine lv_topi (fun t14 et14 => ?_)
  refine lv_istore_n (lv' := [(0, .int t14)]) hx hb dJ6_bitCount_0f7a4_47 rfl hl (by decide) rfl (fun ls hl => ?_)
  refine lv_iload_n hx hb dJ6_bitCount_0f7a4_48 rfl (lv_at hl 0 rfl) ?_
  refine lv_bipush (v := 63) hx hb dJ6_bitCount_0f7a4_49 (by decide) ?_
  refine lv_iand hx hb dJ6_bitCount_0f7a4_51 ?_
  refine lv_topi (fun t15 et15 => ?_)
  have b16 : kb 0 t15 63 := kb_eq et15 (kb_and 6 (by decide) (by decide))
  exact kN_ret (v := t15) hx hb hr hlocks rfl hS dJ6_bitCount_0f7a4_52 b16
set_option maxHeartbeats 4000000 in
set_option maxRecDepth 100000 in
theorem x_10_joined (l : Launch) (op : Int32) (x : Int64) (y : Int64) : kNL l yX10_joined (Cond.code yX10_joined cX10_joined 7 (some .long) :: kG) (rmD 1 0 0) [.int op, .long x, .long y] (fun v => kbl (-9223372036854775808) v 9223372036854775807 ∧ (joP op.toInt x.toInt y.toInt v.toInt)) := by
  refine kNL.of (cc := cX10_joined) (maxL := 7) (ret := (some .long)) (by decide) rfl (Nat.le_of_ble_eq_true rfl) ?_
  intro p e s m below meth c hx hb hr hml hown hts hlocks hS ls hl
  have hg : ∀ w ∈ kG, w.before _ s = true := fun w h => hts w (List.mem_cons_of_mem _ h)
  have hown : s.vm.findClass RX10 = some m.cls := hown
  have hl : lv_has ls 7 [(0, .int op), (1, .long x), (3, .long y)] := hl
  refine lv_iload_n hx hb dX10_joined_0 rfl (lv_at hl 0 rfl) ?_
  by_cases q1 : op = 5
  · have b2 : kb 5 op 5 := kb_eq q1 kc_5
    refine lv_tableIn (tgt := 44) hx hb dX10_joined_1 (by rw [q1]; decide +kernel) (by rw [q1]; decide +kernel) (by rw [q1]; rfl) (by decide) ?_
    refine lv_lload_n hx hb dX10_joined_44 rfl (lv_at hl 1 rfl) ?_
    refine lv_lload_n hx hb dX10_joined_45 rfl (lv_at hl 2 rfl) ?_
    refine lv_ladd hx hb dX10_joined_46 ?_
    refine lv_topl (fun t3 et3 => ?_)
    refine lv_lstore (lv' := [(5, .long t3), (0, .int op), (1, .long x), (3, .long y)]) hx hb dX10_joined_47 hl (by decide) rfl (fun ls hl => ?_)
    refine lv_goto (tgt := 144) hx hb dX10_joined_49 (by decide) ?_
    refine lv_lload hx hb dX10_joined_144 (lv_at hl 0 rfl) ?_
    refine lv_ldc2 (v := (-1000000000)) hx hb hown (hg _ wt3_104) dX10_joined_146 ?_
    refine W.lcmp hx hb dX10_joined_149 ?_
    refine lv_topi (fun t4 et4 => ?_)
    refine lv_if_lt (tgt := 162) hx hb dX10_joined_150 (by decide) (fun c5 => ?_) (fun c5 => ?_)
    · have h6 := klc_lt (et4 ▸ c5)
      have b7 : kbl (-9223372036854775808) t3 (-1000000001) := klr_lt1 h6 (kbl_any t3) kcl_m1000000000 (by decide)
      refine lv_ldc2 (v := (-1000000000000)) hx hb hown (hg _ wt3_100) dX10_joined_162 ?_
      refine lv_goto (tgt := 170) hx hb dX10_joined_165 (by decide) ?_
      exact kNL_ret (v := (-1000000000000)) hx hb hr hlocks hS dX10_joined_170 ⟨(kbl_w kcl_m1000000000000 (by decide) (by decide)), (fun h5 h12 hx hy => by have k1 : ((-1000000000) : Int64).toInt = -1000000000 := (by decide +kernel); have k2 : (1000000000 : Int64).toInt = 1000000000 := (by decide +kernel); have k3 : ((-1000000000000) : Int64).toInt = -1000000000000 := (by decide +kernel); have k4 : (0 : Int64).toInt = 0 := (by decide +kernel); have k5 : (1 : Int64).toInt = 1 := (by decide +kernel); have ev : t3.toInt = x.toInt + y.toInt := (by rw [et3]; exact l_add hx hy); rw [(by rw [q1]; decide +kernel : op.toInt.toNat = 5)]; show ((-1000000000000) : Int64).toInt = enc (bnd (x.toInt + y.toInt)); rw [jo_b (by omega)]; exact k3)⟩
    · have h8 := klc_nlt (et4 ▸ c5)
      have b9 : kbl (-1000000000) t3 9223372036854775807 := klr_le2 h8 kcl_m1000000000 (kbl_any t3)
      refine lv_lload hx hb dX10_joined_153 (lv_at hl 0 rfl) ?_
      refine lv_ldc2 (v := (1000000000)) hx hb hown (hg _ wt3_105) dX10_joined_155 ?_
      refine W.lcmp hx hb dX10_joined_158 ?_
      refine lv_topi (fun t10 et10 => ?_)
      refine lv_if_le (tgt := 168) hx hb dX10_joined_159 (by decide) (fun c11 => ?_) (fun c11 => ?_)
      · have h12 := klc_le (et10 ▸ c11)
        have b13 : kbl (-1000000000) t3 1000000000 := klr_le1 h12 b9 kcl_1000000000
        refine lv_lload hx hb dX10_joined_168 (lv_at hl 0 rfl) ?_
        exact kNL_ret (v := t3) hx hb hr hlocks hS dX10_joined_170 ⟨(kbl_w b13 (by decide) (by decide)), (fun h5 h12 hx hy => by have k1 : ((-1000000000) : Int64).toInt = -1000000000 := (by decide +kernel); have k2 : (1000000000 : Int64).toInt = 1000000000 := (by decide +kernel); have k3 : ((-1000000000000) : Int64).toInt = -1000000000000 := (by decide +kernel); have k4 : (0 : Int64).toInt = 0 := (by decide +kernel); have k5 : (1 : Int64).toInt = 1 := (by decide +kernel); have ev : t3.toInt = x.toInt + y.toInt := (by rw [et3]; exact l_add hx hy); rw [(by rw [q1]; decide +kernel : op.toInt.toNat = 5)]; show (t3 : Int64).toInt = enc (bnd (x.toInt + y.toInt)); rw [jo_g (by omega) (by omega)]; exact ev)⟩
      · have h14 := klc_nle (et10 ▸ c11)
        have b15 : kbl 1000000001 t3 9223372036854775807 := klr_lt2 h14 kcl_1000000000 b9 (by decide)
        refine lv_ldc2 (v := (-1000000000000)) hx hb hown (hg _ wt3_100) dX10_joined_162 ?_
        refine lv_goto (tgt := 170) hx hb dX10_joined_165 (by decide) ?_
        exact kNL_ret (v := (-1000000000000)) hx hb hr hlocks hS dX10_joined_170 ⟨(kbl_w kcl_m1000000000000 (by decide) (by decide)), (fun h5 h12 hx hy => by have k1 : ((-1000000000) : Int64).toInt = -1000000000 := (by decide +kernel); have k2 : (1000000000 : Int64).toInt = 1000000000 := (by decide +kernel); have k3 : ((-1000000000000) : Int64).toInt = -1000000000000 := (by decide +kernel); have k4 : (0 : Int64).toInt = 0 := (by decide +kernel); have k5 : (1 : Int64).toInt = 1 := (by decide +kernel); have ev : t3.toInt = x.toInt + y.toInt := (by rw [et3]; exact l_add hx hy); rw [(by rw [q1]; decide +kernel : op.toInt.toNat = 5)]; show ((-1000000000000) : Int64).toInt = enc (bnd (x.toInt + y.toInt)); rw [jo_b (by omega)]; exact k3)⟩
  by_cases q16 : op = 6
  · have b17 : kb 6 op 6 := kb_eq q16 kc_6
    refine lv_tableIn (tgt := 52) hx hb dX10_joined_1 (by rw [q16]; decide +kernel) (by rw [q16]; decide +kernel) (by rw [q16]; rfl) (by decide) ?_
    refine lv_lload_n hx hb dX10_joined_52 rfl (lv_at hl 1 rfl) ?_
    refine lv_lload_n hx hb dX10_joined_53 rfl (lv_at hl 2 rfl) ?_
    refine lv_lsub hx hb dX10_joined_54 ?_
    refine lv_topl (fun t18 et18 => ?_)
    refine lv_lstore (lv' := [(5, .long t18), (0, .int op), (1, .long x), (3, .long y)]) hx hb dX10_joined_55 hl (by decide) rfl (fun ls hl => ?_)
    refine lv_goto (tgt := 144) hx hb dX10_joined_57 (by decide) ?_
    refine lv_lload hx hb dX10_joined_144 (lv_at hl 0 rfl) ?_
    refine lv_ldc2 (v := (-1000000000)) hx hb hown (hg _ wt3_104) dX10_joined_146 ?_
    refine W.lcmp hx hb dX10_joined_149 ?_
    refine lv_topi (fun t19 et19 => ?_)
    refine lv_if_lt (tgt := 162) hx hb dX10_joined_150 (by decide) (fun c20 => ?_) (fun c20 => ?_)
    · have h21 := klc_lt (et19 ▸ c20)
      have b22 : kbl (-9223372036854775808) t18 (-1000000001) := klr_lt1 h21 (kbl_any t18) kcl_m1000000000 (by decide)
      refine lv_ldc2 (v := (-1000000000000)) hx hb hown (hg _ wt3_100) dX10_joined_162 ?_
      refine lv_goto (tgt := 170) hx hb dX10_joined_165 (by decide) ?_
      exact kNL_ret (v := (-1000000000000)) hx hb hr hlocks hS dX10_joined_170 ⟨(kbl_w kcl_m1000000000000 (by decide) (by decide)), (fun h5 h12 hx hy => by have k1 : ((-1000000000) : Int64).toInt = -1000000000 := (by decide +kernel); have k2 : (1000000000 : Int64).toInt = 1000000000 := (by decide +kernel); have k3 : ((-1000000000000) : Int64).toInt = -1000000000000 := (by decide +kernel); have k4 : (0 : Int64).toInt = 0 := (by decide +kernel); have k5 : (1 : Int64).toInt = 1 := (by decide +kernel); have ev : t18.toInt = x.toInt - y.toInt := (by rw [et18]; exact l_sub hx hy); rw [(by rw [q16]; decide +kernel : op.toInt.toNat = 6)]; show ((-1000000000000) : Int64).toInt = enc (bnd (x.toInt - y.toInt)); rw [jo_b (by omega)]; exact k3)⟩
    · have h23 := klc_nlt (et19 ▸ c20)
      have b24 : kbl (-1000000000) t18 9223372036854775807 := klr_le2 h23 kcl_m1000000000 (kbl_any t18)
      refine lv_lload hx hb dX10_joined_153 (lv_at hl 0 rfl) ?_
      refine lv_ldc2 (v := (1000000000)) hx hb hown (hg _ wt3_105) dX10_joined_155 ?_
      refine W.lcmp hx hb dX10_joined_158 ?_
      refine lv_topi (fun t25 et25 => ?_)
      refine lv_if_le (tgt := 168) hx hb dX10_joined_159 (by decide) (fun c26 => ?_) (fun c26 => ?_)
      · have h27 := klc_le (et25 ▸ c26)
        have b28 : kbl (-1000000000) t18 1000000000 := klr_le1 h27 b24 kcl_1000000000
        refine lv_lload hx hb dX10_joined_168 (lv_at hl 0 rfl) ?_
        exact kNL_ret (v := t18) hx hb hr hlocks hS dX10_joined_170 ⟨(kbl_w b28 (by decide) (by decide)), (fun h5 h12 hx hy => by have k1 : ((-1000000000) : Int64).toInt = -1000000000 := (by decide +kernel); have k2 : (1000000000 : Int64).toInt = 1000000000 := (by decide +kernel); have k3 : ((-1000000000000) : Int64).toInt = -1000000000000 := (by decide +kernel); have k4 : (0 : Int64).toInt = 0 := (by decide +kernel); have k5 : (1 : Int64).toInt = 1 := (by decide +kernel); have ev : t18.toInt = x.toInt - y.toInt := (by rw [et18]; exact l_sub hx hy); rw [(by rw [q16]; decide +kernel : op.toInt.toNat = 6)]; show (t18 : Int64).toInt = enc (bnd (x.toInt - y.toInt)); rw [jo_g (by omega) (by omega)]; exact ev)⟩
      · have h29 := klc_nle (et25 ▸ c26)
        have b30 : kbl 1000000001 t18 9223372036854775807 := klr_lt2 h29 kcl_1000000000 b24 (by decide)
        refine lv_ldc2 (v := (-1000000000000)) hx hb hown (hg _ wt3_100) dX10_joined_162 ?_
        refine lv_goto (tgt := 170) hx hb dX10_joined_165 (by decide) ?_
        exact kNL_ret (v := (-1000000000000)) hx hb hr hlocks hS dX10_joined_170 ⟨(kbl_w kcl_m1000000000000 (by decide) (by decide)), (fun h5 h12 hx hy => by have k1 : ((-1000000000) : Int64).toInt = -1000000000 := (by decide +kernel); have k2 : (1000000000 : Int64).toInt = 1000000000 := (by decide +kernel); have k3 : ((-1000000000000) : Int64).toInt = -1000000000000 := (by decide +kernel); have k4 : (0 : Int64).toInt = 0 := (by decide +kernel); have k5 : (1 : Int64).toInt = 1 := (by decide +kernel); have ev : t18.toInt = x.toInt - y.toInt := (by rw [et18]; exact l_sub hx hy); rw [(by rw [q16]; decide +kernel : op.toInt.toNat = 6)]; show ((-1000000000000) : Int64).toInt = enc (bnd (x.toInt - y.toInt)); rw [jo_b (by omega)]; exact k3)⟩
  by_cases q31 : op = 7
  · have b32 : kb 7 op 7 := kb_eq q31 kc_7
    refine lv_tableIn (tgt := 60) hx hb dX10_joined_1 (by rw [q31]; decide +kernel) (by rw [q31]; decide +kernel) (by rw [q31]; rfl) (by decide) ?_
    refine lv_lload_n hx hb dX10_joined_60 rfl (lv_at hl 1 rfl) ?_
    refine lv_lload_n hx hb dX10_joined_61 rfl (lv_at hl 2 rfl) ?_
    refine lv_lmul hx hb dX10_joined_62 ?_
    refine lv_topl (fun t33 et33 => ?_)
    refine lv_lstore (lv' := [(5, .long t33), (0, .int op), (1, .long x), (3, .long y)]) hx hb dX10_joined_63 hl (by decide) rfl (fun ls hl => ?_)
    refine lv_goto (tgt := 144) hx hb dX10_joined_65 (by decide) ?_
    refine lv_lload hx hb dX10_joined_144 (lv_at hl 0 rfl) ?_
    refine lv_ldc2 (v := (-1000000000)) hx hb hown (hg _ wt3_104) dX10_joined_146 ?_
    refine W.lcmp hx hb dX10_joined_149 ?_
    refine lv_topi (fun t34 et34 => ?_)
    refine lv_if_lt (tgt := 162) hx hb dX10_joined_150 (by decide) (fun c35 => ?_) (fun c35 => ?_)
    · have h36 := klc_lt (et34 ▸ c35)
      have b37 : kbl (-9223372036854775808) t33 (-1000000001) := klr_lt1 h36 (kbl_any t33) kcl_m1000000000 (by decide)
      refine lv_ldc2 (v := (-1000000000000)) hx hb hown (hg _ wt3_100) dX10_joined_162 ?_
      refine lv_goto (tgt := 170) hx hb dX10_joined_165 (by decide) ?_
      exact kNL_ret (v := (-1000000000000)) hx hb hr hlocks hS dX10_joined_170 ⟨(kbl_w kcl_m1000000000000 (by decide) (by decide)), (fun h5 h12 hx hy => by have k1 : ((-1000000000) : Int64).toInt = -1000000000 := (by decide +kernel); have k2 : (1000000000 : Int64).toInt = 1000000000 := (by decide +kernel); have k3 : ((-1000000000000) : Int64).toInt = -1000000000000 := (by decide +kernel); have k4 : (0 : Int64).toInt = 0 := (by decide +kernel); have k5 : (1 : Int64).toInt = 1 := (by decide +kernel); have ev : t33.toInt = x.toInt * y.toInt := (by rw [et33]; exact l_mul hx hy); rw [(by rw [q31]; decide +kernel : op.toInt.toNat = 7)]; show ((-1000000000000) : Int64).toInt = enc (bnd (x.toInt * y.toInt)); rw [jo_b (by omega)]; exact k3)⟩
    · have h38 := klc_nlt (et34 ▸ c35)
      have b39 : kbl (-1000000000) t33 9223372036854775807 := klr_le2 h38 kcl_m1000000000 (kbl_any t33)
      refine lv_lload hx hb dX10_joined_153 (lv_at hl 0 rfl) ?_
      refine lv_ldc2 (v := (1000000000)) hx hb hown (hg _ wt3_105) dX10_joined_155 ?_
      refine W.lcmp hx hb dX10_joined_158 ?_
      refine lv_topi (fun t40 et40 => ?_)
      refine lv_if_le (tgt := 168) hx hb dX10_joined_159 (by decide) (fun c41 => ?_) (fun c41 => ?_)
      · have h42 := klc_le (et40 ▸ c41)
        have b43 : kbl (-1000000000) t33 1000000000 := klr_le1 h42 b39 kcl_1000000000
        refine lv_lload hx hb dX10_joined_168 (lv_at hl 0 rfl) ?_
        exact kNL_ret (v := t33) hx hb hr hlocks hS dX10_joined_170 ⟨(kbl_w b43 (by decide) (by decide)), (fun h5 h12 hx hy => by have k1 : ((-1000000000) : Int64).toInt = -1000000000 := (by decide +kernel); have k2 : (1000000000 : Int64).toInt = 1000000000 := (by decide +kernel); have k3 : ((-1000000000000) : Int64).toInt = -1000000000000 := (by decide +kernel); have k4 : (0 : Int64).toInt = 0 := (by decide +kernel); have k5 : (1 : Int64).toInt = 1 := (by decide +kernel); have ev : t33.toInt = x.toInt * y.toInt := (by rw [et33]; exact l_mul hx hy); rw [(by rw [q31]; decide +kernel : op.toInt.toNat = 7)]; show (t33 : Int64).toInt = enc (bnd (x.toInt * y.toInt)); rw [jo_g (by omega) (by omega)]; exact ev)⟩
      · have h44 := klc_nle (et40 ▸ c41)
        have b45 : kbl 1000000001 t33 9223372036854775807 := klr_lt2 h44 kcl_1000000000 b39 (by decide)
        refine lv_ldc2 (v := (-1000000000000)) hx hb hown (hg _ wt3_100) dX10_joined_162 ?_
        refine lv_goto (tgt := 170) hx hb dX10_joined_165 (by decide) ?_
        exact kNL_ret (v := (-1000000000000)) hx hb hr hlocks hS dX10_joined_170 ⟨(kbl_w kcl_m1000000000000 (by decide) (by decide)), (fun h5 h12 hx hy => by have k1 : ((-1000000000) : Int64).toInt = -1000000000 := (by decide +kernel); have k2 : (1000000000 : Int64).toInt = 1000000000 := (by decide +kernel); have k3 : ((-1000000000000) : Int64).toInt = -1000000000000 := (by decide +kernel); have k4 : (0 : Int64).toInt = 0 := (by decide +kernel); have k5 : (1 : Int64).toInt = 1 := (by decide +kernel); have ev : t33.toInt = x.toInt * y.toInt := (by rw [et33]; exact l_mul hx hy); rw [(by rw [q31]; decide +kernel : op.toInt.toNat = 7)]; show ((-1000000000000) : Int64).toInt = enc (bnd (x.toInt * y.toInt)); rw [jo_b (by omega)]; exact k3)⟩
  by_cases q46 : op = 8
  · have b47 : kb 8 op 8 := kb_eq q46 kc_8
    refine lv_tableIn (tgt := 68) hx hb dX10_joined_1 (by rw [q46]; decide +kernel) (by rw [q46]; decide +kernel) (by rw [q46]; rfl) (by decide) ?_
    refine lv_lload_n hx hb dX10_joined_68 rfl (lv_at hl 2 rfl) ?_
    refine lv_lconst (v := 0) hx hb dX10_joined_69 (by decide) ?_
    refine W.lcmp hx hb dX10_joined_70 ?_
    refine lv_topi (fun t48 et48 => ?_)
    refine lv_if_ne (tgt := 80) hx hb dX10_joined_71 (by decide) (fun c49 => ?_) (fun c49 => ?_)
    · have h50 := klc_ne (et48 ▸ c49)
      refine lv_lload_n hx hb dX10_joined_80 rfl (lv_at hl 1 rfl) ?_
      refine lv_lload_n hx hb dX10_joined_81 rfl (lv_at hl 2 rfl) ?_
      refine lv_ldiv hx hb dX10_joined_82 h50 ?_
      refine lv_topl (fun t51 et51 => ?_)
      refine lv_lstore (lv' := [(5, .long t51), (0, .int op), (1, .long x), (3, .long y)]) hx hb dX10_joined_83 hl (by decide) rfl (fun ls hl => ?_)
      refine lv_goto (tgt := 144) hx hb dX10_joined_85 (by decide) ?_
      refine lv_lload hx hb dX10_joined_144 (lv_at hl 0 rfl) ?_
      refine lv_ldc2 (v := (-1000000000)) hx hb hown (hg _ wt3_104) dX10_joined_146 ?_
      refine W.lcmp hx hb dX10_joined_149 ?_
      refine lv_topi (fun t52 et52 => ?_)
      refine lv_if_lt (tgt := 162) hx hb dX10_joined_150 (by decide) (fun c53 => ?_) (fun c53 => ?_)
      · have h54 := klc_lt (et52 ▸ c53)
        have b55 : kbl (-9223372036854775808) t51 (-1000000001) := klr_lt1 h54 (kbl_any t51) kcl_m1000000000 (by decide)
        refine lv_ldc2 (v := (-1000000000000)) hx hb hown (hg _ wt3_100) dX10_joined_162 ?_
        refine lv_goto (tgt := 170) hx hb dX10_joined_165 (by decide) ?_
        exact kNL_ret (v := (-1000000000000)) hx hb hr hlocks hS dX10_joined_170 ⟨(kbl_w kcl_m1000000000000 (by decide) (by decide)), (fun h5 h12 hx hy => by have k1 : ((-1000000000) : Int64).toInt = -1000000000 := (by decide +kernel); have k2 : (1000000000 : Int64).toInt = 1000000000 := (by decide +kernel); have k3 : ((-1000000000000) : Int64).toInt = -1000000000000 := (by decide +kernel); have k4 : (0 : Int64).toInt = 0 := (by decide +kernel); have k5 : (1 : Int64).toInt = 1 := (by decide +kernel); have ev : t51.toInt = x.toInt.tdiv y.toInt := (by rw [et51]; exact l_div hx); rw [(by rw [q46]; decide +kernel : op.toInt.toNat = 8)]; show ((-1000000000000) : Int64).toInt = enc (if y.toInt = 0 then none else bnd (x.toInt.tdiv y.toInt)); rw [if_neg (fun q => h50 (Int64.toInt_inj.mp (q.trans k4.symm)))]; rw [jo_b (by omega)]; exact k3)⟩
      · have h56 := klc_nlt (et52 ▸ c53)
        have b57 : kbl (-1000000000) t51 9223372036854775807 := klr_le2 h56 kcl_m1000000000 (kbl_any t51)
        refine lv_lload hx hb dX10_joined_153 (lv_at hl 0 rfl) ?_
        refine lv_ldc2 (v := (1000000000)) hx hb hown (hg _ wt3_105) dX10_joined_155 ?_
        refine W.lcmp hx hb dX10_joined_158 ?_
        refine lv_topi (fun t58 et58 => ?_)
        refine lv_if_le (tgt := 168) hx hb dX10_joined_159 (by decide) (fun c59 => ?_) (fun c59 => ?_)
        · have h60 := klc_le (et58 ▸ c59)
          have b61 : kbl (-1000000000) t51 1000000000 := klr_le1 h60 b57 kcl_1000000000
          refine lv_lload hx hb dX10_joined_168 (lv_at hl 0 rfl) ?_
          exact kNL_ret (v := t51) hx hb hr hlocks hS dX10_joined_170 ⟨(kbl_w b61 (by decide) (by decide)), (fun h5 h12 hx hy => by have k1 : ((-1000000000) : Int64).toInt = -1000000000 := (by decide +kernel); have k2 : (1000000000 : Int64).toInt = 1000000000 := (by decide +kernel); have k3 : ((-1000000000000) : Int64).toInt = -1000000000000 := (by decide +kernel); have k4 : (0 : Int64).toInt = 0 := (by decide +kernel); have k5 : (1 : Int64).toInt = 1 := (by decide +kernel); have ev : t51.toInt = x.toInt.tdiv y.toInt := (by rw [et51]; exact l_div hx); rw [(by rw [q46]; decide +kernel : op.toInt.toNat = 8)]; show (t51 : Int64).toInt = enc (if y.toInt = 0 then none else bnd (x.toInt.tdiv y.toInt)); rw [if_neg (fun q => h50 (Int64.toInt_inj.mp (q.trans k4.symm)))]; rw [jo_g (by omega) (by omega)]; exact ev)⟩
        · have h62 := klc_nle (et58 ▸ c59)
          have b63 : kbl 1000000001 t51 9223372036854775807 := klr_lt2 h62 kcl_1000000000 b57 (by decide)
          refine lv_ldc2 (v := (-1000000000000)) hx hb hown (hg _ wt3_100) dX10_joined_162 ?_
          refine lv_goto (tgt := 170) hx hb dX10_joined_165 (by decide) ?_
          exact kNL_ret (v := (-1000000000000)) hx hb hr hlocks hS dX10_joined_170 ⟨(kbl_w kcl_m1000000000000 (by decide) (by decide)), (fun h5 h12 hx hy => by have k1 : ((-1000000000) : Int64).toInt = -1000000000 := (by decide +kernel); have k2 : (1000000000 : Int64).toInt = 1000000000 := (by decide +kernel); have k3 : ((-1000000000000) : Int64).toInt = -1000000000000 := (by decide +kernel); have k4 : (0 : Int64).toInt = 0 := (by decide +kernel); have k5 : (1 : Int64).toInt = 1 := (by decide +kernel); have ev : t51.toInt = x.toInt.tdiv y.toInt := (by rw [et51]; exact l_div hx); rw [(by rw [q46]; decide +kernel : op.toInt.toNat = 8)]; show ((-1000000000000) : Int64).toInt = enc (if y.toInt = 0 then none else bnd (x.toInt.tdiv y.toInt)); rw [if_neg (fun q => h50 (Int64.toInt_inj.mp (q.trans k4.symm)))]; rw [jo_b (by omega)]; exact k3)⟩
    · have h64 := klc_eq (et48 ▸ c49)
      refine lv_ldc2 (v := (-1000000000000)) hx hb hown (hg _ wt3_100) dX10_joined_74 ?_
      refine lv_goto (tgt := 83) hx hb dX10_joined_77 (by decide) ?_
      refine lv_lstore (lv' := [(5, .long (-1000000000000)), (0, .int op), (1, .long x), (3, .long y)]) hx hb dX10_joined_83 hl (by decide) rfl (fun ls hl => ?_)
      refine lv_goto (tgt := 144) hx hb dX10_joined_85 (by decide) ?_
      refine lv_lload hx hb dX10_joined_144 (lv_at hl 0 rfl) ?_
      refine lv_ldc2 (v := (-1000000000)) hx hb hown (hg _ wt3_104) dX10_joined_146 ?_
      refine W.lcmp hx hb dX10_joined_149 ?_
      refine lv_topi (fun t65 et65 => ?_)
      refine lv_if_lt (tgt := 162) hx hb dX10_joined_150 (by decide) (fun c66 => ?_) (fun c66 => ?_)
      · have h67 := klc_lt (et65 ▸ c66)
        refine lv_ldc2 (v := (-1000000000000)) hx hb hown (hg _ wt3_100) dX10_joined_162 ?_
        refine lv_goto (tgt := 170) hx hb dX10_joined_165 (by decide) ?_
        exact kNL_ret (v := (-1000000000000)) hx hb hr hlocks hS dX10_joined_170 ⟨(kbl_w kcl_m1000000000000 (by decide) (by decide)), (fun h5 h12 hx hy => by have k1 : ((-1000000000) : Int64).toInt = -1000000000 := (by decide +kernel); have k2 : (1000000000 : Int64).toInt = 1000000000 := (by decide +kernel); have k3 : ((-1000000000000) : Int64).toInt = -1000000000000 := (by decide +kernel); have k4 : (0 : Int64).toInt = 0 := (by decide +kernel); have k5 : (1 : Int64).toInt = 1 := (by decide +kernel); rw [(by rw [q46]; decide +kernel : op.toInt.toNat = 8)]; first | (exfalso; omega) | (show ((-1000000000000) : Int64).toInt = enc (if y.toInt = 0 then none else bnd (x.toInt.tdiv y.toInt)); rw [if_pos (by rw [h64]; exact k4)]; exact k3))⟩
      · have h68 := klc_nlt (et65 ▸ c66)
        refine lv_lload hx hb dX10_joined_153 (lv_at hl 0 rfl) ?_
        refine lv_ldc2 (v := (1000000000)) hx hb hown (hg _ wt3_105) dX10_joined_155 ?_
        refine W.lcmp hx hb dX10_joined_158 ?_
        refine lv_topi (fun t69 et69 => ?_)
        refine lv_if_le (tgt := 168) hx hb dX10_joined_159 (by decide) (fun c70 => ?_) (fun c70 => ?_)
        · have h71 := klc_le (et69 ▸ c70)
          refine lv_lload hx hb dX10_joined_168 (lv_at hl 0 rfl) ?_
          exact kNL_ret (v := (-1000000000000)) hx hb hr hlocks hS dX10_joined_170 ⟨(kbl_w kcl_m1000000000000 (by decide) (by decide)), (fun h5 h12 hx hy => by have k1 : ((-1000000000) : Int64).toInt = -1000000000 := (by decide +kernel); have k2 : (1000000000 : Int64).toInt = 1000000000 := (by decide +kernel); have k3 : ((-1000000000000) : Int64).toInt = -1000000000000 := (by decide +kernel); have k4 : (0 : Int64).toInt = 0 := (by decide +kernel); have k5 : (1 : Int64).toInt = 1 := (by decide +kernel); rw [(by rw [q46]; decide +kernel : op.toInt.toNat = 8)]; first | (exfalso; omega) | (show ((-1000000000000) : Int64).toInt = enc (if y.toInt = 0 then none else bnd (x.toInt.tdiv y.toInt)); rw [if_pos (by rw [h64]; exact k4)]; exact k3))⟩
        · have h72 := klc_nle (et69 ▸ c70)
          refine lv_ldc2 (v := (-1000000000000)) hx hb hown (hg _ wt3_100) dX10_joined_162 ?_
          refine lv_goto (tgt := 170) hx hb dX10_joined_165 (by decide) ?_
          exact kNL_ret (v := (-1000000000000)) hx hb hr hlocks hS dX10_joined_170 ⟨(kbl_w kcl_m1000000000000 (by decide) (by decide)), (fun h5 h12 hx hy => by have k1 : ((-1000000000) : Int64).toInt = -1000000000 := (by decide +kernel); have k2 : (1000000000 : Int64).toInt = 1000000000 := (by decide +kernel); have k3 : ((-1000000000000) : Int64).toInt = -1000000000000 := (by decide +kernel); have k4 : (0 : Int64).toInt = 0 := (by decide +kernel); have k5 : (1 : Int64).toInt = 1 := (by decide +kernel); rw [(by rw [q46]; decide +kernel : op.toInt.toNat = 8)]; first | (exfalso; omega) | (show ((-1000000000000) : Int64).toInt = enc (if y.toInt = 0 then none else bnd (x.toInt.tdiv y.toInt)); rw [if_pos (by rw [h64]; exact k4)]; exact k3))⟩
  by_cases q73 : op = 9
  · have b74 : kb 9 op 9 := kb_eq q73 kc_9
    refine lv_tableIn (tgt := 88) hx hb dX10_joined_1 (by rw [q73]; decide +kernel) (by rw [q73]; decide +kernel) (by rw [q73]; rfl) (by decide) ?_
    refine lv_lload_n hx hb dX10_joined_88 rfl (lv_at hl 2 rfl) ?_
    refine lv_lconst (v := 0) hx hb dX10_joined_89 (by decide) ?_
    refine W.lcmp hx hb dX10_joined_90 ?_
    refine lv_topi (fun t75 et75 => ?_)
    refine lv_if_ne (tgt := 100) hx hb dX10_joined_91 (by decide) (fun c76 => ?_) (fun c76 => ?_)
    · have h77 := klc_ne (et75 ▸ c76)
      refine lv_lload_n hx hb dX10_joined_100 rfl (lv_at hl 1 rfl) ?_
      refine lv_lload_n hx hb dX10_joined_101 rfl (lv_at hl 2 rfl) ?_
      refine lv_lrem hx hb dX10_joined_102 h77 ?_
      refine lv_topl (fun t78 et78 => ?_)
      refine lv_lstore (lv' := [(5, .long t78), (0, .int op), (1, .long x), (3, .long y)]) hx hb dX10_joined_103 hl (by decide) rfl (fun ls hl => ?_)
      refine lv_goto (tgt := 144) hx hb dX10_joined_105 (by decide) ?_
      refine lv_lload hx hb dX10_joined_144 (lv_at hl 0 rfl) ?_
      refine lv_ldc2 (v := (-1000000000)) hx hb hown (hg _ wt3_104) dX10_joined_146 ?_
      refine W.lcmp hx hb dX10_joined_149 ?_
      refine lv_topi (fun t79 et79 => ?_)
      refine lv_if_lt (tgt := 162) hx hb dX10_joined_150 (by decide) (fun c80 => ?_) (fun c80 => ?_)
      · have h81 := klc_lt (et79 ▸ c80)
        have b82 : kbl (-9223372036854775808) t78 (-1000000001) := klr_lt1 h81 (kbl_any t78) kcl_m1000000000 (by decide)
        refine lv_ldc2 (v := (-1000000000000)) hx hb hown (hg _ wt3_100) dX10_joined_162 ?_
        refine lv_goto (tgt := 170) hx hb dX10_joined_165 (by decide) ?_
        exact kNL_ret (v := (-1000000000000)) hx hb hr hlocks hS dX10_joined_170 ⟨(kbl_w kcl_m1000000000000 (by decide) (by decide)), (fun h5 h12 hx hy => by have k1 : ((-1000000000) : Int64).toInt = -1000000000 := (by decide +kernel); have k2 : (1000000000 : Int64).toInt = 1000000000 := (by decide +kernel); have k3 : ((-1000000000000) : Int64).toInt = -1000000000000 := (by decide +kernel); have k4 : (0 : Int64).toInt = 0 := (by decide +kernel); have k5 : (1 : Int64).toInt = 1 := (by decide +kernel); have ev : t78.toInt = x.toInt.tmod y.toInt := (by rw [et78]; exact l_rem hx hy); rw [(by rw [q73]; decide +kernel : op.toInt.toNat = 9)]; show ((-1000000000000) : Int64).toInt = enc (if y.toInt = 0 then none else bnd (x.toInt.tmod y.toInt)); rw [if_neg (fun q => h77 (Int64.toInt_inj.mp (q.trans k4.symm)))]; rw [jo_b (by omega)]; exact k3)⟩
      · have h83 := klc_nlt (et79 ▸ c80)
        have b84 : kbl (-1000000000) t78 9223372036854775807 := klr_le2 h83 kcl_m1000000000 (kbl_any t78)
        refine lv_lload hx hb dX10_joined_153 (lv_at hl 0 rfl) ?_
        refine lv_ldc2 (v := (1000000000)) hx hb hown (hg _ wt3_105) dX10_joined_155 ?_
        refine W.lcmp hx hb dX10_joined_158 ?_
        refine lv_topi (fun t85 et85 => ?_)
        refine lv_if_le (tgt := 168) hx hb dX10_joined_159 (by decide) (fun c86 => ?_) (fun c86 => ?_)
        · have h87 := klc_le (et85 ▸ c86)
          have b88 : kbl (-1000000000) t78 1000000000 := klr_le1 h87 b84 kcl_1000000000
          refine lv_lload hx hb dX10_joined_168 (lv_at hl 0 rfl) ?_
          exact kNL_ret (v := t78) hx hb hr hlocks hS dX10_joined_170 ⟨(kbl_w b88 (by decide) (by decide)), (fun h5 h12 hx hy => by have k1 : ((-1000000000) : Int64).toInt = -1000000000 := (by decide +kernel); have k2 : (1000000000 : Int64).toInt = 1000000000 := (by decide +kernel); have k3 : ((-1000000000000) : Int64).toInt = -1000000000000 := (by decide +kernel); have k4 : (0 : Int64).toInt = 0 := (by decide +kernel); have k5 : (1 : Int64).toInt = 1 := (by decide +kernel); have ev : t78.toInt = x.toInt.tmod y.toInt := (by rw [et78]; exact l_rem hx hy); rw [(by rw [q73]; decide +kernel : op.toInt.toNat = 9)]; show (t78 : Int64).toInt = enc (if y.toInt = 0 then none else bnd (x.toInt.tmod y.toInt)); rw [if_neg (fun q => h77 (Int64.toInt_inj.mp (q.trans k4.symm)))]; rw [jo_g (by omega) (by omega)]; exact ev)⟩
        · have h89 := klc_nle (et85 ▸ c86)
          have b90 : kbl 1000000001 t78 9223372036854775807 := klr_lt2 h89 kcl_1000000000 b84 (by decide)
          refine lv_ldc2 (v := (-1000000000000)) hx hb hown (hg _ wt3_100) dX10_joined_162 ?_
          refine lv_goto (tgt := 170) hx hb dX10_joined_165 (by decide) ?_
          exact kNL_ret (v := (-1000000000000)) hx hb hr hlocks hS dX10_joined_170 ⟨(kbl_w kcl_m1000000000000 (by decide) (by decide)), (fun h5 h12 hx hy => by have k1 : ((-1000000000) : Int64).toInt = -1000000000 := (by decide +kernel); have k2 : (1000000000 : Int64).toInt = 1000000000 := (by decide +kernel); have k3 : ((-1000000000000) : Int64).toInt = -1000000000000 := (by decide +kernel); have k4 : (0 : Int64).toInt = 0 := (by decide +kernel); have k5 : (1 : Int64).toInt = 1 := (by decide +kernel); have ev : t78.toInt = x.toInt.tmod y.toInt := (by rw [et78]; exact l_rem hx hy); rw [(by rw [q73]; decide +kernel : op.toInt.toNat = 9)]; show ((-1000000000000) : Int64).toInt = enc (if y.toInt = 0 then none else bnd (x.toInt.tmod y.toInt)); rw [if_neg (fun q => h77 (Int64.toInt_inj.mp (q.trans k4.symm)))]; rw [jo_b (by omega)]; exact k3)⟩
    · have h91 := klc_eq (et75 ▸ c76)
      refine lv_ldc2 (v := (-1000000000000)) hx hb hown (hg _ wt3_100) dX10_joined_94 ?_
      refine lv_goto (tgt := 103) hx hb dX10_joined_97 (by decide) ?_
      refine lv_lstore (lv' := [(5, .long (-1000000000000)), (0, .int op), (1, .long x), (3, .long y)]) hx hb dX10_joined_103 hl (by decide) rfl (fun ls hl => ?_)
      refine lv_goto (tgt := 144) hx hb dX10_joined_105 (by decide) ?_
      refine lv_lload hx hb dX10_joined_144 (lv_at hl 0 rfl) ?_
      refine lv_ldc2 (v := (-1000000000)) hx hb hown (hg _ wt3_104) dX10_joined_146 ?_
      refine W.lcmp hx hb dX10_joined_149 ?_
      refine lv_topi (fun t92 et92 => ?_)
      refine lv_if_lt (tgt := 162) hx hb dX10_joined_150 (by decide) (fun c93 => ?_) (fun c93 => ?_)
      · have h94 := klc_lt (et92 ▸ c93)
        refine lv_ldc2 (v := (-1000000000000)) hx hb hown (hg _ wt3_100) dX10_joined_162 ?_
        refine lv_goto (tgt := 170) hx hb dX10_joined_165 (by decide) ?_
        exact kNL_ret (v := (-1000000000000)) hx hb hr hlocks hS dX10_joined_170 ⟨(kbl_w kcl_m1000000000000 (by decide) (by decide)), (fun h5 h12 hx hy => by have k1 : ((-1000000000) : Int64).toInt = -1000000000 := (by decide +kernel); have k2 : (1000000000 : Int64).toInt = 1000000000 := (by decide +kernel); have k3 : ((-1000000000000) : Int64).toInt = -1000000000000 := (by decide +kernel); have k4 : (0 : Int64).toInt = 0 := (by decide +kernel); have k5 : (1 : Int64).toInt = 1 := (by decide +kernel); rw [(by rw [q73]; decide +kernel : op.toInt.toNat = 9)]; first | (exfalso; omega) | (show ((-1000000000000) : Int64).toInt = enc (if y.toInt = 0 then none else bnd (x.toInt.tmod y.toInt)); rw [if_pos (by rw [h91]; exact k4)]; exact k3))⟩
      · have h95 := klc_nlt (et92 ▸ c93)
        refine lv_lload hx hb dX10_joined_153 (lv_at hl 0 rfl) ?_
        refine lv_ldc2 (v := (1000000000)) hx hb hown (hg _ wt3_105) dX10_joined_155 ?_
        refine W.lcmp hx hb dX10_joined_158 ?_
        refine lv_topi (fun t96 et96 => ?_)
        refine lv_if_le (tgt := 168) hx hb dX10_joined_159 (by decide) (fun c97 => ?_) (fun c97 => ?_)
        · have h98 := klc_le (et96 ▸ c97)
          refine lv_lload hx hb dX10_joined_168 (lv_at hl 0 rfl) ?_
          exact kNL_ret (v := (-1000000000000)) hx hb hr hlocks hS dX10_joined_170 ⟨(kbl_w kcl_m1000000000000 (by decide) (by decide)), (fun h5 h12 hx hy => by have k1 : ((-1000000000) : Int64).toInt = -1000000000 := (by decide +kernel); have k2 : (1000000000 : Int64).toInt = 1000000000 := (by decide +kernel); have k3 : ((-1000000000000) : Int64).toInt = -1000000000000 := (by decide +kernel); have k4 : (0 : Int64).toInt = 0 := (by decide +kernel); have k5 : (1 : Int64).toInt = 1 := (by decide +kernel); rw [(by rw [q73]; decide +kernel : op.toInt.toNat = 9)]; first | (exfalso; omega) | (show ((-1000000000000) : Int64).toInt = enc (if y.toInt = 0 then none else bnd (x.toInt.tmod y.toInt)); rw [if_pos (by rw [h91]; exact k4)]; exact k3))⟩
        · have h99 := klc_nle (et96 ▸ c97)
          refine lv_ldc2 (v := (-1000000000000)) hx hb hown (hg _ wt3_100) dX10_joined_162 ?_
          refine lv_goto (tgt := 170) hx hb dX10_joined_165 (by decide) ?_
          exact kNL_ret (v := (-1000000000000)) hx hb hr hlocks hS dX10_joined_170 ⟨(kbl_w kcl_m1000000000000 (by decide) (by decide)), (fun h5 h12 hx hy => by have k1 : ((-1000000000) : Int64).toInt = -1000000000 := (by decide +kernel); have k2 : (1000000000 : Int64).toInt = 1000000000 := (by decide +kernel); have k3 : ((-1000000000000) : Int64).toInt = -1000000000000 := (by decide +kernel); have k4 : (0 : Int64).toInt = 0 := (by decide +kernel); have k5 : (1 : Int64).toInt = 1 := (by decide +kernel); rw [(by rw [q73]; decide +kernel : op.toInt.toNat = 9)]; first | (exfalso; omega) | (show ((-1000000000000) : Int64).toInt = enc (if y.toInt = 0 then none else bnd (x.toInt.tmod y.toInt)); rw [if_pos (by rw [h91]; exact k4)]; exact k3))⟩
  by_cases q100 : op = 10
  · have b101 : kb 10 op 10 := kb_eq q100 kc_10
    refine lv_tableIn (tgt := 108) hx hb dX10_joined_1 (by rw [q100]; decide +kernel) (by rw [q100]; decide +kernel) (by rw [q100]; rfl) (by decide) ?_
    refine lv_lload_n hx hb dX10_joined_108 rfl (lv_at hl 1 rfl) ?_
    refine lv_lload_n hx hb dX10_joined_109 rfl (lv_at hl 2 rfl) ?_
    refine W.lcmp hx hb dX10_joined_110 ?_
    refine lv_topi (fun t102 et102 => ?_)
    refine lv_if_ge (tgt := 118) hx hb dX10_joined_111 (by decide) (fun c103 => ?_) (fun c103 => ?_)
    · have h104 := klc_ge (et102 ▸ c103)
      refine lv_lconst (v := 0) hx hb dX10_joined_118 (by decide) ?_
      exact kNL_ret (v := 0) hx hb hr hlocks hS dX10_joined_119 ⟨(kbl_w kcl_0 (by decide) (by decide)), (fun h5 h12 hx hy => by have k1 : ((-1000000000) : Int64).toInt = -1000000000 := (by decide +kernel); have k2 : (1000000000 : Int64).toInt = 1000000000 := (by decide +kernel); have k3 : ((-1000000000000) : Int64).toInt = -1000000000000 := (by decide +kernel); have k4 : (0 : Int64).toInt = 0 := (by decide +kernel); have k5 : (1 : Int64).toInt = 1 := (by decide +kernel); rw [(by rw [q100]; decide +kernel : op.toInt.toNat = 10)]; show (0 : Int64).toInt = enc (some (if x.toInt < y.toInt then 1 else 0)); show (0 : Int64).toInt = _; rw [if_neg (fun q => absurd h104 (Int.not_le.mpr q))]; exact k4)⟩
    · have h105 := klc_nge (et102 ▸ c103)
      have b106 : kbl (-9223372036854775808) x 9223372036854775806 := klr_lt1 h105 (kbl_any x) (kbl_any y) (by decide)
      have b107 : kbl (-9223372036854775807) y 9223372036854775807 := klr_lt2 h105 (kbl_any x) (kbl_any y) (by decide)
      refine lv_lconst (v := 1) hx hb dX10_joined_114 (by decide) ?_
      refine lv_goto (tgt := 119) hx hb dX10_joined_115 (by decide) ?_
      exact kNL_ret (v := 1) hx hb hr hlocks hS dX10_joined_119 ⟨(kbl_w kcl_1 (by decide) (by decide)), (fun h5 h12 hx hy => by have k1 : ((-1000000000) : Int64).toInt = -1000000000 := (by decide +kernel); have k2 : (1000000000 : Int64).toInt = 1000000000 := (by decide +kernel); have k3 : ((-1000000000000) : Int64).toInt = -1000000000000 := (by decide +kernel); have k4 : (0 : Int64).toInt = 0 := (by decide +kernel); have k5 : (1 : Int64).toInt = 1 := (by decide +kernel); rw [(by rw [q100]; decide +kernel : op.toInt.toNat = 10)]; show (1 : Int64).toInt = enc (some (if x.toInt < y.toInt then 1 else 0)); show (1 : Int64).toInt = _; rw [if_pos h105]; exact k5)⟩
  by_cases q108 : op = 11
  · have b109 : kb 11 op 11 := kb_eq q108 kc_11
    refine lv_tableIn (tgt := 120) hx hb dX10_joined_1 (by rw [q108]; decide +kernel) (by rw [q108]; decide +kernel) (by rw [q108]; rfl) (by decide) ?_
    refine lv_lload_n hx hb dX10_joined_120 rfl (lv_at hl 1 rfl) ?_
    refine lv_lload_n hx hb dX10_joined_121 rfl (lv_at hl 2 rfl) ?_
    refine W.lcmp hx hb dX10_joined_122 ?_
    refine lv_topi (fun t110 et110 => ?_)
    refine lv_if_le (tgt := 130) hx hb dX10_joined_123 (by decide) (fun c111 => ?_) (fun c111 => ?_)
    · have h112 := klc_le (et110 ▸ c111)
      refine lv_lconst (v := 0) hx hb dX10_joined_130 (by decide) ?_
      exact kNL_ret (v := 0) hx hb hr hlocks hS dX10_joined_131 ⟨(kbl_w kcl_0 (by decide) (by decide)), (fun h5 h12 hx hy => by have k1 : ((-1000000000) : Int64).toInt = -1000000000 := (by decide +kernel); have k2 : (1000000000 : Int64).toInt = 1000000000 := (by decide +kernel); have k3 : ((-1000000000000) : Int64).toInt = -1000000000000 := (by decide +kernel); have k4 : (0 : Int64).toInt = 0 := (by decide +kernel); have k5 : (1 : Int64).toInt = 1 := (by decide +kernel); rw [(by rw [q108]; decide +kernel : op.toInt.toNat = 11)]; show (0 : Int64).toInt = enc (some (if y.toInt < x.toInt then 1 else 0)); show (0 : Int64).toInt = _; rw [if_neg (fun q => absurd h112 (Int.not_le.mpr q))]; exact k4)⟩
    · have h113 := klc_nle (et110 ▸ c111)
      have b114 : kbl (-9223372036854775807) x 9223372036854775807 := klr_lt2 h113 (kbl_any y) (kbl_any x) (by decide)
      have b115 : kbl (-9223372036854775808) y 9223372036854775806 := klr_lt1 h113 (kbl_any y) (kbl_any x) (by decide)
      refine lv_lconst (v := 1) hx hb dX10_joined_126 (by decide) ?_
      refine lv_goto (tgt := 131) hx hb dX10_joined_127 (by decide) ?_
      exact kNL_ret (v := 1) hx hb hr hlocks hS dX10_joined_131 ⟨(kbl_w kcl_1 (by decide) (by decide)), (fun h5 h12 hx hy => by have k1 : ((-1000000000) : Int64).toInt = -1000000000 := (by decide +kernel); have k2 : (1000000000 : Int64).toInt = 1000000000 := (by decide +kernel); have k3 : ((-1000000000000) : Int64).toInt = -1000000000000 := (by decide +kernel); have k4 : (0 : Int64).toInt = 0 := (by decide +kernel); have k5 : (1 : Int64).toInt = 1 := (by decide +kernel); rw [(by rw [q108]; decide +kernel : op.toInt.toNat = 11)]; show (1 : Int64).toInt = enc (some (if y.toInt < x.toInt then 1 else 0)); show (1 : Int64).toInt = _; rw [if_pos h113]; exact k5)⟩
  refine lv_tableOut (tgt := 132) hx hb dX10_joined_1 (by have gq1 := lv_neT q1 (a := 5) (by decide +kernel); have gq16 := lv_neT q16 (a := 6) (by decide +kernel); have gq31 := lv_neT q31 (a := 7) (by decide +kernel); have gq46 := lv_neT q46 (a := 8) (by decide +kernel); have gq73 := lv_neT q73 (a := 9) (by decide +kernel); have gq100 := lv_neT q100 (a := 10) (by decide +kernel); have gq108 := lv_neT q108 (a := 11) (by decide +kernel); omega) (by decide) ?_
  refine lv_lload_n hx hb dX10_joined_132 rfl (lv_at hl 1 rfl) ?_
  refine lv_lload_n hx hb dX10_joined_133 rfl (lv_at hl 2 rfl) ?_
  refine W.lcmp hx hb dX10_joined_134 ?_
  refine lv_topi (fun t116 et116 => ?_)
  refine lv_if_ne (tgt := 142) hx hb dX10_joined_135 (by decide) (fun c117 => ?_) (fun c117 => ?_)
  · have h118 := klc_ne (et116 ▸ c117)
    refine lv_lconst (v := 0) hx hb dX10_joined_142 (by decide) ?_
    exact kNL_ret (v := 0) hx hb hr hlocks hS dX10_joined_143 ⟨(kbl_w kcl_0 (by decide) (by decide)), (fun h5 h12 hx hy => by have k1 : ((-1000000000) : Int64).toInt = -1000000000 := (by decide +kernel); have k2 : (1000000000 : Int64).toInt = 1000000000 := (by decide +kernel); have k3 : ((-1000000000000) : Int64).toInt = -1000000000000 := (by decide +kernel); have k4 : (0 : Int64).toInt = 0 := (by decide +kernel); have k5 : (1 : Int64).toInt = 1 := (by decide +kernel); rw [(jo_12 q1 q16 q31 q46 q73 q100 q108 h5 h12)]; show (0 : Int64).toInt = enc (some (if x.toInt = y.toInt then 1 else 0)); show (0 : Int64).toInt = _; rw [if_neg (fun q => h118 (Int64.toInt_inj.mp q))]; exact k4)⟩
  · have h119 := klc_eq (et116 ▸ c117)
    refine lv_lconst (v := 1) hx hb dX10_joined_138 (by decide) ?_
    refine lv_goto (tgt := 143) hx hb dX10_joined_139 (by decide) ?_
    exact kNL_ret (v := 1) hx hb hr hlocks hS dX10_joined_143 ⟨(kbl_w kcl_1 (by decide) (by decide)), (fun h5 h12 hx hy => by have k1 : ((-1000000000) : Int64).toInt = -1000000000 := (by decide +kernel); have k2 : (1000000000 : Int64).toInt = 1000000000 := (by decide +kernel); have k3 : ((-1000000000000) : Int64).toInt = -1000000000000 := (by decide +kernel); have k4 : (0 : Int64).toInt = 0 := (by decide +kernel); have k5 : (1 : Int64).toInt = 1 := (by decide +kernel); rw [(jo_12 q1 q16 q31 q46 q73 q100 q108 h5 h12)]; show (1 : Int64).toInt = enc (some (if x.toInt = y.toInt then 1 else 0)); show (1 : Int64).toInt = _; rw [if_pos (congrArg Int64.toInt h119)]; exact k5)⟩
set_option maxHeartbeats 4000000 in
set_option maxRecDepth 100000 in
theorem x_7_hasPart  (l : Launch) {D : va_G} {K : Nat → ClassId} (r : Nat → Nat) (f : Nat → Int32) (a : Nat → Nat → Int32) (g : xG) (tx tt : va_W) (hT : ∀ c ∈ tt, c ∈ tx) (hI : xI f a) (hG : gOK K g.2 tt) (x : Int32)    : kIG l yX7_hasPart (Cond.code yX7_hasPart cX7_hasPart 2 (some .boolean) :: kG) (rmD 1 0 0) D K [.ref (r 1), .int x] (xX K r f a g tx) (fun v (_ : Unit) => kb 0 v 1 ∧ (¬ v = 0 → 0 ≤ x.toInt ∧ x.toInt ≤ 9) ∧ (v = 0 → ¬ (0 ≤ x.toInt ∧ x.toInt < (f 32).toInt)) ∧ (¬ v = 0 → x.toInt < (f 32).toInt)) (fun _ => xX K r f a g tx) 0 0 := by
  refine kIE.of (cc := cX7_hasPart) (maxL := 2) (ret := (some .boolean)) (by decide) rfl (Nat.le_of_ble_eq_true rfl) ?_
  intro p e s m below meth c A hx hb hr hml hown hts hlocks hnm hK hP hD hS hA hV ls hl
  have hg : ∀ w ∈ kG, w.before _ s = true := fun w h => hts w (List.mem_cons_of_mem _ h)
  have hown : s.vm.findClass RX7 = some m.cls := hown
  have hl : lv_has ls 2 [(0, .ref (r 1)), (1, .int x)] := hl
  refine lv_iload_n hx hb dX7_hasPart_0 rfl (lv_at hl 1 rfl) ?_
  refine lv_if_lt (tgt := 22) hx hb dX7_hasPart_1 (by decide) (fun c1 => ?_) (fun c1 => ?_)
  · have h2 := (kc_lt c1)
    have b3 : kb (-2147483648) x (-1) := kr_lt1 h2 (kb_any x) kc_0 (by decide)
    refine lv_iconst (v := 0) hx hb dX7_hasPart_22 (by decide) ?_
    exact kI_ret (v := 0) hx hb hr hlocks (by decide +kernel) hK hS dX7_hasPart_23 () hP hD ⟨(kb_w kc_0 (by decide) (by decide)), (fun q => absurd rfl q), (fun _ q => by have q1 := q.1; have q2 := q.2; have w1 := (b3).1; have w2 := (b3).2; omega), (fun q => absurd rfl q)⟩
  · have h4 := (kc_nlt c1)
    have b5 : kb 0 x 2147483647 := kr_le2 h4 kc_0 (kb_any x)
    refine lv_iload_n hx hb dX7_hasPart_4 rfl (lv_at hl 1 rfl) ?_
    refine lv_aload_n hx hb dX7_hasPart_5 rfl (lv_at hl 0 rfl) ?_
    refine va_get (D := D) (ci := 7) (v := .int (f 32)) (C := RX7) (T := TX7) (N := 20) hx hb hg inC7 hown hK hP 1 rfl rfl 0 (by decide) (hg _ wt1_79) (fun _ h9 => h9) rfl dX7_hasPart_6 ?_
    refine lv_topi (fun t6 et6 => ?_)
    have b7 : kb 0 t6 10 := kb_eq et6 (fI_at hI.1 32 (by decide) (by decide))
    refine lv_icmp_ge (tgt := 22) hx hb dX7_hasPart_9 (by decide) (fun c8 => ?_) (fun c8 => ?_)
    · have h9 := (kc_le c8)
      refine lv_iconst (v := 0) hx hb dX7_hasPart_22 (by decide) ?_
      exact kI_ret (v := 0) hx hb hr hlocks (by decide +kernel) hK hS dX7_hasPart_23 () hP hD ⟨(kb_w kc_0 (by decide) (by decide)), (fun q => absurd rfl q), (fun _ q => by have q1 := q.1; have q2 := q.2; have w1 := (b5).1; have w2 := (b5).2; have e1 := congrArg Int32.toInt (et6.symm); have e2 := (b7).2; omega), (fun q => absurd rfl q)⟩
    · have h10 := (kc_nle c8)
      have b11 : kb 0 x 9 := kr_lt1 h10 b5 b7 (by decide)
      have b12 : kb 1 t6 10 := kr_lt2 h10 b5 b7 (by decide)
      refine lv_iload_n hx hb dX7_hasPart_12 rfl (lv_at hl 1 rfl) ?_
      refine lv_bipush (v := 10) hx hb dX7_hasPart_13 (by decide) ?_
      refine lv_icmp_ge (tgt := 22) hx hb dX7_hasPart_15 (by decide) (fun c13 => ?_) (fun c13 => ?_)
      · have h14 := (kc_le c13)
        exact kb_no (kr_le1 h14 kc_10 b11) (by decide)
      · have h15 := (kc_nle c13)
        refine lv_iconst (v := 1) hx hb dX7_hasPart_18 (by decide) ?_
        refine lv_goto (tgt := 23) hx hb dX7_hasPart_19 (by decide) ?_
        exact kI_ret (v := 1) hx hb hr hlocks (by decide +kernel) hK hS dX7_hasPart_23 () hP hD ⟨(kb_w kc_1 (by decide) (by decide)), (fun _ => b11), (fun q => absurd q (by decide +kernel)), (fun _ => by have e1 := congrArg Int32.toInt (et6.symm); have e2 := (b12).2; omega)⟩
set_option maxHeartbeats 4000000 in
set_option maxRecDepth 100000 in
theorem x_7_upMask  (l : Launch) {D : va_G} {K : Nat → ClassId} (r : Nat → Nat) (f : Nat → Int32) (a : Nat → Nat → Int32) (g : xG) (tx tt : va_W) (hT : ∀ c ∈ tt, c ∈ tx) (hI : xI f a) (hG : gOK K g.2 tt)     : kIG l yX7_upMask (Cond.code yX7_upMask cX7_upMask 3 (some .int) :: kG) (rmD 1 0 0) D K [.ref (r 1)] (xX K r f a g tx) (fun v (_ : Unit) => kb (-2147483648) v 2147483647) (fun _ => xX K r f a g tx) 0 0 := by
  refine kIE.of (cc := cX7_upMask) (maxL := 3) (ret := (some .int)) (by decide) rfl (Nat.le_of_ble_eq_true rfl) ?_
  intro p e s m below meth c A hx hb hr hml hown hts hlocks hnm hK hP hD hS hA hV ls hl
  have hg : ∀ w ∈ kG, w.before _ s = true := fun w h => hts w (List.mem_cons_of_mem _ h)
  have hown : s.vm.findClass RX7 = some m.cls := hown
  have hl : lv_has ls 3 [(0, .ref (r 1))] := hl
  refine lv_iconst (v := 0) hx hb dX7_upMask_0 (by decide) ?_
  refine lv_istore_n (lv' := [(1, .int 0), (0, .ref (r 1))]) hx hb dX7_upMask_1 rfl hl (by decide) rfl (fun ls hl => ?_)
  refine lv_iconst (v := 0) hx hb dX7_upMask_2 (by decide) ?_
  refine lv_istore_n (lv' := [(2, .int 0), (1, .int 0), (0, .ref (r 1))]) hx hb dX7_upMask_3 rfl hl (by decide) rfl (fun ls hl => ?_)
  have lp3 : ∀ (n4 : Nat) (H : Heap) (locs : List Loc) (ls : Array Slot) (y1 : Int32) (y2 : Int32), (10 < y1.toInt + (n4 : Int)) → (kb 0 y1 10) → va_P D vwCl (xX K r f a g tx) H → va_D A (xX K r f a g tx) → va_S A s.heap H locs → lv_has ls 3 [(2, .int y1), (1, .int y2), (0, .ref (r 1))] → W p l e (rmD 1 0 0) s m ([.ref (r 1)] : List Value).toArray below meth c H locs 0 0 (kQi D (tysK K) (fun v (_ : Unit) => kb (-2147483648) v 2147483647) (fun _ => xX K r f a g tx) A below ([.ref (r 1)] : List Value).toArray s 0 0) (F0 m 4 ls []) := by
    intro n4
    induction n4 with
    | zero =>
      intro   H locs ls y1 y2 hmlp3 b5 hP hD hS hl
      exact (by have h1 := b5.2; have h2 := hmlp3; omega : False).elim
    | succ n4 ihlp3 =>
      intro   H locs ls y1 y2 hmlp3 b5 hP hD hS hl
      refine lv_iload_n hx hb dX7_upMask_4 rfl (lv_at hl 0 rfl) ?_
      refine lv_aload_n hx hb dX7_upMask_5 rfl (lv_at hl 2 rfl) ?_
      refine va_get (D := D) (ci := 7) (v := .int (f 32)) (C := RX7) (T := TX7) (N := 20) hx hb hg inC7 hown hK hP 1 rfl rfl 0 (by decide) (hg _ wt1_79) (fun _ h9 => h9) rfl dX7_upMask_6 ?_
      refine lv_topi (fun t6 et6 => ?_)
      have b7 : kb 0 t6 10 := kb_eq et6 (fI_at hI.1 32 (by decide) (by decide))
      refine lv_icmp_ge (tgt := 39) hx hb dX7_upMask_9 (by decide) (fun c8 => ?_) (fun c8 => ?_)
      · have h9 := (kc_le c8)
        refine lv_iload_n hx hb dX7_upMask_39 rfl (lv_at hl 1 rfl) ?_
        exact kI_ret (v := y2) hx hb hr hlocks rfl hK hS dX7_upMask_40 () hP hD (kb_any y2)
      · have h10 := (kc_nle c8)
        have b11 : kb 0 y1 9 := kr_lt1 h10 b5 b7 (by decide)
        have b12 : kb 1 t6 10 := kr_lt2 h10 b5 b7 (by decide)
        refine lv_iload_n hx hb dX7_upMask_12 rfl (lv_at hl 0 rfl) ?_
        refine lv_bipush (v := 10) hx hb dX7_upMask_13 (by decide) ?_
        refine lv_icmp_ge (tgt := 39) hx hb dX7_upMask_15 (by decide) (fun c13 => ?_) (fun c13 => ?_)
        · have h14 := (kc_le c13)
          exact kb_no (kr_le1 h14 kc_10 b11) (by decide)
        · have h15 := (kc_nle c13)
          refine lv_aload_n hx hb dX7_upMask_18 rfl (lv_at hl 2 rfl) ?_
          refine va_get (D := D) (ci := 7) (v := .ref (r 6)) (C := RX7) (T := TX7) (N := 20) hx hb hg inC7 hown hK hP 1 rfl rfl 5 (by decide) (hg _ wt1_97) (fun _ h9 => h9) rfl dX7_upMask_19 ?_
          refine lv_iload_n hx hb dX7_upMask_22 rfl (lv_at hl 0 rfl) ?_
          refine va_iald hx hb hK hP 6 0 rfl rfl (kb_in b11 (by decide) (by decide)) dX7_upMask_23 ?_
          refine lv_topi (fun t16 et16 => ?_)
          have jn22 : ∀ (H : Heap) (locs : List Loc) (ls : Array Slot) (y21 : Int32), va_P D vwCl (xX K r f a g tx) H → va_D A (xX K r f a g tx) → va_S A s.heap H locs → lv_has ls 3 [(2, .int y1), (1, .int y21), (0, .ref (r 1))] → W p l e (rmD 1 0 0) s m ([.ref (r 1)] : List Value).toArray below meth c H locs 0 0 (kQi D (tysK K) (fun v (_ : Unit) => kb (-2147483648) v 2147483647) (fun _ => xX K r f a g tx) A below ([.ref (r 1)] : List Value).toArray s 0 0) (F0 m 33 ls []) := by
            intro  H locs ls y21  hP hD hS hl
            obtain ⟨t23, et23⟩ : ∃ z : Int32, z = y1 + Int32.ofInt 1 := ⟨_, rfl⟩
            have qt23 : t23.toInt = y1.toInt + 1 := by rw [et23]; exact km_inc b11 (by decide) (by decide)
            have b24 : kb 1 t23 10 := kb_inc (k := 1) qt23 b11
            refine lv_iinc (v := t23) (lv' := [(2, .int t23), (1, .int y21), (0, .ref (r 1))]) hx hb dX7_upMask_33 hl (k := 0) rfl et23.symm (by decide) rfl (fun ls hl => ?_)
            refine lv_goto (tgt := 4) hx hb dX7_upMask_36 (by decide) ?_
            exact ihlp3  _ _ _ t23 y21 (km_up hmlp3 qt23) (kb_w b24 (by decide) (by decide)) hP hD hS (lv_sub hl [0, 1, 2] rfl)
          refine lv_if_ne (tgt := 33) hx hb dX7_upMask_24 (by decide) (fun c25 => ?_) (fun c25 => ?_)
          · exact jn22 _ _ _ y2  hP hD hS (lv_sub hl [0, 1, 2] rfl)
          · have b26 : kb 0 t16 0 := kb_eq c25 kc_0
            refine lv_iload_n hx hb dX7_upMask_27 rfl (lv_at hl 1 rfl) ?_
            refine lv_iconst (v := 1) hx hb dX7_upMask_28 (by decide) ?_
            refine lv_iload_n hx hb dX7_upMask_29 rfl (lv_at hl 0 rfl) ?_
            refine lv_ishl hx hb dX7_upMask_30 ?_
            refine lv_topi (fun t27 et27 => ?_)
            have b28 : kb 1 t27 512 := kb_eq et27 (kb_shl (l := 0) (h := 9) b11 (by decide))
            refine lv_ior hx hb dX7_upMask_31 ?_
            refine lv_topi (fun t29 et29 => ?_)
            refine lv_istore_n (lv' := [(1, .int t29), (2, .int y1), (0, .ref (r 1))]) hx hb dX7_upMask_32 rfl hl (by decide) rfl (fun ls hl => ?_)
            exact jn22 _ _ _ t29  hP hD hS (lv_sub hl [1, 0, 2] rfl)
  exact lp3 (11)  _ _ _ 0 0 (by have h1 := (kc_0); unfold kb at h1; omega) (kb_w kc_0 (by decide) (by decide)) hP hD hS (lv_sub hl [0, 1, 2] rfl)
set_option maxHeartbeats 4000000 in
set_option maxRecDepth 100000 in
theorem x_7_hasPartP  (l : Launch) {D : va_G} {K : Nat → ClassId} (r : Nat → Nat) (f : Nat → Int32) (a : Nat → Nat → Int32) (g : xG) (tx tt : va_W) (hT : ∀ c ∈ tt, c ∈ tx) (hI : xI f a) (hG : gOK K g.2 tt) (x : Int32)    : kIG l yX7_hasPart (Cond.code yX7_hasPart cX7_hasPart 2 (some .boolean) :: kG) (rmD 1 0 0) D K [.ref (r 59), .int x] (xX K r f a g tx) (fun v (_ : Unit) => kb 0 v 1 ∧ (¬ v = 0 → 0 ≤ x.toInt ∧ x.toInt ≤ 9) ∧ (v = 0 → ¬ (0 ≤ x.toInt ∧ x.toInt < (f 1888).toInt)) ∧ (¬ v = 0 → x.toInt < (f 1888).toInt)) (fun _ => xX K r f a g tx) 0 0 := by
  refine kIE.of (cc := cX7_hasPart) (maxL := 2) (ret := (some .boolean)) (by decide) rfl (Nat.le_of_ble_eq_true rfl) ?_
  intro p e s m below meth c A hx hb hr hml hown hts hlocks hnm hK hP hD hS hA hV ls hl
  have hg : ∀ w ∈ kG, w.before _ s = true := fun w h => hts w (List.mem_cons_of_mem _ h)
  have hown : s.vm.findClass RX7 = some m.cls := hown
  have hl : lv_has ls 2 [(0, .ref (r 59)), (1, .int x)] := hl
  refine lv_iload_n hx hb dX7_hasPart_0 rfl (lv_at hl 1 rfl) ?_
  refine lv_if_lt (tgt := 22) hx hb dX7_hasPart_1 (by decide) (fun c1 => ?_) (fun c1 => ?_)
  · have h2 := (kc_lt c1)
    have b3 : kb (-2147483648) x (-1) := kr_lt1 h2 (kb_any x) kc_0 (by decide)
    refine lv_iconst (v := 0) hx hb dX7_hasPart_22 (by decide) ?_
    exact kI_ret (v := 0) hx hb hr hlocks (by decide +kernel) hK hS dX7_hasPart_23 () hP hD ⟨(kb_w kc_0 (by decide) (by decide)), (fun q => absurd rfl q), (fun _ q => by have q1 := q.1; have q2 := q.2; have w1 := (b3).1; have w2 := (b3).2; omega), (fun q => absurd rfl q)⟩
  · have h4 := (kc_nlt c1)
    have b5 : kb 0 x 2147483647 := kr_le2 h4 kc_0 (kb_any x)
    refine lv_iload_n hx hb dX7_hasPart_4 rfl (lv_at hl 1 rfl) ?_
    refine lv_aload_n hx hb dX7_hasPart_5 rfl (lv_at hl 0 rfl) ?_
    refine va_get (D := D) (ci := 7) (v := .int (f 1888)) (C := RX7) (T := TX7) (N := 20) hx hb hg inC7 hown hK hP 59 rfl rfl 0 (by decide) (hg _ wt1_79) (fun _ h9 => h9) rfl dX7_hasPart_6 ?_
    refine lv_topi (fun t6 et6 => ?_)
    have b7 : kb 0 t6 10 := kb_eq et6 (fI_at hI.1 1888 (by decide) (by decide))
    refine lv_icmp_ge (tgt := 22) hx hb dX7_hasPart_9 (by decide) (fun c8 => ?_) (fun c8 => ?_)
    · have h9 := (kc_le c8)
      refine lv_iconst (v := 0) hx hb dX7_hasPart_22 (by decide) ?_
      exact kI_ret (v := 0) hx hb hr hlocks (by decide +kernel) hK hS dX7_hasPart_23 () hP hD ⟨(kb_w kc_0 (by decide) (by decide)), (fun q => absurd rfl q), (fun _ q => by have q1 := q.1; have q2 := q.2; have w1 := (b5).1; have w2 := (b5).2; have e1 := congrArg Int32.toInt (et6.symm); have e2 := (b7).2; omega), (fun q => absurd rfl q)⟩
    · have h10 := (kc_nle c8)
      have b11 : kb 0 x 9 := kr_lt1 h10 b5 b7 (by decide)
      have b12 : kb 1 t6 10 := kr_lt2 h10 b5 b7 (by decide)
      refine lv_iload_n hx hb dX7_hasPart_12 rfl (lv_at hl 1 rfl) ?_
      refine lv_bipush (v := 10) hx hb dX7_hasPart_13 (by decide) ?_
      refine lv_icmp_ge (tgt := 22) hx hb dX7_hasPart_15 (by decide) (fun c13 => ?_) (fun c13 => ?_)
      · have h14 := (kc_le c13)
        exact kb_no (kr_le1 h14 kc_10 b11) (by decide)
      · have h15 := (kc_nle c13)
        refine lv_iconst (v := 1) hx hb dX7_hasPart_18 (by decide) ?_
        refine lv_goto (tgt := 23) hx hb dX7_hasPart_19 (by decide) ?_
        exact kI_ret (v := 1) hx hb hr hlocks (by decide +kernel) hK hS dX7_hasPart_23 () hP hD ⟨(kb_w kc_1 (by decide) (by decide)), (fun _ => b11), (fun q => absurd q (by decide +kernel)), (fun _ => by have e1 := congrArg Int32.toInt (et6.symm); have e2 := (b12).2; omega)⟩
set_option maxHeartbeats 4000000 in
set_option maxRecDepth 100000 in
theorem x_7_hasBuilderP  (l : Launch) {D : va_G} {K : Nat → ClassId} (r : Nat → Nat) (f : Nat → Int32) (a : Nat → Nat → Int32) (g : xG) (tx tt : va_W) (hT : ∀ c ∈ tt, c ∈ tx) (hI : xI f a) (hG : gOK K g.2 tt) (x : Int32)    : kIG l yX7_hasBuilder (Cond.code yX7_hasBuilder cX7_hasBuilder 2 (some .boolean) :: kG) (rmD 1 0 0) D K [.ref (r 59), .int x] (xX K r f a g tx) (fun v (_ : Unit) => kb 0 v 1 ∧ (¬ v = 0 → 0 ≤ x.toInt ∧ x.toInt ≤ 5)) (fun _ => xX K r f a g tx) 0 0 := by
  refine kIE.of (cc := cX7_hasBuilder) (maxL := 2) (ret := (some .boolean)) (by decide) rfl (Nat.le_of_ble_eq_true rfl) ?_
  intro p e s m below meth c A hx hb hr hml hown hts hlocks hnm hK hP hD hS hA hV ls hl
  have hg : ∀ w ∈ kG, w.before _ s = true := fun w h => hts w (List.mem_cons_of_mem _ h)
  have hown : s.vm.findClass RX7 = some m.cls := hown
  have hl : lv_has ls 2 [(0, .ref (r 59)), (1, .int x)] := hl
  refine lv_iload_n hx hb dX7_hasBuilder_0 rfl (lv_at hl 1 rfl) ?_
  refine lv_if_lt (tgt := 22) hx hb dX7_hasBuilder_1 (by decide) (fun c1 => ?_) (fun c1 => ?_)
  · have h2 := (kc_lt c1)
    have b3 : kb (-2147483648) x (-1) := kr_lt1 h2 (kb_any x) kc_0 (by decide)
    refine lv_iconst (v := 0) hx hb dX7_hasBuilder_22 (by decide) ?_
    exact kI_ret (v := 0) hx hb hr hlocks (by decide +kernel) hK hS dX7_hasBuilder_23 () hP hD ⟨(kb_w kc_0 (by decide) (by decide)), (fun q => absurd rfl q)⟩
  · have h4 := (kc_nlt c1)
    have b5 : kb 0 x 2147483647 := kr_le2 h4 kc_0 (kb_any x)
    refine lv_iload_n hx hb dX7_hasBuilder_4 rfl (lv_at hl 1 rfl) ?_
    refine lv_aload_n hx hb dX7_hasBuilder_5 rfl (lv_at hl 0 rfl) ?_
    refine va_get (D := D) (ci := 7) (v := .int (f 1894)) (C := RX7) (T := TX7) (N := 20) hx hb hg inC7 hown hK hP 59 rfl rfl 6 (by decide) (hg _ wt1_104) (fun _ h9 => h9) rfl dX7_hasBuilder_6 ?_
    refine lv_topi (fun t6 et6 => ?_)
    refine lv_icmp_ge (tgt := 22) hx hb dX7_hasBuilder_9 (by decide) (fun c7 => ?_) (fun c7 => ?_)
    · have h8 := (kc_le c7)
      refine lv_iconst (v := 0) hx hb dX7_hasBuilder_22 (by decide) ?_
      exact kI_ret (v := 0) hx hb hr hlocks (by decide +kernel) hK hS dX7_hasBuilder_23 () hP hD ⟨(kb_w kc_0 (by decide) (by decide)), (fun q => absurd rfl q)⟩
    · have h9 := (kc_nle c7)
      have b10 : kb 0 x 2147483646 := kr_lt1 h9 b5 (kb_any t6) (by decide)
      have b11 : kb 1 t6 2147483647 := kr_lt2 h9 b5 (kb_any t6) (by decide)
      refine lv_iload_n hx hb dX7_hasBuilder_12 rfl (lv_at hl 1 rfl) ?_
      refine lv_bipush (v := 6) hx hb dX7_hasBuilder_13 (by decide) ?_
      refine lv_icmp_ge (tgt := 22) hx hb dX7_hasBuilder_15 (by decide) (fun c12 => ?_) (fun c12 => ?_)
      · have h13 := (kc_le c12)
        have b14 : kb 6 x 2147483646 := kr_le2 h13 kc_6 b10
        refine lv_iconst (v := 0) hx hb dX7_hasBuilder_22 (by decide) ?_
        exact kI_ret (v := 0) hx hb hr hlocks (by decide +kernel) hK hS dX7_hasBuilder_23 () hP hD ⟨(kb_w kc_0 (by decide) (by decide)), (fun q => absurd rfl q)⟩
      · have h15 := (kc_nle c12)
        have b16 : kb 0 x 5 := kr_lt1 h15 b10 kc_6 (by decide)
        refine lv_iconst (v := 1) hx hb dX7_hasBuilder_18 (by decide) ?_
        refine lv_goto (tgt := 23) hx hb dX7_hasBuilder_19 (by decide) ?_
        exact kI_ret (v := 1) hx hb hr hlocks (by decide +kernel) hK hS dX7_hasBuilder_23 () hP hD ⟨(kb_w kc_1 (by decide) (by decide)), (fun _ => b16)⟩
set_option maxHeartbeats 4000000 in
set_option maxRecDepth 100000 in
theorem x_7_upMaskP  (l : Launch) {D : va_G} {K : Nat → ClassId} (r : Nat → Nat) (f : Nat → Int32) (a : Nat → Nat → Int32) (g : xG) (tx tt : va_W) (hT : ∀ c ∈ tt, c ∈ tx) (hI : xI f a) (hG : gOK K g.2 tt)     : kIG l yX7_upMask (Cond.code yX7_upMask cX7_upMask 3 (some .int) :: kG) (rmD 1 0 0) D K [.ref (r 59)] (xX K r f a g tx) (fun v (_ : Unit) => kb (-2147483648) v 2147483647) (fun _ => xX K r f a g tx) 0 0 := by
  refine kIE.of (cc := cX7_upMask) (maxL := 3) (ret := (some .int)) (by decide) rfl (Nat.le_of_ble_eq_true rfl) ?_
  intro p e s m below meth c A hx hb hr hml hown hts hlocks hnm hK hP hD hS hA hV ls hl
  have hg : ∀ w ∈ kG, w.before _ s = true := fun w h => hts w (List.mem_cons_of_mem _ h)
  have hown : s.vm.findClass RX7 = some m.cls := hown
  have hl : lv_has ls 3 [(0, .ref (r 59))] := hl
  refine lv_iconst (v := 0) hx hb dX7_upMask_0 (by decide) ?_
  refine lv_istore_n (lv' := [(1, .int 0), (0, .ref (r 59))]) hx hb dX7_upMask_1 rfl hl (by decide) rfl (fun ls hl => ?_)
  refine lv_iconst (v := 0) hx hb dX7_upMask_2 (by decide) ?_
  refine lv_istore_n (lv' := [(2, .int 0), (1, .int 0), (0, .ref (r 59))]) hx hb dX7_upMask_3 rfl hl (by decide) rfl (fun ls hl => ?_)
  have lp3 : ∀ (n4 : Nat) (H : Heap) (locs : List Loc) (ls : Array Slot) (y1 : Int32) (y2 : Int32), (10 < y1.toInt + (n4 : Int)) → (kb 0 y1 10) → va_P D vwCl (xX K r f a g tx) H → va_D A (xX K r f a g tx) → va_S A s.heap H locs → lv_has ls 3 [(2, .int y1), (1, .int y2), (0, .ref (r 59))] → W p l e (rmD 1 0 0) s m ([.ref (r 59)] : List Value).toArray below meth c H locs 0 0 (kQi D (tysK K) (fun v (_ : Unit) => kb (-2147483648) v 2147483647) (fun _ => xX K r f a g tx) A below ([.ref (r 59)] : List Value).toArray s 0 0) (F0 m 4 ls []) := by
    intro n4
    induction n4 with
    | zero =>
      intro   H locs ls y1 y2 hmlp3 b5 hP hD hS hl
      exact (by have h1 := b5.2; have h2 := hmlp3; omega : False).elim
    | succ n4 ihlp3 =>
      intro   H locs ls y1 y2 hmlp3 b5 hP hD hS hl
      refine lv_iload_n hx hb dX7_upMask_4 rfl (lv_at hl 0 rfl) ?_
      refine lv_aload_n hx hb dX7_upMask_5 rfl (lv_at hl 2 rfl) ?_
      refine va_get (D := D) (ci := 7) (v := .int (f 1888)) (C := RX7) (T := TX7) (N := 20) hx hb hg inC7 hown hK hP 59 rfl rfl 0 (by decide) (hg _ wt1_79) (fun _ h9 => h9) rfl dX7_upMask_6 ?_
      refine lv_topi (fun t6 et6 => ?_)
      have b7 : kb 0 t6 10 := kb_eq et6 (fI_at hI.1 1888 (by decide) (by decide))
      refine lv_icmp_ge (tgt := 39) hx hb dX7_upMask_9 (by decide) (fun c8 => ?_) (fun c8 => ?_)
      · have h9 := (kc_le c8)
        refine lv_iload_n hx hb dX7_upMask_39 rfl (lv_at hl 1 rfl) ?_
        exact kI_ret (v := y2) hx hb hr hlocks rfl hK hS dX7_upMask_40 () hP hD (kb_any y2)
      · have h10 := (kc_nle c8)
        have b11 : kb 0 y1 9 := kr_lt1 h10 b5 b7 (by decide)
        have b12 : kb 1 t6 10 := kr_lt2 h10 b5 b7 (by decide)
        refine lv_iload_n hx hb dX7_upMask_12 rfl (lv_at hl 0 rfl) ?_
        refine lv_bipush (v := 10) hx hb dX7_upMask_13 (by decide) ?_
        refine lv_icmp_ge (tgt := 39) hx hb dX7_upMask_15 (by decide) (fun c13 => ?_) (fun c13 => ?_)
        · have h14 := (kc_le c13)
          exact kb_no (kr_le1 h14 kc_10 b11) (by decide)
        · have h15 := (kc_nle c13)
          refine lv_aload_n hx hb dX7_upMask_18 rfl (lv_at hl 2 rfl) ?_
          refine va_get (D := D) (ci := 7) (v := .ref (r 64)) (C := RX7) (T := TX7) (N := 20) hx hb hg inC7 hown hK hP 59 rfl rfl 5 (by decide) (hg _ wt1_97) (fun _ h9 => h9) rfl dX7_upMask_19 ?_
          refine lv_iload_n hx hb dX7_upMask_22 rfl (lv_at hl 0 rfl) ?_
          refine va_iald hx hb hK hP 64 0 rfl rfl (kb_in b11 (by decide) (by decide)) dX7_upMask_23 ?_
          refine lv_topi (fun t16 et16 => ?_)
          have jn22 : ∀ (H : Heap) (locs : List Loc) (ls : Array Slot) (y21 : Int32), va_P D vwCl (xX K r f a g tx) H → va_D A (xX K r f a g tx) → va_S A s.heap H locs → lv_has ls 3 [(2, .int y1), (1, .int y21), (0, .ref (r 59))] → W p l e (rmD 1 0 0) s m ([.ref (r 59)] : List Value).toArray below meth c H locs 0 0 (kQi D (tysK K) (fun v (_ : Unit) => kb (-2147483648) v 2147483647) (fun _ => xX K r f a g tx) A below ([.ref (r 59)] : List Value).toArray s 0 0) (F0 m 33 ls []) := by
            intro  H locs ls y21  hP hD hS hl
            obtain ⟨t23, et23⟩ : ∃ z : Int32, z = y1 + Int32.ofInt 1 := ⟨_, rfl⟩
            have qt23 : t23.toInt = y1.toInt + 1 := by rw [et23]; exact km_inc b11 (by decide) (by decide)
            have b24 : kb 1 t23 10 := kb_inc (k := 1) qt23 b11
            refine lv_iinc (v := t23) (lv' := [(2, .int t23), (1, .int y21), (0, .ref (r 59))]) hx hb dX7_upMask_33 hl (k := 0) rfl et23.symm (by decide) rfl (fun ls hl => ?_)
            refine lv_goto (tgt := 4) hx hb dX7_upMask_36 (by decide) ?_
            exact ihlp3  _ _ _ t23 y21 (km_up hmlp3 qt23) (kb_w b24 (by decide) (by decide)) hP hD hS (lv_sub hl [0, 1, 2] rfl)
          refine lv_if_ne (tgt := 33) hx hb dX7_upMask_24 (by decide) (fun c25 => ?_) (fun c25 => ?_)
          · exact jn22 _ _ _ y2  hP hD hS (lv_sub hl [0, 1, 2] rfl)
          · have b26 : kb 0 t16 0 := kb_eq c25 kc_0
            refine lv_iload_n hx hb dX7_upMask_27 rfl (lv_at hl 1 rfl) ?_
            refine lv_iconst (v := 1) hx hb dX7_upMask_28 (by decide) ?_
            refine lv_iload_n hx hb dX7_upMask_29 rfl (lv_at hl 0 rfl) ?_
            refine lv_ishl hx hb dX7_upMask_30 ?_
            refine lv_topi (fun t27 et27 => ?_)
            have b28 : kb 1 t27 512 := kb_eq et27 (kb_shl (l := 0) (h := 9) b11 (by decide))
            refine lv_ior hx hb dX7_upMask_31 ?_
            refine lv_topi (fun t29 et29 => ?_)
            refine lv_istore_n (lv' := [(1, .int t29), (2, .int y1), (0, .ref (r 59))]) hx hb dX7_upMask_32 rfl hl (by decide) rfl (fun ls hl => ?_)
            exact jn22 _ _ _ t29  hP hD hS (lv_sub hl [1, 0, 2] rfl)
  exact lp3 (11)  _ _ _ 0 0 (by have h1 := (kc_0); unfold kb at h1; omega) (kb_w kc_0 (by decide) (by decide)) hP hD hS (lv_sub hl [0, 1, 2] rfl)
set_option maxHeartbeats 4000000 in
set_option maxRecDepth 100000 in
theorem x_7_readyMaskP  (l : Launch) {D : va_G} {K : Nat → ClassId} (r : Nat → Nat) (f : Nat → Int32) (a : Nat → Nat → Int32) (g : xG) (tx tt : va_W) (hT : ∀ c ∈ tt, c ∈ tx) (hI : xI f a) (hG : gOK K g.2 tt)     : kIG l yX7_readyMask (Cond.code yX7_readyMask cX7_readyMask 4 (some .int) :: kG) (rmD 2 0 0) D K [.ref (r 59)] (xX K r f a g tx) (fun v (_ : Unit) => kb (-2147483648) v 2147483647) (fun _ => xX K r f a g tx) 0 0 := by
  refine kIE.of (cc := cX7_readyMask) (maxL := 4) (ret := (some .int)) (by decide) rfl (Nat.le_of_ble_eq_true rfl) ?_
  intro p e s m below meth c A hx hb hr hml hown hts hlocks hnm hK hP hD hS hA hV ls hl
  have hg : ∀ w ∈ kG, w.before _ s = true := fun w h => hts w (List.mem_cons_of_mem _ h)
  have hown : s.vm.findClass RX7 = some m.cls := hown
  have hl : lv_has ls 4 [(0, .ref (r 59))] := hl
  refine lv_aload_n hx hb dX7_readyMask_0 rfl (lv_at hl 0 rfl) ?_
  refine kIG.callW (As := []) (rest := []) ⟨hx, hb, hml, hown, hg⟩ (x_7_upMaskP l r f a g tx tt hT hI hG   ) (cwV 0 hg (kgV wt3_43 wt3_44 wt3_45 wt1_2 wt3_46) rfl rfl rfl (by decide +kernel) ⟨by decide, by decide⟩) hV hK hP hD hS hA (59) 7 rfl rfl rfl hl.1 rfl (Nat.le_of_ble_eq_true rfl) dX7_readyMask_1 ⟨Nat.le_refl _, Nat.le_refl _⟩ (fun v2 u3 H locs hw1 hP hD hS => ?_)
  have hP : va_P D vwCl (xX K r f a g tx) H := hP
  have hD : va_D A (xX K r f a g tx) := hD
  refine lv_istore_n (lv' := [(1, .int v2), (0, .ref (r 59))]) hx hb dX7_readyMask_4 rfl hl (by decide) rfl (fun ls hl => ?_)
  refine lv_iconst (v := 0) hx hb dX7_readyMask_5 (by decide) ?_
  refine lv_istore_n (lv' := [(2, .int 0), (1, .int v2), (0, .ref (r 59))]) hx hb dX7_readyMask_6 rfl hl (by decide) rfl (fun ls hl => ?_)
  refine lv_iconst (v := 0) hx hb dX7_readyMask_7 (by decide) ?_
  refine lv_istore_n (lv' := [(3, .int 0), (2, .int 0), (1, .int v2), (0, .ref (r 59))]) hx hb dX7_readyMask_8 rfl hl (by decide) rfl (fun ls hl => ?_)
  have lp6 : ∀ (n7 : Nat) (H : Heap) (locs : List Loc) (ls : Array Slot) (y4 : Int32) (y5 : Int32), (10 < y4.toInt + (n7 : Int)) → (kb 0 y4 10) → va_P D vwCl (xX K r f a g tx) H → va_D A (xX K r f a g tx) → va_S A s.heap H locs → lv_has ls 4 [(3, .int y4), (2, .int y5), (1, .int v2), (0, .ref (r 59))] → W p l e (rmD 2 0 0) s m ([.ref (r 59)] : List Value).toArray below meth c H locs 0 0 (kQi D (tysK K) (fun v (_ : Unit) => kb (-2147483648) v 2147483647) (fun _ => xX K r f a g tx) A below ([.ref (r 59)] : List Value).toArray s 0 0) (F0 m 9 ls []) := by
    intro n7
    induction n7 with
    | zero =>
      intro   H locs ls y4 y5 hmlp6 b8 hP hD hS hl
      exact (by have h1 := b8.2; have h2 := hmlp6; omega : False).elim
    | succ n7 ihlp6 =>
      intro   H locs ls y4 y5 hmlp6 b8 hP hD hS hl
      refine lv_iload_n hx hb dX7_readyMask_9 rfl (lv_at hl 0 rfl) ?_
      refine lv_aload_n hx hb dX7_readyMask_10 rfl (lv_at hl 3 rfl) ?_
      refine va_get (D := D) (ci := 7) (v := .int (f 1888)) (C := RX7) (T := TX7) (N := 20) hx hb hg inC7 hown hK hP 59 rfl rfl 0 (by decide) (hg _ wt1_79) (fun _ h9 => h9) rfl dX7_readyMask_11 ?_
      refine lv_topi (fun t9 et9 => ?_)
      have b10 : kb 0 t9 10 := kb_eq et9 (fI_at hI.1 1888 (by decide) (by decide))
      refine lv_icmp_ge (tgt := 57) hx hb dX7_readyMask_14 (by decide) (fun c11 => ?_) (fun c11 => ?_)
      · have h12 := (kc_le c11)
        refine lv_iload_n hx hb dX7_readyMask_57 rfl (lv_at hl 1 rfl) ?_
        exact kI_ret (v := y5) hx hb hr hlocks rfl hK hS dX7_readyMask_58 () hP hD (kb_any y5)
      · have h13 := (kc_nle c11)
        have b14 : kb 0 y4 9 := kr_lt1 h13 b8 b10 (by decide)
        have b15 : kb 1 t9 10 := kr_lt2 h13 b8 b10 (by decide)
        refine lv_iload_n hx hb dX7_readyMask_17 rfl (lv_at hl 0 rfl) ?_
        refine lv_bipush (v := 10) hx hb dX7_readyMask_18 (by decide) ?_
        refine lv_icmp_ge (tgt := 57) hx hb dX7_readyMask_20 (by decide) (fun c16 => ?_) (fun c16 => ?_)
        · have h17 := (kc_le c16)
          exact kb_no (kr_le1 h17 kc_10 b14) (by decide)
        · have h18 := (kc_nle c16)
          refine lv_aload_n hx hb dX7_readyMask_23 rfl (lv_at hl 3 rfl) ?_
          refine va_get (D := D) (ci := 7) (v := .ref (r 64)) (C := RX7) (T := TX7) (N := 20) hx hb hg inC7 hown hK hP 59 rfl rfl 5 (by decide) (hg _ wt1_97) (fun _ h9 => h9) rfl dX7_readyMask_24 ?_
          refine lv_iload_n hx hb dX7_readyMask_27 rfl (lv_at hl 0 rfl) ?_
          refine va_iald hx hb hK hP 64 0 rfl rfl (kb_in b14 (by decide) (by decide)) dX7_readyMask_28 ?_
          refine lv_topi (fun t19 et19 => ?_)
          have jn30 : ∀ (H : Heap) (locs : List Loc) (ls : Array Slot) (y29 : Int32), va_P D vwCl (xX K r f a g tx) H → va_D A (xX K r f a g tx) → va_S A s.heap H locs → lv_has ls 4 [(3, .int y4), (2, .int y29), (1, .int v2), (0, .ref (r 59))] → W p l e (rmD 2 0 0) s m ([.ref (r 59)] : List Value).toArray below meth c H locs 0 0 (kQi D (tysK K) (fun v (_ : Unit) => kb (-2147483648) v 2147483647) (fun _ => xX K r f a g tx) A below ([.ref (r 59)] : List Value).toArray s 0 0) (F0 m 51 ls []) := by
            intro  H locs ls y29  hP hD hS hl
            obtain ⟨t31, et31⟩ : ∃ z : Int32, z = y4 + Int32.ofInt 1 := ⟨_, rfl⟩
            have qt31 : t31.toInt = y4.toInt + 1 := by rw [et31]; exact km_inc b14 (by decide) (by decide)
            have b32 : kb 1 t31 10 := kb_inc (k := 1) qt31 b14
            refine lv_iinc (v := t31) (lv' := [(3, .int t31), (2, .int y29), (1, .int v2), (0, .ref (r 59))]) hx hb dX7_readyMask_51 hl (k := 0) rfl et31.symm (by decide) rfl (fun ls hl => ?_)
            refine lv_goto (tgt := 9) hx hb dX7_readyMask_54 (by decide) ?_
            exact ihlp6  _ _ _ t31 y29 (km_up hmlp6 qt31) (kb_w b32 (by decide) (by decide)) hP hD hS (lv_sub hl [0, 1, 2, 3] rfl)
          refine lv_if_eq (tgt := 51) hx hb dX7_readyMask_29 (by decide) (fun c33 => ?_) (fun c33 => ?_)
          · have b34 : kb 0 t19 0 := kb_eq c33 kc_0
            exact jn30 _ _ _ y5  hP hD hS (lv_sub hl [0, 1, 2, 3] rfl)
          · refine lv_aload_n hx hb dX7_readyMask_32 rfl (lv_at hl 3 rfl) ?_
            refine va_get (D := D) (ci := 7) (v := .ref (r 61)) (C := RX7) (T := TX7) (N := 20) hx hb hg inC7 hown hK hP 59 rfl rfl 2 (by decide) (hg _ wt1_89) (fun _ h9 => h9) rfl dX7_readyMask_33 ?_
            refine lv_iload_n hx hb dX7_readyMask_36 rfl (lv_at hl 0 rfl) ?_
            refine va_iald hx hb hK hP 61 0 rfl rfl (kb_in b14 (by decide) (by decide)) dX7_readyMask_37 ?_
            refine lv_topi (fun t35 et35 => ?_)
            refine lv_iload_n hx hb dX7_readyMask_38 rfl (lv_at hl 2 rfl) ?_
            refine lv_iconst (v := (-1)) hx hb dX7_readyMask_39 (by decide) ?_
            refine lv_ixor hx hb dX7_readyMask_40 ?_
            refine lv_topi (fun t36 et36 => ?_)
            refine lv_iand hx hb dX7_readyMask_41 ?_
            refine lv_topi (fun t37 et37 => ?_)
            refine lv_if_ne (tgt := 51) hx hb dX7_readyMask_42 (by decide) (fun c38 => ?_) (fun c38 => ?_)
            · exact jn30 _ _ _ y5  hP hD hS (lv_sub hl [0, 1, 2, 3] rfl)
            · have b39 : kb 0 t37 0 := kb_eq c38 kc_0
              refine lv_iload_n hx hb dX7_readyMask_45 rfl (lv_at hl 1 rfl) ?_
              refine lv_iconst (v := 1) hx hb dX7_readyMask_46 (by decide) ?_
              refine lv_iload_n hx hb dX7_readyMask_47 rfl (lv_at hl 0 rfl) ?_
              refine lv_ishl hx hb dX7_readyMask_48 ?_
              refine lv_topi (fun t40 et40 => ?_)
              have b41 : kb 1 t40 512 := kb_eq et40 (kb_shl (l := 0) (h := 9) b14 (by decide))
              refine lv_ior hx hb dX7_readyMask_49 ?_
              refine lv_topi (fun t42 et42 => ?_)
              refine lv_istore_n (lv' := [(2, .int t42), (3, .int y4), (1, .int v2), (0, .ref (r 59))]) hx hb dX7_readyMask_50 rfl hl (by decide) rfl (fun ls hl => ?_)
              exact jn30 _ _ _ t42  hP hD hS (lv_sub hl [1, 0, 2, 3] rfl)
  exact lp6 (11)  _ _ _ 0 0 (by have h1 := (kc_0); unfold kb at h1; omega) (kb_w kc_0 (by decide) (by decide)) hP hD hS (lv_sub hl [0, 1, 2, 3] rfl)
set_option maxHeartbeats 4000000 in
set_option maxRecDepth 100000 in
theorem x_7_hasCraftP  (l : Launch) {D : va_G} {K : Nat → ClassId} (r : Nat → Nat) (f : Nat → Int32) (a : Nat → Nat → Int32) (g : xG) (tx tt : va_W) (hT : ∀ c ∈ tt, c ∈ tx) (hI : xI f a) (hG : gOK K g.2 tt) (bd : Int32) (pt : Int32) (bbd : kb 0 bd 5) (bpt : kb 0 pt 9)   : kIG l yX7_hasCraft (Cond.code yX7_hasCraft cX7_hasCraft 3 (some .boolean) :: kG) (rmD 1 0 0) D K [.ref (r 59), .int bd, .int pt] (xX K r f a g tx) (fun v (_ : Unit) => kb 0 v 1) (fun _ => xX K r f a g tx) 0 0 := by
  refine kIE.of (cc := cX7_hasCraft) (maxL := 3) (ret := (some .boolean)) (by decide) rfl (Nat.le_of_ble_eq_true rfl) ?_
  intro p e s m below meth c A hx hb hr hml hown hts hlocks hnm hK hP hD hS hA hV ls hl
  have hg : ∀ w ∈ kG, w.before _ s = true := fun w h => hts w (List.mem_cons_of_mem _ h)
  have hown : s.vm.findClass RX7 = some m.cls := hown
  have hl : lv_has ls 3 [(0, .ref (r 59)), (1, .int bd), (2, .int pt)] := hl
  refine lv_aload_n hx hb dX7_hasCraft_0 rfl (lv_at hl 0 rfl) ?_
  refine va_get (D := D) (ci := 7) (v := .ref (r 65)) (C := RX7) (T := TX7) (N := 20) hx hb hg inC7 hown hK hP 59 rfl rfl 7 (by decide) (hg _ wt1_110) (fun _ h9 => h9) rfl dX7_hasCraft_1 ?_
  refine lv_iload_n hx hb dX7_hasCraft_4 rfl (lv_at hl 1 rfl) ?_
  refine va_iald hx hb hK hP 65 0 rfl rfl (kb_in bbd (by decide) (by decide)) dX7_hasCraft_5 ?_
  refine lv_topi (fun t1 et1 => ?_)
  refine lv_aload_n hx hb dX7_hasCraft_6 rfl (lv_at hl 0 rfl) ?_
  refine va_get (D := D) (ci := 7) (v := .ref (r 62)) (C := RX7) (T := TX7) (N := 20) hx hb hg inC7 hown hK hP 59 rfl rfl 3 (by decide) (hg _ wt1_93) (fun _ h9 => h9) rfl dX7_hasCraft_7 ?_
  refine lv_iload_n hx hb dX7_hasCraft_10 rfl (lv_at hl 2 rfl) ?_
  refine va_iald hx hb hK hP 62 0 rfl rfl (kb_in bpt (by decide) (by decide)) dX7_hasCraft_11 ?_
  refine lv_topi (fun t2 et2 => ?_)
  refine lv_ishr hx hb dX7_hasCraft_12 ?_
  refine lv_topi (fun t3 et3 => ?_)
  refine lv_iconst (v := 1) hx hb dX7_hasCraft_13 (by decide) ?_
  refine lv_iand hx hb dX7_hasCraft_14 ?_
  refine lv_topi (fun t4 et4 => ?_)
  have b5 : kb 0 t4 1 := kb_eq et4 (kb_and 1 (by decide) (by decide))
  refine lv_iconst (v := 1) hx hb dX7_hasCraft_15 (by decide) ?_
  refine lv_icmp_ne (tgt := 23) hx hb dX7_hasCraft_16 (by decide) (fun c6 => ?_) (fun c6 => ?_)
  · have b7 : kb 0 t4 0 := kr_neh c6 b5 kc_1 (by decide)
    refine lv_iconst (v := 0) hx hb dX7_hasCraft_23 (by decide) ?_
    exact kI_ret (v := 0) hx hb hr hlocks (by decide +kernel) hK hS dX7_hasCraft_24 () hP hD (kb_w kc_0 (by decide) (by decide))
  · have b8 : kb 1 t4 1 := kb_eq c6 kc_1
    refine lv_iconst (v := 1) hx hb dX7_hasCraft_19 (by decide) ?_
    refine lv_goto (tgt := 24) hx hb dX7_hasCraft_20 (by decide) ?_
    exact kI_ret (v := 1) hx hb hr hlocks (by decide +kernel) hK hS dX7_hasCraft_24 () hP hD (kb_w kc_1 (by decide) (by decide))
set_option maxHeartbeats 4000000 in
set_option maxRecDepth 100000 in
theorem x_7_withoutLawP  (l : Launch) {D : va_G} {K : Nat → ClassId} (r : Nat → Nat) (f : Nat → Int32) (a : Nat → Nat → Int32) (g : xG) (tx tt : va_W) (hT : ∀ c ∈ tt, c ∈ tx) (hI : xI f a) (hG : gOK K g.2 tt) (kd : Int32) (bd : Int32) (pt : Int32) (bbd : kb 0 bd 5) (bpt : kb 0 pt 9)   : kIG l yX7_withoutLaw (Cond.code yX7_withoutLaw cX7_withoutLaw 4 (some .int) :: kG) (rmD 2 0 0) D K [.ref (r 59), .int kd, .int bd, .int pt] (xX K r f a g tx) (fun v (_ : Unit) => kb (-2147483648) v 2147483647) (fun _ => xX K r f a g tx) 0 0 := by
  refine kIE.of (cc := cX7_withoutLaw) (maxL := 4) (ret := (some .int)) (by decide) rfl (Nat.le_of_ble_eq_true rfl) ?_
  intro p e s m below meth c A hx hb hr hml hown hts hlocks hnm hK hP hD hS hA hV ls hl
  have hg : ∀ w ∈ kG, w.before _ s = true := fun w h => hts w (List.mem_cons_of_mem _ h)
  have hown : s.vm.findClass RX7 = some m.cls := hown
  have hl : lv_has ls 4 [(0, .ref (r 59)), (1, .int kd), (2, .int bd), (3, .int pt)] := hl
  refine lv_iload_n hx hb dX7_withoutLaw_0 rfl (lv_at hl 1 rfl) ?_
  refine lv_if_ne (tgt := 24) hx hb dX7_withoutLaw_1 (by decide) (fun c1 => ?_) (fun c1 => ?_)
  · refine lv_iload_n hx hb dX7_withoutLaw_24 rfl (lv_at hl 1 rfl) ?_
    refine lv_iconst (v := 3) hx hb dX7_withoutLaw_25 (by decide) ?_
    refine lv_icmp_ne (tgt := 33) hx hb dX7_withoutLaw_26 (by decide) (fun c2 => ?_) (fun c2 => ?_)
    · refine lv_iconst (v := 1) hx hb dX7_withoutLaw_33 (by decide) ?_
      exact kI_ret (v := 1) hx hb hr hlocks rfl hK hS dX7_withoutLaw_34 () hP hD (kb_w kc_1 (by decide) (by decide))
    · have b3 : kb 3 kd 3 := kb_eq c2 kc_3
      refine lv_iconst (v := 0) hx hb dX7_withoutLaw_29 (by decide) ?_
      refine lv_goto (tgt := 34) hx hb dX7_withoutLaw_30 (by decide) ?_
      exact kI_ret (v := 0) hx hb hr hlocks rfl hK hS dX7_withoutLaw_34 () hP hD (kb_w kc_0 (by decide) (by decide))
  · have b4 : kb 0 kd 0 := kb_eq c1 kc_0
    refine lv_aload_n hx hb dX7_withoutLaw_4 rfl (lv_at hl 0 rfl) ?_
    refine lv_iload_n hx hb dX7_withoutLaw_5 rfl (lv_at hl 2 rfl) ?_
    refine lv_iload_n hx hb dX7_withoutLaw_6 rfl (lv_at hl 3 rfl) ?_
    refine kIG.callW (As := [.int bd, .int pt]) (rest := []) ⟨hx, hb, hml, hown, hg⟩ (x_7_hasCraftP l r f a g tx tt hT hI hG bd pt bbd bpt ) (cwV 2 hg (kgV wt3_88 wt3_90 wp1_4 wt1_2 wt3_91) rfl rfl rfl (by decide +kernel) ⟨by decide, by decide⟩) hV hK hP hD hS hA (59) 7 rfl rfl rfl hl.1 rfl (Nat.le_of_ble_eq_true rfl) dX7_withoutLaw_7 ⟨Nat.le_refl _, Nat.le_refl _⟩ (fun v6 u7 H locs hw5 hP hD hS => ?_)
    have hP : va_P D vwCl (xX K r f a g tx) H := hP
    have hD : va_D A (xX K r f a g tx) := hD
    refine lv_if_eq (tgt := 22) hx hb dX7_withoutLaw_10 (by decide) (fun c8 => ?_) (fun c8 => ?_)
    · have b9 : kb 0 v6 0 := kb_eq c8 kc_0
      refine lv_iconst (v := 0) hx hb dX7_withoutLaw_22 (by decide) ?_
      exact kI_ret (v := 0) hx hb hr hlocks rfl hK hS dX7_withoutLaw_23 () hP hD (kb_w kc_0 (by decide) (by decide))
    · have b10 : kb 1 v6 1 := kr_nel c8 hw5 kc_0 (by decide)
      refine lv_aload_n hx hb dX7_withoutLaw_13 rfl (lv_at hl 0 rfl) ?_
      refine va_get (D := D) (ci := 7) (v := .ref (r 66)) (C := RX7) (T := TX7) (N := 20) hx hb hg inC7 hown hK hP 59 rfl rfl 8 (by decide) (hg _ wt1_114) (fun _ h9 => h9) rfl dX7_withoutLaw_14 ?_
      refine lv_iload_n hx hb dX7_withoutLaw_17 rfl (lv_at hl 2 rfl) ?_
      refine va_iald hx hb hK hP 66 0 rfl rfl (kb_in bbd (by decide) (by decide)) dX7_withoutLaw_18 ?_
      refine lv_topi (fun t11 et11 => ?_)
      refine lv_goto (tgt := 23) hx hb dX7_withoutLaw_19 (by decide) ?_
      exact kI_ret (v := t11) hx hb hr hlocks rfl hK hS dX7_withoutLaw_23 () hP hD (kb_any t11)
set_option maxHeartbeats 4000000 in
set_option maxRecDepth 100000 in
theorem x_7_writeWordsP  (l : Launch) {D : va_G} {K : Nat → ClassId} (r : Nat → Nat) (f : Nat → Int32) (a : Nat → Nat → Int32) (g : xG) (tx tt : va_W) (hT : ∀ c ∈ tt, c ∈ tx) (hI : xI f a) (hG : gOK K g.2 tt) (bd : Int32) (pt : Int32) (bbd : kb 0 bd 5) (bpt : kb 0 pt 9)   : kVG l yX7_writeWords (Cond.code yX7_writeWords cX7_writeWords 5 none :: kG) (rmD 1 0 0) D K [.ref (r 59), .int bd, .int pt] (xX K r f a g tx) (fun (u : xS) => xI u.1 u.2.1 ∧ gOK K u.2.2.2 tt ∧ xEk ([], [], []) f a g u.1 u.2.1 u.2.2) (fun u => xX K r u.1 u.2.1 u.2.2 tx) 0 0 := by
  refine kVG.of (cc := cX7_writeWords) (maxL := 5) (ret := none) (by decide) rfl (Nat.le_of_ble_eq_true rfl) ?_
  intro p e s m below meth c A hx hb hr hml hown hts hlocks hnm hK hP hD hS hA hV ls hl
  have hE : xEk ([], [], []) f a g f a g := xEk_rf
  have hg : ∀ w ∈ kG, w.before _ s = true := fun w h => hts w (List.mem_cons_of_mem _ h)
  have hown : s.vm.findClass RX7 = some m.cls := hown
  have hl : lv_has ls 5 [(0, .ref (r 59)), (1, .int bd), (2, .int pt)] := hl
  refine lv_iconst (v := 0) hx hb dX7_writeWords_0 (by decide) ?_
  refine lv_istore_n (lv' := [(3, .int 0), (0, .ref (r 59)), (1, .int bd), (2, .int pt)]) hx hb dX7_writeWords_1 rfl hl (by decide) rfl (fun ls hl => ?_)
  refine lv_iconst (v := 0) hx hb dX7_writeWords_2 (by decide) ?_
  refine lv_istore (lv' := [(4, .int 0), (3, .int 0), (0, .ref (r 59)), (1, .int bd), (2, .int pt)]) hx hb dX7_writeWords_3 hl (by decide) rfl (fun ls hl => ?_)
  have lp3 : ∀ (n4 : Nat) (H : Heap) (locs : List Loc) (ls : Array Slot) (y1 : Int32) (y2 : Int32), (6 < y1.toInt + (n4 : Int)) → (kb 0 y1 6) → va_P D vwCl (xX K r f a g tx) H → va_D A (xX K r f a g tx) → va_S A s.heap H locs → lv_has ls 5 [(4, .int y1), (3, .int y2), (0, .ref (r 59)), (1, .int bd), (2, .int pt)] → W p l e (rmD 1 0 0) s m ([.ref (r 59), .int bd, .int pt] : List Value).toArray below meth c H locs 0 0 (kQv D (tysK K) (fun (u : xS) => xI u.1 u.2.1 ∧ gOK K u.2.2.2 tt ∧ xEk ([], [], []) f a g u.1 u.2.1 u.2.2) (fun u => xX K r u.1 u.2.1 u.2.2 tx) A below ([.ref (r 59), .int bd, .int pt] : List Value).toArray s 0 0) (F0 m 5 ls []) := by
    intro n4
    induction n4 with
    | zero =>
      intro   H locs ls y1 y2 hmlp3 b5 hP hD hS hl
      exact (by have h1 := b5.2; have h2 := hmlp3; omega : False).elim
    | succ n4 ihlp3 =>
      intro   H locs ls y1 y2 hmlp3 b5 hP hD hS hl
      refine lv_iload hx hb dX7_writeWords_5 (lv_at hl 0 rfl) ?_
      refine lv_aload_n hx hb dX7_writeWords_7 rfl (lv_at hl 2 rfl) ?_
      refine va_get (D := D) (ci := 7) (v := .int (f 1894)) (C := RX7) (T := TX7) (N := 20) hx hb hg inC7 hown hK hP 59 rfl rfl 6 (by decide) (hg _ wt1_104) (fun _ h9 => h9) rfl dX7_writeWords_8 ?_
      refine lv_topi (fun t6 et6 => ?_)
      have jn29 : ∀ (H : Heap) (locs : List Loc) (ls : Array Slot), va_P D vwCl (xX K r f a g tx) H → va_D A (xX K r f a g tx) → va_S A s.heap H locs → lv_has ls 5 [(4, .int y1), (3, .int y2), (0, .ref (r 59)), (1, .int bd), (2, .int pt)] → W p l e (rmD 1 0 0) s m ([.ref (r 59), .int bd, .int pt] : List Value).toArray below meth c H locs 0 0 (kQv D (tysK K) (fun (u : xS) => xI u.1 u.2.1 ∧ gOK K u.2.2.2 tt ∧ xEk ([], [], []) f a g u.1 u.2.1 u.2.2) (fun u => xX K r u.1 u.2.1 u.2.2 tx) A below ([.ref (r 59), .int bd, .int pt] : List Value).toArray s 0 0) (F0 m 47 ls []) := by
        intro  H locs ls   hP hD hS hl
        refine lv_aload_n hx hb dX7_writeWords_47 rfl (lv_at hl 2 rfl) ?_
        refine va_get (D := D) (ci := 7) (v := .ref (r 74)) (C := RX7) (T := TX7) (N := 20) hx hb hg inC7 hown hK hP 59 rfl rfl 19 (by decide) (hg _ wt1_154) (fun _ h9 => h9) rfl dX7_writeWords_48 ?_
        refine va_get (D := D) (ci := 8) (v := .ref (r 75)) (C := RX8) (T := TX8) (N := 5) hx hb hg inC8 hown hK hP 74 rfl rfl 0 (by decide) (hg _ wt1_54) (fun _ h9 => h9) rfl dX7_writeWords_51 ?_
        refine lv_iconst (v := 0) hx hb dX7_writeWords_54 (by decide) ?_
        refine lv_iload_n hx hb dX7_writeWords_55 rfl (lv_at hl 3 rfl) ?_
        refine lv_i2l hx hb dX7_writeWords_56 rfl ?_
        refine lv_topl (fun t30 et30 => ?_)
        have b31 : kbl 0 t30 5 := kbl_eq et30 (kbl_i2l bbd)
        refine va_last hx hb hK hP hD hS 75 3 rfl rfl (kb_in kc_0 (by decide) (by decide)) dX7_writeWords_57 (fun H locs hP hD hS => ?_)
        rw [cl_0] at hP hD
        have hP : va_P D vwCl (xX K r f a (va_up g.1 75 (va_up (g.1 75) 0 t30), g.2) tx) H := hP
        have hD : va_D A (xX K r f a (va_up g.1 75 (va_up (g.1 75) 0 t30), g.2) tx) := hD
        refine k_gen (P := fun z => va_P D vwCl (xX K r f a z tx) H ∧ va_D A (xX K r f a z tx) ∧ (xI f a) ∧ (gOK K z.2 tt) ∧ (xEk ([], [], []) f a g f a z)) ((va_up g.1 75 (va_up (g.1 75) 0 t30), g.2)) ⟨hP, hD, hI, hG, (xEk_g hE)⟩ (fun g_32 eg_32 hq => ?_)
        obtain ⟨hP, hD, hI, hG, hE⟩ := hq
        refine lv_aload_n hx hb dX7_writeWords_58 rfl (lv_at hl 2 rfl) ?_
        refine va_get (D := D) (ci := 7) (v := .ref (r 74)) (C := RX7) (T := TX7) (N := 20) hx hb hg inC7 hown hK hP 59 rfl rfl 19 (by decide) (hg _ wt1_154) (fun _ h9 => h9) rfl dX7_writeWords_59 ?_
        refine va_get (D := D) (ci := 8) (v := .ref (r 75)) (C := RX8) (T := TX8) (N := 5) hx hb hg inC8 hown hK hP 74 rfl rfl 0 (by decide) (hg _ wt1_54) (fun _ h9 => h9) rfl dX7_writeWords_62 ?_
        refine lv_iconst (v := 1) hx hb dX7_writeWords_65 (by decide) ?_
        refine lv_aload_n hx hb dX7_writeWords_66 rfl (lv_at hl 2 rfl) ?_
        refine va_get (D := D) (ci := 7) (v := .ref (r 66)) (C := RX7) (T := TX7) (N := 20) hx hb hg inC7 hown hK hP 59 rfl rfl 8 (by decide) (hg _ wt1_114) (fun _ h9 => h9) rfl dX7_writeWords_67 ?_
        refine lv_iload_n hx hb dX7_writeWords_70 rfl (lv_at hl 3 rfl) ?_
        refine va_iald hx hb hK hP 66 0 rfl rfl (kb_in bbd (by decide) (by decide)) dX7_writeWords_71 ?_
        refine lv_topi (fun t33 et33 => ?_)
        refine lv_i2l hx hb dX7_writeWords_72 rfl ?_
        refine lv_topl (fun t34 et34 => ?_)
        refine va_last hx hb hK hP hD hS 75 3 rfl rfl (kb_in kc_1 (by decide) (by decide)) dX7_writeWords_73 (fun H locs hP hD hS => ?_)
        rw [cl_1] at hP hD
        have hP : va_P D vwCl (xX K r f a (va_up g_32.1 75 (va_up (g_32.1 75) 1 t34), g_32.2) tx) H := hP
        have hD : va_D A (xX K r f a (va_up g_32.1 75 (va_up (g_32.1 75) 1 t34), g_32.2) tx) := hD
        refine k_gen (P := fun z => va_P D vwCl (xX K r f a z tx) H ∧ va_D A (xX K r f a z tx) ∧ (xI f a) ∧ (gOK K z.2 tt) ∧ (xEk ([], [], []) f a g f a z)) ((va_up g_32.1 75 (va_up (g_32.1 75) 1 t34), g_32.2)) ⟨hP, hD, hI, hG, (xEk_g hE)⟩ (fun g_35 eg_35 hq => ?_)
        obtain ⟨hP, hD, hI, hG, hE⟩ := hq
        refine lv_aload_n hx hb dX7_writeWords_74 rfl (lv_at hl 2 rfl) ?_
        refine va_get (D := D) (ci := 7) (v := .ref (r 74)) (C := RX7) (T := TX7) (N := 20) hx hb hg inC7 hown hK hP 59 rfl rfl 19 (by decide) (hg _ wt1_154) (fun _ h9 => h9) rfl dX7_writeWords_75 ?_
        refine va_get (D := D) (ci := 8) (v := .ref (r 75)) (C := RX8) (T := TX8) (N := 5) hx hb hg inC8 hown hK hP 74 rfl rfl 0 (by decide) (hg _ wt1_54) (fun _ h9 => h9) rfl dX7_writeWords_78 ?_
        refine lv_iconst (v := 2) hx hb dX7_writeWords_81 (by decide) ?_
        refine lv_aload_n hx hb dX7_writeWords_82 rfl (lv_at hl 2 rfl) ?_
        refine va_get (D := D) (ci := 7) (v := .ref (r 67)) (C := RX7) (T := TX7) (N := 20) hx hb hg inC7 hown hK hP 59 rfl rfl 9 (by decide) (hg _ wt1_116) (fun _ h9 => h9) rfl dX7_writeWords_83 ?_
        refine lv_iload_n hx hb dX7_writeWords_86 rfl (lv_at hl 3 rfl) ?_
        refine va_iald hx hb hK hP 67 0 rfl rfl (kb_in bbd (by decide) (by decide)) dX7_writeWords_87 ?_
        refine lv_topi (fun t36 et36 => ?_)
        refine lv_i2l hx hb dX7_writeWords_88 rfl ?_
        refine lv_topl (fun t37 et37 => ?_)
        refine va_last hx hb hK hP hD hS 75 3 rfl rfl (kb_in kc_2 (by decide) (by decide)) dX7_writeWords_89 (fun H locs hP hD hS => ?_)
        rw [cl_2] at hP hD
        have hP : va_P D vwCl (xX K r f a (va_up g_35.1 75 (va_up (g_35.1 75) 2 t37), g_35.2) tx) H := hP
        have hD : va_D A (xX K r f a (va_up g_35.1 75 (va_up (g_35.1 75) 2 t37), g_35.2) tx) := hD
        refine k_gen (P := fun z => va_P D vwCl (xX K r f a z tx) H ∧ va_D A (xX K r f a z tx) ∧ (xI f a) ∧ (gOK K z.2 tt) ∧ (xEk ([], [], []) f a g f a z)) ((va_up g_35.1 75 (va_up (g_35.1 75) 2 t37), g_35.2)) ⟨hP, hD, hI, hG, (xEk_g hE)⟩ (fun g_38 eg_38 hq => ?_)
        obtain ⟨hP, hD, hI, hG, hE⟩ := hq
        refine lv_aload_n hx hb dX7_writeWords_90 rfl (lv_at hl 2 rfl) ?_
        refine va_get (D := D) (ci := 7) (v := .ref (r 74)) (C := RX7) (T := TX7) (N := 20) hx hb hg inC7 hown hK hP 59 rfl rfl 19 (by decide) (hg _ wt1_154) (fun _ h9 => h9) rfl dX7_writeWords_91 ?_
        refine va_get (D := D) (ci := 8) (v := .ref (r 75)) (C := RX8) (T := TX8) (N := 5) hx hb hg inC8 hown hK hP 74 rfl rfl 0 (by decide) (hg _ wt1_54) (fun _ h9 => h9) rfl dX7_writeWords_94 ?_
        refine lv_iconst (v := 3) hx hb dX7_writeWords_97 (by decide) ?_
        refine lv_iload_n hx hb dX7_writeWords_98 rfl (lv_at hl 4 rfl) ?_
        refine lv_i2l hx hb dX7_writeWords_99 rfl ?_
        refine lv_topl (fun t39 et39 => ?_)
        have b40 : kbl 0 t39 9 := kbl_eq et39 (kbl_i2l bpt)
        refine va_last hx hb hK hP hD hS 75 3 rfl rfl (kb_in kc_3 (by decide) (by decide)) dX7_writeWords_100 (fun H locs hP hD hS => ?_)
        rw [cl_3] at hP hD
        have hP : va_P D vwCl (xX K r f a (va_up g_38.1 75 (va_up (g_38.1 75) 3 t39), g_38.2) tx) H := hP
        have hD : va_D A (xX K r f a (va_up g_38.1 75 (va_up (g_38.1 75) 3 t39), g_38.2) tx) := hD
        refine k_gen (P := fun z => va_P D vwCl (xX K r f a z tx) H ∧ va_D A (xX K r f a z tx) ∧ (xI f a) ∧ (gOK K z.2 tt) ∧ (xEk ([], [], []) f a g f a z)) ((va_up g_38.1 75 (va_up (g_38.1 75) 3 t39), g_38.2)) ⟨hP, hD, hI, hG, (xEk_g hE)⟩ (fun g_41 eg_41 hq => ?_)
        obtain ⟨hP, hD, hI, hG, hE⟩ := hq
        refine lv_aload_n hx hb dX7_writeWords_101 rfl (lv_at hl 2 rfl) ?_
        refine va_get (D := D) (ci := 7) (v := .ref (r 74)) (C := RX7) (T := TX7) (N := 20) hx hb hg inC7 hown hK hP 59 rfl rfl 19 (by decide) (hg _ wt1_154) (fun _ h9 => h9) rfl dX7_writeWords_102 ?_
        refine va_get (D := D) (ci := 8) (v := .ref (r 75)) (C := RX8) (T := TX8) (N := 5) hx hb hg inC8 hown hK hP 74 rfl rfl 0 (by decide) (hg _ wt1_54) (fun _ h9 => h9) rfl dX7_writeWords_105 ?_
        refine lv_iconst (v := 4) hx hb dX7_writeWords_108 (by decide) ?_
        refine lv_aload_n hx hb dX7_writeWords_109 rfl (lv_at hl 2 rfl) ?_
        refine va_get (D := D) (ci := 7) (v := .ref (r 65)) (C := RX7) (T := TX7) (N := 20) hx hb hg inC7 hown hK hP 59 rfl rfl 7 (by decide) (hg _ wt1_110) (fun _ h9 => h9) rfl dX7_writeWords_110 ?_
        refine lv_iload_n hx hb dX7_writeWords_113 rfl (lv_at hl 3 rfl) ?_
        refine va_iald hx hb hK hP 65 0 rfl rfl (kb_in bbd (by decide) (by decide)) dX7_writeWords_114 ?_
        refine lv_topi (fun t42 et42 => ?_)
        refine lv_aload_n hx hb dX7_writeWords_115 rfl (lv_at hl 2 rfl) ?_
        refine va_get (D := D) (ci := 7) (v := .ref (r 62)) (C := RX7) (T := TX7) (N := 20) hx hb hg inC7 hown hK hP 59 rfl rfl 3 (by decide) (hg _ wt1_93) (fun _ h9 => h9) rfl dX7_writeWords_116 ?_
        refine lv_iload_n hx hb dX7_writeWords_119 rfl (lv_at hl 4 rfl) ?_
        refine va_iald hx hb hK hP 62 0 rfl rfl (kb_in bpt (by decide) (by decide)) dX7_writeWords_120 ?_
        refine lv_topi (fun t43 et43 => ?_)
        refine lv_ishr hx hb dX7_writeWords_121 ?_
        refine lv_topi (fun t44 et44 => ?_)
        refine lv_iconst (v := 1) hx hb dX7_writeWords_122 (by decide) ?_
        refine lv_iand hx hb dX7_writeWords_123 ?_
        refine lv_topi (fun t45 et45 => ?_)
        have b46 : kb 0 t45 1 := kb_eq et45 (kb_and 1 (by decide) (by decide))
        refine lv_i2l hx hb dX7_writeWords_124 rfl ?_
        refine lv_topl (fun t47 et47 => ?_)
        have b48 : kbl 0 t47 1 := kbl_eq et47 (kbl_i2l b46)
        refine va_last hx hb hK hP hD hS 75 3 rfl rfl (kb_in kc_4 (by decide) (by decide)) dX7_writeWords_125 (fun H locs hP hD hS => ?_)
        rw [cl_4] at hP hD
        have hP : va_P D vwCl (xX K r f a (va_up g_41.1 75 (va_up (g_41.1 75) 4 t47), g_41.2) tx) H := hP
        have hD : va_D A (xX K r f a (va_up g_41.1 75 (va_up (g_41.1 75) 4 t47), g_41.2) tx) := hD
        refine k_gen (P := fun z => va_P D vwCl (xX K r f a z tx) H ∧ va_D A (xX K r f a z tx) ∧ (xI f a) ∧ (gOK K z.2 tt) ∧ (xEk ([], [], []) f a g f a z)) ((va_up g_41.1 75 (va_up (g_41.1 75) 4 t47), g_41.2)) ⟨hP, hD, hI, hG, (xEk_g hE)⟩ (fun g_49 eg_49 hq => ?_)
        obtain ⟨hP, hD, hI, hG, hE⟩ := hq
        refine lv_aload_n hx hb dX7_writeWords_126 rfl (lv_at hl 2 rfl) ?_
        refine va_get (D := D) (ci := 7) (v := .ref (r 74)) (C := RX7) (T := TX7) (N := 20) hx hb hg inC7 hown hK hP 59 rfl rfl 19 (by decide) (hg _ wt1_154) (fun _ h9 => h9) rfl dX7_writeWords_127 ?_
        refine va_get (D := D) (ci := 8) (v := .ref (r 75)) (C := RX8) (T := TX8) (N := 5) hx hb hg inC8 hown hK hP 74 rfl rfl 0 (by decide) (hg _ wt1_54) (fun _ h9 => h9) rfl dX7_writeWords_130 ?_
        refine lv_iconst (v := 5) hx hb dX7_writeWords_133 (by decide) ?_
        refine lv_aload_n hx hb dX7_writeWords_134 rfl (lv_at hl 2 rfl) ?_
        refine va_get (D := D) (ci := 7) (v := .ref (r 63)) (C := RX7) (T := TX7) (N := 20) hx hb hg inC7 hown hK hP 59 rfl rfl 4 (by decide) (hg _ wt1_95) (fun _ h9 => h9) rfl dX7_writeWords_135 ?_
        refine lv_iload_n hx hb dX7_writeWords_138 rfl (lv_at hl 4 rfl) ?_
        refine va_iald hx hb hK hP 63 0 rfl rfl (kb_in bpt (by decide) (by decide)) dX7_writeWords_139 ?_
        refine lv_topi (fun t50 et50 => ?_)
        refine lv_i2l hx hb dX7_writeWords_140 rfl ?_
        refine lv_topl (fun t51 et51 => ?_)
        refine va_last hx hb hK hP hD hS 75 3 rfl rfl (kb_in kc_5 (by decide) (by decide)) dX7_writeWords_141 (fun H locs hP hD hS => ?_)
        rw [cl_5] at hP hD
        have hP : va_P D vwCl (xX K r f a (va_up g_49.1 75 (va_up (g_49.1 75) 5 t51), g_49.2) tx) H := hP
        have hD : va_D A (xX K r f a (va_up g_49.1 75 (va_up (g_49.1 75) 5 t51), g_49.2) tx) := hD
        refine k_gen (P := fun z => va_P D vwCl (xX K r f a z tx) H ∧ va_D A (xX K r f a z tx) ∧ (xI f a) ∧ (gOK K z.2 tt) ∧ (xEk ([], [], []) f a g f a z)) ((va_up g_49.1 75 (va_up (g_49.1 75) 5 t51), g_49.2)) ⟨hP, hD, hI, hG, (xEk_g hE)⟩ (fun g_52 eg_52 hq => ?_)
        obtain ⟨hP, hD, hI, hG, hE⟩ := hq
        refine lv_aload_n hx hb dX7_writeWords_142 rfl (lv_at hl 2 rfl) ?_
        refine va_get (D := D) (ci := 7) (v := .ref (r 74)) (C := RX7) (T := TX7) (N := 20) hx hb hg inC7 hown hK hP 59 rfl rfl 19 (by decide) (hg _ wt1_154) (fun _ h9 => h9) rfl dX7_writeWords_143 ?_
        refine va_get (D := D) (ci := 8) (v := .ref (r 75)) (C := RX8) (T := TX8) (N := 5) hx hb hg inC8 hown hK hP 74 rfl rfl 0 (by decide) (hg _ wt1_54) (fun _ h9 => h9) rfl dX7_writeWords_146 ?_
        refine lv_bipush (v := 6) hx hb dX7_writeWords_149 (by decide) ?_
        refine lv_aload_n hx hb dX7_writeWords_151 rfl (lv_at hl 2 rfl) ?_
        refine va_get (D := D) (ci := 7) (v := .ref (r 64)) (C := RX7) (T := TX7) (N := 20) hx hb hg inC7 hown hK hP 59 rfl rfl 5 (by decide) (hg _ wt1_97) (fun _ h9 => h9) rfl dX7_writeWords_152 ?_
        refine lv_iload_n hx hb dX7_writeWords_155 rfl (lv_at hl 4 rfl) ?_
        refine va_iald hx hb hK hP 64 0 rfl rfl (kb_in bpt (by decide) (by decide)) dX7_writeWords_156 ?_
        refine lv_topi (fun t53 et53 => ?_)
        refine lv_i2l hx hb dX7_writeWords_157 rfl ?_
        refine lv_topl (fun t54 et54 => ?_)
        refine va_last hx hb hK hP hD hS 75 3 rfl rfl (kb_in kc_6 (by decide) (by decide)) dX7_writeWords_158 (fun H locs hP hD hS => ?_)
        rw [cl_6] at hP hD
        have hP : va_P D vwCl (xX K r f a (va_up g_52.1 75 (va_up (g_52.1 75) 6 t54), g_52.2) tx) H := hP
        have hD : va_D A (xX K r f a (va_up g_52.1 75 (va_up (g_52.1 75) 6 t54), g_52.2) tx) := hD
        refine k_gen (P := fun z => va_P D vwCl (xX K r f a z tx) H ∧ va_D A (xX K r f a z tx) ∧ (xI f a) ∧ (gOK K z.2 tt) ∧ (xEk ([], [], []) f a g f a z)) ((va_up g_52.1 75 (va_up (g_52.1 75) 6 t54), g_52.2)) ⟨hP, hD, hI, hG, (xEk_g hE)⟩ (fun g_55 eg_55 hq => ?_)
        obtain ⟨hP, hD, hI, hG, hE⟩ := hq
        refine lv_aload_n hx hb dX7_writeWords_159 rfl (lv_at hl 2 rfl) ?_
        refine va_get (D := D) (ci := 7) (v := .ref (r 74)) (C := RX7) (T := TX7) (N := 20) hx hb hg inC7 hown hK hP 59 rfl rfl 19 (by decide) (hg _ wt1_154) (fun _ h9 => h9) rfl dX7_writeWords_160 ?_
        refine va_get (D := D) (ci := 8) (v := .ref (r 75)) (C := RX8) (T := TX8) (N := 5) hx hb hg inC8 hown hK hP 74 rfl rfl 0 (by decide) (hg _ wt1_54) (fun _ h9 => h9) rfl dX7_writeWords_163 ?_
        refine lv_bipush (v := 7) hx hb dX7_writeWords_166 (by decide) ?_
        refine lv_iload_n hx hb dX7_writeWords_168 rfl (lv_at hl 1 rfl) ?_
        refine lv_i2l hx hb dX7_writeWords_169 rfl ?_
        refine lv_topl (fun t56 et56 => ?_)
        refine va_last hx hb hK hP hD hS 75 3 rfl rfl (kb_in kc_7 (by decide) (by decide)) dX7_writeWords_170 (fun H locs hP hD hS => ?_)
        rw [cl_7] at hP hD
        have hP : va_P D vwCl (xX K r f a (va_up g_55.1 75 (va_up (g_55.1 75) 7 t56), g_55.2) tx) H := hP
        have hD : va_D A (xX K r f a (va_up g_55.1 75 (va_up (g_55.1 75) 7 t56), g_55.2) tx) := hD
        refine k_gen (P := fun z => va_P D vwCl (xX K r f a z tx) H ∧ va_D A (xX K r f a z tx) ∧ (xI f a) ∧ (gOK K z.2 tt) ∧ (xEk ([], [], []) f a g f a z)) ((va_up g_55.1 75 (va_up (g_55.1 75) 7 t56), g_55.2)) ⟨hP, hD, hI, hG, (xEk_g hE)⟩ (fun g_57 eg_57 hq => ?_)
        obtain ⟨hP, hD, hI, hG, hE⟩ := hq
        refine lv_aload_n hx hb dX7_writeWords_171 rfl (lv_at hl 2 rfl) ?_
        refine va_get (D := D) (ci := 7) (v := .ref (r 74)) (C := RX7) (T := TX7) (N := 20) hx hb hg inC7 hown hK hP 59 rfl rfl 19 (by decide) (hg _ wt1_154) (fun _ h9 => h9) rfl dX7_writeWords_172 ?_
        refine va_get (D := D) (ci := 8) (v := .ref (r 75)) (C := RX8) (T := TX8) (N := 5) hx hb hg inC8 hown hK hP 74 rfl rfl 0 (by decide) (hg _ wt1_54) (fun _ h9 => h9) rfl dX7_writeWords_175 ?_
        refine lv_bipush (v := 8) hx hb dX7_writeWords_178 (by decide) ?_
        refine lv_aload_n hx hb dX7_writeWords_180 rfl (lv_at hl 2 rfl) ?_
        refine va_get (D := D) (ci := 7) (v := .ref (r 69)) (C := RX7) (T := TX7) (N := 20) hx hb hg inC7 hown hK hP 59 rfl rfl 11 (by decide) (hg _ wt1_127) (fun _ h9 => h9) rfl dX7_writeWords_181 ?_
        refine lv_iconst (v := 0) hx hb dX7_writeWords_184 (by decide) ?_
        refine va_iald hx hb hK hP 69 0 rfl rfl (kb_in kc_0 (by decide) (by decide)) dX7_writeWords_185 ?_
        refine lv_topi (fun t58 et58 => ?_)
        rw [cl_0] at et58
        refine lv_i2l hx hb dX7_writeWords_186 rfl ?_
        refine lv_topl (fun t59 et59 => ?_)
        refine va_last hx hb hK hP hD hS 75 3 rfl rfl (kb_in kc_8 (by decide) (by decide)) dX7_writeWords_187 (fun H locs hP hD hS => ?_)
        rw [cl_8] at hP hD
        have hP : va_P D vwCl (xX K r f a (va_up g_57.1 75 (va_up (g_57.1 75) 8 t59), g_57.2) tx) H := hP
        have hD : va_D A (xX K r f a (va_up g_57.1 75 (va_up (g_57.1 75) 8 t59), g_57.2) tx) := hD
        refine k_gen (P := fun z => va_P D vwCl (xX K r f a z tx) H ∧ va_D A (xX K r f a z tx) ∧ (xI f a) ∧ (gOK K z.2 tt) ∧ (xEk ([], [], []) f a g f a z)) ((va_up g_57.1 75 (va_up (g_57.1 75) 8 t59), g_57.2)) ⟨hP, hD, hI, hG, (xEk_g hE)⟩ (fun g_60 eg_60 hq => ?_)
        obtain ⟨hP, hD, hI, hG, hE⟩ := hq
        refine lv_aload_n hx hb dX7_writeWords_188 rfl (lv_at hl 2 rfl) ?_
        refine va_get (D := D) (ci := 7) (v := .ref (r 74)) (C := RX7) (T := TX7) (N := 20) hx hb hg inC7 hown hK hP 59 rfl rfl 19 (by decide) (hg _ wt1_154) (fun _ h9 => h9) rfl dX7_writeWords_189 ?_
        refine va_get (D := D) (ci := 8) (v := .ref (r 75)) (C := RX8) (T := TX8) (N := 5) hx hb hg inC8 hown hK hP 74 rfl rfl 0 (by decide) (hg _ wt1_54) (fun _ h9 => h9) rfl dX7_writeWords_192 ?_
        refine lv_bipush (v := 9) hx hb dX7_writeWords_195 (by decide) ?_
        refine lv_aload_n hx hb dX7_writeWords_197 rfl (lv_at hl 2 rfl) ?_
        refine va_get (D := D) (ci := 7) (v := .ref (r 69)) (C := RX7) (T := TX7) (N := 20) hx hb hg inC7 hown hK hP 59 rfl rfl 11 (by decide) (hg _ wt1_127) (fun _ h9 => h9) rfl dX7_writeWords_198 ?_
        refine lv_iconst (v := 3) hx hb dX7_writeWords_201 (by decide) ?_
        refine va_iald hx hb hK hP 69 0 rfl rfl (kb_in kc_3 (by decide) (by decide)) dX7_writeWords_202 ?_
        refine lv_topi (fun t61 et61 => ?_)
        rw [cl_3] at et61
        refine lv_i2l hx hb dX7_writeWords_203 rfl ?_
        refine lv_topl (fun t62 et62 => ?_)
        refine va_last hx hb hK hP hD hS 75 3 rfl rfl (kb_in kc_9 (by decide) (by decide)) dX7_writeWords_204 (fun H locs hP hD hS => ?_)
        rw [cl_9] at hP hD
        have hP : va_P D vwCl (xX K r f a (va_up g_60.1 75 (va_up (g_60.1 75) 9 t62), g_60.2) tx) H := hP
        have hD : va_D A (xX K r f a (va_up g_60.1 75 (va_up (g_60.1 75) 9 t62), g_60.2) tx) := hD
        refine k_gen (P := fun z => va_P D vwCl (xX K r f a z tx) H ∧ va_D A (xX K r f a z tx) ∧ (xI f a) ∧ (gOK K z.2 tt) ∧ (xEk ([], [], []) f a g f a z)) ((va_up g_60.1 75 (va_up (g_60.1 75) 9 t62), g_60.2)) ⟨hP, hD, hI, hG, (xEk_g hE)⟩ (fun g_63 eg_63 hq => ?_)
        obtain ⟨hP, hD, hI, hG, hE⟩ := hq
        exact kV_ret hx hb hr hlocks hK hS dX7_writeWords_205 (f, a, g_63) hP hD ⟨hI, hG, hE⟩
      refine lv_icmp_ge (tgt := 47) hx hb dX7_writeWords_11 (by decide) (fun c64 => ?_) (fun c64 => ?_)
      · have h65 := (kc_le c64)
        have b66 : kb (-2147483648) t6 6 := kr_le1 h65 (kb_any t6) b5
        exact jn29 _ _ _   hP hD hS (lv_sub hl [0, 1, 2, 3, 4] rfl)
      · have h67 := (kc_nle c64)
        have b68 : kb 1 t6 2147483647 := kr_lt2 h67 b5 (kb_any t6) (by decide)
        refine lv_iload hx hb dX7_writeWords_14 (lv_at hl 0 rfl) ?_
        refine lv_bipush (v := 6) hx hb dX7_writeWords_16 (by decide) ?_
        refine lv_icmp_ge (tgt := 47) hx hb dX7_writeWords_18 (by decide) (fun c69 => ?_) (fun c69 => ?_)
        · have h70 := (kc_le c69)
          have b71 : kb 6 y1 6 := kr_le2 h70 kc_6 b5
          exact jn29 _ _ _   hP hD hS (lv_sub hl [0, 1, 2, 3, 4] rfl)
        · have h72 := (kc_nle c69)
          have b73 : kb 0 y1 5 := kr_lt1 h72 b5 kc_6 (by decide)
          refine lv_iload hx hb dX7_writeWords_21 (lv_at hl 0 rfl) ?_
          refine lv_iload_n hx hb dX7_writeWords_23 rfl (lv_at hl 3 rfl) ?_
          have jn79 : ∀ (H : Heap) (locs : List Loc) (ls : Array Slot) (y78 : Int32), va_P D vwCl (xX K r f a g tx) H → va_D A (xX K r f a g tx) → va_S A s.heap H locs → lv_has ls 5 [(4, .int y1), (3, .int y78), (0, .ref (r 59)), (1, .int bd), (2, .int pt)] → W p l e (rmD 1 0 0) s m ([.ref (r 59), .int bd, .int pt] : List Value).toArray below meth c H locs 0 0 (kQv D (tysK K) (fun (u : xS) => xI u.1 u.2.1 ∧ gOK K u.2.2.2 tt ∧ xEk ([], [], []) f a g u.1 u.2.1 u.2.2) (fun u => xX K r u.1 u.2.1 u.2.2 tx) A below ([.ref (r 59), .int bd, .int pt] : List Value).toArray s 0 0) (F0 m 41 ls []) := by
            intro  H locs ls y78  hP hD hS hl
            obtain ⟨t80, et80⟩ : ∃ z : Int32, z = y1 + Int32.ofInt 1 := ⟨_, rfl⟩
            have qt80 : t80.toInt = y1.toInt + 1 := by rw [et80]; exact km_inc b73 (by decide) (by decide)
            have b81 : kb 1 t80 6 := kb_inc (k := 1) qt80 b73
            refine lv_iinc (v := t80) (lv' := [(4, .int t80), (3, .int y78), (0, .ref (r 59)), (1, .int bd), (2, .int pt)]) hx hb dX7_writeWords_41 hl (k := 0) rfl et80.symm (by decide) rfl (fun ls hl => ?_)
            refine lv_goto (tgt := 5) hx hb dX7_writeWords_44 (by decide) ?_
            exact ihlp3  _ _ _ t80 y78 (km_up hmlp3 qt80) (kb_w b81 (by decide) (by decide)) hP hD hS (lv_sub hl [0, 1, 2, 3, 4] rfl)
          refine lv_icmp_eq (tgt := 41) hx hb dX7_writeWords_24 (by decide) (fun c82 => ?_) (fun c82 => ?_)
          · exact jn79 _ _ _ y2  hP hD hS (lv_sub hl [0, 1, 2, 3, 4] rfl)
          · refine lv_aload_n hx hb dX7_writeWords_27 rfl (lv_at hl 2 rfl) ?_
            refine va_get (D := D) (ci := 7) (v := .ref (r 68)) (C := RX7) (T := TX7) (N := 20) hx hb hg inC7 hown hK hP 59 rfl rfl 10 (by decide) (hg _ wt1_121) (fun _ h9 => h9) rfl dX7_writeWords_28 ?_
            refine lv_iload hx hb dX7_writeWords_31 (lv_at hl 0 rfl) ?_
            refine va_iald hx hb hK hP 68 0 rfl rfl (kb_in b73 (by decide) (by decide)) dX7_writeWords_33 ?_
            refine lv_topi (fun t83 et83 => ?_)
            refine lv_iload_n hx hb dX7_writeWords_34 rfl (lv_at hl 4 rfl) ?_
            refine lv_icmp_ne (tgt := 41) hx hb dX7_writeWords_35 (by decide) (fun c84 => ?_) (fun c84 => ?_)
            · exact jn79 _ _ _ y2  hP hD hS (lv_sub hl [0, 1, 2, 3, 4] rfl)
            · have b85 : kb 0 t83 9 := kb_eq c84 bpt
              obtain ⟨t86, et86⟩ : ∃ z : Int32, z = y2 + Int32.ofInt 1 := ⟨_, rfl⟩
              refine lv_iinc (v := t86) (lv' := [(3, .int t86), (4, .int y1), (0, .ref (r 59)), (1, .int bd), (2, .int pt)]) hx hb dX7_writeWords_38 hl (k := 1) rfl et86.symm (by decide) rfl (fun ls hl => ?_)
              exact jn79 _ _ _ t86  hP hD hS (lv_sub hl [1, 0, 2, 3, 4] rfl)
  exact lp3 (7)  _ _ _ 0 0 (by have h1 := (kc_0); unfold kb at h1; omega) (kb_w kc_0 (by decide) (by decide)) hP hD hS (lv_sub hl [0, 1, 2, 3, 4] rfl)
