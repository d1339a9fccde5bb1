theorem pf_term {x y k lo hi : Int32} (c : (k = 0 ∧ lo = 0) ∨ (k = 1 ∧ lo = 1 ∧ hi = 99) ∨ (k = 2 ∧ lo = 0 ∧ hi = 10) ∨ (k = 3 ∧ lo = 0 ∧ hi = 9)) (h : lo.toInt ≤ y.toInt ∧ y.toInt ≤ hi.toInt) (e : x.toInt = k.toInt) : 0 ≤ x.toInt ∧ x.toInt ≤ 3 ∧ (¬ x = 0 → 0 ≤ y.toInt ∧ y.toInt ≤ 99) := by
  have e0 : (0 : Int32).toInt = 0 := by decide +kernel
  have e1 : (1 : Int32).toInt = 1 := by decide +kernel
  have e2 : (2 : Int32).toInt = 2 := by decide +kernel
  have e3 : (3 : Int32).toInt = 3 := by decide +kernel
  have e9 : (9 : Int32).toInt = 9 := by decide +kernel
  have e10 : (10 : Int32).toInt = 10 := by decide +kernel
  have e99 : (99 : Int32).toInt = 99 := by decide +kernel
  rcases c with ⟨a, b⟩ | ⟨a, b, d⟩ | ⟨a, b, d⟩ | ⟨a, b, d⟩
  · rw [a, e0] at e
    refine ⟨by omega, by omega, fun q => absurd (Int32.toInt_inj.mp (by omega)) q⟩
  · rw [a, e1] at e; rw [b, d] at h; refine ⟨by omega, by omega, fun _ => by omega⟩
  · rw [a, e2] at e; rw [b, d] at h; refine ⟨by omega, by omega, fun _ => by omega⟩
  · rw [a, e3] at e; rw [b, d] at h; refine ⟨by omega, by omega, fun _ => by omega⟩
def bOK (x y : Int32) : Prop := (1 ≤ x.toInt ∧ x.toInt ≤ 15) ∧ (1 ≤ y.toInt ∧ y.toInt ≤ 9)
/-- what builder answers, and how many builders there are then -/
def bldP (x y v b b' : Int32) : Prop := (v = -1 ∧ ¬ bOK x y ∧ b' = b) ∨ (v = -5 ∧ bOK x y ∧ ¬ (0 ≤ b.toInt ∧ b.toInt ≤ 5) ∧ b' = b) ∨ (v = b ∧ bOK x y ∧ (0 ≤ b.toInt ∧ b.toInt ≤ 5) ∧ b'.toInt = b.toInt + 1)
theorem bld_eq {x y v1 v2 b b1 b2 : Int32} (h1 : bldP x y v1 b b1) (h2 : bldP x y v2 b b2) : v1 = v2 ∧ b1 = b2 := by
  rcases h1 with ⟨a1, n1, c1⟩ | ⟨a1, n1, m1, c1⟩ | ⟨a1, n1, m1, c1⟩ <;> rcases h2 with ⟨a2, n2, c2⟩ | ⟨a2, n2, m2, c2⟩ | ⟨a2, n2, m2, c2⟩
  · exact ⟨a1.trans a2.symm, c1.trans c2.symm⟩
  · exact absurd n2 n1
  · exact absurd n2 n1
  · exact absurd n1 n2
  · exact ⟨a1.trans a2.symm, c1.trans c2.symm⟩
  · exact absurd m2 m1
  · exact absurd n1 n2
  · exact absurd m1 m2
  · exact ⟨a1.trans a2.symm, Int32.toInt_inj.mp (c1.trans c2.symm)⟩
/-! sights -/
def sOK (x z : Int32) : Prop := (0 ≤ x.toInt ∧ x.toInt ≤ 99) ∧ (0 ≤ z.toInt ∧ z.toInt ≤ 1)
def pIn (y n : Int32) : Prop := 0 ≤ y.toInt ∧ y.toInt < n.toInt
/-- what sight answers, and how many sights there are then -/
def sgtP (x y z v n b b' : Int32) : Prop := (v = -1 ∧ ¬ sOK x z ∧ b' = b) ∨ (v = -2 ∧ sOK x z ∧ ¬ pIn y n ∧ b' = b) ∨ (v = -5 ∧ sOK x z ∧ pIn y n ∧ ¬ (0 ≤ b.toInt ∧ b.toInt ≤ 7) ∧ b' = b) ∨ (v.toInt = b.toInt + 1 ∧ sOK x z ∧ pIn y n ∧ (0 ≤ b.toInt ∧ b.toInt ≤ 7) ∧ b'.toInt = b.toInt + 1)
theorem sgt_eq {x y z v1 v2 n b b1 b2 : Int32} (h1 : sgtP x y z v1 n b b1) (h2 : sgtP x y z v2 n b b2) : v1 = v2 ∧ b1 = b2 := by
  rcases h1 with ⟨a1, n1, c1⟩ | ⟨a1, n1, m1, c1⟩ | ⟨a1, n1, m1, k1, c1⟩ | ⟨a1, n1, m1, k1, c1⟩ <;> rcases h2 with ⟨a2, n2, c2⟩ | ⟨a2, n2, m2, c2⟩ | ⟨a2, n2, m2, k2, c2⟩ | ⟨a2, n2, m2, k2, c2⟩
  · exact ⟨a1.trans a2.symm, c1.trans c2.symm⟩
  · exact absurd n2 n1
  · exact absurd n2 n1
  · exact absurd n2 n1
  · exact absurd n1 n2
  · exact ⟨a1.trans a2.symm, c1.trans c2.symm⟩
  · exact absurd m2 m1
  · exact absurd m2 m1
  · exact absurd n1 n2
  · exact absurd m1 m2
  · exact ⟨a1.trans a2.symm, c1.trans c2.symm⟩
  · exact absurd k2 k1
  · exact absurd n1 n2
  · exact absurd m1 m2
  · exact absurd k1 k2
  · exact ⟨Int32.toInt_inj.mp (a1.trans a2.symm), Int32.toInt_inj.mp (c1.trans c2.symm)⟩
/-! parts -/
def okPm (x y z t n : Int32) : Prop := (1 ≤ x.toInt ∧ x.toInt ≤ 99) ∧ (0 ≤ y.toInt ∧ y.toInt ≤ ((1 : Int32) <<< (n &&& 31) - 1).toInt) ∧ (0 ≤ z.toInt ∧ z.toInt ≤ 3) ∧ (0 ≤ t.toInt ∧ t.toInt ≤ 9)
def okPx (x y z t n : Int32) : Prop := (1 ≤ x.toInt ∧ x.toInt ≤ 99) ∧ (y &&& (-1 : Int32) <<< (n &&& 31)) = 0 ∧ (0 ≤ z.toInt ∧ z.toInt ≤ 3) ∧ (0 ≤ t.toInt ∧ t.toInt ≤ 9)
/-- what part answers where 'ok' says whether its numbers are good, and how many parts there are then -/
def prtP (ok : Prop) (v n n' : Int32) : Prop := (v = -1 ∧ ¬ ok ∧ n' = n) ∨ (v = -5 ∧ ok ∧ ¬ (0 ≤ n.toInt ∧ n.toInt ≤ 9) ∧ n' = n) ∨ (v = n ∧ ok ∧ (0 ≤ n.toInt ∧ n.toInt ≤ 9) ∧ n'.toInt = n.toInt + 1)
theorem prt_eq {p q : Prop} {v1 v2 b b1 b2 : Int32} (hpq : p ↔ q) (h1 : prtP p v1 b b1) (h2 : prtP q v2 b b2) : v1 = v2 ∧ b1 = b2 := by
  rcases h1 with ⟨a1, n1, c1⟩ | ⟨a1, n1, m1, c1⟩ | ⟨a1, n1, m1, c1⟩ <;> rcases h2 with ⟨a2, n2, c2⟩ | ⟨a2, n2, m2, c2⟩ | ⟨a2, n2, m2, c2⟩
  · exact ⟨a1.trans a2.symm, c1.trans c2.symm⟩
  · exact absurd (hpq.mpr n2) n1
  · exact absurd (hpq.mpr n2) n1
  · exact absurd (hpq.mp n1) n2
  · exact ⟨a1.trans a2.symm, c1.trans c2.symm⟩
  · exact absurd m2 m1
  · exact absurd (hpq.mp n1) n2
  · exact absurd m1 m2
  · exact ⟨a1.trans a2.symm, Int32.toInt_inj.mp (c1.trans c2.symm)⟩
theorem dX12_laysAside_0 : decode cX12_laysAside 0 = .ok (.iconst 0, 1) := by decide +kernel
theorem dX12_laysAside_1 : decode cX12_laysAside 1 = .ok (.istore_n 2, 1) := by decide +kernel
theorem dX12_laysAside_2 : decode cX12_laysAside 2 = .ok (.iload_n 2, 1) := by decide +kernel
theorem dX12_laysAside_3 : decode cX12_laysAside 3 = .ok (.bipush 23, 2) := by decide +kernel
theorem dX12_laysAside_5 : decode cX12_laysAside 5 = .ok (.if_icmp .ge 26, 3) := by decide +kernel
theorem dX12_laysAside_8 : decode cX12_laysAside 8 = .ok (.aload_n 0, 1) := by decide +kernel
theorem dX12_laysAside_9 : decode cX12_laysAside 9 = .ok (.getfield 34, 3) := by decide +kernel
theorem dX12_laysAside_12 : decode cX12_laysAside 12 = .ok (.bipush 23, 2) := by decide +kernel
theorem dX12_laysAside_14 : decode cX12_laysAside 14 = .ok (.iload_n 1, 1) := by decide +kernel
theorem dX12_laysAside_15 : decode cX12_laysAside 15 = .ok (.imul, 1) := by decide +kernel
theorem dX12_laysAside_16 : decode cX12_laysAside 16 = .ok (.iload_n 2, 1) := by decide +kernel
theorem dX12_laysAside_17 : decode cX12_laysAside 17 = .ok (.iadd, 1) := by decide +kernel
theorem dX12_laysAside_18 : decode cX12_laysAside 18 = .ok (.aload_n 0, 1) := by decide +kernel
theorem dX12_laysAside_19 : decode cX12_laysAside 19 = .ok (.getfield 24, 3) := by decide +kernel
theorem dX12_laysAside_22 : decode cX12_laysAside 22 = .ok (.iload_n 2, 1) := by decide +kernel
theorem dX12_laysAside_23 : decode cX12_laysAside 23 = .ok (.iaload, 1) := by decide +kernel
theorem dX12_laysAside_24 : decode cX12_laysAside 24 = .ok (.iastore, 1) := by decide +kernel
theorem dX12_laysAside_25 : decode cX12_laysAside 25 = .ok (.iinc 2 1, 3) := by decide +kernel
theorem dX12_laysAside_28 : decode cX12_laysAside 28 = .ok (.goto (-26), 3) := by decide +kernel
theorem dX12_laysAside_31 : decode cX12_laysAside 31 = .ok (.return_, 1) := by decide +kernel
theorem dX12_canPart_0 : decode cX12_canPart 0 = .ok (.iload_n 1, 1) := by decide +kernel
theorem dX12_canPart_1 : decode cX12_canPart 1 = .ok (.iconst 1, 1) := by decide +kernel
theorem dX12_canPart_2 : decode cX12_canPart 2 = .ok (.bipush 99, 2) := by decide +kernel
theorem dX12_canPart_4 : decode cX12_canPart 4 = .ok (.invokestatic 96, 3) := by decide +kernel
theorem dX12_canPart_7 : decode cX12_canPart 7 = .ok (.ifCond .eq 46, 3) := by decide +kernel
theorem dX12_canPart_10 : decode cX12_canPart 10 = .ok (.iload_n 2, 1) := by decide +kernel
theorem dX12_canPart_11 : decode cX12_canPart 11 = .ok (.iconst 0, 1) := by decide +kernel
theorem dX12_canPart_12 : decode cX12_canPart 12 = .ok (.iconst 1, 1) := by decide +kernel
theorem dX12_canPart_13 : decode cX12_canPart 13 = .ok (.aload_n 0, 1) := by decide +kernel
theorem dX12_canPart_14 : decode cX12_canPart 14 = .ok (.getfield 24, 3) := by decide +kernel
theorem dX12_canPart_17 : decode cX12_canPart 17 = .ok (.bipush 102, 2) := by decide +kernel
theorem dX12_canPart_19 : decode cX12_canPart 19 = .ok (.iaload, 1) := by decide +kernel
theorem dX12_canPart_20 : decode cX12_canPart 20 = .ok (.ishl, 1) := by decide +kernel
theorem dX12_canPart_21 : decode cX12_canPart 21 = .ok (.iconst 1, 1) := by decide +kernel
theorem dX12_canPart_22 : decode cX12_canPart 22 = .ok (.isub, 1) := by decide +kernel
theorem dX12_canPart_23 : decode cX12_canPart 23 = .ok (.invokestatic 96, 3) := by decide +kernel
theorem dX12_canPart_26 : decode cX12_canPart 26 = .ok (.ifCond .eq 27, 3) := by decide +kernel
theorem dX12_canPart_29 : decode cX12_canPart 29 = .ok (.iload_n 3, 1) := by decide +kernel
theorem dX12_canPart_30 : decode cX12_canPart 30 = .ok (.iconst 0, 1) := by decide +kernel
theorem dX12_canPart_31 : decode cX12_canPart 31 = .ok (.iconst 3, 1) := by decide +kernel
theorem dX12_canPart_32 : decode cX12_canPart 32 = .ok (.invokestatic 96, 3) := by decide +kernel
theorem dX12_canPart_35 : decode cX12_canPart 35 = .ok (.ifCond .eq 18, 3) := by decide +kernel
theorem dX12_canPart_38 : decode cX12_canPart 38 = .ok (.iload 4, 2) := by decide +kernel
theorem dX12_canPart_40 : decode cX12_canPart 40 = .ok (.iconst 0, 1) := by decide +kernel
theorem dX12_canPart_41 : decode cX12_canPart 41 = .ok (.bipush 9, 2) := by decide +kernel
theorem dX12_canPart_43 : decode cX12_canPart 43 = .ok (.invokestatic 96, 3) := by decide +kernel
theorem dX12_canPart_46 : decode cX12_canPart 46 = .ok (.ifCond .eq 7, 3) := by decide +kernel
theorem dX12_canPart_49 : decode cX12_canPart 49 = .ok (.iconst 1, 1) := by decide +kernel
theorem dX12_canPart_50 : decode cX12_canPart 50 = .ok (.goto 4, 3) := by decide +kernel
theorem dX12_canPart_53 : decode cX12_canPart 53 = .ok (.iconst 0, 1) := by decide +kernel
theorem dX12_canPart_54 : decode cX12_canPart 54 = .ok (.ireturn, 1) := by decide +kernel
theorem dX12_addsPart_0 : decode cX12_addsPart 0 = .ok (.aload_n 0, 1) := by decide +kernel
theorem dX12_addsPart_1 : decode cX12_addsPart 1 = .ok (.getfield 24, 3) := by decide +kernel
theorem dX12_addsPart_4 : decode cX12_addsPart 4 = .ok (.bipush 102, 2) := by decide +kernel
theorem dX12_addsPart_6 : decode cX12_addsPart 6 = .ok (.iaload, 1) := by decide +kernel
theorem dX12_addsPart_7 : decode cX12_addsPart 7 = .ok (.istore 5, 2) := by decide +kernel
theorem dX12_addsPart_9 : decode cX12_addsPart 9 = .ok (.aload_n 0, 1) := by decide +kernel
theorem dX12_addsPart_10 : decode cX12_addsPart 10 = .ok (.getfield 24, 3) := by decide +kernel
theorem dX12_addsPart_13 : decode cX12_addsPart 13 = .ok (.bipush 23, 2) := by decide +kernel
theorem dX12_addsPart_15 : decode cX12_addsPart 15 = .ok (.iload 5, 2) := by decide +kernel
theorem dX12_addsPart_17 : decode cX12_addsPart 17 = .ok (.iadd, 1) := by decide +kernel
theorem dX12_addsPart_18 : decode cX12_addsPart 18 = .ok (.iload_n 1, 1) := by decide +kernel
theorem dX12_addsPart_19 : decode cX12_addsPart 19 = .ok (.iastore, 1) := by decide +kernel
theorem dX12_addsPart_20 : decode cX12_addsPart 20 = .ok (.aload_n 0, 1) := by decide +kernel
theorem dX12_addsPart_21 : decode cX12_addsPart 21 = .ok (.getfield 24, 3) := by decide +kernel
theorem dX12_addsPart_24 : decode cX12_addsPart 24 = .ok (.bipush 33, 2) := by decide +kernel
theorem dX12_addsPart_26 : decode cX12_addsPart 26 = .ok (.iload 5, 2) := by decide +kernel
theorem dX12_addsPart_28 : decode cX12_addsPart 28 = .ok (.iadd, 1) := by decide +kernel
theorem dX12_addsPart_29 : decode cX12_addsPart 29 = .ok (.iload_n 2, 1) := by decide +kernel
theorem dX12_addsPart_30 : decode cX12_addsPart 30 = .ok (.iastore, 1) := by decide +kernel
theorem dX12_addsPart_31 : decode cX12_addsPart 31 = .ok (.aload_n 0, 1) := by decide +kernel
theorem dX12_addsPart_32 : decode cX12_addsPart 32 = .ok (.getfield 24, 3) := by decide +kernel
theorem dX12_addsPart_35 : decode cX12_addsPart 35 = .ok (.bipush 43, 2) := by decide +kernel
theorem dX12_addsPart_37 : decode cX12_addsPart 37 = .ok (.iload 5, 2) := by decide +kernel
theorem dX12_addsPart_39 : decode cX12_addsPart 39 = .ok (.iadd, 1) := by decide +kernel
theorem dX12_addsPart_40 : decode cX12_addsPart 40 = .ok (.iload_n 3, 1) := by decide +kernel
theorem dX12_addsPart_41 : decode cX12_addsPart 41 = .ok (.iastore, 1) := by decide +kernel
theorem dX12_addsPart_42 : decode cX12_addsPart 42 = .ok (.aload_n 0, 1) := by decide +kernel
theorem dX12_addsPart_43 : decode cX12_addsPart 43 = .ok (.getfield 24, 3) := by decide +kernel
theorem dX12_addsPart_46 : decode cX12_addsPart 46 = .ok (.bipush 53, 2) := by decide +kernel
theorem dX12_addsPart_48 : decode cX12_addsPart 48 = .ok (.iload 5, 2) := by decide +kernel
theorem dX12_addsPart_50 : decode cX12_addsPart 50 = .ok (.iadd, 1) := by decide +kernel
theorem dX12_addsPart_51 : decode cX12_addsPart 51 = .ok (.iload 4, 2) := by decide +kernel
theorem dX12_addsPart_53 : decode cX12_addsPart 53 = .ok (.iastore, 1) := by decide +kernel
theorem dX12_addsPart_54 : decode cX12_addsPart 54 = .ok (.aload_n 0, 1) := by decide +kernel
theorem dX12_addsPart_55 : decode cX12_addsPart 55 = .ok (.getfield 24, 3) := by decide +kernel
theorem dX12_addsPart_58 : decode cX12_addsPart 58 = .ok (.iconst 0, 1) := by decide +kernel
theorem dX12_addsPart_59 : decode cX12_addsPart 59 = .ok (.iload 5, 2) := by decide +kernel
theorem dX12_addsPart_61 : decode cX12_addsPart 61 = .ok (.iadd, 1) := by decide +kernel
theorem dX12_addsPart_62 : decode cX12_addsPart 62 = .ok (.iload_n 1, 1) := by decide +kernel
theorem dX12_addsPart_63 : decode cX12_addsPart 63 = .ok (.iastore, 1) := by decide +kernel
theorem dX12_addsPart_64 : decode cX12_addsPart 64 = .ok (.aload_n 0, 1) := by decide +kernel
theorem dX12_addsPart_65 : decode cX12_addsPart 65 = .ok (.getfield 24, 3) := by decide +kernel
theorem dX12_addsPart_68 : decode cX12_addsPart 68 = .ok (.bipush 102, 2) := by decide +kernel
theorem dX12_addsPart_70 : decode cX12_addsPart 70 = .ok (.dup2, 1) := by decide +kernel
theorem dX12_addsPart_71 : decode cX12_addsPart 71 = .ok (.iaload, 1) := by decide +kernel
theorem dX12_addsPart_72 : decode cX12_addsPart 72 = .ok (.iconst 1, 1) := by decide +kernel
theorem dX12_addsPart_73 : decode cX12_addsPart 73 = .ok (.iadd, 1) := by decide +kernel
theorem dX12_addsPart_74 : decode cX12_addsPart 74 = .ok (.iastore, 1) := by decide +kernel
theorem dX12_addsPart_75 : decode cX12_addsPart 75 = .ok (.return_, 1) := by decide +kernel
theorem dX12_part_0 : decode cX12_part 0 = .ok (.aload_n 0, 1) := by decide +kernel
theorem dX12_part_1 : decode cX12_part 1 = .ok (.iload_n 1, 1) := by decide +kernel
theorem dX12_part_2 : decode cX12_part 2 = .ok (.iload_n 2, 1) := by decide +kernel
theorem dX12_part_3 : decode cX12_part 3 = .ok (.iload_n 3, 1) := by decide +kernel
theorem dX12_part_4 : decode cX12_part 4 = .ok (.iload 4, 2) := by decide +kernel
theorem dX12_part_6 : decode cX12_part 6 = .ok (.invokevirtual 106, 3) := by decide +kernel
theorem dX12_part_9 : decode cX12_part 9 = .ok (.ifCond .ne 9, 3) := by decide +kernel
theorem dX12_part_12 : decode cX12_part 12 = .ok (.aload_n 0, 1) := by decide +kernel
theorem dX12_part_13 : decode cX12_part 13 = .ok (.iconst (-1), 1) := by decide +kernel
theorem dX12_part_14 : decode cX12_part 14 = .ok (.invokevirtual 100, 3) := by decide +kernel
theorem dX12_part_17 : decode cX12_part 17 = .ok (.ireturn, 1) := by decide +kernel
theorem dX12_part_18 : decode cX12_part 18 = .ok (.aload_n 0, 1) := by decide +kernel
theorem dX12_part_19 : decode cX12_part 19 = .ok (.getfield 24, 3) := by decide +kernel
theorem dX12_part_22 : decode cX12_part 22 = .ok (.bipush 102, 2) := by decide +kernel
theorem dX12_part_24 : decode cX12_part 24 = .ok (.iaload, 1) := by decide +kernel
theorem dX12_part_25 : decode cX12_part 25 = .ok (.bipush 10, 2) := by decide +kernel
theorem dX12_part_27 : decode cX12_part 27 = .ok (.if_icmp .ne 10, 3) := by decide +kernel
theorem dX12_part_30 : decode cX12_part 30 = .ok (.aload_n 0, 1) := by decide +kernel
theorem dX12_part_31 : decode cX12_part 31 = .ok (.bipush (-5), 2) := by decide +kernel
theorem dX12_part_33 : decode cX12_part 33 = .ok (.invokevirtual 100, 3) := by decide +kernel
theorem dX12_part_36 : decode cX12_part 36 = .ok (.ireturn, 1) := by decide +kernel
theorem dX12_part_37 : decode cX12_part 37 = .ok (.aload_n 0, 1) := by decide +kernel
theorem dX12_part_38 : decode cX12_part 38 = .ok (.iload_n 1, 1) := by decide +kernel
theorem dX12_part_39 : decode cX12_part 39 = .ok (.iload_n 2, 1) := by decide +kernel
theorem dX12_part_40 : decode cX12_part 40 = .ok (.iload_n 3, 1) := by decide +kernel
theorem dX12_part_41 : decode cX12_part 41 = .ok (.iload 4, 2) := by decide +kernel
theorem dX12_part_43 : decode cX12_part 43 = .ok (.invokevirtual 110, 3) := by decide +kernel
theorem dX12_part_46 : decode cX12_part 46 = .ok (.aload_n 0, 1) := by decide +kernel
theorem dX12_part_47 : decode cX12_part 47 = .ok (.aload_n 0, 1) := by decide +kernel
theorem dX12_part_48 : decode cX12_part 48 = .ok (.getfield 24, 3) := by decide +kernel
theorem dX12_part_51 : decode cX12_part 51 = .ok (.bipush 102, 2) := by decide +kernel
theorem dX12_part_53 : decode cX12_part 53 = .ok (.iaload, 1) := by decide +kernel
theorem dX12_part_54 : decode cX12_part 54 = .ok (.iconst 1, 1) := by decide +kernel
theorem dX12_part_55 : decode cX12_part 55 = .ok (.isub, 1) := by decide +kernel
theorem dX12_part_56 : decode cX12_part 56 = .ok (.invokevirtual 103, 3) := by decide +kernel
theorem dX12_part_59 : decode cX12_part 59 = .ok (.ireturn, 1) := by decide +kernel
theorem dX12_stands0_0 : decode cX12_stands0 0 = .ok (.aload_n 0, 1) := by decide +kernel
theorem dX12_stands0_1 : decode cX12_stands0 1 = .ok (.getfield 24, 3) := by decide +kernel
theorem dX12_stands0_4 : decode cX12_stands0 4 = .ok (.iconst 0, 1) := by decide +kernel
theorem dX12_stands0_5 : decode cX12_stands0 5 = .ok (.iload_n 1, 1) := by decide +kernel
theorem dX12_stands0_6 : decode cX12_stands0 6 = .ok (.iadd, 1) := by decide +kernel
theorem dX12_stands0_7 : decode cX12_stands0 7 = .ok (.iaload, 1) := by decide +kernel
theorem dX12_stands0_8 : decode cX12_stands0 8 = .ok (.ifCond .ne 7, 3) := by decide +kernel
theorem dX12_stands0_11 : decode cX12_stands0 11 = .ok (.iconst 1, 1) := by decide +kernel
theorem dX12_stands0_12 : decode cX12_stands0 12 = .ok (.goto 4, 3) := by decide +kernel
theorem dX12_stands0_15 : decode cX12_stands0 15 = .ok (.iconst 0, 1) := by decide +kernel
theorem dX12_stands0_16 : decode cX12_stands0 16 = .ok (.ireturn, 1) := by decide +kernel
theorem dX12_standing_0 : decode cX12_standing 0 = .ok (.iconst 0, 1) := by decide +kernel
theorem dX12_standing_1 : decode cX12_standing 1 = .ok (.istore_n 1, 1) := by decide +kernel
theorem dX12_standing_2 : decode cX12_standing 2 = .ok (.iconst 0, 1) := by decide +kernel
theorem dX12_standing_3 : decode cX12_standing 3 = .ok (.istore_n 2, 1) := by decide +kernel
theorem dX12_standing_4 : decode cX12_standing 4 = .ok (.iload_n 2, 1) := by decide +kernel
theorem dX12_standing_5 : decode cX12_standing 5 = .ok (.aload_n 0, 1) := by decide +kernel
theorem dX12_standing_6 : decode cX12_standing 6 = .ok (.getfield 24, 3) := by decide +kernel
theorem dX12_standing_9 : decode cX12_standing 9 = .ok (.bipush 102, 2) := by decide +kernel
theorem dX12_standing_11 : decode cX12_standing 11 = .ok (.iaload, 1) := by decide +kernel
theorem dX12_standing_12 : decode cX12_standing 12 = .ok (.if_icmp .ge 27, 3) := by decide +kernel
theorem dX12_standing_15 : decode cX12_standing 15 = .ok (.iload_n 1, 1) := by decide +kernel
theorem dX12_standing_16 : decode cX12_standing 16 = .ok (.aload_n 0, 1) := by decide +kernel
theorem dX12_standing_17 : decode cX12_standing 17 = .ok (.iload_n 2, 1) := by decide +kernel
theorem dX12_standing_18 : decode cX12_standing 18 = .ok (.invokevirtual 114, 3) := by decide +kernel
theorem dX12_standing_21 : decode cX12_standing 21 = .ok (.ifCond .eq 9, 3) := by decide +kernel
theorem dX12_standing_24 : decode cX12_standing 24 = .ok (.iconst 1, 1) := by decide +kernel
theorem dX12_standing_25 : decode cX12_standing 25 = .ok (.iload_n 2, 1) := by decide +kernel
theorem dX12_standing_26 : decode cX12_standing 26 = .ok (.ishl, 1) := by decide +kernel
theorem dX12_standing_27 : decode cX12_standing 27 = .ok (.goto 4, 3) := by decide +kernel
theorem dX12_standing_30 : decode cX12_standing 30 = .ok (.iconst 0, 1) := by decide +kernel
theorem dX12_standing_31 : decode cX12_standing 31 = .ok (.ior, 1) := by decide +kernel
theorem dX12_standing_32 : decode cX12_standing 32 = .ok (.istore_n 1, 1) := by decide +kernel
theorem dX12_standing_33 : decode cX12_standing 33 = .ok (.iinc 2 1, 3) := by decide +kernel
theorem dX12_standing_36 : decode cX12_standing 36 = .ok (.goto (-32), 3) := by decide +kernel
theorem dX12_standing_39 : decode cX12_standing 39 = .ok (.iload_n 1, 1) := by decide +kernel
theorem dX12_standing_40 : decode cX12_standing 40 = .ok (.ireturn, 1) := by decide +kernel
theorem dX12_allParts_0 : decode cX12_allParts 0 = .ok (.iconst 1, 1) := by decide +kernel
theorem dX12_allParts_1 : decode cX12_allParts 1 = .ok (.aload_n 0, 1) := by decide +kernel
theorem dX12_allParts_2 : decode cX12_allParts 2 = .ok (.getfield 24, 3) := by decide +kernel
theorem dX12_allParts_5 : decode cX12_allParts 5 = .ok (.bipush 102, 2) := by decide +kernel
theorem dX12_allParts_7 : decode cX12_allParts 7 = .ok (.iaload, 1) := by decide +kernel
theorem dX12_allParts_8 : decode cX12_allParts 8 = .ok (.ishl, 1) := by decide +kernel
theorem dX12_allParts_9 : decode cX12_allParts 9 = .ok (.iconst 1, 1) := by decide +kernel
theorem dX12_allParts_10 : decode cX12_allParts 10 = .ok (.isub, 1) := by decide +kernel
theorem dX12_allParts_11 : decode cX12_allParts 11 = .ok (.ireturn, 1) := by decide +kernel
theorem dX12_isReady_0 : decode cX12_isReady 0 = .ok (.aload_n 0, 1) := by decide +kernel
theorem dX12_isReady_1 : decode cX12_isReady 1 = .ok (.iload_n 1, 1) := by decide +kernel
theorem dX12_isReady_2 : decode cX12_isReady 2 = .ok (.invokevirtual 114, 3) := by decide +kernel
theorem dX12_isReady_5 : decode cX12_isReady 5 = .ok (.ifCond .ne 26, 3) := by decide +kernel
theorem dX12_isReady_8 : decode cX12_isReady 8 = .ok (.aload_n 0, 1) := by decide +kernel
theorem dX12_isReady_9 : decode cX12_isReady 9 = .ok (.getfield 24, 3) := by decide +kernel
theorem dX12_isReady_12 : decode cX12_isReady 12 = .ok (.bipush 33, 2) := by decide +kernel
theorem dX12_isReady_14 : decode cX12_isReady 14 = .ok (.iload_n 1, 1) := by decide +kernel
theorem dX12_isReady_15 : decode cX12_isReady 15 = .ok (.iadd, 1) := by decide +kernel
theorem dX12_isReady_16 : decode cX12_isReady 16 = .ok (.iaload, 1) := by decide +kernel
theorem dX12_isReady_17 : decode cX12_isReady 17 = .ok (.aload_n 0, 1) := by decide +kernel
theorem dX12_isReady_18 : decode cX12_isReady 18 = .ok (.invokevirtual 118, 3) := by decide +kernel
theorem dX12_isReady_21 : decode cX12_isReady 21 = .ok (.iconst (-1), 1) := by decide +kernel
theorem dX12_isReady_22 : decode cX12_isReady 22 = .ok (.ixor, 1) := by decide +kernel
theorem dX12_isReady_23 : decode cX12_isReady 23 = .ok (.iand, 1) := by decide +kernel
theorem dX12_isReady_24 : decode cX12_isReady 24 = .ok (.ifCond .ne 7, 3) := by decide +kernel
theorem dX12_isReady_27 : decode cX12_isReady 27 = .ok (.iconst 1, 1) := by decide +kernel
theorem dX12_isReady_28 : decode cX12_isReady 28 = .ok (.goto 4, 3) := by decide +kernel
theorem dX12_isReady_31 : decode cX12_isReady 31 = .ok (.iconst 0, 1) := by decide +kernel
theorem dX12_isReady_32 : decode cX12_isReady 32 = .ok (.ireturn, 1) := by decide +kernel
theorem dX12_of_0 : decode cX12_of 0 = .ok (.aload_n 0, 1) := by decide +kernel
theorem dX12_of_1 : decode cX12_of 1 = .ok (.iload_n 1, 1) := by decide +kernel
theorem dX12_of_2 : decode cX12_of 2 = .ok (.invokevirtual 122, 3) := by decide +kernel
theorem dX12_of_5 : decode cX12_of 5 = .ok (.ifCond .ne 5, 3) := by decide +kernel
theorem dX12_of_8 : decode cX12_of 8 = .ok (.iconst (-1), 1) := by decide +kernel
theorem dX12_of_9 : decode cX12_of 9 = .ok (.ireturn, 1) := by decide +kernel
theorem dX12_of_10 : decode cX12_of 10 = .ok (.iload_n 2, 1) := by decide +kernel
theorem dX12_of_11 : decode cX12_of 11 = .ok (.tableswitch 115 0 6 #[41, 51, 61, 71, 81, 90, 104], 41) := by decide +kernel
theorem dX12_of_52 : decode cX12_of 52 = .ok (.aload_n 0, 1) := by decide +kernel
theorem dX12_of_53 : decode cX12_of 53 = .ok (.getfield 24, 3) := by decide +kernel
theorem dX12_of_56 : decode cX12_of 56 = .ok (.bipush 23, 2) := by decide +kernel
theorem dX12_of_58 : decode cX12_of 58 = .ok (.iload_n 1, 1) := by decide +kernel
theorem dX12_of_59 : decode cX12_of 59 = .ok (.iadd, 1) := by decide +kernel
theorem dX12_of_60 : decode cX12_of 60 = .ok (.iaload, 1) := by decide +kernel
theorem dX12_of_61 : decode cX12_of 61 = .ok (.ireturn, 1) := by decide +kernel
theorem dX12_of_62 : decode cX12_of 62 = .ok (.aload_n 0, 1) := by decide +kernel
theorem dX12_of_63 : decode cX12_of 63 = .ok (.getfield 24, 3) := by decide +kernel
theorem dX12_of_66 : decode cX12_of 66 = .ok (.bipush 33, 2) := by decide +kernel
theorem dX12_of_68 : decode cX12_of 68 = .ok (.iload_n 1, 1) := by decide +kernel
theorem dX12_of_69 : decode cX12_of 69 = .ok (.iadd, 1) := by decide +kernel
theorem dX12_of_70 : decode cX12_of 70 = .ok (.iaload, 1) := by decide +kernel
theorem dX12_of_71 : decode cX12_of 71 = .ok (.ireturn, 1) := by decide +kernel
theorem dX12_of_72 : decode cX12_of 72 = .ok (.aload_n 0, 1) := by decide +kernel
theorem dX12_of_73 : decode cX12_of 73 = .ok (.getfield 24, 3) := by decide +kernel
theorem dX12_of_76 : decode cX12_of 76 = .ok (.bipush 43, 2) := by decide +kernel
theorem dX12_of_78 : decode cX12_of 78 = .ok (.iload_n 1, 1) := by decide +kernel
theorem dX12_of_79 : decode cX12_of 79 = .ok (.iadd, 1) := by decide +kernel
theorem dX12_of_80 : decode cX12_of 80 = .ok (.iaload, 1) := by decide +kernel
theorem dX12_of_81 : decode cX12_of 81 = .ok (.ireturn, 1) := by decide +kernel
theorem dX12_of_82 : decode cX12_of 82 = .ok (.aload_n 0, 1) := by decide +kernel
theorem dX12_of_83 : decode cX12_of 83 = .ok (.getfield 24, 3) := by decide +kernel
theorem dX12_of_86 : decode cX12_of 86 = .ok (.bipush 53, 2) := by decide +kernel
theorem dX12_of_88 : decode cX12_of 88 = .ok (.iload_n 1, 1) := by decide +kernel
theorem dX12_of_89 : decode cX12_of 89 = .ok (.iadd, 1) := by decide +kernel
theorem dX12_of_90 : decode cX12_of 90 = .ok (.iaload, 1) := by decide +kernel
theorem dX12_of_91 : decode cX12_of 91 = .ok (.ireturn, 1) := by decide +kernel
theorem dX12_of_92 : decode cX12_of 92 = .ok (.aload_n 0, 1) := by decide +kernel
theorem dX12_of_93 : decode cX12_of 93 = .ok (.getfield 24, 3) := by decide +kernel
theorem dX12_of_96 : decode cX12_of 96 = .ok (.iconst 0, 1) := by decide +kernel
theorem dX12_of_97 : decode cX12_of 97 = .ok (.iload_n 1, 1) := by decide +kernel
theorem dX12_of_98 : decode cX12_of 98 = .ok (.iadd, 1) := by decide +kernel
theorem dX12_of_99 : decode cX12_of 99 = .ok (.iaload, 1) := by decide +kernel
theorem dX12_of_100 : decode cX12_of 100 = .ok (.ireturn, 1) := by decide +kernel
theorem dX12_of_101 : decode cX12_of 101 = .ok (.aload_n 0, 1) := by decide +kernel
theorem dX12_of_102 : decode cX12_of 102 = .ok (.iload_n 1, 1) := by decide +kernel
theorem dX12_of_103 : decode cX12_of 103 = .ok (.invokevirtual 125, 3) := by decide +kernel
theorem dX12_of_106 : decode cX12_of 106 = .ok (.ifCond .eq 7, 3) := by decide +kernel
theorem dX12_of_109 : decode cX12_of 109 = .ok (.iconst 1, 1) := by decide +kernel
theorem dX12_of_110 : decode cX12_of 110 = .ok (.goto 4, 3) := by decide +kernel
theorem dX12_of_113 : decode cX12_of 113 = .ok (.iconst 0, 1) := by decide +kernel
theorem dX12_of_114 : decode cX12_of 114 = .ok (.ireturn, 1) := by decide +kernel
theorem dX12_of_115 : decode cX12_of 115 = .ok (.aload_n 0, 1) := by decide +kernel
theorem dX12_of_116 : decode cX12_of 116 = .ok (.invokevirtual 128, 3) := by decide +kernel
theorem dX12_of_119 : decode cX12_of 119 = .ok (.aload_n 0, 1) := by decide +kernel
theorem dX12_of_120 : decode cX12_of 120 = .ok (.getfield 74, 3) := by decide +kernel
theorem dX12_of_123 : decode cX12_of 123 = .ok (.iload_n 1, 1) := by decide +kernel
theorem dX12_of_124 : decode cX12_of 124 = .ok (.iaload, 1) := by decide +kernel
theorem dX12_of_125 : decode cX12_of 125 = .ok (.ireturn, 1) := by decide +kernel
theorem dX12_of_126 : decode cX12_of 126 = .ok (.iconst (-1), 1) := by decide +kernel
theorem dX12_of_127 : decode cX12_of 127 = .ok (.ireturn, 1) := by decide +kernel
theorem dX12_builder_0 : decode cX12_builder 0 = .ok (.iload_n 1, 1) := by decide +kernel
theorem dX12_builder_1 : decode cX12_builder 1 = .ok (.iconst 1, 1) := by decide +kernel
theorem dX12_builder_2 : decode cX12_builder 2 = .ok (.bipush 15, 2) := by decide +kernel
theorem dX12_builder_4 : decode cX12_builder 4 = .ok (.invokestatic 96, 3) := by decide +kernel
theorem dX12_builder_7 : decode cX12_builder 7 = .ok (.ifCond .eq 13, 3) := by decide +kernel
theorem dX12_builder_10 : decode cX12_builder 10 = .ok (.iload_n 2, 1) := by decide +kernel
theorem dX12_builder_11 : decode cX12_builder 11 = .ok (.iconst 1, 1) := by decide +kernel
theorem dX12_builder_12 : decode cX12_builder 12 = .ok (.bipush 9, 2) := by decide +kernel
theorem dX12_builder_14 : decode cX12_builder 14 = .ok (.invokestatic 96, 3) := by decide +kernel
theorem dX12_builder_17 : decode cX12_builder 17 = .ok (.ifCond .ne 9, 3) := by decide +kernel
theorem dX12_builder_20 : decode cX12_builder 20 = .ok (.aload_n 0, 1) := by decide +kernel
theorem dX12_builder_21 : decode cX12_builder 21 = .ok (.iconst (-1), 1) := by decide +kernel
theorem dX12_builder_22 : decode cX12_builder 22 = .ok (.invokevirtual 100, 3) := by decide +kernel
theorem dX12_builder_25 : decode cX12_builder 25 = .ok (.ireturn, 1) := by decide +kernel
theorem dX12_builder_26 : decode cX12_builder 26 = .ok (.aload_n 0, 1) := by decide +kernel
theorem dX12_builder_27 : decode cX12_builder 27 = .ok (.getfield 24, 3) := by decide +kernel
theorem dX12_builder_30 : decode cX12_builder 30 = .ok (.bipush 103, 2) := by decide +kernel
theorem dX12_builder_32 : decode cX12_builder 32 = .ok (.iaload, 1) := by decide +kernel
theorem dX12_builder_33 : decode cX12_builder 33 = .ok (.istore_n 3, 1) := by decide +kernel
theorem dX12_builder_34 : decode cX12_builder 34 = .ok (.iload_n 3, 1) := by decide +kernel
theorem dX12_builder_35 : decode cX12_builder 35 = .ok (.bipush 6, 2) := by decide +kernel
theorem dX12_builder_37 : decode cX12_builder 37 = .ok (.if_icmp .ne 10, 3) := by decide +kernel
theorem dX12_builder_40 : decode cX12_builder 40 = .ok (.aload_n 0, 1) := by decide +kernel
theorem dX12_builder_41 : decode cX12_builder 41 = .ok (.bipush (-5), 2) := by decide +kernel
theorem dX12_builder_43 : decode cX12_builder 43 = .ok (.invokevirtual 100, 3) := by decide +kernel
theorem dX12_builder_46 : decode cX12_builder 46 = .ok (.ireturn, 1) := by decide +kernel
theorem dX12_builder_47 : decode cX12_builder 47 = .ok (.aload_n 0, 1) := by decide +kernel
theorem dX12_builder_48 : decode cX12_builder 48 = .ok (.getfield 24, 3) := by decide +kernel
theorem dX12_builder_51 : decode cX12_builder 51 = .ok (.bipush 63, 2) := by decide +kernel
theorem dX12_builder_53 : decode cX12_builder 53 = .ok (.iload_n 3, 1) := by decide +kernel
theorem dX12_builder_54 : decode cX12_builder 54 = .ok (.iadd, 1) := by decide +kernel
theorem dX12_builder_55 : decode cX12_builder 55 = .ok (.iload_n 1, 1) := by decide +kernel
theorem dX12_builder_56 : decode cX12_builder 56 = .ok (.iastore, 1) := by decide +kernel
theorem dX12_builder_57 : decode cX12_builder 57 = .ok (.aload_n 0, 1) := by decide +kernel
theorem dX12_builder_58 : decode cX12_builder 58 = .ok (.getfield 24, 3) := by decide +kernel
theorem dX12_builder_61 : decode cX12_builder 61 = .ok (.bipush 69, 2) := by decide +kernel
theorem dX12_builder_63 : decode cX12_builder 63 = .ok (.iload_n 3, 1) := by decide +kernel
theorem dX12_builder_64 : decode cX12_builder 64 = .ok (.iadd, 1) := by decide +kernel
theorem dX12_builder_65 : decode cX12_builder 65 = .ok (.iload_n 2, 1) := by decide +kernel
theorem dX12_builder_66 : decode cX12_builder 66 = .ok (.iastore, 1) := by decide +kernel
theorem dX12_builder_67 : decode cX12_builder 67 = .ok (.aload_n 0, 1) := by decide +kernel
theorem dX12_builder_68 : decode cX12_builder 68 = .ok (.getfield 24, 3) := by decide +kernel
theorem dX12_builder_71 : decode cX12_builder 71 = .ok (.bipush 10, 2) := by decide +kernel
theorem dX12_builder_73 : decode cX12_builder 73 = .ok (.iload_n 3, 1) := by decide +kernel
theorem dX12_builder_74 : decode cX12_builder 74 = .ok (.iadd, 1) := by decide +kernel
theorem dX12_builder_75 : decode cX12_builder 75 = .ok (.iconst 0, 1) := by decide +kernel
theorem dX12_builder_76 : decode cX12_builder 76 = .ok (.iastore, 1) := by decide +kernel
theorem dX12_builder_77 : decode cX12_builder 77 = .ok (.aload_n 0, 1) := by decide +kernel
theorem dX12_builder_78 : decode cX12_builder 78 = .ok (.getfield 24, 3) := by decide +kernel
theorem dX12_builder_81 : decode cX12_builder 81 = .ok (.bipush 16, 2) := by decide +kernel
theorem dX12_builder_83 : decode cX12_builder 83 = .ok (.iload_n 3, 1) := by decide +kernel
theorem dX12_builder_84 : decode cX12_builder 84 = .ok (.iadd, 1) := by decide +kernel
theorem dX12_builder_85 : decode cX12_builder 85 = .ok (.iconst (-1), 1) := by decide +kernel
theorem dX12_builder_86 : decode cX12_builder 86 = .ok (.iastore, 1) := by decide +kernel
theorem dX12_builder_87 : decode cX12_builder 87 = .ok (.aload_n 0, 1) := by decide +kernel
theorem dX12_builder_88 : decode cX12_builder 88 = .ok (.getfield 24, 3) := by decide +kernel
theorem dX12_builder_91 : decode cX12_builder 91 = .ok (.bipush 103, 2) := by decide +kernel
theorem dX12_builder_93 : decode cX12_builder 93 = .ok (.dup2, 1) := by decide +kernel
theorem dX12_builder_94 : decode cX12_builder 94 = .ok (.iaload, 1) := by decide +kernel
theorem dX12_builder_95 : decode cX12_builder 95 = .ok (.iconst 1, 1) := by decide +kernel
theorem dX12_builder_96 : decode cX12_builder 96 = .ok (.iadd, 1) := by decide +kernel
theorem dX12_builder_97 : decode cX12_builder 97 = .ok (.iastore, 1) := by decide +kernel
theorem dX12_builder_98 : decode cX12_builder 98 = .ok (.aload_n 0, 1) := by decide +kernel
theorem dX12_builder_99 : decode cX12_builder 99 = .ok (.iload_n 3, 1) := by decide +kernel
theorem dX12_builder_100 : decode cX12_builder 100 = .ok (.invokevirtual 103, 3) := by decide +kernel
theorem dX12_builder_103 : decode cX12_builder 103 = .ok (.ireturn, 1) := by decide +kernel
theorem dX12_at_0 : decode cX12_at 0 = .ok (.aload_n 0, 1) := by decide +kernel
theorem dX12_at_1 : decode cX12_at 1 = .ok (.iload_n 1, 1) := by decide +kernel
theorem dX12_at_2 : decode cX12_at 2 = .ok (.invokevirtual 131, 3) := by decide +kernel
theorem dX12_at_5 : decode cX12_at 5 = .ok (.ifCond .ne 5, 3) := by decide +kernel
theorem dX12_at_8 : decode cX12_at 8 = .ok (.iconst (-1), 1) := by decide +kernel
theorem dX12_at_9 : decode cX12_at 9 = .ok (.ireturn, 1) := by decide +kernel
theorem dX12_at_10 : decode cX12_at 10 = .ok (.iload_n 2, 1) := by decide +kernel
theorem dX12_at_11 : decode cX12_at 11 = .ok (.tableswitch 69 0 3 #[29, 39, 49, 59], 29) := by decide +kernel
theorem dX12_at_40 : decode cX12_at 40 = .ok (.aload_n 0, 1) := by decide +kernel
theorem dX12_at_41 : decode cX12_at 41 = .ok (.getfield 24, 3) := by decide +kernel
theorem dX12_at_44 : decode cX12_at 44 = .ok (.bipush 63, 2) := by decide +kernel
theorem dX12_at_46 : decode cX12_at 46 = .ok (.iload_n 1, 1) := by decide +kernel
theorem dX12_at_47 : decode cX12_at 47 = .ok (.iadd, 1) := by decide +kernel
theorem dX12_at_48 : decode cX12_at 48 = .ok (.iaload, 1) := by decide +kernel
theorem dX12_at_49 : decode cX12_at 49 = .ok (.ireturn, 1) := by decide +kernel
theorem dX12_at_50 : decode cX12_at 50 = .ok (.aload_n 0, 1) := by decide +kernel
theorem dX12_at_51 : decode cX12_at 51 = .ok (.getfield 24, 3) := by decide +kernel
theorem dX12_at_54 : decode cX12_at 54 = .ok (.bipush 69, 2) := by decide +kernel
theorem dX12_at_56 : decode cX12_at 56 = .ok (.iload_n 1, 1) := by decide +kernel
theorem dX12_at_57 : decode cX12_at 57 = .ok (.iadd, 1) := by decide +kernel
theorem dX12_at_58 : decode cX12_at 58 = .ok (.iaload, 1) := by decide +kernel
theorem dX12_at_59 : decode cX12_at 59 = .ok (.ireturn, 1) := by decide +kernel
theorem dX12_at_60 : decode cX12_at 60 = .ok (.aload_n 0, 1) := by decide +kernel
theorem dX12_at_61 : decode cX12_at 61 = .ok (.getfield 24, 3) := by decide +kernel
theorem dX12_at_64 : decode cX12_at 64 = .ok (.bipush 10, 2) := by decide +kernel
theorem dX12_at_66 : decode cX12_at 66 = .ok (.iload_n 1, 1) := by decide +kernel
theorem dX12_at_67 : decode cX12_at 67 = .ok (.iadd, 1) := by decide +kernel
theorem dX12_at_68 : decode cX12_at 68 = .ok (.iaload, 1) := by decide +kernel
theorem dX12_at_69 : decode cX12_at 69 = .ok (.ireturn, 1) := by decide +kernel
theorem dX12_at_70 : decode cX12_at 70 = .ok (.aload_n 0, 1) := by decide +kernel
theorem dX12_at_71 : decode cX12_at 71 = .ok (.getfield 24, 3) := by decide +kernel
theorem dX12_at_74 : decode cX12_at 74 = .ok (.bipush 16, 2) := by decide +kernel
theorem dX12_at_76 : decode cX12_at 76 = .ok (.iload_n 1, 1) := by decide +kernel
theorem dX12_at_77 : decode cX12_at 77 = .ok (.iadd, 1) := by decide +kernel
theorem dX12_at_78 : decode cX12_at 78 = .ok (.iaload, 1) := by decide +kernel
theorem dX12_at_79 : decode cX12_at 79 = .ok (.ireturn, 1) := by decide +kernel
theorem dX12_at_80 : decode cX12_at 80 = .ok (.iconst (-1), 1) := by decide +kernel
theorem dX12_at_81 : decode cX12_at 81 = .ok (.ireturn, 1) := by decide +kernel
theorem dX12_isTerm_0 : decode cX12_isTerm 0 = .ok (.iload_n 0, 1) := by decide +kernel
theorem dX12_isTerm_1 : decode cX12_isTerm 1 = .ok (.tableswitch 64 0 3 #[31, 40, 48, 56], 31) := by decide +kernel
theorem dX12_isTerm_32 : decode cX12_isTerm 32 = .ok (.iload_n 1, 1) := by decide +kernel
theorem dX12_isTerm_33 : decode cX12_isTerm 33 = .ok (.iconst 0, 1) := by decide +kernel
theorem dX12_isTerm_34 : decode cX12_isTerm 34 = .ok (.sipush 999, 3) := by decide +kernel
theorem dX12_isTerm_37 : decode cX12_isTerm 37 = .ok (.invokestatic 96, 3) := by decide +kernel
theorem dX12_isTerm_40 : decode cX12_isTerm 40 = .ok (.ireturn, 1) := by decide +kernel
theorem dX12_isTerm_41 : decode cX12_isTerm 41 = .ok (.iload_n 1, 1) := by decide +kernel
theorem dX12_isTerm_42 : decode cX12_isTerm 42 = .ok (.iconst 1, 1) := by decide +kernel
theorem dX12_isTerm_43 : decode cX12_isTerm 43 = .ok (.bipush 99, 2) := by decide +kernel
theorem dX12_isTerm_45 : decode cX12_isTerm 45 = .ok (.invokestatic 96, 3) := by decide +kernel
theorem dX12_isTerm_48 : decode cX12_isTerm 48 = .ok (.ireturn, 1) := by decide +kernel
theorem dX12_isTerm_49 : decode cX12_isTerm 49 = .ok (.iload_n 1, 1) := by decide +kernel
theorem dX12_isTerm_50 : decode cX12_isTerm 50 = .ok (.iconst 0, 1) := by decide +kernel
theorem dX12_isTerm_51 : decode cX12_isTerm 51 = .ok (.bipush 10, 2) := by decide +kernel
theorem dX12_isTerm_53 : decode cX12_isTerm 53 = .ok (.invokestatic 96, 3) := by decide +kernel
theorem dX12_isTerm_56 : decode cX12_isTerm 56 = .ok (.ireturn, 1) := by decide +kernel
theorem dX12_isTerm_57 : decode cX12_isTerm 57 = .ok (.iload_n 1, 1) := by decide +kernel
theorem dX12_isTerm_58 : decode cX12_isTerm 58 = .ok (.iconst 0, 1) := by decide +kernel
theorem dX12_isTerm_59 : decode cX12_isTerm 59 = .ok (.bipush 9, 2) := by decide +kernel
theorem dX12_isTerm_61 : decode cX12_isTerm 61 = .ok (.invokestatic 96, 3) := by decide +kernel
theorem dX12_isTerm_64 : decode cX12_isTerm 64 = .ok (.ireturn, 1) := by decide +kernel
theorem dX12_isTerm_65 : decode cX12_isTerm 65 = .ok (.iconst 0, 1) := by decide +kernel
theorem dX12_isTerm_66 : decode cX12_isTerm 66 = .ok (.ireturn, 1) := by decide +kernel
theorem dX12_chaff_0 : decode cX12_chaff 0 = .ok (.aload_n 0, 1) := by decide +kernel
theorem dX12_chaff_1 : decode cX12_chaff 1 = .ok (.getfield 141, 3) := by decide +kernel
theorem dX12_chaff_4 : decode cX12_chaff 4 = .ok (.ireturn, 1) := by decide +kernel
theorem dX12_sign_0 : decode cX12_sign 0 = .ok (.bipush 100, 2) := by decide +kernel
theorem dX12_sign_2 : decode cX12_sign 2 = .ok (.iload_n 0, 1) := by decide +kernel
theorem dX12_sign_3 : decode cX12_sign 3 = .ok (.iadd, 1) := by decide +kernel
theorem dX12_sign_4 : decode cX12_sign 4 = .ok (.ireturn, 1) := by decide +kernel
theorem dX12_fault_0 : decode cX12_fault 0 = .ok (.aload_n 0, 1) := by decide +kernel
theorem dX12_fault_1 : decode cX12_fault 1 = .ok (.getfield 47, 3) := by decide +kernel
theorem dX12_fault_4 : decode cX12_fault 4 = .ok (.ireturn, 1) := by decide +kernel
theorem dX12_hasCraft_0 : decode cX12_hasCraft 0 = .ok (.aload_n 0, 1) := by decide +kernel
theorem dX12_hasCraft_1 : decode cX12_hasCraft 1 = .ok (.getfield 24, 3) := by decide +kernel
theorem dX12_hasCraft_4 : decode cX12_hasCraft 4 = .ok (.bipush 63, 2) := by decide +kernel
theorem dX12_hasCraft_6 : decode cX12_hasCraft 6 = .ok (.iload_n 1, 1) := by decide +kernel
theorem dX12_hasCraft_7 : decode cX12_hasCraft 7 = .ok (.iadd, 1) := by decide +kernel
theorem dX12_hasCraft_8 : decode cX12_hasCraft 8 = .ok (.iaload, 1) := by decide +kernel
theorem dX12_hasCraft_9 : decode cX12_hasCraft 9 = .ok (.aload_n 0, 1) := by decide +kernel
theorem dX12_hasCraft_10 : decode cX12_hasCraft 10 = .ok (.getfield 24, 3) := by decide +kernel
theorem dX12_hasCraft_13 : decode cX12_hasCraft 13 = .ok (.bipush 43, 2) := by decide +kernel
theorem dX12_hasCraft_15 : decode cX12_hasCraft 15 = .ok (.iload_n 2, 1) := by decide +kernel
theorem dX12_hasCraft_16 : decode cX12_hasCraft 16 = .ok (.iadd, 1) := by decide +kernel
theorem dX12_hasCraft_17 : decode cX12_hasCraft 17 = .ok (.iaload, 1) := by decide +kernel
theorem dX12_hasCraft_18 : decode cX12_hasCraft 18 = .ok (.invokestatic 302, 3) := by decide +kernel
theorem dX12_hasCraft_21 : decode cX12_hasCraft 21 = .ok (.ireturn, 1) := by decide +kernel
theorem dX12_others_0 : decode cX12_others 0 = .ok (.iconst 0, 1) := by decide +kernel
theorem dX12_others_1 : decode cX12_others 1 = .ok (.istore_n 3, 1) := by decide +kernel
theorem dX12_others_2 : decode cX12_others 2 = .ok (.iconst 0, 1) := by decide +kernel
theorem dX12_others_3 : decode cX12_others 3 = .ok (.istore 4, 2) := by decide +kernel
theorem dX12_others_5 : decode cX12_others 5 = .ok (.iload 4, 2) := by decide +kernel
theorem dX12_others_7 : decode cX12_others 7 = .ok (.aload_n 0, 1) := by decide +kernel
theorem dX12_others_8 : decode cX12_others 8 = .ok (.getfield 24, 3) := by decide +kernel
theorem dX12_others_11 : decode cX12_others 11 = .ok (.bipush 103, 2) := by decide +kernel
theorem dX12_others_13 : decode cX12_others 13 = .ok (.iaload, 1) := by decide +kernel
theorem dX12_others_14 : decode cX12_others 14 = .ok (.if_icmp .ge 37, 3) := by decide +kernel
theorem dX12_others_17 : decode cX12_others 17 = .ok (.iload_n 3, 1) := by decide +kernel
theorem dX12_others_18 : decode cX12_others 18 = .ok (.iload 4, 2) := by decide +kernel
theorem dX12_others_20 : decode cX12_others 20 = .ok (.iload_n 1, 1) := by decide +kernel
theorem dX12_others_21 : decode cX12_others 21 = .ok (.if_icmp .eq 21, 3) := by decide +kernel
theorem dX12_others_24 : decode cX12_others 24 = .ok (.aload_n 0, 1) := by decide +kernel
theorem dX12_others_25 : decode cX12_others 25 = .ok (.getfield 24, 3) := by decide +kernel
theorem dX12_others_28 : decode cX12_others 28 = .ok (.bipush 16, 2) := by decide +kernel
theorem dX12_others_30 : decode cX12_others 30 = .ok (.iload 4, 2) := by decide +kernel
theorem dX12_others_32 : decode cX12_others 32 = .ok (.iadd, 1) := by decide +kernel
theorem dX12_others_33 : decode cX12_others 33 = .ok (.iaload, 1) := by decide +kernel
theorem dX12_others_34 : decode cX12_others 34 = .ok (.iload_n 2, 1) := by decide +kernel
theorem dX12_others_35 : decode cX12_others 35 = .ok (.if_icmp .ne 7, 3) := by decide +kernel
theorem dX12_others_38 : decode cX12_others 38 = .ok (.iconst 1, 1) := by decide +kernel
theorem dX12_others_39 : decode cX12_others 39 = .ok (.goto 4, 3) := by decide +kernel
theorem dX12_others_42 : decode cX12_others 42 = .ok (.iconst 0, 1) := by decide +kernel
theorem dX12_others_43 : decode cX12_others 43 = .ok (.iadd, 1) := by decide +kernel
theorem dX12_others_44 : decode cX12_others 44 = .ok (.istore_n 3, 1) := by decide +kernel
theorem dX12_others_45 : decode cX12_others 45 = .ok (.iinc 4 1, 3) := by decide +kernel
theorem dX12_others_48 : decode cX12_others 48 = .ok (.goto (-43), 3) := by decide +kernel
theorem dX12_others_51 : decode cX12_others 51 = .ok (.iload_n 3, 1) := by decide +kernel
theorem dX12_others_52 : decode cX12_others 52 = .ok (.ireturn, 1) := by decide +kernel
theorem dX12_stands_0 : decode cX12_stands 0 = .ok (.iload_n 1, 1) := by decide +kernel
theorem dX12_stands_1 : decode cX12_stands 1 = .ok (.iconst 0, 1) := by decide +kernel
theorem dX12_stands_2 : decode cX12_stands 2 = .ok (.iconst 1, 1) := by decide +kernel
theorem dX12_stands_3 : decode cX12_stands 3 = .ok (.invokestatic 96, 3) := by decide +kernel
theorem dX12_stands_6 : decode cX12_stands 6 = .ok (.ifCond .ne 5, 3) := by decide +kernel
theorem dX12_stands_9 : decode cX12_stands 9 = .ok (.iconst (-1), 1) := by decide +kernel
theorem dX12_stands_10 : decode cX12_stands 10 = .ok (.ireturn, 1) := by decide +kernel
theorem dX12_stands_11 : decode cX12_stands 11 = .ok (.iload_n 1, 1) := by decide +kernel
theorem dX12_stands_12 : decode cX12_stands 12 = .ok (.ifCond .ne 8, 3) := by decide +kernel
theorem dX12_stands_15 : decode cX12_stands 15 = .ok (.aload_n 0, 1) := by decide +kernel
theorem dX12_stands_16 : decode cX12_stands 16 = .ok (.invokevirtual 118, 3) := by decide +kernel
theorem dX12_stands_19 : decode cX12_stands 19 = .ok (.ireturn, 1) := by decide +kernel
theorem dX12_stands_20 : decode cX12_stands 20 = .ok (.iconst 0, 1) := by decide +kernel
theorem dX12_stands_21 : decode cX12_stands 21 = .ok (.istore_n 2, 1) := by decide +kernel
theorem dX12_stands_22 : decode cX12_stands 22 = .ok (.iconst 0, 1) := by decide +kernel
theorem dX12_stands_23 : decode cX12_stands 23 = .ok (.istore_n 3, 1) := by decide +kernel
theorem dX12_stands_24 : decode cX12_stands 24 = .ok (.iload_n 3, 1) := by decide +kernel
theorem dX12_stands_25 : decode cX12_stands 25 = .ok (.aload_n 0, 1) := by decide +kernel
theorem dX12_stands_26 : decode cX12_stands 26 = .ok (.getfield 24, 3) := by decide +kernel
theorem dX12_stands_29 : decode cX12_stands 29 = .ok (.bipush 102, 2) := by decide +kernel
theorem dX12_stands_31 : decode cX12_stands 31 = .ok (.iaload, 1) := by decide +kernel
theorem dX12_stands_32 : decode cX12_stands 32 = .ok (.if_icmp .ge 27, 3) := by decide +kernel
theorem dX12_stands_35 : decode cX12_stands 35 = .ok (.iload_n 2, 1) := by decide +kernel
theorem dX12_stands_36 : decode cX12_stands 36 = .ok (.aload_n 0, 1) := by decide +kernel
theorem dX12_stands_37 : decode cX12_stands 37 = .ok (.iload_n 3, 1) := by decide +kernel
theorem dX12_stands_38 : decode cX12_stands 38 = .ok (.invokevirtual 125, 3) := by decide +kernel
theorem dX12_stands_41 : decode cX12_stands 41 = .ok (.ifCond .eq 9, 3) := by decide +kernel
theorem dX12_stands_44 : decode cX12_stands 44 = .ok (.iconst 1, 1) := by decide +kernel
theorem dX12_stands_45 : decode cX12_stands 45 = .ok (.iload_n 3, 1) := by decide +kernel
theorem dX12_stands_46 : decode cX12_stands 46 = .ok (.ishl, 1) := by decide +kernel
theorem dX12_stands_47 : decode cX12_stands 47 = .ok (.goto 4, 3) := by decide +kernel
theorem dX12_stands_50 : decode cX12_stands 50 = .ok (.iconst 0, 1) := by decide +kernel
theorem dX12_stands_51 : decode cX12_stands 51 = .ok (.ior, 1) := by decide +kernel
theorem dX12_stands_52 : decode cX12_stands 52 = .ok (.istore_n 2, 1) := by decide +kernel
theorem dX12_stands_53 : decode cX12_stands 53 = .ok (.iinc 3 1, 3) := by decide +kernel
theorem dX12_stands_56 : decode cX12_stands 56 = .ok (.goto (-32), 3) := by decide +kernel
theorem dX12_stands_59 : decode cX12_stands 59 = .ok (.iload_n 2, 1) := by decide +kernel
theorem dX12_stands_60 : decode cX12_stands 60 = .ok (.ireturn, 1) := by decide +kernel
theorem dX12_isTouched_0 : decode cX12_isTouched 0 = .ok (.aload_n 0, 1) := by decide +kernel
theorem dX12_isTouched_1 : decode cX12_isTouched 1 = .ok (.getfield 24, 3) := by decide +kernel
theorem dX12_isTouched_4 : decode cX12_isTouched 4 = .ok (.iconst 0, 1) := by decide +kernel
theorem dX12_isTouched_5 : decode cX12_isTouched 5 = .ok (.iload_n 1, 1) := by decide +kernel
theorem dX12_isTouched_6 : decode cX12_isTouched 6 = .ok (.iadd, 1) := by decide +kernel
theorem dX12_isTouched_7 : decode cX12_isTouched 7 = .ok (.iaload, 1) := by decide +kernel
theorem dX12_isTouched_8 : decode cX12_isTouched 8 = .ok (.aload_n 0, 1) := by decide +kernel
theorem dX12_isTouched_9 : decode cX12_isTouched 9 = .ok (.getfield 24, 3) := by decide +kernel
theorem dX12_isTouched_12 : decode cX12_isTouched 12 = .ok (.bipush 23, 2) := by decide +kernel
theorem dX12_isTouched_14 : decode cX12_isTouched 14 = .ok (.iload_n 1, 1) := by decide +kernel
theorem dX12_isTouched_15 : decode cX12_isTouched 15 = .ok (.iadd, 1) := by decide +kernel
theorem dX12_isTouched_16 : decode cX12_isTouched 16 = .ok (.iaload, 1) := by decide +kernel
theorem dX12_isTouched_17 : decode cX12_isTouched 17 = .ok (.if_icmp .lt 12, 3) := by decide +kernel
theorem dX12_isTouched_20 : decode cX12_isTouched 20 = .ok (.aload_n 0, 1) := by decide +kernel
theorem dX12_isTouched_21 : decode cX12_isTouched 21 = .ok (.iconst (-1), 1) := by decide +kernel
theorem dX12_isTouched_22 : decode cX12_isTouched 22 = .ok (.iload_n 1, 1) := by decide +kernel
theorem dX12_isTouched_23 : decode cX12_isTouched 23 = .ok (.invokevirtual 308, 3) := by decide +kernel
theorem dX12_isTouched_26 : decode cX12_isTouched 26 = .ok (.ifCond .le 7, 3) := by decide +kernel
theorem dX12_isTouched_29 : decode cX12_isTouched 29 = .ok (.iconst 1, 1) := by decide +kernel
theorem dX12_isTouched_30 : decode cX12_isTouched 30 = .ok (.goto 4, 3) := by decide +kernel
theorem dX12_isTouched_33 : decode cX12_isTouched 33 = .ok (.iconst 0, 1) := by decide +kernel
theorem dX12_isTouched_34 : decode cX12_isTouched 34 = .ok (.ireturn, 1) := by decide +kernel
theorem dX12_canThrow_0 : decode cX12_canThrow 0 = .ok (.aload_n 0, 1) := by decide +kernel
theorem dX12_canThrow_1 : decode cX12_canThrow 1 = .ok (.iload_n 1, 1) := by decide +kernel
theorem dX12_canThrow_2 : decode cX12_canThrow 2 = .ok (.invokevirtual 114, 3) := by decide +kernel
theorem dX12_canThrow_5 : decode cX12_canThrow 5 = .ok (.istore_n 2, 1) := by decide +kernel
theorem dX12_canThrow_6 : decode cX12_canThrow 6 = .ok (.iconst 0, 1) := by decide +kernel
theorem dX12_canThrow_7 : decode cX12_canThrow 7 = .ok (.istore_n 3, 1) := by decide +kernel
theorem dX12_canThrow_8 : decode cX12_canThrow 8 = .ok (.iload_n 3, 1) := by decide +kernel
theorem dX12_canThrow_9 : decode cX12_canThrow 9 = .ok (.aload_n 0, 1) := by decide +kernel
theorem dX12_canThrow_10 : decode cX12_canThrow 10 = .ok (.getfield 24, 3) := by decide +kernel
theorem dX12_canThrow_13 : decode cX12_canThrow 13 = .ok (.bipush 102, 2) := by decide +kernel
theorem dX12_canThrow_15 : decode cX12_canThrow 15 = .ok (.iaload, 1) := by decide +kernel
theorem dX12_canThrow_16 : decode cX12_canThrow 16 = .ok (.if_icmp .ge 43, 3) := by decide +kernel
theorem dX12_canThrow_19 : decode cX12_canThrow 19 = .ok (.iload_n 2, 1) := by decide +kernel
theorem dX12_canThrow_20 : decode cX12_canThrow 20 = .ok (.ifCond .eq 31, 3) := by decide +kernel
theorem dX12_canThrow_23 : decode cX12_canThrow 23 = .ok (.aload_n 0, 1) := by decide +kernel
theorem dX12_canThrow_24 : decode cX12_canThrow 24 = .ok (.getfield 24, 3) := by decide +kernel
theorem dX12_canThrow_27 : decode cX12_canThrow 27 = .ok (.bipush 33, 2) := by decide +kernel
theorem dX12_canThrow_29 : decode cX12_canThrow 29 = .ok (.iload_n 3, 1) := by decide +kernel
theorem dX12_canThrow_30 : decode cX12_canThrow 30 = .ok (.iadd, 1) := by decide +kernel
theorem dX12_canThrow_31 : decode cX12_canThrow 31 = .ok (.iaload, 1) := by decide +kernel
theorem dX12_canThrow_32 : decode cX12_canThrow 32 = .ok (.iload_n 1, 1) := by decide +kernel
theorem dX12_canThrow_33 : decode cX12_canThrow 33 = .ok (.invokestatic 302, 3) := by decide +kernel
theorem dX12_canThrow_36 : decode cX12_canThrow 36 = .ok (.ifCond .eq 11, 3) := by decide +kernel
theorem dX12_canThrow_39 : decode cX12_canThrow 39 = .ok (.aload_n 0, 1) := by decide +kernel
theorem dX12_canThrow_40 : decode cX12_canThrow 40 = .ok (.iload_n 3, 1) := by decide +kernel
theorem dX12_canThrow_41 : decode cX12_canThrow 41 = .ok (.invokevirtual 336, 3) := by decide +kernel
theorem dX12_canThrow_44 : decode cX12_canThrow 44 = .ok (.ifCond .ne 7, 3) := by decide +kernel
theorem dX12_canThrow_47 : decode cX12_canThrow 47 = .ok (.iconst 1, 1) := by decide +kernel
theorem dX12_canThrow_48 : decode cX12_canThrow 48 = .ok (.goto 4, 3) := by decide +kernel
theorem dX12_canThrow_51 : decode cX12_canThrow 51 = .ok (.iconst 0, 1) := by decide +kernel
theorem dX12_canThrow_52 : decode cX12_canThrow 52 = .ok (.istore_n 2, 1) := by decide +kernel
theorem dX12_canThrow_53 : decode cX12_canThrow 53 = .ok (.iinc 3 1, 3) := by decide +kernel
theorem dX12_canThrow_56 : decode cX12_canThrow 56 = .ok (.goto (-48), 3) := by decide +kernel
theorem dX12_canThrow_59 : decode cX12_canThrow 59 = .ok (.iload_n 2, 1) := by decide +kernel
theorem dX12_canThrow_60 : decode cX12_canThrow 60 = .ok (.ireturn, 1) := by decide +kernel
theorem dX12_allBuilders_0 : decode cX12_allBuilders 0 = .ok (.iconst 1, 1) := by decide +kernel
theorem dX12_allBuilders_1 : decode cX12_allBuilders 1 = .ok (.aload_n 0, 1) := by decide +kernel
theorem dX12_allBuilders_2 : decode cX12_allBuilders 2 = .ok (.getfield 24, 3) := by decide +kernel
theorem dX12_allBuilders_5 : decode cX12_allBuilders 5 = .ok (.bipush 103, 2) := by decide +kernel
theorem dX12_allBuilders_7 : decode cX12_allBuilders 7 = .ok (.iaload, 1) := by decide +kernel
theorem dX12_allBuilders_8 : decode cX12_allBuilders 8 = .ok (.ishl, 1) := by decide +kernel
theorem dX12_allBuilders_9 : decode cX12_allBuilders 9 = .ok (.iconst 1, 1) := by decide +kernel
theorem dX12_allBuilders_10 : decode cX12_allBuilders 10 = .ok (.isub, 1) := by decide +kernel
theorem dX12_allBuilders_11 : decode cX12_allBuilders 11 = .ok (.ireturn, 1) := by decide +kernel
theorem dX12_laysChains_0 : decode cX12_laysChains 0 = .ok (.aload_n 0, 1) := by decide +kernel
theorem dX12_laysChains_1 : decode cX12_laysChains 1 = .ok (.getfield 24, 3) := by decide +kernel
theorem dX12_laysChains_4 : decode cX12_laysChains 4 = .ok (.bipush 102, 2) := by decide +kernel
theorem dX12_laysChains_6 : decode cX12_laysChains 6 = .ok (.iaload, 1) := by decide +kernel
theorem dX12_laysChains_7 : decode cX12_laysChains 7 = .ok (.iconst 1, 1) := by decide +kernel
theorem dX12_laysChains_8 : decode cX12_laysChains 8 = .ok (.isub, 1) := by decide +kernel
theorem dX12_laysChains_9 : decode cX12_laysChains 9 = .ok (.istore_n 1, 1) := by decide +kernel
theorem dX12_laysChains_10 : decode cX12_laysChains 10 = .ok (.iload_n 1, 1) := by decide +kernel
theorem dX12_laysChains_11 : decode cX12_laysChains 11 = .ok (.ifCond .lt 83, 3) := by decide +kernel
theorem dX12_laysChains_14 : decode cX12_laysChains 14 = .ok (.iconst 0, 1) := by decide +kernel
theorem dX12_laysChains_15 : decode cX12_laysChains 15 = .ok (.istore_n 2, 1) := by decide +kernel
theorem dX12_laysChains_16 : decode cX12_laysChains 16 = .ok (.iload_n 1, 1) := by decide +kernel
theorem dX12_laysChains_17 : decode cX12_laysChains 17 = .ok (.iconst 1, 1) := by decide +kernel
theorem dX12_laysChains_18 : decode cX12_laysChains 18 = .ok (.iadd, 1) := by decide +kernel
theorem dX12_laysChains_19 : decode cX12_laysChains 19 = .ok (.istore_n 3, 1) := by decide +kernel
theorem dX12_laysChains_20 : decode cX12_laysChains 20 = .ok (.iload_n 3, 1) := by decide +kernel
theorem dX12_laysChains_21 : decode cX12_laysChains 21 = .ok (.aload_n 0, 1) := by decide +kernel
theorem dX12_laysChains_22 : decode cX12_laysChains 22 = .ok (.getfield 24, 3) := by decide +kernel
theorem dX12_laysChains_25 : decode cX12_laysChains 25 = .ok (.bipush 102, 2) := by decide +kernel
theorem dX12_laysChains_27 : decode cX12_laysChains 27 = .ok (.iaload, 1) := by decide +kernel
theorem dX12_laysChains_28 : decode cX12_laysChains 28 = .ok (.if_icmp .ge 44, 3) := by decide +kernel
theorem dX12_laysChains_31 : decode cX12_laysChains 31 = .ok (.aload_n 0, 1) := by decide +kernel
theorem dX12_laysChains_32 : decode cX12_laysChains 32 = .ok (.getfield 24, 3) := by decide +kernel
theorem dX12_laysChains_35 : decode cX12_laysChains 35 = .ok (.bipush 33, 2) := by decide +kernel
theorem dX12_laysChains_37 : decode cX12_laysChains 37 = .ok (.iload_n 3, 1) := by decide +kernel
theorem dX12_laysChains_38 : decode cX12_laysChains 38 = .ok (.iadd, 1) := by decide +kernel
theorem dX12_laysChains_39 : decode cX12_laysChains 39 = .ok (.iaload, 1) := by decide +kernel
theorem dX12_laysChains_40 : decode cX12_laysChains 40 = .ok (.iload_n 1, 1) := by decide +kernel
theorem dX12_laysChains_41 : decode cX12_laysChains 41 = .ok (.invokestatic 302, 3) := by decide +kernel
theorem dX12_laysChains_44 : decode cX12_laysChains 44 = .ok (.ifCond .eq 22, 3) := by decide +kernel
theorem dX12_laysChains_47 : decode cX12_laysChains 47 = .ok (.aload_n 0, 1) := by decide +kernel
theorem dX12_laysChains_48 : decode cX12_laysChains 48 = .ok (.iload_n 3, 1) := by decide +kernel
theorem dX12_laysChains_49 : decode cX12_laysChains 49 = .ok (.invokevirtual 114, 3) := by decide +kernel
theorem dX12_laysChains_52 : decode cX12_laysChains 52 = .ok (.ifCond .ne 14, 3) := by decide +kernel
theorem dX12_laysChains_55 : decode cX12_laysChains 55 = .ok (.iload_n 2, 1) := by decide +kernel
theorem dX12_laysChains_56 : decode cX12_laysChains 56 = .ok (.aload_n 0, 1) := by decide +kernel
theorem dX12_laysChains_57 : decode cX12_laysChains 57 = .ok (.getfield 74, 3) := by decide +kernel
theorem dX12_laysChains_60 : decode cX12_laysChains 60 = .ok (.iload_n 3, 1) := by decide +kernel
theorem dX12_laysChains_61 : decode cX12_laysChains 61 = .ok (.iaload, 1) := by decide +kernel
theorem dX12_laysChains_62 : decode cX12_laysChains 62 = .ok (.invokestatic 327, 3) := by decide +kernel
theorem dX12_laysChains_65 : decode cX12_laysChains 65 = .ok (.istore_n 2, 1) := by decide +kernel
theorem dX12_laysChains_66 : decode cX12_laysChains 66 = .ok (.iinc 3 1, 3) := by decide +kernel
theorem dX12_laysChains_69 : decode cX12_laysChains 69 = .ok (.goto (-49), 3) := by decide +kernel
theorem dX12_laysChains_72 : decode cX12_laysChains 72 = .ok (.aload_n 0, 1) := by decide +kernel
theorem dX12_laysChains_73 : decode cX12_laysChains 73 = .ok (.getfield 74, 3) := by decide +kernel
theorem dX12_laysChains_76 : decode cX12_laysChains 76 = .ok (.iload_n 1, 1) := by decide +kernel
theorem dX12_laysChains_77 : decode cX12_laysChains 77 = .ok (.aload_n 0, 1) := by decide +kernel
theorem dX12_laysChains_78 : decode cX12_laysChains 78 = .ok (.getfield 24, 3) := by decide +kernel
theorem dX12_laysChains_81 : decode cX12_laysChains 81 = .ok (.iconst 0, 1) := by decide +kernel
theorem dX12_laysChains_82 : decode cX12_laysChains 82 = .ok (.iload_n 1, 1) := by decide +kernel
theorem dX12_laysChains_83 : decode cX12_laysChains 83 = .ok (.iadd, 1) := by decide +kernel
theorem dX12_laysChains_84 : decode cX12_laysChains 84 = .ok (.iaload, 1) := by decide +kernel
theorem dX12_laysChains_85 : decode cX12_laysChains 85 = .ok (.iload_n 2, 1) := by decide +kernel
theorem dX12_laysChains_86 : decode cX12_laysChains 86 = .ok (.iadd, 1) := by decide +kernel
theorem dX12_laysChains_87 : decode cX12_laysChains 87 = .ok (.iastore, 1) := by decide +kernel
theorem dX12_laysChains_88 : decode cX12_laysChains 88 = .ok (.iinc 1 (-1), 3) := by decide +kernel
theorem dX12_laysChains_91 : decode cX12_laysChains 91 = .ok (.goto (-81), 3) := by decide +kernel
theorem dX12_laysChains_94 : decode cX12_laysChains 94 = .ok (.return_, 1) := by decide +kernel
theorem dX12_longest_0 : decode cX12_longest 0 = .ok (.aload_n 0, 1) := by decide +kernel
theorem dX12_longest_1 : decode cX12_longest 1 = .ok (.invokevirtual 128, 3) := by decide +kernel
theorem dX12_longest_4 : decode cX12_longest 4 = .ok (.iconst 0, 1) := by decide +kernel
theorem dX12_longest_5 : decode cX12_longest 5 = .ok (.istore_n 1, 1) := by decide +kernel
theorem dX12_longest_6 : decode cX12_longest 6 = .ok (.iconst 0, 1) := by decide +kernel
theorem dX12_longest_7 : decode cX12_longest 7 = .ok (.istore_n 2, 1) := by decide +kernel
theorem dX12_longest_8 : decode cX12_longest 8 = .ok (.iload_n 2, 1) := by decide +kernel
theorem dX12_longest_9 : decode cX12_longest 9 = .ok (.aload_n 0, 1) := by decide +kernel
theorem dX12_longest_10 : decode cX12_longest 10 = .ok (.getfield 24, 3) := by decide +kernel
theorem dX12_longest_13 : decode cX12_longest 13 = .ok (.bipush 102, 2) := by decide +kernel
theorem dX12_longest_15 : decode cX12_longest 15 = .ok (.iaload, 1) := by decide +kernel
theorem dX12_longest_16 : decode cX12_longest 16 = .ok (.if_icmp .ge 20, 3) := by decide +kernel
theorem dX12_longest_19 : decode cX12_longest 19 = .ok (.iload_n 1, 1) := by decide +kernel
theorem dX12_longest_20 : decode cX12_longest 20 = .ok (.aload_n 0, 1) := by decide +kernel
theorem dX12_longest_21 : decode cX12_longest 21 = .ok (.getfield 74, 3) := by decide +kernel
theorem dX12_longest_24 : decode cX12_longest 24 = .ok (.iload_n 2, 1) := by decide +kernel
theorem dX12_longest_25 : decode cX12_longest 25 = .ok (.iaload, 1) := by decide +kernel
theorem dX12_longest_26 : decode cX12_longest 26 = .ok (.invokestatic 327, 3) := by decide +kernel
theorem dX12_longest_29 : decode cX12_longest 29 = .ok (.istore_n 1, 1) := by decide +kernel
theorem dX12_longest_30 : decode cX12_longest 30 = .ok (.iinc 2 1, 3) := by decide +kernel
theorem dX12_longest_33 : decode cX12_longest 33 = .ok (.goto (-25), 3) := by decide +kernel
theorem dX12_longest_36 : decode cX12_longest 36 = .ok (.iload_n 1, 1) := by decide +kernel
theorem dX12_longest_37 : decode cX12_longest 37 = .ok (.ireturn, 1) := by decide +kernel
theorem dX12_stopped_0 : decode cX12_stopped 0 = .ok (.aload_n 0, 1) := by decide +kernel
theorem dX12_stopped_1 : decode cX12_stopped 1 = .ok (.getfield 83, 3) := by decide +kernel
theorem dX12_stopped_4 : decode cX12_stopped 4 = .ok (.ireturn, 1) := by decide +kernel
theorem dX12_small_0 : decode cX12_small 0 = .ok (.lload_n 0, 1) := by decide +kernel
theorem dX12_small_1 : decode cX12_small 1 = .ok (.lconst 0, 1) := by decide +kernel
theorem dX12_small_2 : decode cX12_small 2 = .ok (.lcmp, 1) := by decide +kernel
theorem dX12_small_3 : decode cX12_small 3 = .ok (.ifCond .lt 11, 3) := by decide +kernel
theorem dX12_small_6 : decode cX12_small 6 = .ok (.lload_n 0, 1) := by decide +kernel
theorem dX12_small_7 : decode cX12_small 7 = .ok (.ldc2_w 439, 3) := by decide +kernel
theorem dX12_small_10 : decode cX12_small 10 = .ok (.lcmp, 1) := by decide +kernel
theorem dX12_small_11 : decode cX12_small 11 = .ok (.ifCond .le 7, 3) := by decide +kernel
theorem dX12_small_14 : decode cX12_small 14 = .ok (.iconst (-1), 1) := by decide +kernel
theorem dX12_small_15 : decode cX12_small 15 = .ok (.goto 5, 3) := by decide +kernel
theorem dX12_small_18 : decode cX12_small 18 = .ok (.lload_n 0, 1) := by decide +kernel
theorem dX12_small_19 : decode cX12_small 19 = .ok (.l2i, 1) := by decide +kernel
theorem dX12_small_20 : decode cX12_small 20 = .ok (.ireturn, 1) := by decide +kernel
theorem dX12_status_0 : decode cX12_status 0 = .ok (.aload_n 0, 1) := by decide +kernel
theorem dX12_status_1 : decode cX12_status 1 = .ok (.getfield 3, 3) := by decide +kernel
theorem dX12_status_4 : decode cX12_status 4 = .ok (.ireturn, 1) := by decide +kernel
theorem wt6_112 : Cond.methodLink RX12 114 yX12_stands0 ∈ kG := kt6 112 rfl rfl
theorem wt6_114 : Cond.instanceMethod yX12_stands0 ∈ kG := kt6 114 rfl rfl
theorem wp3_12 : Cond.selects RX12 yX12_stands0 yX12_stands0 ∈ kG := kp3 12 rfl rfl
theorem wt6_115 : Cond.code yX12_stands0 cX12_stands0 2 (some .boolean) ∈ kG := kt6 115 rfl rfl
theorem wt6_116 : Cond.methodLink RX12 118 yX12_standing ∈ kG := kt6 116 rfl rfl
theorem wt6_118 : Cond.instanceMethod yX12_standing ∈ kG := kt6 118 rfl rfl
theorem wp3_13 : Cond.selects RX12 yX12_standing yX12_standing ∈ kG := kp3 13 rfl rfl
theorem wt6_119 : Cond.code yX12_standing cX12_standing 3 (some .int) ∈ kG := kt6 119 rfl rfl
theorem wt6_92 : Cond.methodLink RX12 106 yX12_canPart ∈ kG := kt6 92 rfl rfl
theorem wt6_94 : Cond.instanceMethod yX12_canPart ∈ kG := kt6 94 rfl rfl
theorem wp3_8 : Cond.selects RX12 yX12_canPart yX12_canPart ∈ kG := kp3 8 rfl rfl
theorem wt6_95 : Cond.code yX12_canPart cX12_canPart 5 (some .boolean) ∈ kG := kt6 95 rfl rfl
theorem wt6_96 : Cond.methodLink RX12 110 yX12_addsPart ∈ kG := kt6 96 rfl rfl
theorem wt6_98 : Cond.instanceMethod yX12_addsPart ∈ kG := kt6 98 rfl rfl
theorem wp3_9 : Cond.selects RX12 yX12_addsPart yX12_addsPart ∈ kG := kp3 9 rfl rfl
theorem wt6_99 : Cond.code yX12_addsPart cX12_addsPart 6 none ∈ kG := kt6 99 rfl rfl
theorem wt6_84 : Cond.methodLink RX12 103 yX12_settled ∈ kG := kt6 84 rfl rfl
theorem wt6_86 : Cond.instanceMethod yX12_settled ∈ kG := kt6 86 rfl rfl
theorem wp3_7 : Cond.selects RX12 yX12_settled yX12_settled ∈ kG := kp3 7 rfl rfl
theorem wt6_87 : Cond.code yX12_settled cX12_settled 2 (some .int) ∈ kG := kt6 87 rfl rfl
theorem wt6_72 : Cond.methodLink RX12 100 yX12_refuses ∈ kG := kt6 72 rfl rfl
theorem wt6_74 : Cond.instanceMethod yX12_refuses ∈ kG := kt6 74 rfl rfl
theorem wp3_5 : Cond.selects RX12 yX12_refuses yX12_refuses ∈ kG := kp3 5 rfl rfl
theorem wt6_75 : Cond.code yX12_refuses cX12_refuses 2 (some .int) ∈ kG := kt6 75 rfl rfl
theorem wt6_124 : Cond.methodLink RX12 302 yX12_isIn ∈ kG := kt6 124 rfl rfl
theorem wt6_125 : Cond.static yX12_isIn ∈ kG := kt6 125 rfl rfl
theorem wt6_126 : Cond.code yX12_isIn cX12_isIn 2 (some .boolean) ∈ kG := kt6 126 rfl rfl
theorem wt6_138 : Cond.methodLink RX12 131 yX12_isBuilder ∈ kG := kt6 138 rfl rfl
theorem wt6_140 : Cond.instanceMethod yX12_isBuilder ∈ kG := kt6 140 rfl rfl
theorem wp3_15 : Cond.selects RX12 yX12_isBuilder yX12_isBuilder ∈ kG := kp3 15 rfl rfl
theorem wt6_141 : Cond.code yX12_isBuilder cX12_isBuilder 2 (some .boolean) ∈ kG := kt6 141 rfl rfl
theorem wt5_166 : Cond.fieldLink RX12 141 "SunriseRoofModel" "chaff0" "I" ∈ kG := kt5 166 rfl rfl
theorem wt8_66 : Cond.constantLong RX12 439 (1000000) ∈ kG := kt8 66 rfl rfl
theorem wt6_108 : Cond.methodLink RX12 125 yX12_isReady ∈ kG := kt6 108 rfl rfl
theorem wt6_110 : Cond.instanceMethod yX12_isReady ∈ kG := kt6 110 rfl rfl
theorem wp3_11 : Cond.selects RX12 yX12_isReady yX12_isReady ∈ kG := kp3 11 rfl rfl
theorem wt6_111 : Cond.code yX12_isReady cX12_isReady 2 (some .boolean) ∈ kG := kt6 111 rfl rfl
theorem wt7_43 : Cond.methodLink RX12 308 yX12_others ∈ kG := kt7 43 rfl rfl
theorem wt7_45 : Cond.instanceMethod yX12_others ∈ kG := kt7 45 rfl rfl
theorem wp5_7 : Cond.selects RX12 yX12_others yX12_others ∈ kG := kp5 7 rfl rfl
theorem wt7_46 : Cond.code yX12_others cX12_others 5 (some .int) ∈ kG := kt7 46 rfl rfl
theorem wt7_152 : Cond.methodLink RX12 336 yX12_isTouched ∈ kG := kt7 152 rfl rfl
theorem wt7_154 : Cond.instanceMethod yX12_isTouched ∈ kG := kt7 154 rfl rfl
theorem wp6_12 : Cond.selects RX12 yX12_isTouched yX12_isTouched ∈ kG := kp6 12 rfl rfl
theorem wt7_155 : Cond.code yX12_isTouched cX12_isTouched 2 (some .boolean) ∈ kG := kt7 155 rfl rfl
theorem wt6_127 : Cond.methodLink RX12 327 yX12_greater ∈ kG := kt6 127 rfl rfl
theorem wt6_128 : Cond.static yX12_greater ∈ kG := kt6 128 rfl rfl
theorem wt6_129 : Cond.code yX12_greater cX12_greater 2 (some .int) ∈ kG := kt6 129 rfl rfl
theorem wt6_120 : Cond.methodLink RX12 128 yX12_laysChains ∈ kG := kt6 120 rfl rfl
theorem wt6_122 : Cond.instanceMethod yX12_laysChains ∈ kG := kt6 122 rfl rfl
theorem wp3_14 : Cond.selects RX12 yX12_laysChains yX12_laysChains ∈ kG := kp3 14 rfl rfl
theorem wt6_123 : Cond.code yX12_laysChains cX12_laysChains 4 none ∈ kG := kt6 123 rfl rfl
theorem wt6_104 : Cond.methodLink RX12 122 yX12_isPart ∈ kG := kt6 104 rfl rfl
theorem wt6_106 : Cond.instanceMethod yX12_isPart ∈ kG := kt6 106 rfl rfl
theorem wp3_10 : Cond.selects RX12 yX12_isPart yX12_isPart ∈ kG := kp3 10 rfl rfl
theorem wt6_107 : Cond.code yX12_isPart cX12_isPart 2 (some .boolean) ∈ kG := kt6 107 rfl rfl
theorem kc_100 : kb 100 100 100 := ⟨by decide +kernel, by decide +kernel⟩
theorem kc_15 : kb 15 15 15 := ⟨by decide +kernel, by decide +kernel⟩
theorem kc_16 : kb 16 16 16 := ⟨by decide +kernel, by decide +kernel⟩
theorem kc_2 : kb 2 2 2 := ⟨by decide +kernel, by decide +kernel⟩
theorem kc_23 : kb 23 23 23 := ⟨by decide +kernel, by decide +kernel⟩
theorem kc_3 : kb 3 3 3 := ⟨by decide +kernel, by decide +kernel⟩
theorem kc_33 : kb 33 33 33 := ⟨by decide +kernel, by decide +kernel⟩
theorem kc_4 : kb 4 4 4 := ⟨by decide +kernel, by decide +kernel⟩
theorem kc_43 : kb 43 43 43 := ⟨by decide +kernel, by decide +kernel⟩
theorem kc_5 : kb 5 5 5 := ⟨by decide +kernel, by decide +kernel⟩
theorem kc_53 : kb 53 53 53 := ⟨by decide +kernel, by decide +kernel⟩
theorem kc_6 : kb 6 6 6 := ⟨by decide +kernel, by decide +kernel⟩
theorem kc_63 : kb 63 63 63 := ⟨by decide +kernel, by decide +kernel⟩
theorem kc_69 : kb 69 69 69 := ⟨by decide +kernel, by decide +kernel⟩
theorem kc_9 : kb 9 9 9 := ⟨by decide +kernel, by decide +kernel⟩
theorem kc_99 : kb 99 99 99 := ⟨by decide +kernel, by decide +kernel⟩
theorem kc_m1 : kb (-1) (-1) (-1) := ⟨by decide +kernel, by decide +kernel⟩
theorem kc_m5 : kb (-5) (-5) (-5) := ⟨by decide +kernel, by decide +kernel⟩
theorem kcl_0 : kbl 0 0 0 := ⟨by decide +kernel, by decide +kernel⟩
theorem kcl_1000000 : kbl 1000000 1000000 1000000 := ⟨by decide +kernel, by decide +kernel⟩
set_option maxHeartbeats 4000000 in
set_option maxRecDepth 100000 in
theorem m_stands0  (l : Launch) {D : va_G} {K : Nat → ClassId} (o : Nat) (r : Nat → Nat) (f : Nat → Int32) (a : Nat → Nat → Int32) (g : Nat → Int64) (hI : mI f a) (pt : Int32) (bpt : kb 0 pt 99)   : kI l yX12_stands0 (Cond.code yX12_stands0 cX12_stands0 2 (some .boolean) :: kG) (rmD 1 0 0) D (tysK K) [.ref o, .int pt] (mW K o r f a g) (fun v (_ : Unit) => kb 0 v 1) (fun _ => mW K o r f a g) 0 0 := by
  refine kI.of (cc := cX12_stands0) (maxL := 2) (ret := (some .boolean)) (by decide) rfl (Nat.le_of_ble_eq_true rfl) ?_
  intro p e s m below meth c A hx hb hr hml hown hts hlocks hnm hK hP hD hS hA ls hl
  have hg : ∀ w ∈ kG, w.before _ s = true := fun w h => hts w (List.mem_cons_of_mem _ h)
  have hown : s.vm.findClass RX12 = some m.cls := hown
  have hl : lv_has ls 2 [(0, .ref o), (1, .int pt)] := hl
  refine lv_aload_n hx hb dX12_stands0_0 rfl (lv_at hl 0 rfl) ?_
  refine va_get (D := D) (ci := 12) (v := .ref (r 2)) (C := RX12) (T := TX12) (N := 48) hx hb hg inC12 hown hK hP 0 rfl rfl 2 (by decide) (hg _ wt5_162) (fun _ h9 => h9) rfl dX12_stands0_1 ?_
  refine lv_iconst (v := 0) hx hb dX12_stands0_4 (by decide) ?_
  refine lv_iload_n hx hb dX12_stands0_5 rfl (lv_at hl 1 rfl) ?_
  refine lv_iadd hx hb dX12_stands0_6 ?_
  refine k_top (z := pt) (Int32.zero_add _) ?_
  refine va_iald hx hb hK hP 2 0 rfl rfl (kb_in bpt (by decide) (by decide)) dX12_stands0_7 ?_
  refine lv_topi (fun t1 et1 => ?_)
  refine lv_if_ne (tgt := 15) hx hb dX12_stands0_8 (by decide) (fun c2 => ?_) (fun c2 => ?_)
  · refine lv_iconst (v := 0) hx hb dX12_stands0_15 (by decide) ?_
    exact kI_ret (v := 0) hx hb hr hlocks (by decide +kernel) hK hS dX12_stands0_16 () hP hD (kb_w kc_0 (by decide) (by decide))
  · have b3 : kb 0 t1 0 := kb_eq c2 kc_0
    refine lv_iconst (v := 1) hx hb dX12_stands0_11 (by decide) ?_
    refine lv_goto (tgt := 16) hx hb dX12_stands0_12 (by decide) ?_
    exact kI_ret (v := 1) hx hb hr hlocks (by decide +kernel) hK hS dX12_stands0_16 () hP hD (kb_w kc_1 (by decide) (by decide))
set_option maxHeartbeats 4000000 in
set_option maxRecDepth 100000 in
theorem m_standing  (l : Launch) {D : va_G} {K : Nat → ClassId} (o : Nat) (r : Nat → Nat) (f : Nat → Int32) (a : Nat → Nat → Int32) (g : Nat → Int64) (hI : mI f a)     : kI l yX12_standing (Cond.code yX12_standing cX12_standing 3 (some .int) :: kG) (rmD 2 0 0) D (tysK K) [.ref o] (mW K o r f a g) (fun v (_ : Unit) => kb 0 v 1023) (fun _ => mW K o r f a g) 0 0 := by
  refine kI.of (cc := cX12_standing) (maxL := 3) (ret := (some .int)) (by decide) rfl (Nat.le_of_ble_eq_true rfl) ?_
  intro p e s m below meth c A hx hb hr hml hown hts hlocks hnm hK hP hD hS hA ls hl
  have hg : ∀ w ∈ kG, w.before _ s = true := fun w h => hts w (List.mem_cons_of_mem _ h)
  have hown : s.vm.findClass RX12 = some m.cls := hown
  have hl : lv_has ls 3 [(0, .ref o)] := hl
  refine lv_iconst (v := 0) hx hb dX12_standing_0 (by decide) ?_
  refine lv_istore_n (lv' := [(1, .int 0), (0, .ref o)]) hx hb dX12_standing_1 rfl hl (by decide) rfl (fun ls hl => ?_)
  refine lv_iconst (v := 0) hx hb dX12_standing_2 (by decide) ?_
  refine lv_istore_n (lv' := [(2, .int 0), (1, .int 0), (0, .ref o)]) hx hb dX12_standing_3 rfl hl (by decide) rfl (fun ls hl => ?_)
  have lp3 : ∀ (n4 : Nat) (H : Heap) (locs : List Loc) (ls : Array Slot) (y1 : Int32) (y2 : Int32), (10 < y1.toInt + (n4 : Int)) → (kb 0 y1 10) → (kb 0 y2 1023) → va_P D vwCl (mW K o r f a g) H → va_D A (mW K o r f a g) → va_S A s.heap H locs → lv_has ls 3 [(2, .int y1), (1, .int y2), (0, .ref o)] → W p l e (rmD 2 0 0) s m ([.ref o] : List Value).toArray below meth c H locs 0 0 (kQi D (tysK K) (fun v (_ : Unit) => kb 0 v 1023) (fun _ => mW K o r f a g) A below ([.ref o] : List Value).toArray s 0 0) (F0 m 4 ls []) := by
    intro n4
    induction n4 with
    | zero =>
      intro   H locs ls y1 y2 hmlp3 b5 b6 hP hD hS hl
      exact (by have h1 := b5.2; have h2 := hmlp3; omega : False).elim
    | succ n4 ihlp3 =>
      intro   H locs ls y1 y2 hmlp3 b5 b6 hP hD hS hl
      refine lv_iload_n hx hb dX12_standing_4 rfl (lv_at hl 0 rfl) ?_
      refine lv_aload_n hx hb dX12_standing_5 rfl (lv_at hl 2 rfl) ?_
      refine va_get (D := D) (ci := 12) (v := .ref (r 2)) (C := RX12) (T := TX12) (N := 48) hx hb hg inC12 hown hK hP 0 rfl rfl 2 (by decide) (hg _ wt5_162) (fun _ h9 => h9) rfl dX12_standing_6 ?_
      refine lv_bipush (v := 102) hx hb dX12_standing_9 (by decide) ?_
      refine va_iald hx hb hK hP 2 0 rfl rfl (kb_in kc_102 (by decide) (by decide)) dX12_standing_11 ?_
      refine lv_topi (fun t7 et7 => ?_)
      rw [cl_102] at et7
      have b8 : kb 0 t7 10 := kb_eq et7 (aI_at hI.2.1 2 102 (by decide) (by decide))
      refine lv_icmp_ge (tgt := 39) hx hb dX12_standing_12 (by decide) (fun c9 => ?_) (fun c9 => ?_)
      · have h10 := (kc_le c9)
        refine lv_iload_n hx hb dX12_standing_39 rfl (lv_at hl 1 rfl) ?_
        exact kI_ret (v := y2) hx hb hr hlocks rfl hK hS dX12_standing_40 () hP hD b6
      · have h11 := (kc_nle c9)
        have b12 : kb 0 y1 9 := kr_lt1 h11 b5 b8 (by decide)
        have b13 : kb 1 t7 10 := kr_lt2 h11 b5 b8 (by decide)
        refine lv_iload_n hx hb dX12_standing_15 rfl (lv_at hl 1 rfl) ?_
        refine lv_aload_n hx hb dX12_standing_16 rfl (lv_at hl 2 rfl) ?_
        refine lv_iload_n hx hb dX12_standing_17 rfl (lv_at hl 0 rfl) ?_
        refine kI.callV (As := [.int y1]) (rest := [.int y2]) ⟨hx, hb, hml, hown, hg⟩ (m_stands0 l o r f a g hI y1 (kb_w b12 (by decide) (by decide)) ) (cwV 1 hg (kgV wt6_112 wt6_114 wp3_12 wt1_14 wt6_115) rfl rfl rfl (by decide +kernel) ⟨by decide, by decide⟩) hK hP hD hS hA mIs [] rfl (wr := []) rfl rfl rfl (fun i h => by cases h) 0 12 rfl rfl rfl hl.1 rfl (Nat.le_of_ble_eq_true rfl) dX12_standing_18 ⟨Nat.le_refl _, Nat.le_refl _⟩ (fun v15 u16 H locs hw14 hP hD hS => ?_)
        have hP : va_P D vwCl (mW K o r f a g) H := hP
        have hD : va_D A (mW K o r f a g) := hD
        have jn22 : ∀ (H : Heap) (locs : List Loc) (ls : Array Slot) (z21 : Int32), (kb 0 z21 512) → va_P D vwCl (mW K o r f a g) H → va_D A (mW K o r f a g) → va_S A s.heap H locs → lv_has ls 3 [(2, .int y1), (1, .int y2), (0, .ref o)] → W p l e (rmD 2 0 0) s m ([.ref o] : List Value).toArray below meth c H locs 0 0 (kQi D (tysK K) (fun v (_ : Unit) => kb 0 v 1023) (fun _ => mW K o r f a g) A below ([.ref o] : List Value).toArray s 0 0) (F0 m 31 ls [.int z21, .int y2]) := by
          intro  H locs ls z21 b23 hP hD hS hl
          refine lv_ior hx hb dX12_standing_31 ?_
          refine lv_topi (fun t24 et24 => ?_)
          have b25 : kb 0 t24 1023 := kb_eq et24 (kb_or 10 b6 b23 (by decide) (by decide) (by decide) (by decide) (by decide))
          refine lv_istore_n (lv' := [(1, .int t24), (2, .int y1), (0, .ref o)]) hx hb dX12_standing_32 rfl hl (by decide) rfl (fun ls hl => ?_)
          obtain ⟨t26, et26⟩ : ∃ z : Int32, z = y1 + Int32.ofInt 1 := ⟨_, rfl⟩
          have qt26 : t26.toInt = y1.toInt + 1 := by rw [et26]; exact km_inc b12 (by decide) (by decide)
          have b27 : kb 1 t26 10 := kb_inc (k := 1) qt26 b12
          refine lv_iinc (v := t26) (lv' := [(2, .int t26), (1, .int t24), (0, .ref o)]) hx hb dX12_standing_33 hl (k := 1) rfl et26.symm (by decide) rfl (fun ls hl => ?_)
          refine lv_goto (tgt := 4) hx hb dX12_standing_36 (by decide) ?_
          exact ihlp3  _ _ _ t26 t24 (km_up hmlp3 qt26) (kb_w b27 (by decide) (by decide)) b25 hP hD hS (lv_sub hl [0, 1, 2] rfl)
        refine lv_if_eq (tgt := 30) hx hb dX12_standing_21 (by decide) (fun c28 => ?_) (fun c28 => ?_)
        · have b29 : kb 0 v15 0 := kb_eq c28 kc_0
          refine lv_iconst (v := 0) hx hb dX12_standing_30 (by decide) ?_
          exact jn22 _ _ _ 0 (kb_w kc_0 (by decide) (by decide)) hP hD hS (lv_sub hl [0, 1, 2] rfl)
        · have b30 : kb 1 v15 1 := kr_nel c28 hw14 kc_0 (by decide)
          refine lv_iconst (v := 1) hx hb dX12_standing_24 (by decide) ?_
          refine lv_iload_n hx hb dX12_standing_25 rfl (lv_at hl 0 rfl) ?_
          refine lv_ishl hx hb dX12_standing_26 ?_
          refine lv_topi (fun t31 et31 => ?_)
          have b32 : kb 1 t31 512 := kb_eq et31 (kb_shl (l := 0) (h := 9) b12 (by decide))
          refine lv_goto (tgt := 31) hx hb dX12_standing_27 (by decide) ?_
          exact jn22 _ _ _ t31 (kb_w b32 (by decide) (by decide)) hP hD hS (lv_sub hl [0, 1, 2] rfl)
  exact lp3 (11)  _ _ _ 0 0 (by have h1 := (kc_0); unfold kb at h1; omega) (kb_w kc_0 (by decide) (by decide)) (kb_w kc_0 (by decide) (by decide)) hP hD hS (lv_sub hl [0, 1, 2] rfl)
set_option maxHeartbeats 4000000 in
set_option maxRecDepth 100000 in
theorem m_allParts  (l : Launch) {D : va_G} {K : Nat → ClassId} (o : Nat) (r : Nat → Nat) (f : Nat → Int32) (a : Nat → Nat → Int32) (g : Nat → Int64) (hI : mI f a)     : kI l yX12_allParts (Cond.code yX12_allParts cX12_allParts 1 (some .int) :: kG) (rmD 1 0 0) D (tysK K) [.ref o] (mW K o r f a g) (fun v (_ : Unit) => kb 0 v 1023) (fun _ => mW K o r f a g) 0 0 := by
  refine kI.of (cc := cX12_allParts) (maxL := 1) (ret := (some .int)) (by decide) rfl (Nat.le_of_ble_eq_true rfl) ?_
  intro p e s m below meth c A hx hb hr hml hown hts hlocks hnm hK hP hD hS hA ls hl
  have hg : ∀ w ∈ kG, w.before _ s = true := fun w h => hts w (List.mem_cons_of_mem _ h)
  have hown : s.vm.findClass RX12 = some m.cls := hown
  have hl : lv_has ls 1 [(0, .ref o)] := hl
  refine lv_iconst (v := 1) hx hb dX12_allParts_0 (by decide) ?_
  refine lv_aload_n hx hb dX12_allParts_1 rfl (lv_at hl 0 rfl) ?_
  refine va_get (D := D) (ci := 12) (v := .ref (r 2)) (C := RX12) (T := TX12) (N := 48) hx hb hg inC12 hown hK hP 0 rfl rfl 2 (by decide) (hg _ wt5_162) (fun _ h9 => h9) rfl dX12_allParts_2 ?_
  refine lv_bipush (v := 102) hx hb dX12_allParts_5 (by decide) ?_
  refine va_iald hx hb hK hP 2 0 rfl rfl (kb_in kc_102 (by decide) (by decide)) dX12_allParts_7 ?_
  refine lv_topi (fun t1 et1 => ?_)
  rw [cl_102] at et1
  have b2 : kb 0 t1 10 := kb_eq et1 (aI_at hI.2.1 2 102 (by decide) (by decide))
  refine lv_ishl hx hb dX12_allParts_8 ?_
  refine lv_topi (fun t3 et3 => ?_)
  have b4 : kb 1 t3 1024 := kb_eq et3 (kb_shl (l := 0) (h := 10) b2 (by decide))
  refine lv_iconst (v := 1) hx hb dX12_allParts_9 (by decide) ?_
  refine lv_isub hx hb dX12_allParts_10 ?_
  refine lv_topi (fun t5 et5 => ?_)
  have b6 : kb 0 t5 1023 := kb_eq et5 (kb_sub b4 kc_1 (by decide) (by decide))
  have qt5 : t5.toInt = t3.toInt - 1 := by rw [et5]; exact kt_subc b4 kc_1 (by decide) (by decide)
  exact kI_ret (v := t5) hx hb hr hlocks rfl hK hS dX12_allParts_11 () hP hD b6
set_option maxHeartbeats 4000000 in
set_option maxRecDepth 100000 in
theorem m_allBuilders  (l : Launch) {D : va_G} {K : Nat → ClassId} (o : Nat) (r : Nat → Nat) (f : Nat → Int32) (a : Nat → Nat → Int32) (g : Nat → Int64) (hI : mI f a)     : kI l yX12_allBuilders (Cond.code yX12_allBuilders cX12_allBuilders 1 (some .int) :: kG) (rmD 1 0 0) D (tysK K) [.ref o] (mW K o r f a g) (fun v (_ : Unit) => kb 0 v 63) (fun _ => mW K o r f a g) 0 0 := by
  refine kI.of (cc := cX12_allBuilders) (maxL := 1) (ret := (some .int)) (by decide) rfl (Nat.le_of_ble_eq_true rfl) ?_
  intro p e s m below meth c A hx hb hr hml hown hts hlocks hnm hK hP hD hS hA ls hl
  have hg : ∀ w ∈ kG, w.before _ s = true := fun w h => hts w (List.mem_cons_of_mem _ h)
  have hown : s.vm.findClass RX12 = some m.cls := hown
  have hl : lv_has ls 1 [(0, .ref o)] := hl
  refine lv_iconst (v := 1) hx hb dX12_allBuilders_0 (by decide) ?_
  refine lv_aload_n hx hb dX12_allBuilders_1 rfl (lv_at hl 0 rfl) ?_
  refine va_get (D := D) (ci := 12) (v := .ref (r 2)) (C := RX12) (T := TX12) (N := 48) hx hb hg inC12 hown hK hP 0 rfl rfl 2 (by decide) (hg _ wt5_162) (fun _ h9 => h9) rfl dX12_allBuilders_2 ?_
  refine lv_bipush (v := 103) hx hb dX12_allBuilders_5 (by decide) ?_
  refine va_iald hx hb hK hP 2 0 rfl rfl (kb_in kc_103 (by decide) (by decide)) dX12_allBuilders_7 ?_
  refine lv_topi (fun t1 et1 => ?_)
  rw [cl_103] at et1
  have b2 : kb 0 t1 6 := kb_eq et1 (aI_at hI.2.1 2 103 (by decide) (by decide))
  refine lv_ishl hx hb dX12_allBuilders_8 ?_
  refine lv_topi (fun t3 et3 => ?_)
  have b4 : kb 1 t3 64 := kb_eq et3 (kb_shl (l := 0) (h := 6) b2 (by decide))
  refine lv_iconst (v := 1) hx hb dX12_allBuilders_9 (by decide) ?_
  refine lv_isub hx hb dX12_allBuilders_10 ?_
  refine lv_topi (fun t5 et5 => ?_)
  have b6 : kb 0 t5 63 := kb_eq et5 (kb_sub b4 kc_1 (by decide) (by decide))
  have qt5 : t5.toInt = t3.toInt - 1 := by rw [et5]; exact kt_subc b4 kc_1 (by decide) (by decide)
  exact kI_ret (v := t5) hx hb hr hlocks rfl hK hS dX12_allBuilders_11 () hP hD b6
set_option maxHeartbeats 4000000 in
set_option maxRecDepth 100000 in
theorem m_isReady  (l : Launch) {D : va_G} {K : Nat → ClassId} (o : Nat) (r : Nat → Nat) (f : Nat → Int32) (a : Nat → Nat → Int32) (g : Nat → Int64) (hI : mI f a) (pt : Int32) (bpt : kb 0 pt 9)   : kI l yX12_isReady (Cond.code yX12_isReady cX12_isReady 2 (some .boolean) :: kG) (rmD 3 0 0) D (tysK K) [.ref o, .int pt] (mW K o r f a g) (fun v (_ : Unit) => kb 0 v 1) (fun _ => mW K o r f a g) 0 0 := by
  refine kI.of (cc := cX12_isReady) (maxL := 2) (ret := (some .boolean)) (by decide) rfl (Nat.le_of_ble_eq_true rfl) ?_
  intro p e s m below meth c A hx hb hr hml hown hts hlocks hnm hK hP hD hS hA ls hl
  have hg : ∀ w ∈ kG, w.before _ s = true := fun w h => hts w (List.mem_cons_of_mem _ h)
  have hown : s.vm.findClass RX12 = some m.cls := hown
  have hl : lv_has ls 2 [(0, .ref o), (1, .int pt)] := hl
  refine lv_aload_n hx hb dX12_isReady_0 rfl (lv_at hl 0 rfl) ?_
  refine lv_iload_n hx hb dX12_isReady_1 rfl (lv_at hl 1 rfl) ?_
  refine kI.callV (As := [.int pt]) (rest := []) ⟨hx, hb, hml, hown, hg⟩ (m_stands0 l o r f a g hI pt (kb_w bpt (by decide) (by decide)) ) (cwV 1 hg (kgV wt6_112 wt6_114 wp3_12 wt1_14 wt6_115) rfl rfl rfl (by decide +kernel) ⟨by decide, by decide⟩) hK hP hD hS hA mIs [] rfl (wr := []) rfl rfl rfl (fun i h => by cases h) 0 12 rfl rfl rfl hl.1 rfl (Nat.le_of_ble_eq_true rfl) dX12_isReady_2 ⟨Nat.le_refl _, Nat.le_refl _⟩ (fun v2 u3 H locs hw1 hP hD hS => ?_)
  have hP : va_P D vwCl (mW K o r f a g) H := hP
  have hD : va_D A (mW K o r f a g) := hD
  refine lv_if_ne (tgt := 31) hx hb dX12_isReady_5 (by decide) (fun c4 => ?_) (fun c4 => ?_)
  · have b5 : kb 1 v2 1 := kr_nel c4 hw1 kc_0 (by decide)
    refine lv_iconst (v := 0) hx hb dX12_isReady_31 (by decide) ?_
    exact kI_ret (v := 0) hx hb hr hlocks (by decide +kernel) hK hS dX12_isReady_32 () hP hD (kb_w kc_0 (by decide) (by decide))
  · have b6 : kb 0 v2 0 := kb_eq c4 kc_0
    refine lv_aload_n hx hb dX12_isReady_8 rfl (lv_at hl 0 rfl) ?_
    refine va_get (D := D) (ci := 12) (v := .ref (r 2)) (C := RX12) (T := TX12) (N := 48) hx hb hg inC12 hown hK hP 0 rfl rfl 2 (by decide) (hg _ wt5_162) (fun _ h9 => h9) rfl dX12_isReady_9 ?_
    refine lv_bipush (v := 33) hx hb dX12_isReady_12 (by decide) ?_
    refine lv_iload_n hx hb dX12_isReady_14 rfl (lv_at hl 1 rfl) ?_
    refine lv_iadd hx hb dX12_isReady_15 ?_
    refine lv_topi (fun t7 et7 => ?_)
    have b8 : kb 33 t7 42 := kb_eq et7 (kb_add kc_33 bpt (by decide) (by decide))
    have qt7 : t7.toInt = 33 + pt.toInt := by rw [et7]; exact kt_cadd kc_33 bpt (by decide) (by decide)
    refine va_iald hx hb hK hP 2 0 rfl rfl (kb_in b8 (by decide) (by decide)) dX12_isReady_16 ?_
    refine lv_topi (fun t9 et9 => ?_)
    refine lv_aload_n hx hb dX12_isReady_17 rfl (lv_at hl 0 rfl) ?_
    refine kI.callV (As := []) (rest := [.int t9]) ⟨hx, hb, hml, hown, hg⟩ (m_standing l o r f a g hI   ) (cwV 0 hg (kgV wt6_116 wt6_118 wp3_13 wt1_14 wt6_119) rfl rfl rfl (by decide +kernel) ⟨by decide, by decide⟩) hK hP hD hS hA mIs [] rfl (wr := []) rfl rfl rfl (fun i h => by cases h) 0 12 rfl rfl rfl hl.1 rfl (Nat.le_of_ble_eq_true rfl) dX12_isReady_18 ⟨Nat.le_refl _, Nat.le_refl _⟩ (fun v11 u12 H locs hw10 hP hD hS => ?_)
    have hP : va_P D vwCl (mW K o r f a g) H := hP
    have hD : va_D A (mW K o r f a g) := hD
    refine lv_iconst (v := (-1)) hx hb dX12_isReady_21 (by decide) ?_
    refine lv_ixor hx hb dX12_isReady_22 ?_
    refine lv_topi (fun t13 et13 => ?_)
    refine lv_iand hx hb dX12_isReady_23 ?_
    refine lv_topi (fun t14 et14 => ?_)
    refine lv_if_ne (tgt := 31) hx hb dX12_isReady_24 (by decide) (fun c15 => ?_) (fun c15 => ?_)
    · refine lv_iconst (v := 0) hx hb dX12_isReady_31 (by decide) ?_
      exact kI_ret (v := 0) hx hb hr hlocks (by decide +kernel) hK hS dX12_isReady_32 () hP hD (kb_w kc_0 (by decide) (by decide))
    · have b16 : kb 0 t14 0 := kb_eq c15 kc_0
      refine lv_iconst (v := 1) hx hb dX12_isReady_27 (by decide) ?_
      refine lv_goto (tgt := 32) hx hb dX12_isReady_28 (by decide) ?_
      exact kI_ret (v := 1) hx hb hr hlocks (by decide +kernel) hK hS dX12_isReady_32 () hP hD (kb_w kc_1 (by decide) (by decide))
set_option maxHeartbeats 4000000 in
set_option maxRecDepth 100000 in
theorem m_canPart  (l : Launch) {D : va_G} {K : Nat → ClassId} (o : Nat) (r : Nat → Nat) (f : Nat → Int32) (a : Nat → Nat → Int32) (g : Nat → Int64) (hI : mI f a) (x : Int32) (y : Int32) (z : Int32) (t : Int32)    : kI l yX12_canPart (Cond.code yX12_canPart cX12_canPart 5 (some .boolean) :: kG) (rmD 2 0 0) D (tysK K) [.ref o, .int x, .int y, .int z, .int t] (mW K o r f a g) (fun v (_ : Unit) => kb 0 v 1 ∧ (¬ v = 0 → 1 ≤ x.toInt ∧ x.toInt ≤ 99) ∧ (¬ v = 0 → okPm x y z t (a 2 102)) ∧ (v = 0 → ¬ okPm x y z t (a 2 102))) (fun _ => mW K o r f a g) 0 0 := by
  refine kI.of (cc := cX12_canPart) (maxL := 5) (ret := (some .boolean)) (by decide) rfl (Nat.le_of_ble_eq_true rfl) ?_
  intro p e s m below meth c A hx hb hr hml hown hts hlocks hnm hK hP hD hS hA ls hl
  have hg : ∀ w ∈ kG, w.before _ s = true := fun w h => hts w (List.mem_cons_of_mem _ h)
  have hown : s.vm.findClass RX12 = some m.cls := hown
  have hl : lv_has ls 5 [(0, .ref o), (1, .int x), (2, .int y), (3, .int z), (4, .int t)] := hl
  obtain ⟨c2_102, ec2_102⟩ : ∃ z : Int32, z = a 2 102 := ⟨_, rfl⟩
  have b1 : kb 0 c2_102 10 := kb_eq ec2_102 (aI_at hI.2.1 2 102 (by decide) (by decide))
  refine lv_iload_n hx hb dX12_canPart_0 rfl (lv_at hl 1 rfl) ?_
  refine lv_iconst (v := 1) hx hb dX12_canPart_1 (by decide) ?_
  refine lv_bipush (v := 99) hx hb dX12_canPart_2 (by decide) ?_
  refine kN.callS (As := [.int x, .int 1, .int 99]) (rest := []) ⟨hx, hb, hml, hown, hg⟩ (m_lies l x 1 99 ) (va_cwS 3 hg (kgS wt6_69 wt6_70 wt1_14 wt6_71) rfl rfl rfl (by decide +kernel) ⟨by decide, by decide⟩) hP hS rfl hl.1 rfl (Nat.le_of_ble_eq_true rfl) dX12_canPart_4 ⟨Nat.le_refl _, Nat.le_refl _⟩ (fun v3 H locs hw2 hP hS => ?_)
  refine lv_if_eq (tgt := 53) hx hb dX12_canPart_7 (by decide) (fun c5 => ?_) (fun c5 => ?_)
  · have b6 : kb 0 v3 0 := kb_eq c5 kc_0
    refine lv_iconst (v := 0) hx hb dX12_canPart_53 (by decide) ?_
    exact kI_ret (v := 0) hx hb hr hlocks (by decide +kernel) hK hS dX12_canPart_54 () hP hD ⟨(kb_w kc_0 (by decide) (by decide)), (fun q => absurd rfl q), (fun q => absurd rfl q), (fun _ q => mLies_z (hw2.2.symm.trans c5) (by decide +kernel) (by decide +kernel) q.1)⟩
  · have b7 : kb 1 v3 1 := kr_nel c5 hw2.1 kc_0 (by decide)
    have h8 := mLies_ne (hw2.2 ▸ c5)
    have b9 : kb 1 x 2147483647 := kr_le2 h8.1 kc_1 (kb_any x)
    have b10 : kb 1 x 99 := kr_le1 h8.2 b9 kc_99
    refine lv_iload_n hx hb dX12_canPart_10 rfl (lv_at hl 2 rfl) ?_
    refine lv_iconst (v := 0) hx hb dX12_canPart_11 (by decide) ?_
    refine lv_iconst (v := 1) hx hb dX12_canPart_12 (by decide) ?_
    refine lv_aload_n hx hb dX12_canPart_13 rfl (lv_at hl 0 rfl) ?_
    refine va_get (D := D) (ci := 12) (v := .ref (r 2)) (C := RX12) (T := TX12) (N := 48) hx hb hg inC12 hown hK hP 0 rfl rfl 2 (by decide) (hg _ wt5_162) (fun _ h9 => h9) rfl dX12_canPart_14 ?_
    refine lv_bipush (v := 102) hx hb dX12_canPart_17 (by decide) ?_
    refine va_iald hx hb hK hP 2 0 rfl rfl (kb_in kc_102 (by decide) (by decide)) dX12_canPart_19 ?_
    refine k_top (z := c2_102) (by rw [cl_102]; exact ec2_102.symm) ?_
    refine lv_ishl hx hb dX12_canPart_20 ?_
    refine lv_topi (fun t11 et11 => ?_)
    have b12 : kb 1 t11 1024 := kb_eq et11 (kb_shl (l := 0) (h := 10) b1 (by decide))
    refine lv_iconst (v := 1) hx hb dX12_canPart_21 (by decide) ?_
    refine lv_isub hx hb dX12_canPart_22 ?_
    refine lv_topi (fun t13 et13 => ?_)
    have b14 : kb 0 t13 1023 := kb_eq et13 (kb_sub b12 kc_1 (by decide) (by decide))
    have qt13 : t13.toInt = t11.toInt - 1 := by rw [et13]; exact kt_subc b12 kc_1 (by decide) (by decide)
    refine kN.callS (As := [.int y, .int 0, .int t13]) (rest := []) ⟨hx, hb, hml, hown, hg⟩ (m_lies l y 0 t13 ) (va_cwS 3 hg (kgS wt6_69 wt6_70 wt1_14 wt6_71) rfl rfl rfl (by decide +kernel) ⟨by decide, by decide⟩) hP hS rfl hl.1 rfl (Nat.le_of_ble_eq_true rfl) dX12_canPart_23 ⟨Nat.le_refl _, Nat.le_refl _⟩ (fun v16 H locs hw15 hP hS => ?_)
    refine lv_if_eq (tgt := 53) hx hb dX12_canPart_26 (by decide) (fun c18 => ?_) (fun c18 => ?_)
    · have b19 : kb 0 v16 0 := kb_eq c18 kc_0
      refine lv_iconst (v := 0) hx hb dX12_canPart_53 (by decide) ?_
      exact kI_ret (v := 0) hx hb hr hlocks (by decide +kernel) hK hS dX12_canPart_54 () hP hD ⟨(kb_w kc_0 (by decide) (by decide)), (fun q => absurd rfl q), (fun q => absurd rfl q), (fun _ q => mLies_z (hw15.2.symm.trans c18) (by decide +kernel) (by rw [et13, et11, ec2_102]) q.2.1)⟩
    · have b20 : kb 1 v16 1 := kr_nel c18 hw15.1 kc_0 (by decide)
      have h21 := mLies_ne (hw15.2 ▸ c18)
      have b22 : kb 0 y 2147483647 := kr_le2 h21.1 kc_0 (kb_any y)
      have b23 : kb 0 y 1023 := kr_le1 h21.2 b22 b14
      refine lv_iload_n hx hb dX12_canPart_29 rfl (lv_at hl 3 rfl) ?_
      refine lv_iconst (v := 0) hx hb dX12_canPart_30 (by decide) ?_
      refine lv_iconst (v := 3) hx hb dX12_canPart_31 (by decide) ?_
      refine kN.callS (As := [.int z, .int 0, .int 3]) (rest := []) ⟨hx, hb, hml, hown, hg⟩ (m_lies l z 0 3 ) (va_cwS 3 hg (kgS wt6_69 wt6_70 wt1_14 wt6_71) rfl rfl rfl (by decide +kernel) ⟨by decide, by decide⟩) hP hS rfl hl.1 rfl (Nat.le_of_ble_eq_true rfl) dX12_canPart_32 ⟨Nat.le_refl _, Nat.le_refl _⟩ (fun v25 H locs hw24 hP hS => ?_)
      refine lv_if_eq (tgt := 53) hx hb dX12_canPart_35 (by decide) (fun c27 => ?_) (fun c27 => ?_)
      · have b28 : kb 0 v25 0 := kb_eq c27 kc_0
        refine lv_iconst (v := 0) hx hb dX12_canPart_53 (by decide) ?_
        exact kI_ret (v := 0) hx hb hr hlocks (by decide +kernel) hK hS dX12_canPart_54 () hP hD ⟨(kb_w kc_0 (by decide) (by decide)), (fun q => absurd rfl q), (fun q => absurd rfl q), (fun _ q => mLies_z (hw24.2.symm.trans c27) (by decide +kernel) (by decide +kernel) q.2.2.1)⟩
      · have b29 : kb 1 v25 1 := kr_nel c27 hw24.1 kc_0 (by decide)
        have h30 := mLies_ne (hw24.2 ▸ c27)
        have b31 : kb 0 z 2147483647 := kr_le2 h30.1 kc_0 (kb_any z)
        have b32 : kb 0 z 3 := kr_le1 h30.2 b31 kc_3
        refine lv_iload hx hb dX12_canPart_38 (lv_at hl 4 rfl) ?_
        refine lv_iconst (v := 0) hx hb dX12_canPart_40 (by decide) ?_
        refine lv_bipush (v := 9) hx hb dX12_canPart_41 (by decide) ?_
        refine kN.callS (As := [.int t, .int 0, .int 9]) (rest := []) ⟨hx, hb, hml, hown, hg⟩ (m_lies l t 0 9 ) (va_cwS 3 hg (kgS wt6_69 wt6_70 wt1_14 wt6_71) rfl rfl rfl (by decide +kernel) ⟨by decide, by decide⟩) hP hS rfl hl.1 rfl (Nat.le_of_ble_eq_true rfl) dX12_canPart_43 ⟨Nat.le_refl _, Nat.le_refl _⟩ (fun v34 H locs hw33 hP hS => ?_)
        refine lv_if_eq (tgt := 53) hx hb dX12_canPart_46 (by decide) (fun c36 => ?_) (fun c36 => ?_)
        · have b37 : kb 0 v34 0 := kb_eq c36 kc_0
          refine lv_iconst (v := 0) hx hb dX12_canPart_53 (by decide) ?_
          exact kI_ret (v := 0) hx hb hr hlocks (by decide +kernel) hK hS dX12_canPart_54 () hP hD ⟨(kb_w kc_0 (by decide) (by decide)), (fun q => absurd rfl q), (fun q => absurd rfl q), (fun _ q => mLies_z (hw33.2.symm.trans c36) (by decide +kernel) (by decide +kernel) q.2.2.2)⟩
        · have b38 : kb 1 v34 1 := kr_nel c36 hw33.1 kc_0 (by decide)
          have h39 := mLies_ne (hw33.2 ▸ c36)
          have b40 : kb 0 t 2147483647 := kr_le2 h39.1 kc_0 (kb_any t)
          have b41 : kb 0 t 9 := kr_le1 h39.2 b40 kc_9
          refine lv_iconst (v := 1) hx hb dX12_canPart_49 (by decide) ?_
          refine lv_goto (tgt := 54) hx hb dX12_canPart_50 (by decide) ?_
          exact kI_ret (v := 1) hx hb hr hlocks (by decide +kernel) hK hS dX12_canPart_54 () hP hD ⟨(kb_w kc_1 (by decide) (by decide)), (fun q => b10), (fun _ => ⟨b10, ⟨(by have q1 := (mLies_ne (hw15.2 ▸ c18)).1; have z0 : (0 : Int32).toInt = 0 := (by decide +kernel); omega), (by rw [← ec2_102, ← et11, ← et13]; exact (mLies_ne (hw15.2 ▸ c18)).2)⟩, b32, b41⟩), (fun q => absurd q (by decide +kernel))⟩
set_option maxHeartbeats 4000000 in
set_option maxRecDepth 100000 in
theorem m_hasCraft  (l : Launch) {D : va_G} {K : Nat → ClassId} (o : Nat) (r : Nat → Nat) (f : Nat → Int32) (a : Nat → Nat → Int32) (g : Nat → Int64) (hI : mI f a) (bd : Int32) (pt : Int32) (bbd : kb 0 bd 5) (bpt : kb 0 pt 9)   : kI l yX12_hasCraft (Cond.code yX12_hasCraft cX12_hasCraft 3 (some .boolean) :: kG) (rmD 2 0 0) D (tysK K) [.ref o, .int bd, .int pt] (mW K o r f a g) (fun v (_ : Unit) => kb 0 v 1) (fun _ => mW K o r f a g) 0 0 := by
  refine kI.of (cc := cX12_hasCraft) (maxL := 3) (ret := (some .boolean)) (by decide) rfl (Nat.le_of_ble_eq_true rfl) ?_
  intro p e s m below meth c A hx hb hr hml hown hts hlocks hnm hK hP hD hS hA ls hl
  have hg : ∀ w ∈ kG, w.before _ s = true := fun w h => hts w (List.mem_cons_of_mem _ h)
  have hown : s.vm.findClass RX12 = some m.cls := hown
  have hl : lv_has ls 3 [(0, .ref o), (1, .int bd), (2, .int pt)] := hl
  refine lv_aload_n hx hb dX12_hasCraft_0 rfl (lv_at hl 0 rfl) ?_
  refine va_get (D := D) (ci := 12) (v := .ref (r 2)) (C := RX12) (T := TX12) (N := 48) hx hb hg inC12 hown hK hP 0 rfl rfl 2 (by decide) (hg _ wt5_162) (fun _ h9 => h9) rfl dX12_hasCraft_1 ?_
  refine lv_bipush (v := 63) hx hb dX12_hasCraft_4 (by decide) ?_
  refine lv_iload_n hx hb dX12_hasCraft_6 rfl (lv_at hl 1 rfl) ?_
  refine lv_iadd hx hb dX12_hasCraft_7 ?_
  refine lv_topi (fun t1 et1 => ?_)
  have b2 : kb 63 t1 68 := kb_eq et1 (kb_add kc_63 bbd (by decide) (by decide))
  have qt1 : t1.toInt = 63 + bd.toInt := by rw [et1]; exact kt_cadd kc_63 bbd (by decide) (by decide)
  refine va_iald hx hb hK hP 2 0 rfl rfl (kb_in b2 (by decide) (by decide)) dX12_hasCraft_8 ?_
  refine lv_topi (fun t3 et3 => ?_)
  refine lv_aload_n hx hb dX12_hasCraft_9 rfl (lv_at hl 0 rfl) ?_
  refine va_get (D := D) (ci := 12) (v := .ref (r 2)) (C := RX12) (T := TX12) (N := 48) hx hb hg inC12 hown hK hP 0 rfl rfl 2 (by decide) (hg _ wt5_162) (fun _ h9 => h9) rfl dX12_hasCraft_10 ?_
  refine lv_bipush (v := 43) hx hb dX12_hasCraft_13 (by decide) ?_
  refine lv_iload_n hx hb dX12_hasCraft_15 rfl (lv_at hl 2 rfl) ?_
  refine lv_iadd hx hb dX12_hasCraft_16 ?_
  refine lv_topi (fun t4 et4 => ?_)
  have b5 : kb 43 t4 52 := kb_eq et4 (kb_add kc_43 bpt (by decide) (by decide))
  have qt4 : t4.toInt = 43 + pt.toInt := by rw [et4]; exact kt_cadd kc_43 bpt (by decide) (by decide)
  refine va_iald hx hb hK hP 2 0 rfl rfl (kb_in b5 (by decide) (by decide)) dX12_hasCraft_17 ?_
  refine lv_topi (fun t6 et6 => ?_)
  refine kN.callS (As := [.int t3, .int t6]) (rest := []) ⟨hx, hb, hml, hown, hg⟩ (m_isIn l t3 t6 ) (va_cwS 2 hg (kgS wt6_124 wt6_125 wt1_14 wt6_126) rfl rfl rfl (by decide +kernel) ⟨by decide, by decide⟩) hP hS rfl hl.1 rfl (Nat.le_of_ble_eq_true rfl) dX12_hasCraft_18 ⟨Nat.le_refl _, Nat.le_refl _⟩ (fun v8 H locs hw7 hP hS => ?_)
  exact kI_ret (v := v8) hx hb hr hlocks (kb_bo hw7) hK hS dX12_hasCraft_21 () hP hD hw7
set_option maxHeartbeats 4000000 in
set_option maxRecDepth 100000 in
theorem m_chaff  (l : Launch) {D : va_G} {K : Nat → ClassId} (o : Nat) (r : Nat → Nat) (f : Nat → Int32) (a : Nat → Nat → Int32) (g : Nat → Int64) (hI : mI f a)     : kI l yX12_chaff (Cond.code yX12_chaff cX12_chaff 1 (some .int) :: kG) (rmD 1 0 0) D (tysK K) [.ref o] (mW K o r f a g) (fun v (_ : Unit) => kb (-2147483648) v 2147483647 ∧ v = f 6) (fun _ => mW K o r f a g) 0 0 := by
  refine kI.of (cc := cX12_chaff) (maxL := 1) (ret := (some .int)) (by decide) rfl (Nat.le_of_ble_eq_true rfl) ?_
  intro p e s m below meth c A hx hb hr hml hown hts hlocks hnm hK hP hD hS hA ls hl
  have hg : ∀ w ∈ kG, w.before _ s = true := fun w h => hts w (List.mem_cons_of_mem _ h)
  have hown : s.vm.findClass RX12 = some m.cls := hown
  have hl : lv_has ls 1 [(0, .ref o)] := hl
  refine lv_aload_n hx hb dX12_chaff_0 rfl (lv_at hl 0 rfl) ?_
  refine va_get (D := D) (ci := 12) (v := .int (f 6)) (C := RX12) (T := TX12) (N := 48) hx hb hg inC12 hown hK hP 0 rfl rfl 6 (by decide) (hg _ wt5_166) (fun _ h9 => h9) rfl dX12_chaff_1 ?_
  refine lv_topi (fun t1 et1 => ?_)
  exact kI_ret (v := t1) hx hb hr hlocks rfl hK hS dX12_chaff_4 () hP hD ⟨(kb_any t1), et1⟩
set_option maxHeartbeats 4000000 in
set_option maxRecDepth 100000 in
theorem m_fault  (l : Launch) {D : va_G} {K : Nat → ClassId} (o : Nat) (r : Nat → Nat) (f : Nat → Int32) (a : Nat → Nat → Int32) (g : Nat → Int64) (hI : mI f a)     : kI l yX12_fault (Cond.code yX12_fault cX12_fault 1 (some .int) :: kG) (rmD 1 0 0) D (tysK K) [.ref o] (mW K o r f a g) (fun v (_ : Unit) => kb (-2147483648) v 2147483647 ∧ v = f 14) (fun _ => mW K o r f a g) 0 0 := by
  refine kI.of (cc := cX12_fault) (maxL := 1) (ret := (some .int)) (by decide) rfl (Nat.le_of_ble_eq_true rfl) ?_
  intro p e s m below meth c A hx hb hr hml hown hts hlocks hnm hK hP hD hS hA ls hl
  have hg : ∀ w ∈ kG, w.before _ s = true := fun w h => hts w (List.mem_cons_of_mem _ h)
  have hown : s.vm.findClass RX12 = some m.cls := hown
  have hl : lv_has ls 1 [(0, .ref o)] := hl
  refine lv_aload_n hx hb dX12_fault_0 rfl (lv_at hl 0 rfl) ?_
  refine va_get (D := D) (ci := 12) (v := .int (f 14)) (C := RX12) (T := TX12) (N := 48) hx hb hg inC12 hown hK hP 0 rfl rfl 14 (by decide) (hg _ wt5_174) (fun _ h9 => h9) rfl dX12_fault_1 ?_
  refine lv_topi (fun t1 et1 => ?_)
  exact kI_ret (v := t1) hx hb hr hlocks rfl hK hS dX12_fault_4 () hP hD ⟨(kb_any t1), et1⟩
set_option maxHeartbeats 4000000 in
set_option maxRecDepth 100000 in
theorem m_sign (l : Launch) (x : Int32) (bx : kb 0 x 127)  : kN l yX12_sign (Cond.code yX12_sign cX12_sign 1 (some .int) :: kG) (rmD 1 0 0) [.int x] (fun v => kb 100 v 227 ∧ v.toInt = 100 + x.toInt) := by
  refine kN.of (cc := cX12_sign) (maxL := 1) (ret := (some .int)) (by decide) rfl (Nat.le_of_ble_eq_true rfl) ?_
  intro p e s m below meth c hx hb hr hml hown hts hlocks hS ls hl
  have hg : ∀ w ∈ kG, w.before _ s = true := fun w h => hts w (List.mem_cons_of_mem _ h)
  have hown : s.vm.findClass RX12 = some m.cls := hown
  have hl : lv_has ls 1 [(0, .int x)] := hl
  refine lv_bipush (v := 100) hx hb dX12_sign_0 (by decide) ?_
  refine lv_iload_n hx hb dX12_sign_2 rfl (lv_at hl 0 rfl) ?_
  refine lv_iadd hx hb dX12_sign_3 ?_
  refine lv_topi (fun t1 et1 => ?_)
  have b2 : kb 100 t1 227 := kb_eq et1 (kb_add kc_100 bx (by decide) (by decide))
  have qt1 : t1.toInt = 100 + x.toInt := by rw [et1]; exact kt_cadd kc_100 bx (by decide) (by decide)
  exact kN_ret (v := t1) hx hb hr hlocks rfl hS dX12_sign_4 (⟨b2, qt1⟩)
set_option maxHeartbeats 4000000 in
set_option maxRecDepth 100000 in
theorem m_others  (l : Launch) {D : va_G} {K : Nat → ClassId} (o : Nat) (r : Nat → Nat) (f : Nat → Int32) (a : Nat → Nat → Int32) (g : Nat → Int64) (hI : mI f a) (bd : Int32) (pt : Int32) (bbd : kb (-1) bd 5)   : kI l yX12_others (Cond.code yX12_others cX12_others 5 (some .int) :: kG) (rmD 1 0 0) D (tysK K) [.ref o, .int bd, .int pt] (mW K o r f a g) (fun v (_ : Unit) => kb (-2147483648) v 2147483647) (fun _ => mW K o r f a g) 0 0 := by
  refine kI.of (cc := cX12_others) (maxL := 5) (ret := (some .int)) (by decide) rfl (Nat.le_of_ble_eq_true rfl) ?_
  intro p e s m below meth c A hx hb hr hml hown hts hlocks hnm hK hP hD hS hA ls hl
  have hg : ∀ w ∈ kG, w.before _ s = true := fun w h => hts w (List.mem_cons_of_mem _ h)
  have hown : s.vm.findClass RX12 = some m.cls := hown
  have hl : lv_has ls 5 [(0, .ref o), (1, .int bd), (2, .int pt)] := hl
  refine lv_iconst (v := 0) hx hb dX12_others_0 (by decide) ?_
  refine lv_istore_n (lv' := [(3, .int 0), (0, .ref o), (1, .int bd), (2, .int pt)]) hx hb dX12_others_1 rfl hl (by decide) rfl (fun ls hl => ?_)
  refine lv_iconst (v := 0) hx hb dX12_others_2 (by decide) ?_
  refine lv_istore (lv' := [(4, .int 0), (3, .int 0), (0, .ref o), (1, .int bd), (2, .int pt)]) hx hb dX12_others_3 hl (by decide) rfl (fun ls hl => ?_)
  have lp3 : ∀ (n4 : Nat) (H : Heap) (locs : List Loc) (ls : Array Slot) (y1 : Int32) (y2 : Int32), (6 < y1.toInt + (n4 : Int)) → (kb 0 y1 6) → va_P D vwCl (mW K o r f a g) H → va_D A (mW K o r f a g) → va_S A s.heap H locs → lv_has ls 5 [(4, .int y1), (3, .int y2), (0, .ref o), (1, .int bd), (2, .int pt)] → W p l e (rmD 1 0 0) s m ([.ref o, .int bd, .int pt] : List Value).toArray below meth c H locs 0 0 (kQi D (tysK K) (fun v (_ : Unit) => kb (-2147483648) v 2147483647) (fun _ => mW K o r f a g) A below ([.ref o, .int bd, .int pt] : List Value).toArray s 0 0) (F0 m 5 ls []) := by
    intro n4
    induction n4 with
    | zero =>
      intro   H locs ls y1 y2 hmlp3 b5 hP hD hS hl
      exact (by have h1 := b5.2; have h2 := hmlp3; omega : False).elim
    | succ n4 ihlp3 =>
      intro   H locs ls y1 y2 hmlp3 b5 hP hD hS hl
      refine lv_iload hx hb dX12_others_5 (lv_at hl 0 rfl) ?_
      refine lv_aload_n hx hb dX12_others_7 rfl (lv_at hl 2 rfl) ?_
      refine va_get (D := D) (ci := 12) (v := .ref (r 2)) (C := RX12) (T := TX12) (N := 48) hx hb hg inC12 hown hK hP 0 rfl rfl 2 (by decide) (hg _ wt5_162) (fun _ h9 => h9) rfl dX12_others_8 ?_
      refine lv_bipush (v := 103) hx hb dX12_others_11 (by decide) ?_
      refine va_iald hx hb hK hP 2 0 rfl rfl (kb_in kc_103 (by decide) (by decide)) dX12_others_13 ?_
      refine lv_topi (fun t6 et6 => ?_)
      rw [cl_103] at et6
      have b7 : kb 0 t6 6 := kb_eq et6 (aI_at hI.2.1 2 103 (by decide) (by decide))
      refine lv_icmp_ge (tgt := 51) hx hb dX12_others_14 (by decide) (fun c8 => ?_) (fun c8 => ?_)
      · have h9 := (kc_le c8)
        refine lv_iload_n hx hb dX12_others_51 rfl (lv_at hl 1 rfl) ?_
        exact kI_ret (v := y2) hx hb hr hlocks rfl hK hS dX12_others_52 () hP hD (kb_any y2)
      · have h10 := (kc_nle c8)
        have b11 : kb 0 y1 5 := kr_lt1 h10 b5 b7 (by decide)
        have b12 : kb 1 t6 6 := kr_lt2 h10 b5 b7 (by decide)
        refine lv_iload_n hx hb dX12_others_17 rfl (lv_at hl 1 rfl) ?_
        refine lv_iload hx hb dX12_others_18 (lv_at hl 0 rfl) ?_
        refine lv_iload_n hx hb dX12_others_20 rfl (lv_at hl 3 rfl) ?_
        have jn24 : ∀ (H : Heap) (locs : List Loc) (ls : Array Slot), va_P D vwCl (mW K o r f a g) H → va_D A (mW K o r f a g) → va_S A s.heap H locs → lv_has ls 5 [(4, .int y1), (3, .int y2), (0, .ref o), (1, .int bd), (2, .int pt)] → W p l e (rmD 1 0 0) s m ([.ref o, .int bd, .int pt] : List Value).toArray below meth c H locs 0 0 (kQi D (tysK K) (fun v (_ : Unit) => kb (-2147483648) v 2147483647) (fun _ => mW K o r f a g) A below ([.ref o, .int bd, .int pt] : List Value).toArray s 0 0) (F0 m 42 ls [.int y2]) := by
          intro  H locs ls   hP hD hS hl
          refine lv_iconst (v := 0) hx hb dX12_others_42 (by decide) ?_
          refine lv_iadd hx hb dX12_others_43 ?_
          refine lv_topi (fun t25 et25 => ?_)
          have qt25 : t25.toInt = y2.toInt + 0 := by rw [et25]; exact kt_addc (kb_any y2) kc_0 (by decide) (by decide)
          refine lv_istore_n (lv' := [(3, .int t25), (4, .int y1), (0, .ref o), (1, .int bd), (2, .int pt)]) hx hb dX12_others_44 rfl hl (by decide) rfl (fun ls hl => ?_)
          obtain ⟨t26, et26⟩ : ∃ z : Int32, z = y1 + Int32.ofInt 1 := ⟨_, rfl⟩
          have qt26 : t26.toInt = y1.toInt + 1 := by rw [et26]; exact km_inc b11 (by decide) (by decide)
          have b27 : kb 1 t26 6 := kb_inc (k := 1) qt26 b11
          refine lv_iinc (v := t26) (lv' := [(4, .int t26), (3, .int t25), (0, .ref o), (1, .int bd), (2, .int pt)]) hx hb dX12_others_45 hl (k := 1) rfl et26.symm (by decide) rfl (fun ls hl => ?_)
          refine lv_goto (tgt := 5) hx hb dX12_others_48 (by decide) ?_
          exact ihlp3  _ _ _ t26 t25 (km_up hmlp3 qt26) (kb_w b27 (by decide) (by decide)) hP hD hS (lv_sub hl [0, 1, 2, 3, 4] rfl)
        refine lv_icmp_eq (tgt := 42) hx hb dX12_others_21 (by decide) (fun c28 => ?_) (fun c28 => ?_)
        · have b29 : kb 0 bd 5 := kb_eq c28.symm b11
          exact jn24 _ _ _   hP hD hS (lv_sub hl [0, 1, 2, 3, 4] rfl)
        · refine lv_aload_n hx hb dX12_others_24 rfl (lv_at hl 2 rfl) ?_
          refine va_get (D := D) (ci := 12) (v := .ref (r 2)) (C := RX12) (T := TX12) (N := 48) hx hb hg inC12 hown hK hP 0 rfl rfl 2 (by decide) (hg _ wt5_162) (fun _ h9 => h9) rfl dX12_others_25 ?_
          refine lv_bipush (v := 16) hx hb dX12_others_28 (by decide) ?_
          refine lv_iload hx hb dX12_others_30 (lv_at hl 0 rfl) ?_
          refine lv_iadd hx hb dX12_others_32 ?_
          refine lv_topi (fun t30 et30 => ?_)
          have b31 : kb 16 t30 21 := kb_eq et30 (kb_add kc_16 b11 (by decide) (by decide))
          have qt30 : t30.toInt = 16 + y1.toInt := by rw [et30]; exact kt_cadd kc_16 b11 (by decide) (by decide)
          refine va_iald hx hb hK hP 2 0 rfl rfl (kb_in b31 (by decide) (by decide)) dX12_others_33 ?_
          refine lv_topi (fun t32 et32 => ?_)
          have b33 : kb (-1) t32 9 := kb_eq et32 (aI_ld hI.2.1 2 16 6 b31 (by decide) (by decide) (by decide +kernel))
          refine lv_iload_n hx hb dX12_others_34 rfl (lv_at hl 4 rfl) ?_
          refine lv_icmp_ne (tgt := 42) hx hb dX12_others_35 (by decide) (fun c35 => ?_) (fun c35 => ?_)
          · exact jn24 _ _ _   hP hD hS (lv_sub hl [0, 1, 2, 3, 4] rfl)
          · have b36 : kb (-1) pt 9 := kb_eq c35.symm b33
            refine lv_iconst (v := 1) hx hb dX12_others_38 (by decide) ?_
            refine lv_goto (tgt := 43) hx hb dX12_others_39 (by decide) ?_
            refine lv_iadd hx hb dX12_others_43 ?_
            refine lv_topi (fun t37 et37 => ?_)
            refine lv_istore_n (lv' := [(3, .int t37), (4, .int y1), (0, .ref o), (1, .int bd), (2, .int pt)]) hx hb dX12_others_44 rfl hl (by decide) rfl (fun ls hl => ?_)
            obtain ⟨t38, et38⟩ : ∃ z : Int32, z = y1 + Int32.ofInt 1 := ⟨_, rfl⟩
            have qt38 : t38.toInt = y1.toInt + 1 := by rw [et38]; exact km_inc b11 (by decide) (by decide)
            have b39 : kb 1 t38 6 := kb_inc (k := 1) qt38 b11
            refine lv_iinc (v := t38) (lv' := [(4, .int t38), (3, .int t37), (0, .ref o), (1, .int bd), (2, .int pt)]) hx hb dX12_others_45 hl (k := 1) rfl et38.symm (by decide) rfl (fun ls hl => ?_)
            refine lv_goto (tgt := 5) hx hb dX12_others_48 (by decide) ?_
            exact ihlp3  _ _ _ t38 t37 (km_up hmlp3 qt38) (kb_w b39 (by decide) (by decide)) hP hD hS (lv_sub hl [0, 1, 2, 3, 4] rfl)
  exact lp3 (7)  _ _ _ 0 0 (by have h1 := (kc_0); unfold kb at h1; omega) (kb_w kc_0 (by decide) (by decide)) hP hD hS (lv_sub hl [0, 1, 2, 3, 4] rfl)
set_option maxHeartbeats 4000000 in
set_option maxRecDepth 100000 in
theorem m_laysChains  (l : Launch) {D : va_G} {K : Nat → ClassId} (o : Nat) (r : Nat → Nat) (f : Nat → Int32) (a : Nat → Nat → Int32) (g : Nat → Int64) (hI : mI f a)     : kV l yX12_laysChains (Cond.code yX12_laysChains cX12_laysChains 4 none :: kG) (rmD 2 0 0) D (tysK K) [.ref o] (mW K o r f a g) (fun (u : mS) => mI u.1 u.2.1 ∧ mE (XR []) f a u.1 u.2.1 ∧ mZ [] [34] f a u.1 u.2.1) (fun u => mW K o r u.1 u.2.1 u.2.2) 0 0 := by
  refine kV.of (cc := cX12_laysChains) (maxL := 4) (ret := none) (by decide) rfl (Nat.le_of_ble_eq_true rfl) ?_
  intro p e s m below meth c A hx hb hr hml hown hts hlocks hnm hK hP hD hS hA ls hl
  have hE : mE (XR []) f a f a := mE_rf
  have hZ : mZ [] [34] f a f a := mZ_rf
  have hg : ∀ w ∈ kG, w.before _ s = true := fun w h => hts w (List.mem_cons_of_mem _ h)
  have hown : s.vm.findClass RX12 = some m.cls := hown
  have hl : lv_has ls 4 [(0, .ref o)] := hl
  refine lv_aload_n hx hb dX12_laysChains_0 rfl (lv_at hl 0 rfl) ?_
  refine va_get (D := D) (ci := 12) (v := .ref (r 2)) (C := RX12) (T := TX12) (N := 48) hx hb hg inC12 hown hK hP 0 rfl rfl 2 (by decide) (hg _ wt5_162) (fun _ h9 => h9) rfl dX12_laysChains_1 ?_
  refine lv_bipush (v := 102) hx hb dX12_laysChains_4 (by decide) ?_
  refine va_iald hx hb hK hP 2 0 rfl rfl (kb_in kc_102 (by decide) (by decide)) dX12_laysChains_6 ?_
  refine lv_topi (fun t1 et1 => ?_)
  rw [cl_102] at et1
  have b2 : kb 0 t1 10 := kb_eq et1 (aI_at hI.2.1 2 102 (by decide) (by decide))
  refine lv_iconst (v := 1) hx hb dX12_laysChains_7 (by decide) ?_
  refine lv_isub hx hb dX12_laysChains_8 ?_
  refine lv_topi (fun t3 et3 => ?_)
  have b4 : kb (-1) t3 9 := kb_eq et3 (kb_sub b2 kc_1 (by decide) (by decide))
  have qt3 : t3.toInt = t1.toInt - 1 := by rw [et3]; exact kt_subc b2 kc_1 (by decide) (by decide)
  refine lv_istore_n (lv' := [(1, .int t3), (0, .ref o)]) hx hb dX12_laysChains_9 rfl hl (by decide) rfl (fun ls hl => ?_)
  have lp7 : ∀ (n8 : Nat) (B6 : Nat → Nat → Int32) (H : Heap) (locs : List Loc) (ls : Array Slot) (y5 : Int32), (y5.toInt + 1 < (n8 : Int)) → (mI f B6) → (mE (XR []) f a f B6) → (mZ [] [34] f a f B6) → (kb (-1) y5 9) → va_P D vwCl (mW K o r f B6 g) H → va_D A (mW K o r f B6 g) → va_S A s.heap H locs → lv_has ls 4 [(1, .int y5), (0, .ref o)] → W p l e (rmD 2 0 0) s m ([.ref o] : List Value).toArray below meth c H locs 0 0 (kQv D (tysK K) (fun (u : mS) => mI u.1 u.2.1 ∧ mE (XR []) f a u.1 u.2.1 ∧ mZ [] [34] f a u.1 u.2.1) (fun u => mW K o r u.1 u.2.1 u.2.2) A below ([.ref o] : List Value).toArray s 0 0) (F0 m 10 ls []) := by
    intro n8
    induction n8 with
    | zero =>
      intro  B6  H locs ls y5 hmlp7 hI hE hZ b9 hP hD hS hl
      exact (by have h1 := b9.1; have h2 := hmlp7; omega : False).elim
    | succ n8 ihlp7 =>
      intro  B6  H locs ls y5 hmlp7 hI hE hZ b9 hP hD hS hl
      refine lv_iload_n hx hb dX12_laysChains_10 rfl (lv_at hl 0 rfl) ?_
      refine lv_if_lt (tgt := 94) hx hb dX12_laysChains_11 (by decide) (fun c10 => ?_) (fun c10 => ?_)
      · have h11 := (kc_lt c10)
        have b12 : kb (-1) y5 (-1) := kr_lt1 h11 b9 kc_0 (by decide)
        exact kV_ret hx hb hr hlocks hK hS dX12_laysChains_94 (f, B6, g) hP hD ⟨hI, hE, hZ⟩
      · have h13 := (kc_nlt c10)
        have b14 : kb 0 y5 9 := kr_le2 h13 kc_0 b9
        refine lv_iconst (v := 0) hx hb dX12_laysChains_14 (by decide) ?_
        refine lv_istore_n (lv' := [(2, .int 0), (1, .int y5), (0, .ref o)]) hx hb dX12_laysChains_15 rfl hl (by decide) rfl (fun ls hl => ?_)
        refine lv_iload_n hx hb dX12_laysChains_16 rfl (lv_at hl 1 rfl) ?_
        refine lv_iconst (v := 1) hx hb dX12_laysChains_17 (by decide) ?_
        refine lv_iadd hx hb dX12_laysChains_18 ?_
        refine lv_topi (fun t15 et15 => ?_)
        have b16 : kb 1 t15 10 := kb_eq et15 (kb_add b14 kc_1 (by decide) (by decide))
        have qt15 : t15.toInt = y5.toInt + 1 := by rw [et15]; exact kt_addc b14 kc_1 (by decide) (by decide)
        refine lv_istore_n (lv' := [(3, .int t15), (2, .int 0), (1, .int y5), (0, .ref o)]) hx hb dX12_laysChains_19 rfl hl (by decide) rfl (fun ls hl => ?_)
        have lp19 : ∀ (n20 : Nat) (H : Heap) (locs : List Loc) (ls : Array Slot) (y17 : Int32) (y18 : Int32), (10 < y17.toInt + (n20 : Int)) → (kb 1 y17 10) → va_P D vwCl (mW K o r f B6 g) H → va_D A (mW K o r f B6 g) → va_S A s.heap H locs → lv_has ls 4 [(3, .int y17), (2, .int y18), (1, .int y5), (0, .ref o)] → W p l e (rmD 2 0 0) s m ([.ref o] : List Value).toArray below meth c H locs 0 0 (kQv D (tysK K) (fun (u : mS) => mI u.1 u.2.1 ∧ mE (XR []) f a u.1 u.2.1 ∧ mZ [] [34] f a u.1 u.2.1) (fun u => mW K o r u.1 u.2.1 u.2.2) A below ([.ref o] : List Value).toArray s 0 0) (F0 m 20 ls []) := by
          intro n20
          induction n20 with
          | zero =>
            intro   H locs ls y17 y18 hmlp19 b21 hP hD hS hl
            exact (by have h1 := b21.2; have h2 := hmlp19; omega : False).elim
          | succ n20 ihlp19 =>
            intro   H locs ls y17 y18 hmlp19 b21 hP hD hS hl
            refine lv_iload_n hx hb dX12_laysChains_20 rfl (lv_at hl 0 rfl) ?_
            refine lv_aload_n hx hb dX12_laysChains_21 rfl (lv_at hl 3 rfl) ?_
            refine va_get (D := D) (ci := 12) (v := .ref (r 2)) (C := RX12) (T := TX12) (N := 48) hx hb hg inC12 hown hK hP 0 rfl rfl 2 (by decide) (hg _ wt5_162) (fun _ h9 => h9) rfl dX12_laysChains_22 ?_
            refine lv_bipush (v := 102) hx hb dX12_laysChains_25 (by decide) ?_
            refine va_iald hx hb hK hP 2 0 rfl rfl (kb_in kc_102 (by decide) (by decide)) dX12_laysChains_27 ?_
            refine lv_topi (fun t22 et22 => ?_)
            rw [cl_102] at et22
            have b23 : kb 0 t22 10 := kb_eq et22 (aI_at hI.2.1 2 102 (by decide) (by decide))
            refine lv_icmp_ge (tgt := 72) hx hb dX12_laysChains_28 (by decide) (fun c24 => ?_) (fun c24 => ?_)
            · have h25 := (kc_le c24)
              refine lv_aload_n hx hb dX12_laysChains_72 rfl (lv_at hl 3 rfl) ?_
              refine va_get (D := D) (ci := 12) (v := .ref (r 34)) (C := RX12) (T := TX12) (N := 48) hx hb hg inC12 hown hK hP 0 rfl rfl 34 (by decide) (hg _ wt5_194) (fun _ h9 => h9) rfl dX12_laysChains_73 ?_
              refine lv_iload_n hx hb dX12_laysChains_76 rfl (lv_at hl 2 rfl) ?_
              refine lv_aload_n hx hb dX12_laysChains_77 rfl (lv_at hl 3 rfl) ?_
              refine va_get (D := D) (ci := 12) (v := .ref (r 2)) (C := RX12) (T := TX12) (N := 48) hx hb hg inC12 hown hK hP 0 rfl rfl 2 (by decide) (hg _ wt5_162) (fun _ h9 => h9) rfl dX12_laysChains_78 ?_
              refine lv_iconst (v := 0) hx hb dX12_laysChains_81 (by decide) ?_
              refine lv_iload_n hx hb dX12_laysChains_82 rfl (lv_at hl 2 rfl) ?_
              refine lv_iadd hx hb dX12_laysChains_83 ?_
              refine k_top (z := y5) (Int32.zero_add _) ?_
              refine va_iald hx hb hK hP 2 0 rfl rfl (kb_in b14 (by decide) (by decide)) dX12_laysChains_84 ?_
              refine lv_topi (fun t26 et26 => ?_)
              have b27 : kb 0 t26 99 := kb_eq et26 (aI_ld hI.2.1 2 0 10 b14 (by decide) (by decide) (by decide +kernel))
              refine lv_iload_n hx hb dX12_laysChains_85 rfl (lv_at hl 1 rfl) ?_
              refine lv_iadd hx hb dX12_laysChains_86 ?_
              refine lv_topi (fun t28 et28 => ?_)
              refine va_iast hx hb hK hP hD hS 17 0 rfl rfl (kb_in b14 (by decide) (by decide)) dX12_laysChains_87 (fun H locs hP hD hS => ?_)
              have hP : va_P D vwCl (mW K o r f (va_up B6 34 (upd (B6 34) y5.toNatClampNeg t28)) g) H := hP
              have hD : va_D A (mW K o r f (va_up B6 34 (upd (B6 34) y5.toNatClampNeg t28)) g) := hD
              refine k_gen (P := fun z => va_P D vwCl (mW K o r f z g) H ∧ va_D A (mW K o r f z g) ∧ (mI f z) ∧ (mE (XR []) f a f z) ∧ (mZ [] [34] f a f z)) (va_up B6 34 (upd (B6 34) y5.toNatClampNeg t28)) ⟨hP, hD, (mI_s hI (aI_free hI.2.1 34 _ (fun j => ⟨by show (mBa 34 j).1 ≤ _; exact Int.le_refl _, by show _ ≤ (mBa 34 j).2; exact Int.le_refl _⟩)) (by decide) (by decide)), (mE_s hE (by decide) (by decide) (by decide) (by decide)), (mZ_a hZ rfl)⟩ (fun a_29 ea_29 hq => ?_)
              obtain ⟨hP, hD, hI, hE, hZ⟩ := hq
              obtain ⟨t30, et30⟩ : ∃ z : Int32, z = y5 + Int32.ofInt (-1) := ⟨_, rfl⟩
              have qt30 : t30.toInt = y5.toInt - 1 := by rw [et30]; exact km_dec b14 (by decide)
              have b31 : kb (-1) t30 8 := kb_inc (k := (-1)) qt30 b14
              refine lv_iinc (v := t30) (lv' := [(1, .int t30), (3, .int y17), (2, .int y18), (0, .ref o)]) hx hb dX12_laysChains_88 hl (k := 2) rfl et30.symm (by decide) rfl (fun ls hl => ?_)
              refine lv_goto (tgt := 10) hx hb dX12_laysChains_91 (by decide) ?_
              exact ihlp7  a_29 _ _ _ t30 (km_dn hmlp7 qt30) hI hE hZ (kb_w b31 (by decide) (by decide)) hP hD hS (lv_sub hl [0, 3] rfl)
            · have h32 := (kc_nle c24)
              have b33 : kb 1 y17 9 := kr_lt1 h32 b21 b23 (by decide)
              have b34 : kb 2 t22 10 := kr_lt2 h32 b21 b23 (by decide)
              refine lv_aload_n hx hb dX12_laysChains_31 rfl (lv_at hl 3 rfl) ?_
              refine va_get (D := D) (ci := 12) (v := .ref (r 2)) (C := RX12) (T := TX12) (N := 48) hx hb hg inC12 hown hK hP 0 rfl rfl 2 (by decide) (hg _ wt5_162) (fun _ h9 => h9) rfl dX12_laysChains_32 ?_
              refine lv_bipush (v := 33) hx hb dX12_laysChains_35 (by decide) ?_
              refine lv_iload_n hx hb dX12_laysChains_37 rfl (lv_at hl 0 rfl) ?_
              refine lv_iadd hx hb dX12_laysChains_38 ?_
              refine lv_topi (fun t35 et35 => ?_)
              have b36 : kb 34 t35 42 := kb_eq et35 (kb_add kc_33 b33 (by decide) (by decide))
              have qt35 : t35.toInt = 33 + y17.toInt := by rw [et35]; exact kt_cadd kc_33 b33 (by decide) (by decide)
              refine va_iald hx hb hK hP 2 0 rfl rfl (kb_in b36 (by decide) (by decide)) dX12_laysChains_39 ?_
              refine lv_topi (fun t37 et37 => ?_)
              refine lv_iload_n hx hb dX12_laysChains_40 rfl (lv_at hl 2 rfl) ?_
              refine kN.callS (As := [.int t37, .int y5]) (rest := []) ⟨hx, hb, hml, hown, hg⟩ (m_isIn l t37 y5 ) (va_cwS 2 hg (kgS wt6_124 wt6_125 wt1_14 wt6_126) rfl rfl rfl (by decide +kernel) ⟨by decide, by decide⟩) hP hS rfl hl.1 rfl (Nat.le_of_ble_eq_true rfl) dX12_laysChains_41 ⟨Nat.le_refl _, Nat.le_refl _⟩ (fun v39 H locs hw38 hP hS => ?_)
              have jn54 : ∀ (H : Heap) (locs : List Loc) (ls : Array Slot) (y53 : Int32), va_P D vwCl (mW K o r f B6 g) H → va_D A (mW K o r f B6 g) → va_S A s.heap H locs → lv_has ls 4 [(3, .int y17), (2, .int y53), (1, .int y5), (0, .ref o)] → W p l e (rmD 2 0 0) s m ([.ref o] : List Value).toArray below meth c H locs 0 0 (kQv D (tysK K) (fun (u : mS) => mI u.1 u.2.1 ∧ mE (XR []) f a u.1 u.2.1 ∧ mZ [] [34] f a u.1 u.2.1) (fun u => mW K o r u.1 u.2.1 u.2.2) A below ([.ref o] : List Value).toArray s 0 0) (F0 m 66 ls []) := by
                intro  H locs ls y53  hP hD hS hl
                obtain ⟨t55, et55⟩ : ∃ z : Int32, z = y17 + Int32.ofInt 1 := ⟨_, rfl⟩
                have qt55 : t55.toInt = y17.toInt + 1 := by rw [et55]; exact km_inc b33 (by decide) (by decide)
                have b56 : kb 2 t55 10 := kb_inc (k := 1) qt55 b33
                refine lv_iinc (v := t55) (lv' := [(3, .int t55), (2, .int y53), (1, .int y5), (0, .ref o)]) hx hb dX12_laysChains_66 hl (k := 0) rfl et55.symm (by decide) rfl (fun ls hl => ?_)
                refine lv_goto (tgt := 20) hx hb dX12_laysChains_69 (by decide) ?_
                exact ihlp19  _ _ _ t55 y53 (km_up hmlp19 qt55) (kb_w b56 (by decide) (by decide)) hP hD hS (lv_sub hl [0, 1, 2, 3] rfl)
              refine lv_if_eq (tgt := 66) hx hb dX12_laysChains_44 (by decide) (fun c57 => ?_) (fun c57 => ?_)
              · have b58 : kb 0 v39 0 := kb_eq c57 kc_0
                exact jn54 _ _ _ y18  hP hD hS (lv_sub hl [0, 1, 2, 3] rfl)
              · have b59 : kb 1 v39 1 := kr_nel c57 hw38 kc_0 (by decide)
                refine lv_aload_n hx hb dX12_laysChains_47 rfl (lv_at hl 3 rfl) ?_
                refine lv_iload_n hx hb dX12_laysChains_48 rfl (lv_at hl 0 rfl) ?_
                refine kI.callV (As := [.int y17]) (rest := []) ⟨hx, hb, hml, hown, hg⟩ (m_stands0 l o r f B6 g hI y17 (kb_w b33 (by decide) (by decide)) ) (cwV 1 hg (kgV wt6_112 wt6_114 wp3_12 wt1_14 wt6_115) rfl rfl rfl (by decide +kernel) ⟨by decide, by decide⟩) hK hP hD hS hA mIs [] rfl (wr := []) rfl rfl rfl (fun i h => by cases h) 0 12 rfl rfl rfl hl.1 rfl (Nat.le_of_ble_eq_true rfl) dX12_laysChains_49 ⟨Nat.le_refl _, Nat.le_refl _⟩ (fun v61 u62 H locs hw60 hP hD hS => ?_)
                have hP : va_P D vwCl (mW K o r f B6 g) H := hP
                have hD : va_D A (mW K o r f B6 g) := hD
                refine lv_if_ne (tgt := 66) hx hb dX12_laysChains_52 (by decide) (fun c63 => ?_) (fun c63 => ?_)
                · have b64 : kb 1 v61 1 := kr_nel c63 hw60 kc_0 (by decide)
                  exact jn54 _ _ _ y18  hP hD hS (lv_sub hl [0, 1, 2, 3] rfl)
                · have b65 : kb 0 v61 0 := kb_eq c63 kc_0
                  refine lv_iload_n hx hb dX12_laysChains_55 rfl (lv_at hl 1 rfl) ?_
                  refine lv_aload_n hx hb dX12_laysChains_56 rfl (lv_at hl 3 rfl) ?_
                  refine va_get (D := D) (ci := 12) (v := .ref (r 34)) (C := RX12) (T := TX12) (N := 48) hx hb hg inC12 hown hK hP 0 rfl rfl 34 (by decide) (hg _ wt5_194) (fun _ h9 => h9) rfl dX12_laysChains_57 ?_
                  refine lv_iload_n hx hb dX12_laysChains_60 rfl (lv_at hl 0 rfl) ?_
                  refine va_iald hx hb hK hP 17 0 rfl rfl (kb_in b33 (by decide) (by decide)) dX12_laysChains_61 ?_
                  refine lv_topi (fun t66 et66 => ?_)
                  refine kN.callS (As := [.int y18, .int t66]) (rest := []) ⟨hx, hb, hml, hown, hg⟩ (m_greater l y18 t66 ) (va_cwS 2 hg (kgS wt6_127 wt6_128 wt1_14 wt6_129) rfl rfl rfl (by decide +kernel) ⟨by decide, by decide⟩) hP hS rfl hl.1 rfl (Nat.le_of_ble_eq_true rfl) dX12_laysChains_62 ⟨Nat.le_refl _, Nat.le_refl _⟩ (fun v68 H locs hw67 hP hS => ?_)
                  refine lv_istore_n (lv' := [(2, .int v68), (3, .int y17), (1, .int y5), (0, .ref o)]) hx hb dX12_laysChains_65 rfl hl (by decide) rfl (fun ls hl => ?_)
                  exact jn54 _ _ _ v68  hP hD hS (lv_sub hl [1, 0, 2, 3] rfl)
        exact lp19 (10)  _ _ _ t15 0 (by have h1 := (b16); unfold kb at h1; omega) b16 hP hD hS (lv_sub hl [0, 1, 2, 3] rfl)
  exact lp7 (11)  a _ _ _ t3 (by have h1 := (b4); unfold kb at h1; omega) hI hE hZ b4 hP hD hS (lv_sub hl [0, 1] rfl)
set_option maxHeartbeats 4000000 in
set_option maxRecDepth 100000 in
theorem m_laysAside  (l : Launch) {D : va_G} {K : Nat → ClassId} (o : Nat) (r : Nat → Nat) (f : Nat → Int32) (a : Nat → Nat → Int32) (g : Nat → Int64) (hI : mI f a) (kk : Int32) (bkk : kb 0 kk 1)   : kV l yX12_laysAside (Cond.code yX12_laysAside cX12_laysAside 3 none :: kG) (rmD 1 0 0) D (tysK K) [.ref o, .int kk] (mW K o r f a g) (fun (u : mS) => mI u.1 u.2.1 ∧ mE (XR []) f a u.1 u.2.1 ∧ u.1 = f ∧ (u.2.1 15 = a 15 ∧ u.2.1 16 = a 16) ∧ (∀ i, i < 23 → u.2.1 5 (23 * kk.toInt.toNat + i) = a 2 i) ∧ mZ [] [5] f a u.1 u.2.1) (fun u => mW K o r u.1 u.2.1 u.2.2) 0 0 := by
  refine kV.of (cc := cX12_laysAside) (maxL := 3) (ret := none) (by decide) rfl (Nat.le_of_ble_eq_true rfl) ?_
  intro p e s m below meth c A hx hb hr hml hown hts hlocks hnm hK hP hD hS hA ls hl
  have hE : mE (XR []) f a f a := mE_rf
  have hZ : mZ [] [5] f a f a := mZ_rf
  have hg : ∀ w ∈ kG, w.before _ s = true := fun w h => hts w (List.mem_cons_of_mem _ h)
  have hown : s.vm.findClass RX12 = some m.cls := hown
  have hl : lv_has ls 3 [(0, .ref o), (1, .int kk)] := hl
  have hk0 : a 15 = a 15 ∧ a 16 = a 16 := ⟨rfl, rfl⟩
  refine lv_iconst (v := 0) hx hb dX12_laysAside_0 (by decide) ?_
  refine lv_istore_n (lv' := [(2, .int 0), (0, .ref o), (1, .int kk)]) hx hb dX12_laysAside_1 rfl hl (by decide) rfl (fun ls hl => ?_)
  have lp3 : ∀ (n4 : Nat) (nn : Nat) (B2 : Nat → Nat → Int32) (H : Heap) (locs : List Loc) (ls : Array Slot) (y1 : Int32), (23 < y1.toInt + (n4 : Int)) → (mI f B2) → (mE (XR []) f a f B2) → (mZ [] [5] f a f B2) → (B2 15 = a 15 ∧ B2 16 = a 16) → (kb 0 y1 23) → (y1.toInt = (nn : Int)) → (∀ q, q < nn → B2 5 (23 * kk.toInt.toNat + q) = a 2 q) → (nn ≤ 23) → va_P D vwCl (mW K o r f B2 g) H → va_D A (mW K o r f B2 g) → va_S A s.heap H locs → lv_has ls 3 [(2, .int y1), (0, .ref o), (1, .int kk)] → W p l e (rmD 1 0 0) s m ([.ref o, .int kk] : List Value).toArray below meth c H locs 0 0 (kQv D (tysK K) (fun (u : mS) => mI u.1 u.2.1 ∧ mE (XR []) f a u.1 u.2.1 ∧ u.1 = f ∧ (u.2.1 15 = a 15 ∧ u.2.1 16 = a 16) ∧ (∀ i, i < 23 → u.2.1 5 (23 * kk.toInt.toNat + i) = a 2 i) ∧ mZ [] [5] f a u.1 u.2.1) (fun u => mW K o r u.1 u.2.1 u.2.2) A below ([.ref o, .int kk] : List Value).toArray s 0 0) (F0 m 2 ls []) := by
    intro n4
    induction n4 with
    | zero =>
      intro nn B2  H locs ls y1 hmlp3 hI hE hZ hk0 b5 hvlp3_0 hvlp3_1 hvlp3_2 hP hD hS hl
      exact (by have h1 := b5.2; have h2 := hmlp3; omega : False).elim
    | succ n4 ihlp3 =>
      intro nn B2  H locs ls y1 hmlp3 hI hE hZ hk0 b5 hvlp3_0 hvlp3_1 hvlp3_2 hP hD hS hl
      have hZB := hZ
      refine lv_iload_n hx hb dX12_laysAside_2 rfl (lv_at hl 0 rfl) ?_
      refine lv_bipush (v := 23) hx hb dX12_laysAside_3 (by decide) ?_
      refine lv_icmp_ge (tgt := 31) hx hb dX12_laysAside_5 (by decide) (fun c6 => ?_) (fun c6 => ?_)
      · have h7 := (kc_le c6)
        have b8 : kb 23 y1 23 := kr_le2 h7 kc_23 b5
        exact kV_ret hx hb hr hlocks hK hS dX12_laysAside_31 (f, B2, g) hP hD ⟨hI, hE, rfl, hk0, (by have hn := (by have w1 := hvlp3_0; have w2 := (b8).1; have w3 := hvlp3_2; omega : nn = 23); have hB := hvlp3_1; rw [hn] at hB; exact hB), hZ⟩
      · have h9 := (kc_nle c6)
        have b10 : kb 0 y1 22 := kr_lt1 h9 b5 kc_23 (by decide)
        refine lv_aload_n hx hb dX12_laysAside_8 rfl (lv_at hl 1 rfl) ?_
        refine va_get (D := D) (ci := 12) (v := .ref (r 5)) (C := RX12) (T := TX12) (N := 48) hx hb hg inC12 hown hK hP 0 rfl rfl 5 (by decide) (hg _ wt5_165) (fun _ h9 => h9) rfl dX12_laysAside_9 ?_
        refine lv_bipush (v := 23) hx hb dX12_laysAside_12 (by decide) ?_
        refine lv_iload_n hx hb dX12_laysAside_14 rfl (lv_at hl 2 rfl) ?_
        refine lv_imul hx hb dX12_laysAside_15 ?_
        refine lv_topi (fun t11 et11 => ?_)
        have b12 : kb 0 t11 23 := kb_eq et11 (kb_mul kc_23 bkk (by decide) (by decide) (by decide))
        have qt11 : t11.toInt = 23 * kk.toInt := by rw [et11]; exact kt_cmul kc_23 bkk (by decide) (by decide) (by decide)
        refine lv_iload_n hx hb dX12_laysAside_16 rfl (lv_at hl 0 rfl) ?_
        refine lv_iadd hx hb dX12_laysAside_17 ?_
        refine lv_topi (fun t13 et13 => ?_)
        have b14 : kb 0 t13 45 := kb_eq et13 (kb_add b12 b10 (by decide) (by decide))
        have qt13 : t13.toInt = t11.toInt + y1.toInt := by rw [et13]; exact kt_add b12 b10 (by decide) (by decide)
        refine lv_aload_n hx hb dX12_laysAside_18 rfl (lv_at hl 1 rfl) ?_
        refine va_get (D := D) (ci := 12) (v := .ref (r 2)) (C := RX12) (T := TX12) (N := 48) hx hb hg inC12 hown hK hP 0 rfl rfl 2 (by decide) (hg _ wt5_162) (fun _ h9 => h9) rfl dX12_laysAside_19 ?_
        refine lv_iload_n hx hb dX12_laysAside_22 rfl (lv_at hl 0 rfl) ?_
        refine va_iald hx hb hK hP 2 0 rfl rfl (kb_in b10 (by decide) (by decide)) dX12_laysAside_23 ?_
        refine lv_topi (fun t15 et15 => ?_)
        refine va_iast hx hb hK hP hD hS 5 0 rfl rfl (kb_in b14 (by decide) (by decide)) dX12_laysAside_24 (fun H locs hP hD hS => ?_)
        have hP : va_P D vwCl (mW K o r f (va_up B2 5 (upd (B2 5) t13.toNatClampNeg t15)) g) H := hP
        have hD : va_D A (mW K o r f (va_up B2 5 (upd (B2 5) t13.toNatClampNeg t15)) g) := hD
        refine k_gen (P := fun z => va_P D vwCl (mW K o r f z g) H ∧ va_D A (mW K o r f z g) ∧ (mI f z) ∧ (mE (XR []) f a f z) ∧ (mZ [] [5] f a f z) ∧ (z 15 = a 15 ∧ z 16 = a 16)) (va_up B2 5 (upd (B2 5) t13.toNatClampNeg t15)) ⟨hP, hD, (mI_s hI (aI_mv hI.2.1 5 _ 2 _ et15 (kq_5 b10 bkk (by rw [qt13]; omega))) (by decide) (by decide)), (mE_s hE (by decide) (by decide) (by decide) (by decide)), (mZ_a hZ rfl), hk0⟩ (fun a_16 ea_16 hq => ?_)
        obtain ⟨hP, hD, hI, hE, hZ, hk0⟩ := hq
        obtain ⟨t17, et17⟩ : ∃ z : Int32, z = y1 + Int32.ofInt 1 := ⟨_, rfl⟩
        have qt17 : t17.toInt = y1.toInt + 1 := by rw [et17]; exact km_inc b10 (by decide) (by decide)
        have b18 : kb 1 t17 23 := kb_inc (k := 1) qt17 b10
        refine lv_iinc (v := t17) (lv' := [(2, .int t17), (0, .ref o), (1, .int kk)]) hx hb dX12_laysAside_25 hl (k := 0) rfl et17.symm (by decide) rfl (fun ls hl => ?_)
        refine lv_goto (tgt := 2) hx hb dX12_laysAside_28 (by decide) ?_
        exact ihlp3 (nn + 1) a_16 _ _ _ t17 (km_up hmlp3 qt17) hI hE hZ hk0 (kb_w b18 (by decide) (by decide)) (by have w1 := hvlp3_0; have w2 := qt17; omega) (cp_st hvlp3_1 ea_16 (by have w1 := hvlp3_0; have w2 := qt13; have w3 := bkk.1; have w4 := qt11; unfold Int32.toNatClampNeg; omega) (et15.trans (by rw [cl_nat hvlp3_0]; exact congrFun (hZB.2 2 rfl) nn))) (by have w1 := hvlp3_0; have w2 := (b10).2; omega) hP hD hS (lv_sub hl [0, 1, 2] rfl)
  exact lp3 (24) 0 a _ _ _ 0 (by have h1 := (kc_0); unfold kb at h1; omega) hI hE hZ hk0 (kb_w kc_0 (by decide) (by decide)) (by decide +kernel) (fun q h => absurd h (Nat.not_lt_zero q)) (Nat.zero_le _) hP hD hS (lv_sub hl [0, 1, 2] rfl)
