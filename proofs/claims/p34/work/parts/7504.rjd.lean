/-- the answers of nights, what is kept of them -/
theorem ngt_d {DD : Nat → tE} {k : Nat → Int32} {x y v1 v2 : Int32} {f f1 ef ef2 : Nat → Int32} {a a1 ea ea2 : Nat → Nat → Int32} {C0 C1 R0 R2 : Nat → Int32}
  (h1 : (v1 = -1 ∧ ¬ ngtO x y ∧ f1 16 = -1 ∧ (∀ R1, rfE C0 R1 → rfE C1 (rfS (-1 : Int32).toInt R1)) ∧ f1 2849 = f 2849 ∧ f1 2850 = f 2850 ∧ a1 90 = a 90 ∧ a1 91 = a 91) ∨ (ngtO x y ∧ f1 16 = 0 ∧ (∀ R1, rfE C0 R1 → rfE C1 R1) ∧ v1.toInt = ((nsF DD k x.toInt y.toInt.toNat).1 : Int) ∧ f1 2849 = k 102 ∧ f1 2850 = k 103 ∧ (∀ i, i < 10 → a1 90 i = (nsF DD k x.toInt y.toInt.toNat).2.1 (0 + i)) ∧ ∀ i, i < 6 → a1 91 i = (nsF DD k x.toInt y.toInt.toNat).2.1 (10 + i)))
  (h2 : (¬ ngtO x y ∧ v2 = -1 ∧ ef2 0 = -1 ∧ R2 = rfS (-1 : Int32).toInt R0 ∧ ef2 45 = ef 45 ∧ ef2 46 = ef 46 ∧ ea2 44 = ea 44) ∨ (ngtO x y ∧ ef2 0 = 0 ∧ R2 = R0 ∧ v2.toInt = ((nsF DD k x.toInt y.toInt.toNat).1 : Int) ∧ ef2 45 = k 102 ∧ ef2 46 = k 103 ∧ ∀ i, i < 23 → ea2 44 i = (nsF DD k x.toInt y.toInt.toNat).2.1 i))
  (hr : rfE C0 R0) (hd : rDw f ef a ea) (hk : kK k) : v1 = v2 ∧ f1 16 = ef2 0 ∧ rfE C1 R2 ∧ rDw f1 ef2 a1 ea2 := by
  rcases h1 with ⟨a1_, a2, a3, a4, a5, a6, a7, a8⟩ | ⟨a1_, a2, a3, a4, a5, a6, a7, a8⟩ <;> rcases h2 with ⟨b1, b2, b3, b4, b5, b6, b7⟩ | ⟨b1, b2, b3, b4, b5, b6, b7⟩
  · exact ⟨a1_.trans b2.symm, a3.trans b3.symm, by rw [b4]; exact a4 _ hr, rDw_k hd a5 a6 b5 b6 a7 a8 b7⟩
  · exact absurd b1 a2
  · exact absurd a1_ b1
  · refine ⟨Int32.toInt_inj.mp (a4.trans b4.symm), a2.trans b2.symm, by rw [b3]; exact a3 _ hr, Or.inr ⟨a5.trans b5.symm, a6.trans b6.symm, ?_, ?_, fun i hi => (a7 i hi).trans (b7 (0 + i) (by omega)).symm, fun i hi => (a8 i hi).trans (b7 (10 + i) (by omega)).symm⟩⟩
    · rw [b5]; exact kK_r hk 102 0 10 (by decide) (by decide)
    · rw [b6]; exact kK_r hk 103 0 6 (by decide) (by decide)
/-- all that holds between the calls -/
def rJ (K : Nat → ClassId) (f : Nat → Int32) (a : Nat → Nat → Int32) (g : xG) (i0 i1 : Option sX) (tt : va_W) (ef : Nat → Int32) (ea : Nat → Nat → Int32) : Prop := xI f a ∧ gOK K g.2 tt ∧ iOK K tt i0 ∧ iOK K tt i1 ∧ g.2 92 0 = iA i0 ∧ g.2 92 1 = iA i1 ∧ mI ef ea ∧ f 12 = ef 13 ∧ xIm i0 i1 (ea 4) ∧ xTq (a 93) (ea 11) ∧ f 14 = ef 6 ∧ f 13 = ef 14 ∧ f 15 = ef 37 ∧ f 16 = ef 0 ∧ rfE (a 94) (ea 1) ∧ rlS K tt f a (g.2 15) ef ea ∧ rlI K tt i0 (imK (ea 3) 0) ∧ rlI K tt i1 (imK (ea 3) 1) ∧ rDw f ef a ea ∧ f 1858 = -1

