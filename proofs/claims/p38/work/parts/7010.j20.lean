theorem msk_n {x k : Nat} (hk : k ≤ 32) (hx : x < 2 ^ 32) : x &&& ((2 ^ (32 - k) - 1) <<< k) = 0 ↔ x < 2 ^ k := by
  constructor
  · intro h
    refine Nat.lt_pow_two_of_testBit x (fun i hi => ?_)
    by_cases q : i < 32
    · have e : Nat.testBit (x &&& ((2 ^ (32 - k) - 1) <<< k)) i = Nat.testBit 0 i := by rw [h]
      rw [Nat.testBit_and, Nat.testBit_shiftLeft, Nat.testBit_two_pow_sub_one, Nat.zero_testBit, decide_eq_true hi, decide_eq_true (show i - k < 32 - k by omega), Bool.and_true, Bool.and_true] at e
      exact e
    · exact Nat.testBit_lt_two_pow (Nat.lt_of_lt_of_le hx (Nat.pow_le_pow_right (by decide) (by omega)))
  · intro h
    refine Nat.eq_of_testBit_eq (fun i => ?_)
    rw [Nat.testBit_and, Nat.testBit_shiftLeft, Nat.zero_testBit]
    by_cases q : i ≥ k
    · rw [Nat.testBit_lt_two_pow (Nat.lt_of_lt_of_le h (Nat.pow_le_pow_right (by decide) q)), Bool.false_and]
    · rw [decide_eq_false q, Bool.false_and, Bool.and_false]
theorem msk_k {y m : Int32} {k : Nat} (hk : k ≤ 10) (hm : m.toBitVec.toNat = (2 ^ (32 - k) - 1) <<< k) : (y &&& m) = 0 ↔ 0 ≤ y.toInt ∧ y.toInt ≤ ((2 ^ k : Nat) : Int) - 1 := by
  have e2 : (y &&& m).toBitVec.toNat = y.toBitVec.toNat &&& m.toBitVec.toNat := by
    show (y.toBitVec &&& m.toBitVec).toNat = _
    exact BitVec.toNat_and _ _
  have e : (y &&& m) = 0 ↔ y.toBitVec.toNat &&& m.toBitVec.toNat = 0 := by
    constructor
    · intro h
      rw [← e2, h]
      decide +kernel
    · intro h
      apply Int32.toBitVec_inj.mp
      apply BitVec.eq_of_toNat_eq
      rw [e2, h]
      decide +kernel
  have hlt : y.toBitVec.toNat < 2 ^ 32 := y.toBitVec.isLt
  have ht : y.toInt = if 2 * y.toBitVec.toNat < 2 ^ 32 then (y.toBitVec.toNat : Int) else (y.toBitVec.toNat : Int) - ((2 ^ 32 : Nat) : Int) := BitVec.toInt_eq_toNat_cond y.toBitVec
  have hp : 2 ^ k ≤ 1024 := Nat.pow_le_pow_right (n := 2) (by decide) hk
  rw [e, hm, msk_n (by omega) hlt]
  generalize 2 ^ k = P at hp ⊢
  by_cases c : 2 * y.toBitVec.toNat < 2 ^ 32
  · rw [if_pos c] at ht
    constructor
    · intro h; omega
    · intro h; omega
  · rw [if_neg c] at ht
    constructor
    · intro h; omega
    · intro h; omega
theorem okP_iff {x y z t n : Int32} (hn : 0 ≤ n.toInt ∧ n.toInt ≤ 10) : okPx x y z t n ↔ okPm x y z t n := by
  have key : (y &&& (-1 : Int32) <<< (n &&& 31)) = 0 ↔ (0 ≤ y.toInt ∧ y.toInt ≤ ((1 : Int32) <<< (n &&& 31) - 1).toInt) := by
    rcases (by omega : n.toInt = 0 ∨ n.toInt = 1 ∨ n.toInt = 2 ∨ n.toInt = 3 ∨ n.toInt = 4 ∨ n.toInt = 5 ∨ n.toInt = 6 ∨ n.toInt = 7 ∨ n.toInt = 8 ∨ n.toInt = 9 ∨ n.toInt = 10) with h | h | h | h | h | h | h | h | h | h | h
    · have hn' : n = 0 := Int32.toInt_inj.mp (h.trans (by decide +kernel))
      rw [hn', msk_k (y := y) (m := (-1 : Int32) <<< ((0 : Int32) &&& 31)) (k := 0) (by decide) (by decide +kernel), show ((1 : Int32) <<< ((0 : Int32) &&& 31) - 1).toInt = ((2 ^ 0 : Nat) : Int) - 1 from (by decide +kernel)]
    · have hn' : n = 1 := Int32.toInt_inj.mp (h.trans (by decide +kernel))
      rw [hn', msk_k (y := y) (m := (-1 : Int32) <<< ((1 : Int32) &&& 31)) (k := 1) (by decide) (by decide +kernel), show ((1 : Int32) <<< ((1 : Int32) &&& 31) - 1).toInt = ((2 ^ 1 : Nat) : Int) - 1 from (by decide +kernel)]
    · have hn' : n = 2 := Int32.toInt_inj.mp (h.trans (by decide +kernel))
      rw [hn', msk_k (y := y) (m := (-1 : Int32) <<< ((2 : Int32) &&& 31)) (k := 2) (by decide) (by decide +kernel), show ((1 : Int32) <<< ((2 : Int32) &&& 31) - 1).toInt = ((2 ^ 2 : Nat) : Int) - 1 from (by decide +kernel)]
    · have hn' : n = 3 := Int32.toInt_inj.mp (h.trans (by decide +kernel))
      rw [hn', msk_k (y := y) (m := (-1 : Int32) <<< ((3 : Int32) &&& 31)) (k := 3) (by decide) (by decide +kernel), show ((1 : Int32) <<< ((3 : Int32) &&& 31) - 1).toInt = ((2 ^ 3 : Nat) : Int) - 1 from (by decide +kernel)]
    · have hn' : n = 4 := Int32.toInt_inj.mp (h.trans (by decide +kernel))
      rw [hn', msk_k (y := y) (m := (-1 : Int32) <<< ((4 : Int32) &&& 31)) (k := 4) (by decide) (by decide +kernel), show ((1 : Int32) <<< ((4 : Int32) &&& 31) - 1).toInt = ((2 ^ 4 : Nat) : Int) - 1 from (by decide +kernel)]
    · have hn' : n = 5 := Int32.toInt_inj.mp (h.trans (by decide +kernel))
      rw [hn', msk_k (y := y) (m := (-1 : Int32) <<< ((5 : Int32) &&& 31)) (k := 5) (by decide) (by decide +kernel), show ((1 : Int32) <<< ((5 : Int32) &&& 31) - 1).toInt = ((2 ^ 5 : Nat) : Int) - 1 from (by decide +kernel)]
    · have hn' : n = 6 := Int32.toInt_inj.mp (h.trans (by decide +kernel))
      rw [hn', msk_k (y := y) (m := (-1 : Int32) <<< ((6 : Int32) &&& 31)) (k := 6) (by decide) (by decide +kernel), show ((1 : Int32) <<< ((6 : Int32) &&& 31) - 1).toInt = ((2 ^ 6 : Nat) : Int) - 1 from (by decide +kernel)]
    · have hn' : n = 7 := Int32.toInt_inj.mp (h.trans (by decide +kernel))
      rw [hn', msk_k (y := y) (m := (-1 : Int32) <<< ((7 : Int32) &&& 31)) (k := 7) (by decide) (by decide +kernel), show ((1 : Int32) <<< ((7 : Int32) &&& 31) - 1).toInt = ((2 ^ 7 : Nat) : Int) - 1 from (by decide +kernel)]
    · have hn' : n = 8 := Int32.toInt_inj.mp (h.trans (by decide +kernel))
      rw [hn', msk_k (y := y) (m := (-1 : Int32) <<< ((8 : Int32) &&& 31)) (k := 8) (by decide) (by decide +kernel), show ((1 : Int32) <<< ((8 : Int32) &&& 31) - 1).toInt = ((2 ^ 8 : Nat) : Int) - 1 from (by decide +kernel)]
    · have hn' : n = 9 := Int32.toInt_inj.mp (h.trans (by decide +kernel))
      rw [hn', msk_k (y := y) (m := (-1 : Int32) <<< ((9 : Int32) &&& 31)) (k := 9) (by decide) (by decide +kernel), show ((1 : Int32) <<< ((9 : Int32) &&& 31) - 1).toInt = ((2 ^ 9 : Nat) : Int) - 1 from (by decide +kernel)]
    · have hn' : n = 10 := Int32.toInt_inj.mp (h.trans (by decide +kernel))
      rw [hn', msk_k (y := y) (m := (-1 : Int32) <<< ((10 : Int32) &&& 31)) (k := 10) (by decide) (by decide +kernel), show ((1 : Int32) <<< ((10 : Int32) &&& 31) - 1).toInt = ((2 ^ 10 : Nat) : Int) - 1 from (by decide +kernel)]
  unfold okPx okPm
  rw [key]
theorem b255 {x : Int32} {l h : Int} (b : kb (-128) x 127) (h0 : 0 ≤ l) (h1 : h ≤ 127) : (l ≤ (x &&& 255).toInt ∧ (x &&& 255).toInt ≤ h) ↔ (l ≤ x.toInt ∧ x.toInt ≤ h) := by
  have e2 : (x &&& 255).toBitVec.toNat = x.toBitVec.toNat % 256 := by
    show (x.toBitVec &&& (255 : Int32).toBitVec).toNat = _
    rw [BitVec.toNat_and, show (255 : Int32).toBitVec.toNat = 2 ^ 8 - 1 from (by decide +kernel), Nat.and_two_pow_sub_one_eq_mod]
  have hlt : x.toBitVec.toNat < 2 ^ 32 := x.toBitVec.isLt
  have hx : x.toInt = if 2 * x.toBitVec.toNat < 2 ^ 32 then (x.toBitVec.toNat : Int) else (x.toBitVec.toNat : Int) - ((2 ^ 32 : Nat) : Int) := BitVec.toInt_eq_toNat_cond x.toBitVec
  have hy : (x &&& 255).toInt = if 2 * (x &&& 255).toBitVec.toNat < 2 ^ 32 then ((x &&& 255).toBitVec.toNat : Int) else ((x &&& 255).toBitVec.toNat : Int) - ((2 ^ 32 : Nat) : Int) := BitVec.toInt_eq_toNat_cond (x &&& 255).toBitVec
  rw [e2, if_pos (by omega)] at hy
  have b1 := b.1; have b2 := b.2
  by_cases c : 2 * x.toBitVec.toNat < 2 ^ 32
  · rw [if_pos c] at hx
    constructor
    · intro q; omega
    · intro q; omega
  · rw [if_neg c] at hx
    constructor
    · intro q; omega
    · intro q; omega
theorem rOK_iff {A : Nat → Int32} (hA : ∀ j, kb (-128) (A j) 127) (k m : Nat) : rOKx A k m ↔ rOKm A k m := by
  unfold rOKx rOKm
  refine and_congr_right (fun hm => ?_)
  rw [okP_iff (by rw [nI_toInt (by omega)]; omega)]
  unfold okPm
  rw [b255 (hA (4 * k)) (by decide) (by decide), b255 (hA (4 * k + 2)) (by decide) (by decide), b255 (hA (4 * k + 3)) (by decide) (by decide)]
/-! a row of parts, as the class adds them -/
def rwX (A k0 : Nat → Int32) : Nat → (Nat → Int32) → Prop
  | 0, k' => k' = k0
  | j + 1, k' => ∃ kj, rwX A k0 j kj ∧ ((rOKx A j (kj 102).toInt.toNat ∧ k' = prtK kj (kj 102).toInt.toNat (A (4 * j) &&& 255) (A (4 * j + 1) &&& 255) (A (4 * j + 2) &&& 255) (A (4 * j + 3) &&& 255)) ∨ (¬ rOKx A j (kj 102).toInt.toNat ∧ k' = kj))
theorem b255_e {x : Int32} (b : kb (-128) x 127) (h0 : 0 ≤ x.toInt) : x &&& 255 = x := by
  have w := (b255 (l := x.toInt) (h := x.toInt) b h0 b.2).mpr ⟨Int.le_refl _, Int.le_refl _⟩
  exact Int32.toInt_inj.mp (by omega)
theorem rwXP {A k0 : Nat → Int32} (hA : ∀ j, kb (-128) (A j) 127) : ∀ {j : Nat} {k' : Nat → Int32}, rwX A k0 j k' → rwP A k0 j k'
  | 0, _, h => h
  | j + 1, _, h => by
    obtain ⟨kj, h1, h2⟩ := h
    refine ⟨kj, rwXP hA h1, ?_⟩
    rcases h2 with ⟨h2, h3⟩ | ⟨h2, h3⟩
    · have q := (rOK_iff hA j _).mp h2
      have q2 := q.2
      unfold okPm at q2
      rw [b255_e (hA (4 * j)) (by omega), b255_e (hA (4 * j + 2)) (by omega), b255_e (hA (4 * j + 3)) (by omega)] at h3
      exact Or.inl ⟨q, h3⟩
    · exact Or.inr ⟨fun q => h2 ((rOK_iff hA j _).mpr q), h3⟩
theorem kpw10f : ∀ m : Fin 11, ((1 : Int32) <<< (nI m.val &&& 31) - 1).toInt ≤ 1023 := by decide +kernel
theorem kpw10 {n : Int32} (hn : 0 ≤ n.toInt ∧ n.toInt ≤ 10) : ((1 : Int32) <<< (n &&& 31) - 1).toInt ≤ 1023 := by
  have e : n = nI n.toInt.toNat := nI_q (by omega)
  rw [e]
  exact kpw10f ⟨n.toInt.toNat, by omega⟩
theorem kad1 {x : Int32} {l h : Int} (b : kb l x h) (hl : -2147483648 ≤ l) (hh : h < 2147483647) : (x + 1).toInt = x.toInt + 1 := by
  have e1 : (1 : Int32).toInt = 1 := by decide +kernel
  rw [kt_add (l1 := l) (h1 := h) (l2 := 1) (h2 := 1) b ⟨by rw [e1]; decide, by rw [e1]; decide⟩ (by omega) (by omega), e1]
/-! what is told keeps the bounds -/
section KKX
variable {k : Nat → Int32} {x y z w : Int32}
theorem kK_prt (hk : kK k) (h : okPm x y z w (k 102)) (h9 : (k 102).toInt < 10) : kK (prtK k (k 102).toInt.toNat x y z w) := by
  have b := kK_r hk 102 0 10 (by decide) (by decide)
  have b1 := b.1
  have a := kad1 b (by decide) (by decide)
  obtain ⟨n, en⟩ : ∃ n : Nat, n = (k 102).toInt.toNat := ⟨_, rfl⟩
  rw [← en]
  have hn : n < 10 := by omega
  have e0 : ∀ j, j < 10 → kBd (0 + j) = (0, 99) := by decide
  have e1 : ∀ j, j < 10 → kBd (53 + j) = (0, 9) := by decide
  have e2 : ∀ j, j < 10 → kBd (43 + j) = (0, 3) := by decide
  have e3 : ∀ j, j < 10 → kBd (33 + j) = (0, 1023) := by decide
  have e4 : ∀ j, j < 10 → kBd (23 + j) = (0, 99) := by decide
  have e5 : kBd 102 = (0, 10) := by decide
  have p := kpw10 (n := k 102) ⟨b1, b.2⟩
  obtain ⟨⟨x1, x2⟩, ⟨y1, y2⟩, ⟨z1, z2⟩, w1, w2⟩ := h
  refine ⟨fun i hi => ?_, fun q hq => ?_, ?_⟩
  · unfold prtK
    by_cases c0 : i = 102
    · rw [if_pos c0, c0, e5]; exact ⟨by omega, by omega⟩
    · rw [if_neg c0]
      by_cases c1 : i = 0 + n
      · rw [if_pos c1, c1, e0 n hn]; exact ⟨by omega, x2⟩
      · rw [if_neg c1]
        by_cases c2 : i = 53 + n
        · rw [if_pos c2, c2, e1 n hn]; exact ⟨w1, w2⟩
        · rw [if_neg c2]
          by_cases c3 : i = 43 + n
          · rw [if_pos c3, c3, e2 n hn]; exact ⟨z1, z2⟩
          · rw [if_neg c3]
            by_cases c4 : i = 33 + n
            · rw [if_pos c4, c4, e3 n hn]; exact ⟨y1, by omega⟩
            · rw [if_neg c4]
              by_cases c5 : i = 23 + n
              · rw [if_pos c5, c5, e4 n hn]; exact ⟨by omega, x2⟩
              · rw [if_neg c5]; exact hk.1 i hi
  · rw [prtK_n hn (i := 16 + q) (by omega) (by omega) (by omega) (by omega) (by omega) (by omega)]
    have e : prtK k n x y z w 102 = k 102 + 1 := by unfold prtK; rw [if_pos rfl]
    rw [e]
    have := hk.2.1 q hq
    omega
  · rw [prtK_n hn (i := 106) (by omega) (by omega) (by omega) (by omega) (by omega) (by omega), prtK_n hn (i := 105) (by omega) (by omega) (by omega) (by omega) (by omega) (by omega)]
    exact hk.2.2
theorem bldK_m {n : Nat} (hn : n < 6) {i : Nat} (h0 : ¬ i = 103) (h1 : ¬ i = 16 + n) (h2 : ¬ i = 10 + n) (h3 : ¬ i = 69 + n) (h4 : ¬ i = 63 + n) : bldK k n x y i = k i := by
  unfold bldK
  rw [if_neg h0, if_neg h1, if_neg h2, if_neg h3, if_neg h4]
theorem kK_bld (hk : kK k) (h : (1 ≤ x.toInt ∧ x.toInt ≤ 15) ∧ (1 ≤ y.toInt ∧ y.toInt ≤ 9)) (h9 : (k 103).toInt < 6) : kK (bldK k (k 103).toInt.toNat x y) := by
  have b := kK_r hk 103 0 6 (by decide) (by decide)
  have b1 := b.1
  have a := kad1 b (by decide) (by decide)
  have bp := (kK_r hk 102 0 10 (by decide) (by decide)).1
  obtain ⟨n, en⟩ : ∃ n : Nat, n = (k 103).toInt.toNat := ⟨_, rfl⟩
  rw [← en]
  have hn : n < 6 := by omega
  have e0 : ∀ j, j < 6 → kBd (16 + j) = (-1, 9) := by decide
  have e1 : ∀ j, j < 6 → kBd (10 + j) = (0, 99) := by decide
  have e2 : ∀ j, j < 6 → kBd (69 + j) = (0, 9) := by decide
  have e3 : ∀ j, j < 6 → kBd (63 + j) = (0, 15) := by decide
  have e5 : kBd 103 = (0, 6) := by decide
  have m1 : (-1 : Int32).toInt = -1 := by decide +kernel
  have m0 : (0 : Int32).toInt = 0 := by decide +kernel
  obtain ⟨⟨x1, x2⟩, y1, y2⟩ := h
  refine ⟨fun i hi => ?_, fun q hq => ?_, ?_⟩
  · unfold bldK
    by_cases c0 : i = 103
    · rw [if_pos c0, c0, e5]; exact ⟨by omega, by omega⟩
    · rw [if_neg c0]
      by_cases c1 : i = 16 + n
      · rw [if_pos c1, c1, e0 n hn]; exact ⟨by rw [m1]; decide, by rw [m1]; decide⟩
      · rw [if_neg c1]
        by_cases c2 : i = 10 + n
        · rw [if_pos c2, c2, e1 n hn]; exact ⟨by rw [m0]; decide, by rw [m0]; decide⟩
        · rw [if_neg c2]
          by_cases c3 : i = 69 + n
          · rw [if_pos c3, c3, e2 n hn]; exact ⟨by omega, y2⟩
          · rw [if_neg c3]
            by_cases c4 : i = 63 + n
            · rw [if_pos c4, c4, e3 n hn]; exact ⟨by omega, x2⟩
            · rw [if_neg c4]; exact hk.1 i hi
  · rw [bldK_m hn (i := 102) (by omega) (by omega) (by omega) (by omega) (by omega)]
    by_cases c : q = n
    · have e : bldK k n x y (16 + q) = -1 := by unfold bldK; rw [if_neg (by omega), if_pos (by omega)]
      rw [e, m1]; omega
    · rw [bldK_m hn (i := 16 + q) (by omega) (by omega) (by omega) (by omega) (by omega)]
      exact hk.2.1 q hq
  · rw [bldK_m hn (i := 106) (by omega) (by omega) (by omega) (by omega) (by omega), bldK_m hn (i := 105) (by omega) (by omega) (by omega) (by omega) (by omega)]
    exact hk.2.2
theorem sgtK_m {n : Nat} (hn : n < 8) {i : Nat} (h0 : ¬ i = 104) (h1 : ¬ i = 77 + 3 * n) (h2 : ¬ i = 76 + 3 * n) (h3 : ¬ i = 75 + 3 * n) : sgtK k n x y z i = k i := by
  unfold sgtK
  rw [if_neg h0, if_neg h1, if_neg h2, if_neg h3]
theorem kK_sgt (hk : kK k) (h : (0 ≤ x.toInt ∧ x.toInt ≤ 99) ∧ (0 ≤ y.toInt ∧ y.toInt ≤ 99) ∧ (0 ≤ z.toInt ∧ z.toInt ≤ 99)) (h9 : (k 104).toInt < 8) : kK (sgtK k (k 104).toInt.toNat x y z) := by
  have b := kK_r hk 104 0 8 (by decide) (by decide)
  have b1 := b.1
  have a := kad1 b (by decide) (by decide)
  obtain ⟨n, en⟩ : ∃ n : Nat, n = (k 104).toInt.toNat := ⟨_, rfl⟩
  rw [← en]
  have hn : n < 8 := by omega
  have e0 : ∀ j, j < 24 → kBd (75 + j) = (0, 99) := by decide
  have e5 : kBd 104 = (0, 8) := by decide
  refine ⟨fun i hi => ?_, fun q hq => ?_, ?_⟩
  · unfold sgtK
    by_cases c0 : i = 104
    · rw [if_pos c0, c0, e5]; exact ⟨by omega, by omega⟩
    · rw [if_neg c0]
      by_cases c1 : i = 77 + 3 * n
      · rw [if_pos c1, c1, show 77 + 3 * n = 75 + (2 + 3 * n) by omega, e0 _ (by omega)]; exact h.2.2
      · rw [if_neg c1]
        by_cases c2 : i = 76 + 3 * n
        · rw [if_pos c2, c2, show 76 + 3 * n = 75 + (1 + 3 * n) by omega, e0 _ (by omega)]; exact h.2.1
        · rw [if_neg c2]
          by_cases c3 : i = 75 + 3 * n
          · rw [if_pos c3, c3, e0 _ (by omega)]; exact h.1
          · rw [if_neg c3]; exact hk.1 i hi
  · rw [sgtK_m hn (i := 16 + q) (by omega) (by omega) (by omega) (by omega), sgtK_m hn (i := 102) (by omega) (by omega) (by omega) (by omega)]
    exact hk.2.1 q hq
  · rw [sgtK_m hn (i := 106) (by omega) (by omega) (by omega) (by omega), sgtK_m hn (i := 105) (by omega) (by omega) (by omega) (by omega)]
    exact hk.2.2
/-- one number is told anew -/
theorem kK_up {t : Nat} (hk : kK k) (ht : t < 107) (hv : kb (kBd t).1 y (kBd t).2) (n1 : 22 ≤ t) (n2 : ¬ t = 102) (n3 : ¬ t = 105) (h6 : t = 106 → y.toInt < (k 105).toInt) : kK (upd k t y) := by
  refine ⟨fun i hi => ?_, fun q hq => ?_, ?_⟩
  · by_cases c : i = t
    · rw [c, pk_us]; exact hv
    · rw [pk_un c]; exact hk.1 i hi
  · rw [pk_un (show 16 + q ≠ t by omega), pk_un (show (102 : Nat) ≠ t by omega)]
    exact hk.2.1 q hq
  · rw [pk_un (show (105 : Nat) ≠ t by omega)]
    by_cases c : t = 106
    · rw [c, pk_us]; exact h6 c
    · rw [pk_un (show (106 : Nat) ≠ t by omega)]; exact hk.2.2
theorem kK_trm (hk : kK k) (h : trO x y) : kK (upd k (trI x) y) := by
  have e1 : (1 : Int32).toInt.toNat = 1 := by decide +kernel
  have e2 : (2 : Int32).toInt.toNat = 2 := by decide +kernel
  have e3 : (3 : Int32).toInt.toNat = 3 := by decide +kernel
  have f0 : kBd 22 = (0, 1000000) := by decide
  have f1 : kBd 99 = (1, 99) := by decide
  have f2 : kBd 100 = (0, 10) := by decide
  have f3 : kBd 101 = (0, 9) := by decide
  unfold trI
  rcases h with ⟨h, h1, h2⟩ | ⟨h, h1, h2⟩ | ⟨h, h1, h2⟩ | ⟨h, h1, h2⟩
  · rw [if_pos h]
    exact kK_up hk (by decide) (by rw [f0]; exact ⟨h1, by omega⟩) (by decide) (by decide) (by decide) (fun q => absurd q (by decide))
  · rw [h, if_neg (by decide +kernel), e1]
    exact kK_up hk (by decide) (by rw [f1]; exact ⟨h1, h2⟩) (by decide) (by decide) (by decide) (fun q => absurd q (by decide))
  · rw [h, if_neg (by decide +kernel), e2]
    exact kK_up hk (by decide) (by rw [f2]; exact ⟨h1, h2⟩) (by decide) (by decide) (by decide) (fun q => absurd q (by decide))
  · rw [h, if_neg (by decide +kernel), e3]
    exact kK_up hk (by decide) (by rw [f3]; exact ⟨h1, h2⟩) (by decide) (by decide) (by decide) (fun q => absurd q (by decide))
theorem kK_frc (hk : kK k) (h : -1 ≤ x.toInt ∧ x.toInt ≤ (k 105).toInt - 1) : kK (upd k 106 x) := by
  have b := (kK_r hk 105 0 6 (by decide) (by decide)).2
  have f0 : kBd 106 = (-1, 5) := by decide
  exact kK_up hk (by decide) (by rw [f0]; exact ⟨h.1, by omega⟩) (by decide) (by decide) (by decide) (fun _ => by omega)
theorem kK_104 (hk : kK k) : kK (upd k 104 0) := by
  have m0 : (0 : Int32).toInt = 0 := by decide +kernel
  have f0 : kBd 104 = (0, 8) := by decide
  exact kK_up hk (by decide) (by rw [f0]; exact ⟨by rw [m0]; decide, by rw [m0]; decide⟩) (by decide) (by decide) (by decide) (fun q => absurd q (by decide))
theorem kK_105 (hk : kK k) (h6 : (k 105).toInt < 6) : kK (upd k 105 (k 105 + 1)) := by
  have b := kK_r hk 105 0 6 (by decide) (by decide)
  have b1 := b.1
  have a := kad1 b (by decide) (by decide)
  have f0 : kBd 105 = (0, 6) := by decide
  refine ⟨fun i hi => ?_, fun q hq => ?_, ?_⟩
  · by_cases c : i = 105
    · rw [c, pk_us, f0]; exact ⟨by omega, by omega⟩
    · rw [pk_un c]; exact hk.1 i hi
  · rw [pk_un (show 16 + q ≠ 105 by omega), pk_un (show (102 : Nat) ≠ 105 by decide)]
    exact hk.2.1 q hq
  · rw [pk_us, pk_un (show (106 : Nat) ≠ 105 by decide)]
    have := hk.2.2
    omega
/-- the state ahead, with what does not move as now -/
theorem kK_rb {k' s : Nat → Int32} (h : kK (rbF k s)) (hk : kK k') (e : k' 102 = k 102) : kK (rbF k' s) := by
  have g : ∀ i, i < 23 → rbF k' s i = rbF k s i := fun i hi => by unfold rbF; rw [if_pos hi, if_pos hi]
  have g2 : ∀ i, 23 ≤ i → rbF k' s i = k' i := fun i hi => by unfold rbF; rw [if_neg (by omega)]
  refine ⟨fun i hi => ?_, fun q hq => ?_, ?_⟩
  · by_cases c : i < 23
    · rw [g i c]; exact h.1 i hi
    · rw [g2 i (by omega)]; exact hk.1 i hi
  · have w := h.2.1 q hq
    have e2 : rbF k s 102 = k 102 := by unfold rbF; rw [if_neg (by omega)]
    rw [e2] at w
    rw [g (16 + q) (by omega), g2 102 (by omega), e]
    exact w
  · rw [g2 106 (by omega), g2 105 (by omega)]; exact hk.2.2
end KKX
/-- what can be undone: codes from 0 on, states within bounds -/
def pOK (k : Nat → Int32) (P : pS) : Prop := ∀ j, j < P.1 → 0 ≤ (P.2.1 j).toInt ∧ kK (rbF k (P.2.2 j)) ∧ (P.2.2 j 22).toInt ≤ 999
section POK
variable {k k' : Nat → Int32} {P : pS} {w : Int32} {DD : Nat → tE} {x y : Int32}
theorem pOK_no : pOK k (noP P) := fun j h => absurd h (Nat.not_lt_zero j)
theorem pOK_k (h : pOK k P) (hk : kK k') (e : k' 102 = k 102) : pOK k' P := fun j hj => ⟨(h j hj).1, kK_rb (h j hj).2.1 hk e, (h j hj).2.2⟩
theorem rb_self : rbF k k = k := by
  funext i
  unfold rbF
  split <;> rfl
theorem pOK_kp (h : pOK k P) (hk : kK k) (h22 : (k 22).toInt ≤ 999) (hw : 0 ≤ w.toInt) : pOK k (kpP P w k) := by
  intro j hj
  unfold kpP at *
  by_cases c : P.1 = 16
  · rw [if_pos c] at hj ⊢
    show 0 ≤ (if j = 15 then w else P.2.1 (j + 1)).toInt ∧ kK (rbF k (if j = 15 then k else P.2.2 (j + 1))) ∧ ((if j = 15 then k else P.2.2 (j + 1)) 22).toInt ≤ 999
    by_cases q : j = 15
    · rw [if_pos q, if_pos q]; exact ⟨hw, by rw [rb_self]; exact hk, h22⟩
    · rw [if_neg q, if_neg q]
      have hj : j < 16 := hj
      exact h (j + 1) (by omega)
  · rw [if_neg c] at hj ⊢
    show 0 ≤ (if j = P.1 then w else P.2.1 j).toInt ∧ kK (rbF k (if j = P.1 then k else P.2.2 j)) ∧ ((if j = P.1 then k else P.2.2 j) 22).toInt ≤ 999
    by_cases q : j = P.1
    · rw [if_pos q, if_pos q]; exact ⟨hw, by rw [rb_self]; exact hk, h22⟩
    · rw [if_neg q, if_neg q]
      have hj : j < P.1 + 1 := hj
      exact h j (by omega)
/-- a state that deeds leave -/
def dOK (k : Nat → Int32) (R : dR) : Prop := kK R.2.1 ∧ (∀ i, 23 ≤ i → R.2.1 i = k i) ∧ (R.2.1 22).toInt ≤ 999 ∧ pOK R.2.1 R.2.2
theorem dOK_i {R : dR} (g : dG k R) (h : (R.2.1 22).toInt ≤ 999) (hp : pOK k R.2.2) : dOK k R := ⟨g.1, g.2, h, pOK_k hp g.1 (g.2 102 (by decide))⟩
theorem kz0_ : (0 : Int32).toInt = 0 := by decide +kernel
theorem kz1_ : (1 : Int32).toInt = 1 := by decide +kernel
theorem kz2_ : (2 : Int32).toInt = 2 := by decide +kernel
theorem kz3_ : (3 : Int32).toInt = 3 := by decide +kernel
theorem sndF_p (hk : kK k) (h22 : (k 22).toInt ≤ 999) (hp : pOK k P) : dOK k (sndF DD k P x y) := by
  refine dOK_i (sndF_g hk) (snd_22 hk h22) ?_
  unfold sndF
  split
  · split
    · split
      · split
        · exact hp
        · exact pOK_kp hp hk h22 (by rw [kz0_]; decide)
      · exact hp
    · exact hp
  · exact hp
theorem rstF_p (hk : kK k) (h22 : (k 22).toInt ≤ 999) (hp : pOK k P) : dOK k (rstF k P x) := by
  refine dOK_i (rstF_g hk) (rst_22 hk h22) ?_
  unfold rstF
  split
  · split
    · exact hp
    · exact pOK_kp hp hk h22 (by rw [kz1_]; decide)
  · exact hp
theorem thrF_p (hk : kK k) (h22 : (k 22).toInt ≤ 999) (hp : pOK k P) : dOK k (thrF k P y) := by
  refine dOK_i (thrF_g hk) (thr_22 hk h22) ?_
  unfold thrF
  split
  · split
    · exact pOK_kp hp hk h22 (by rw [kz2_]; decide)
    · exact hp
  · exact hp
theorem ticF_p (hk : kK k) (h22 : (k 22).toInt ≤ 999) (hp : pOK k P) : dOK k (ticF DD k P) := by
  refine dOK_i (ticF_g hk) (tic_22 hk h22) ?_
  unfold ticF
  split
  · exact hp
  · exact pOK_kp hp hk h22 (by rw [kz3_]; decide)
theorem udF_p (hk : kK k) (h22 : (k 22).toInt ≤ 999) (hp : pOK k P) : dOK k (udF k P) := by
  unfold udF
  split
  · exact ⟨hk, fun _ _ => rfl, h22, hp⟩
  · rename_i c
    have w := hp (P.1 - 1) (by omega)
    have e : ∀ i, 23 ≤ i → rbF k (P.2.2 (P.1 - 1)) i = k i := fun i hi => by unfold rbF; rw [if_neg (by omega)]
    refine ⟨w.2.1, e, ?_, ?_⟩
    · show (rbF k (P.2.2 (P.1 - 1)) 22).toInt ≤ 999
      have e2 : rbF k (P.2.2 (P.1 - 1)) 22 = P.2.2 (P.1 - 1) 22 := by unfold rbF; rw [if_pos (by decide)]
      rw [e2]; exact w.2.2
    · refine pOK_k (k := k) (fun j hj => hp j ?_) w.2.1 (e 102 (by decide))
      have hj : j < P.1 - 1 := hj
      omega
end POK
theorem dX11_row_0 : decode cX11_row 0 = .ok (.aload_n 0, 1) := by decide +kernel
theorem dX11_row_1 : decode cX11_row 1 = .ok (.invokevirtual 198, 3) := by decide +kernel
theorem dX11_row_4 : decode cX11_row 4 = .ok (.istore_n 1, 1) := by decide +kernel
theorem dX11_row_5 : decode cX11_row 5 = .ok (.iload_n 1, 1) := by decide +kernel
theorem dX11_row_6 : decode cX11_row 6 = .ok (.ifCond .ne 10, 3) := by decide +kernel
theorem dX11_row_9 : decode cX11_row 9 = .ok (.aload_n 0, 1) := by decide +kernel
theorem dX11_row_10 : decode cX11_row 10 = .ok (.bipush (-6), 2) := by decide +kernel
theorem dX11_row_12 : decode cX11_row 12 = .ok (.invokevirtual 114, 3) := by decide +kernel
theorem dX11_row_15 : decode cX11_row 15 = .ok (.ireturn, 1) := by decide +kernel
theorem dX11_row_16 : decode cX11_row 16 = .ok (.iconst 0, 1) := by decide +kernel
theorem dX11_row_17 : decode cX11_row 17 = .ok (.istore_n 2, 1) := by decide +kernel
theorem dX11_row_18 : decode cX11_row 18 = .ok (.iconst 0, 1) := by decide +kernel
theorem dX11_row_19 : decode cX11_row 19 = .ok (.istore_n 3, 1) := by decide +kernel
theorem dX11_row_20 : decode cX11_row 20 = .ok (.iconst 0, 1) := by decide +kernel
theorem dX11_row_21 : decode cX11_row 21 = .ok (.istore 4, 2) := by decide +kernel
theorem dX11_row_23 : decode cX11_row 23 = .ok (.iload 4, 2) := by decide +kernel
theorem dX11_row_25 : decode cX11_row 25 = .ok (.iload_n 1, 1) := by decide +kernel
theorem dX11_row_26 : decode cX11_row 26 = .ok (.if_icmp .ge 35, 3) := by decide +kernel
theorem dX11_row_29 : decode cX11_row 29 = .ok (.iload 4, 2) := by decide +kernel
theorem dX11_row_31 : decode cX11_row 31 = .ok (.iconst 4, 1) := by decide +kernel
theorem dX11_row_32 : decode cX11_row 32 = .ok (.iadd, 1) := by decide +kernel
theorem dX11_row_33 : decode cX11_row 33 = .ok (.iload_n 1, 1) := by decide +kernel
theorem dX11_row_34 : decode cX11_row 34 = .ok (.if_icmp .gt 18, 3) := by decide +kernel
theorem dX11_row_37 : decode cX11_row 37 = .ok (.aload_n 0, 1) := by decide +kernel
theorem dX11_row_38 : decode cX11_row 38 = .ok (.iload 4, 2) := by decide +kernel
theorem dX11_row_40 : decode cX11_row 40 = .ok (.invokevirtual 201, 3) := by decide +kernel
theorem dX11_row_43 : decode cX11_row 43 = .ok (.ifCond .eq 9, 3) := by decide +kernel
theorem dX11_row_46 : decode cX11_row 46 = .ok (.iinc 2 1, 3) := by decide +kernel
theorem dX11_row_49 : decode cX11_row 49 = .ok (.goto 6, 3) := by decide +kernel
theorem dX11_row_52 : decode cX11_row 52 = .ok (.iinc 3 1, 3) := by decide +kernel
theorem dX11_row_55 : decode cX11_row 55 = .ok (.iinc 4 4, 3) := by decide +kernel
theorem dX11_row_58 : decode cX11_row 58 = .ok (.goto (-35), 3) := by decide +kernel
theorem dX11_row_61 : decode cX11_row 61 = .ok (.aload_n 0, 1) := by decide +kernel
theorem dX11_row_62 : decode cX11_row 62 = .ok (.iload_n 3, 1) := by decide +kernel
theorem dX11_row_63 : decode cX11_row 63 = .ok (.putfield 101, 3) := by decide +kernel
theorem dX11_row_66 : decode cX11_row 66 = .ok (.aload_n 0, 1) := by decide +kernel
theorem dX11_row_67 : decode cX11_row 67 = .ok (.getfield 19, 3) := by decide +kernel
theorem dX11_row_70 : decode cX11_row 70 = .ok (.invokevirtual 118, 3) := by decide +kernel
theorem dX11_row_73 : decode cX11_row 73 = .ok (.aload_n 0, 1) := by decide +kernel
theorem dX11_row_74 : decode cX11_row 74 = .ok (.iload_n 2, 1) := by decide +kernel
theorem dX11_row_75 : decode cX11_row 75 = .ok (.invokevirtual 121, 3) := by decide +kernel
theorem dX11_row_78 : decode cX11_row 78 = .ok (.ireturn, 1) := by decide +kernel
theorem dX11_addWrittenPart_0 : decode cX11_addWrittenPart 0 = .ok (.iload_n 1, 1) := by decide +kernel
theorem dX11_addWrittenPart_1 : decode cX11_addWrittenPart 1 = .ok (.ifCond .lt 14, 3) := by decide +kernel
theorem dX11_addWrittenPart_4 : decode cX11_addWrittenPart 4 = .ok (.iload_n 1, 1) := by decide +kernel
theorem dX11_addWrittenPart_5 : decode cX11_addWrittenPart 5 = .ok (.iconst 3, 1) := by decide +kernel
theorem dX11_addWrittenPart_6 : decode cX11_addWrittenPart 6 = .ok (.iadd, 1) := by decide +kernel
theorem dX11_addWrittenPart_7 : decode cX11_addWrittenPart 7 = .ok (.aload_n 0, 1) := by decide +kernel
theorem dX11_addWrittenPart_8 : decode cX11_addWrittenPart 8 = .ok (.getfield 86, 3) := by decide +kernel
theorem dX11_addWrittenPart_11 : decode cX11_addWrittenPart 11 = .ok (.arraylength, 1) := by decide +kernel
theorem dX11_addWrittenPart_12 : decode cX11_addWrittenPart 12 = .ok (.if_icmp .lt 5, 3) := by decide +kernel
theorem dX11_addWrittenPart_17 : decode cX11_addWrittenPart 17 = .ok (.aload_n 0, 1) := by decide +kernel
theorem dX11_addWrittenPart_18 : decode cX11_addWrittenPart 18 = .ok (.getfield 10, 3) := by decide +kernel
theorem dX11_addWrittenPart_21 : decode cX11_addWrittenPart 21 = .ok (.aload_n 0, 1) := by decide +kernel
theorem dX11_addWrittenPart_22 : decode cX11_addWrittenPart 22 = .ok (.getfield 86, 3) := by decide +kernel
theorem dX11_addWrittenPart_25 : decode cX11_addWrittenPart 25 = .ok (.iload_n 1, 1) := by decide +kernel
theorem dX11_addWrittenPart_26 : decode cX11_addWrittenPart 26 = .ok (.baload, 1) := by decide +kernel
theorem dX11_addWrittenPart_27 : decode cX11_addWrittenPart 27 = .ok (.sipush 255, 3) := by decide +kernel
theorem dX11_addWrittenPart_30 : decode cX11_addWrittenPart 30 = .ok (.iand, 1) := by decide +kernel
theorem dX11_addWrittenPart_31 : decode cX11_addWrittenPart 31 = .ok (.aload_n 0, 1) := by decide +kernel
theorem dX11_addWrittenPart_32 : decode cX11_addWrittenPart 32 = .ok (.getfield 86, 3) := by decide +kernel
theorem dX11_addWrittenPart_35 : decode cX11_addWrittenPart 35 = .ok (.iload_n 1, 1) := by decide +kernel
theorem dX11_addWrittenPart_36 : decode cX11_addWrittenPart 36 = .ok (.iconst 1, 1) := by decide +kernel
theorem dX11_addWrittenPart_37 : decode cX11_addWrittenPart 37 = .ok (.iadd, 1) := by decide +kernel
theorem dX11_addWrittenPart_38 : decode cX11_addWrittenPart 38 = .ok (.baload, 1) := by decide +kernel
theorem dX11_addWrittenPart_39 : decode cX11_addWrittenPart 39 = .ok (.sipush 255, 3) := by decide +kernel
theorem dX11_addWrittenPart_42 : decode cX11_addWrittenPart 42 = .ok (.iand, 1) := by decide +kernel
theorem dX11_addWrittenPart_43 : decode cX11_addWrittenPart 43 = .ok (.aload_n 0, 1) := by decide +kernel
theorem dX11_addWrittenPart_44 : decode cX11_addWrittenPart 44 = .ok (.getfield 86, 3) := by decide +kernel
theorem dX11_addWrittenPart_47 : decode cX11_addWrittenPart 47 = .ok (.iload_n 1, 1) := by decide +kernel
theorem dX11_addWrittenPart_48 : decode cX11_addWrittenPart 48 = .ok (.iconst 2, 1) := by decide +kernel
theorem dX11_addWrittenPart_49 : decode cX11_addWrittenPart 49 = .ok (.iadd, 1) := by decide +kernel
theorem dX11_addWrittenPart_50 : decode cX11_addWrittenPart 50 = .ok (.baload, 1) := by decide +kernel
theorem dX11_addWrittenPart_51 : decode cX11_addWrittenPart 51 = .ok (.sipush 255, 3) := by decide +kernel
theorem dX11_addWrittenPart_54 : decode cX11_addWrittenPart 54 = .ok (.iand, 1) := by decide +kernel
theorem dX11_addWrittenPart_55 : decode cX11_addWrittenPart 55 = .ok (.aload_n 0, 1) := by decide +kernel
theorem dX11_addWrittenPart_56 : decode cX11_addWrittenPart 56 = .ok (.getfield 86, 3) := by decide +kernel
theorem dX11_addWrittenPart_59 : decode cX11_addWrittenPart 59 = .ok (.iload_n 1, 1) := by decide +kernel
theorem dX11_addWrittenPart_60 : decode cX11_addWrittenPart 60 = .ok (.iconst 3, 1) := by decide +kernel
theorem dX11_addWrittenPart_61 : decode cX11_addWrittenPart 61 = .ok (.iadd, 1) := by decide +kernel
theorem dX11_addWrittenPart_62 : decode cX11_addWrittenPart 62 = .ok (.baload, 1) := by decide +kernel
theorem dX11_addWrittenPart_63 : decode cX11_addWrittenPart 63 = .ok (.sipush 255, 3) := by decide +kernel
theorem dX11_addWrittenPart_66 : decode cX11_addWrittenPart 66 = .ok (.iand, 1) := by decide +kernel
theorem dX11_addWrittenPart_67 : decode cX11_addWrittenPart 67 = .ok (.invokevirtual 110, 3) := by decide +kernel
theorem dX11_addWrittenPart_70 : decode cX11_addWrittenPart 70 = .ok (.istore_n 2, 1) := by decide +kernel
theorem dX11_addWrittenPart_71 : decode cX11_addWrittenPart 71 = .ok (.iload_n 2, 1) := by decide +kernel
theorem dX11_addWrittenPart_72 : decode cX11_addWrittenPart 72 = .ok (.ifCond .lt 7, 3) := by decide +kernel
theorem dX11_addWrittenPart_75 : decode cX11_addWrittenPart 75 = .ok (.iconst 1, 1) := by decide +kernel
theorem dX11_addWrittenPart_76 : decode cX11_addWrittenPart 76 = .ok (.goto 4, 3) := by decide +kernel
theorem dX11_addWrittenPart_79 : decode cX11_addWrittenPart 79 = .ok (.iconst 0, 1) := by decide +kernel
theorem dX11_addWrittenPart_80 : decode cX11_addWrittenPart 80 = .ok (.ireturn, 1) := by decide +kernel
theorem wt3_140 : Cond.code yX11_emptyTape cX11_emptyTape 2 (some .int) ∈ kG := kt3 140 rfl rfl
theorem wt3_144 : Cond.code yX11_addWrittenPart cX11_addWrittenPart 3 (some .boolean) ∈ kG := kt3 144 rfl rfl
theorem wt3_137 : Cond.methodLink RX11 198 yX11_emptyTape ∈ kG := kt3 137 rfl rfl
theorem wt3_139 : Cond.instanceMethod yX11_emptyTape ∈ kG := kt3 139 rfl rfl
theorem wp1_7 : Cond.selects RX11 yX11_emptyTape yX11_emptyTape ∈ kG := kp1 7 rfl rfl
theorem wt3_141 : Cond.methodLink RX11 201 yX11_addWrittenPart ∈ kG := kt3 141 rfl rfl
theorem wt3_143 : Cond.instanceMethod yX11_addWrittenPart ∈ kG := kt3 143 rfl rfl
theorem wp1_8 : Cond.selects RX11 yX11_addWrittenPart yX11_addWrittenPart ∈ kG := kp1 8 rfl rfl
set_option maxHeartbeats 4000000 in
set_option maxRecDepth 100000 in
theorem z_addWritten  (l : Launch) {D : va_G} {K : Nat → ClassId} (r : Nat → Nat) (f : Nat → Int32) (a : Nat → Nat → Int32) (g : xG) (tx tt : va_W) (hT : ∀ c ∈ tt, c ∈ tx) (hI : xI f a) (hG : gOK K g.2 tt) (fr : Int32) (bfr : kb 0 fr 396) (k : Nat → Int32) (hVw : sV 32 2 f a k) (hkk : kK k) (kx mm : Nat) (hp0 : fr.toInt = 4 * (kx : Int)) (hp1 : (f 32).toInt = (mm : Int)) : kIG l yX11_addWrittenPart (Cond.code yX11_addWrittenPart cX11_addWrittenPart 3 (some .boolean) :: kG) (rmD 2 0 0) D K [.ref (r 0), .int fr] (xX K r f a g tx) (fun v (u : xS) => kb 0 v 1 ∧ xI u.1 u.2.1 ∧ gOK K u.2.2.2 tt ∧ xEk ([32], [2, 3, 4, 5, 6], []) f a g u.1 u.2.1 u.2.2 ∧ ((v = 1 ∧ rOKx (a 93) kx mm ∧ (u.1 32).toInt = (mm : Int) + 1) ∨ (v = 0 ∧ ¬ rOKx (a 93) kx mm ∧ (u.1 32).toInt = (mm : Int))) ∧ ((v = 1 ∧ sV 32 2 u.1 u.2.1 (prtK k mm (a 93 (4 * kx) &&& 255) (a 93 (4 * kx + 1) &&& 255) (a 93 (4 * kx + 2) &&& 255) (a 93 (4 * kx + 3) &&& 255))) ∨ (v = 0 ∧ sV 32 2 u.1 u.2.1 k))) (fun u => xX K r u.1 u.2.1 u.2.2 tx) 0 0 := by
  refine kIE.of (cc := cX11_addWrittenPart) (maxL := 3) (ret := (some .boolean)) (by decide) rfl (Nat.le_of_ble_eq_true rfl) ?_
  intro p e s m below meth c A hx hb hr hml hown hts hlocks hnm hK hP hD hS hA hV ls hl
  have hE : xEk ([32], [2, 3, 4, 5, 6], []) f a g f a g := xEk_rf
  have hg : ∀ w ∈ kG, w.before _ s = true := fun w h => hts w (List.mem_cons_of_mem _ h)
  have hown : s.vm.findClass RX11 = some m.cls := hown
  have hl : lv_has ls 3 [(0, .ref (r 0)), (1, .int fr)] := hl
  have hI0 := hI
  refine lv_iload_n hx hb dX11_addWrittenPart_0 rfl (lv_at hl 1 rfl) ?_
  refine lv_if_lt (tgt := 15) hx hb dX11_addWrittenPart_1 (by decide) (fun c1 => ?_) (fun c1 => ?_)
  · have h2 := (kc_lt c1)
    exact kb_no (kr_lt1 h2 bfr kc_0 (H := (-1)) (by decide)) (by decide)
  · have h3 := (kc_nlt c1)
    refine lv_iload_n hx hb dX11_addWrittenPart_4 rfl (lv_at hl 1 rfl) ?_
    refine lv_iconst (v := 3) hx hb dX11_addWrittenPart_5 (by decide) ?_
    refine lv_iadd hx hb dX11_addWrittenPart_6 ?_
    refine lv_topi (fun t4 et4 => ?_)
    have b5 : kb 3 t4 399 := kb_eq et4 (kb_add bfr kc_3 (by decide) (by decide))
    have qt4 : t4.toInt = fr.toInt + 3 := by rw [et4]; exact kt_addc bfr kc_3 (by decide) (by decide)
    refine lv_aload_n hx hb dX11_addWrittenPart_7 rfl (lv_at hl 0 rfl) ?_
    refine va_get (D := D) (ci := 11) (v := .ref (r 93)) (C := RX11) (T := TX11) (N := 17) hx hb hg inC11 hown hK hP 0 rfl rfl 10 (by decide) (hg _ wt2_196) (fun _ h9 => h9) rfl dX11_addWrittenPart_8 ?_
    refine va_alen (v := 400) hx hb hK hP 93 1 rfl rfl rfl dX11_addWrittenPart_11 ?_
    refine lv_icmp_lt (tgt := 17) hx hb dX11_addWrittenPart_12 (by decide) (fun c6 => ?_) (fun c6 => ?_)
    · have h7 := (kc_lt c6)
      have b8 : kb 0 fr 396 := ⟨(bfr).1, by have w1 := (b5).2; omega⟩
      refine lv_aload_n hx hb dX11_addWrittenPart_17 rfl (lv_at hl 0 rfl) ?_
      refine va_get (D := D) (ci := 11) (v := .ref (r 1)) (C := RX11) (T := TX11) (N := 17) hx hb hg inC11 hown hK hP 0 rfl rfl 0 (by decide) (hg _ wt2_186) (fun _ h9 => h9) rfl dX11_addWrittenPart_18 ?_
      refine lv_aload_n hx hb dX11_addWrittenPart_21 rfl (lv_at hl 0 rfl) ?_
      refine va_get (D := D) (ci := 11) (v := .ref (r 93)) (C := RX11) (T := TX11) (N := 17) hx hb hg inC11 hown hK hP 0 rfl rfl 10 (by decide) (hg _ wt2_196) (fun _ h9 => h9) rfl dX11_addWrittenPart_22 ?_
      refine lv_iload_n hx hb dX11_addWrittenPart_25 rfl (lv_at hl 1 rfl) ?_
      refine va_bald hx hb hK hP 93 1 rfl rfl (kb_in b8 (by decide) (by decide)) dX11_addWrittenPart_26 ?_
      refine lv_topi (fun t9 et9 => ?_)
      refine lv_sipush (v := 255) hx hb dX11_addWrittenPart_27 (by decide) ?_
      refine lv_iand hx hb dX11_addWrittenPart_30 ?_
      refine lv_topi (fun t10 et10 => ?_)
      have b11 : kb 0 t10 255 := kb_eq et10 (kb_and 8 (by decide) (by decide))
      refine lv_aload_n hx hb dX11_addWrittenPart_31 rfl (lv_at hl 0 rfl) ?_
      refine va_get (D := D) (ci := 11) (v := .ref (r 93)) (C := RX11) (T := TX11) (N := 17) hx hb hg inC11 hown hK hP 0 rfl rfl 10 (by decide) (hg _ wt2_196) (fun _ h9 => h9) rfl dX11_addWrittenPart_32 ?_
      refine lv_iload_n hx hb dX11_addWrittenPart_35 rfl (lv_at hl 1 rfl) ?_
      refine lv_iconst (v := 1) hx hb dX11_addWrittenPart_36 (by decide) ?_
      refine lv_iadd hx hb dX11_addWrittenPart_37 ?_
      refine lv_topi (fun t12 et12 => ?_)
      have b13 : kb 1 t12 397 := kb_eq et12 (kb_add b8 kc_1 (by decide) (by decide))
      have qt12 : t12.toInt = fr.toInt + 1 := by rw [et12]; exact kt_addc b8 kc_1 (by decide) (by decide)
      refine va_bald hx hb hK hP 93 1 rfl rfl (kb_in b13 (by decide) (by decide)) dX11_addWrittenPart_38 ?_
      refine lv_topi (fun t14 et14 => ?_)
      refine lv_sipush (v := 255) hx hb dX11_addWrittenPart_39 (by decide) ?_
      refine lv_iand hx hb dX11_addWrittenPart_42 ?_
      refine lv_topi (fun t15 et15 => ?_)
      have b16 : kb 0 t15 255 := kb_eq et15 (kb_and 8 (by decide) (by decide))
      refine lv_aload_n hx hb dX11_addWrittenPart_43 rfl (lv_at hl 0 rfl) ?_
      refine va_get (D := D) (ci := 11) (v := .ref (r 93)) (C := RX11) (T := TX11) (N := 17) hx hb hg inC11 hown hK hP 0 rfl rfl 10 (by decide) (hg _ wt2_196) (fun _ h9 => h9) rfl dX11_addWrittenPart_44 ?_
      refine lv_iload_n hx hb dX11_addWrittenPart_47 rfl (lv_at hl 1 rfl) ?_
      refine lv_iconst (v := 2) hx hb dX11_addWrittenPart_48 (by decide) ?_
      refine lv_iadd hx hb dX11_addWrittenPart_49 ?_
      refine lv_topi (fun t17 et17 => ?_)
      have b18 : kb 2 t17 398 := kb_eq et17 (kb_add b8 kc_2 (by decide) (by decide))
      have qt17 : t17.toInt = fr.toInt + 2 := by rw [et17]; exact kt_addc b8 kc_2 (by decide) (by decide)
      refine va_bald hx hb hK hP 93 1 rfl rfl (kb_in b18 (by decide) (by decide)) dX11_addWrittenPart_50 ?_
      refine lv_topi (fun t19 et19 => ?_)
      refine lv_sipush (v := 255) hx hb dX11_addWrittenPart_51 (by decide) ?_
      refine lv_iand hx hb dX11_addWrittenPart_54 ?_
      refine lv_topi (fun t20 et20 => ?_)
      have b21 : kb 0 t20 255 := kb_eq et20 (kb_and 8 (by decide) (by decide))
      refine lv_aload_n hx hb dX11_addWrittenPart_55 rfl (lv_at hl 0 rfl) ?_
      refine va_get (D := D) (ci := 11) (v := .ref (r 93)) (C := RX11) (T := TX11) (N := 17) hx hb hg inC11 hown hK hP 0 rfl rfl 10 (by decide) (hg _ wt2_196) (fun _ h9 => h9) rfl dX11_addWrittenPart_56 ?_
      refine lv_iload_n hx hb dX11_addWrittenPart_59 rfl (lv_at hl 1 rfl) ?_
      refine lv_iconst (v := 3) hx hb dX11_addWrittenPart_60 (by decide) ?_
      refine lv_iadd hx hb dX11_addWrittenPart_61 ?_
      refine k_top (z := t4) et4.symm ?_
      refine va_bald hx hb hK hP 93 1 rfl rfl (kb_in b5 (by decide) (by decide)) dX11_addWrittenPart_62 ?_
      refine lv_topi (fun t22 et22 => ?_)
      refine lv_sipush (v := 255) hx hb dX11_addWrittenPart_63 (by decide) ?_
      refine lv_iand hx hb dX11_addWrittenPart_66 ?_
      refine lv_topi (fun t23 et23 => ?_)
      have b24 : kb 0 t23 255 := kb_eq et23 (kb_and 8 (by decide) (by decide))
      refine kIG.callW (As := [.int t10, .int t15, .int t20, .int t23]) (rest := []) ⟨hx, hb, hml, hown, hg⟩ (z_addPart l r f a g tx tt hT hI hG t10 t15 t20 t23  k hVw hkk ) (cwV 4 hg (kgV wt3_3 wt3_4 wt3_5 wt1_2 wt3_6) rfl rfl rfl (by decide +kernel) ⟨by decide, by decide⟩) hV hK hP hD hS hA (1) 7 rfl rfl rfl hl.1 rfl (Nat.le_of_ble_eq_true rfl) dX11_addWrittenPart_67 ⟨Nat.le_refl _, Nat.le_refl _⟩ (fun v26 u27 H locs hw25 hP hD hS => ?_)
      obtain ⟨f28, a29, g30⟩ := u27
      have hP : va_P D vwCl (xX K r f28 a29 g30 tx) H := hP
      have hD : va_D A (xX K r f28 a29 g30 tx) := hD
      have hI : xI f28 a29 := hw25.2.1
      have hG : gOK K g30.2 tt := hw25.2.2.1
      have eE31 : xEk ([32], [2, 3, 4, 5, 6], []) f a g f28 a29 g30 := hw25.2.2.2.1
      have hE : xEk ([32], [2, 3, 4, 5, 6], []) f a g f28 a29 g30 := xEk_tr hE eE31
      refine lv_istore_n (lv' := [(2, .int v26), (0, .ref (r 0)), (1, .int fr)]) hx hb dX11_addWrittenPart_70 rfl hl (by decide) rfl (fun ls hl => ?_)
      refine lv_iload_n hx hb dX11_addWrittenPart_71 rfl (lv_at hl 0 rfl) ?_
      refine lv_if_lt (tgt := 79) hx hb dX11_addWrittenPart_72 (by decide) (fun c32 => ?_) (fun c32 => ?_)
      · have h33 := (kc_lt c32)
        have b34 : kb (-2147483648) v26 (-1) := kr_lt1 h33 (kb_any v26) kc_0 (by decide)
        refine lv_iconst (v := 0) hx hb dX11_addWrittenPart_79 (by decide) ?_
        exact kI_ret (v := 0) hx hb hr hlocks (by decide +kernel) hK hS dX11_addWrittenPart_80 (f28, a29, g30) hP hD ⟨(kb_w kc_0 (by decide) (by decide)), hI, hG, hE, (Or.inr ⟨rfl, (fun q => by have w5 := bfr.1; have j0 : fr.toNatClampNeg = 4 * kx := (by have w1 := hp0; unfold Int32.toNatClampNeg; omega); have j1 : t12.toNatClampNeg = 4 * kx + 1 := (by have w1 := hp0; unfold Int32.toNatClampNeg; omega); have j2 : t17.toNatClampNeg = 4 * kx + 2 := (by have w1 := hp0; unfold Int32.toNatClampNeg; omega); have j3 : t4.toNatClampNeg = 4 * kx + 3 := (by have w1 := hp0; unfold Int32.toNatClampNeg; omega); have jn : f 32 = nI mm := Int32.toInt_inj.mp (by rw [nI_toInt (by have w1 := hp1; have w2 := (fI_at hI0.1 32 (by decide) (by decide) : kb 0 (f 32) 10).2; omega)]; exact hp1); refine (wrt_0 (show prtP (okPx t10 t15 t20 t23 (f 32)) v26 (f 32) (f28 32) from hw25.2.2.2.2.1) (by have w9 := kc_lt c32; have z0 : (0 : Int32).toInt = 0 := (by decide +kernel); omega) (by have w1 := hp1; omega)).1 ⟨by have w1 := hp1; have w2 := q.1; omega, ?_⟩; rw [et10, et15, et20, et23, et9, et14, et19, et22, j0, j1, j2, j3, jn]; exact q.2), (by show (f28 32).toInt = (mm : Int); have w1 := hp1; have w2 := congrArg Int32.toInt (wrt_0 (show prtP (okPx t10 t15 t20 t23 (f 32)) v26 (f 32) (f28 32) from hw25.2.2.2.2.1) (by have w9 := kc_lt c32; have z0 : (0 : Int32).toInt = 0 := (by decide +kernel); omega) (by have w1 := hp1; omega)).2; omega)⟩), (Or.inr ⟨rfl, (hw25.2.2.2.2.2).elim (fun h => h.2) (fun h => absurd (by have w9 := kc_lt c32; have z0 : (0 : Int32).toInt = 0 := (by decide +kernel); omega) h.1)⟩)⟩
      · have h35 := (kc_nlt c32)
        have b36 : kb 0 v26 2147483647 := kr_le2 h35 kc_0 (kb_any v26)
        refine lv_iconst (v := 1) hx hb dX11_addWrittenPart_75 (by decide) ?_
        refine lv_goto (tgt := 80) hx hb dX11_addWrittenPart_76 (by decide) ?_
        exact kI_ret (v := 1) hx hb hr hlocks (by decide +kernel) hK hS dX11_addWrittenPart_80 (f28, a29, g30) hP hD ⟨(kb_w kc_1 (by decide) (by decide)), hI, hG, hE, (Or.inl ⟨rfl, (by have w5 := bfr.1; have j0 : fr.toNatClampNeg = 4 * kx := (by have w1 := hp0; unfold Int32.toNatClampNeg; omega); have j1 : t12.toNatClampNeg = 4 * kx + 1 := (by have w1 := hp0; unfold Int32.toNatClampNeg; omega); have j2 : t17.toNatClampNeg = 4 * kx + 2 := (by have w1 := hp0; unfold Int32.toNatClampNeg; omega); have j3 : t4.toNatClampNeg = 4 * kx + 3 := (by have w1 := hp0; unfold Int32.toNatClampNeg; omega); have jn : f 32 = nI mm := Int32.toInt_inj.mp (by rw [nI_toInt (by have w1 := hp1; have w2 := (fI_at hI0.1 32 (by decide) (by decide) : kb 0 (f 32) 10).2; omega)]; exact hp1); obtain ⟨h1, h2, h3⟩ := wrt_1 (show prtP (okPx t10 t15 t20 t23 (f 32)) v26 (f 32) (f28 32) from hw25.2.2.2.2.1) (by have w9 := kc_nlt c32; have z0 : (0 : Int32).toInt = 0 := (by decide +kernel); omega); rw [et10, et15, et20, et23, et9, et14, et19, et22, j0, j1, j2, j3, jn] at h1; exact ⟨by have w1 := hp1; omega, h1⟩), (by show (f28 32).toInt = (mm : Int) + 1; have w1 := hp1; have w2 := (wrt_1 (show prtP (okPx t10 t15 t20 t23 (f 32)) v26 (f 32) (f28 32) from hw25.2.2.2.2.1) (by have w9 := kc_nlt c32; have z0 : (0 : Int32).toInt = 0 := (by decide +kernel); omega)).2.2; omega)⟩), (Or.inl ⟨rfl, by have w5 := bfr.1; have j0 : fr.toNatClampNeg = 4 * kx := (by have w1 := hp0; unfold Int32.toNatClampNeg; omega); have j1 : t12.toNatClampNeg = 4 * kx + 1 := (by have w1 := hp0; unfold Int32.toNatClampNeg; omega); have j2 : t17.toNatClampNeg = 4 * kx + 2 := (by have w1 := hp0; unfold Int32.toNatClampNeg; omega); have j3 : t4.toNatClampNeg = 4 * kx + 3 := (by have w1 := hp0; unfold Int32.toNatClampNeg; omega);have w8 := (hw25.2.2.2.2.2).elim (fun h => absurd h.1 (by have w9 := kc_nlt c32; have z0 : (0 : Int32).toInt = 0 := (by decide +kernel); omega)) (fun h => h.2); have w7 : (k 102).toInt.toNat = mm := (by have w1 := sv_parts hVw; have w2 := hp1; rw [w1] at w2; omega); rw [et10, et15, et20, et23, et9, et14, et19, et22, j0, j1, j2, j3, w7] at w8; exact w8⟩)⟩
    · have h37 := (kc_nlt c6)
      exact kb_no (kr_le1 h37 kc_400 b5) (by decide)
set_option maxHeartbeats 4000000 in
set_option maxRecDepth 100000 in
theorem z_row  (l : Launch) {D : va_G} {K : Nat → ClassId} (r : Nat → Nat) (f : Nat → Int32) (a : Nat → Nat → Int32) (g : xG) (tx tt : va_W) (hT : ∀ c ∈ tt, c ∈ tx) (hI : xI f a) (hG : gOK K g.2 tt)   (k : Nat → Int32) (hVw : sV 32 2 f a k) (hkk : kK k) (P : pS) (hp0 : xPs (f 704) (f 705) (a 23) P (kBn k)) : kIG l yX11_row (Cond.code yX11_row cX11_row 5 (some .int) :: kG) (rmD 3 0 0) D K [.ref (r 0)] (xX K r f a g tx) (fun v (u : xS) => kb (-2147483648) v 2147483647 ∧ xI u.1 u.2.1 ∧ gOK K u.2.2.2 tt ∧ xEk ([12, 14, 16, 32, 704, 705, 2565, 2566, 2786], [2, 3, 4, 5, 6, 81, 94], []) f a g u.1 u.2.1 u.2.2 ∧ u.1 12 = 0 ∧ rowP (rOKx (a 93)) (f 12) v (f 32) (u.1 32) (f 14) (u.1 14) ∧ ((f 12 = 0 ∧ v = -6 ∧ u.1 16 = -6 ∧ (∀ R1, rfE (a 94) R1 → rfE (u.2.1 94) (rfS (-6 : Int32).toInt R1)) ∧ sV 32 2 u.1 u.2.1 k ∧ xPs (u.1 704) (u.1 705) (u.2.1 23) P (kBn k)) ∨ (¬ f 12 = 0 ∧ u.1 16 = 0 ∧ (∀ R1, rfE (a 94) R1 → rfE (u.2.1 94) R1) ∧ ∃ k9 : Nat → Int32, rwX (a 93) k ((f 12).toInt.toNat / 4) k9 ∧ kK k9 ∧ sV 32 2 u.1 u.2.1 k9 ∧ xPs (u.1 704) (u.1 705) (u.2.1 23) (noP P) (kBn k)))) (fun u => xX K r u.1 u.2.1 u.2.2 tx) 0 0 := by
  refine kIE.of (cc := cX11_row) (maxL := 5) (ret := (some .int)) (by decide) rfl (Nat.le_of_ble_eq_true rfl) ?_
  intro p e s m below meth c A hx hb hr hml hown hts hlocks hnm hK hP hD hS hA hV ls hl
  have hE : xEk ([12, 14, 16, 32, 704, 705, 2565, 2566, 2786], [2, 3, 4, 5, 6, 81, 94], []) f a g f a g := xEk_rf
  have hg : ∀ w ∈ kG, w.before _ s = true := fun w h => hts w (List.mem_cons_of_mem _ h)
  have hown : s.vm.findClass RX11 = some m.cls := hown
  have hl : lv_has ls 5 [(0, .ref (r 0))] := hl
  obtain ⟨c12, ec12⟩ : ∃ z : Int32, z = f 12 := ⟨_, rfl⟩
  have b1 : kb 0 c12 400 := kb_eq ec12 (fI_at hI.1 12 (by decide) (by decide))
  obtain ⟨c32, ec32⟩ : ∃ z : Int32, z = f 32 := ⟨_, rfl⟩
  have b2 : kb 0 c32 10 := kb_eq ec32 (fI_at hI.1 32 (by decide) (by decide))
  obtain ⟨c14, ec14⟩ : ∃ z : Int32, z = f 14 := ⟨_, rfl⟩
  obtain ⟨T, hTT⟩ : ∃ z : Nat, z = (f 12).toInt.toNat := ⟨_, rfl⟩
  obtain ⟨N0, hN0⟩ : ∃ z : Nat, z = (f 32).toInt.toNat := ⟨_, rfl⟩
  have hTi : (T : Int) = c12.toInt := by have w1 := (b1).1; rw [hTT, ← ec12]; omega
  have hNi : (N0 : Int) = c32.toInt := by have w1 := (b2).1; rw [hN0, ← ec32]; omega
  have hT4 : T ≤ 400 := by have w1 := (b1).2; omega
  refine lv_aload_n hx hb dX11_row_0 rfl (lv_at hl 0 rfl) ?_
  refine kIG.callW (As := []) (rest := []) ⟨hx, hb, hml, hown, hg⟩ (x_11_emptyTape l r f a g tx tt hT hI hG   ) (cwV 0 hg (kgV wt3_137 wt3_139 wp1_7 wt1_1 wt3_140) rfl rfl rfl (by decide +kernel) ⟨by decide, by decide⟩) hV hK hP hD hS hA (0) 11 rfl rfl rfl hl.1 rfl (Nat.le_of_ble_eq_true rfl) dX11_row_1 ⟨Nat.le_refl _, Nat.le_refl _⟩ (fun v4 u5 H locs hw3 hP hD hS => ?_)
  obtain ⟨f6, a7, g8⟩ := u5
  have hP : va_P D vwCl (xX K r f6 a7 g8 tx) H := hP
  have hD : va_D A (xX K r f6 a7 g8 tx) := hD
  have hI : xI f6 a7 := hw3.2.1
  have hG : gOK K g8.2 tt := hw3.2.2.1
  have eE9 : xEk ([12], [], []) f a g f6 a7 g8 := hw3.2.2.2.1
  have hE : xEk ([12, 14, 16, 32, 704, 705, 2565, 2566, 2786], [2, 3, 4, 5, 6, 81, 94], []) f a g f6 a7 g8 := xEk_tr hE (xEk_w (by decide +kernel) eE9)
  refine k_top (z := c12) (hw3.2.2.2.2.2.trans ec12.symm) ?_
  have hk12 : f6 12 = 0 := hw3.2.2.2.2.1
  have hk0 := hk12
  refine lv_istore_n (lv' := [(1, .int c12), (0, .ref (r 0))]) hx hb dX11_row_4 rfl hl (by decide) rfl (fun ls hl => ?_)
  refine lv_iload_n hx hb dX11_row_5 rfl (lv_at hl 0 rfl) ?_
  refine lv_if_ne (tgt := 16) hx hb dX11_row_6 (by decide) (fun c10 => ?_) (fun c10 => ?_)
  · have b11 : kb 1 c12 400 := kr_nel c10 b1 kc_0 (by decide)
    refine lv_iconst (v := 0) hx hb dX11_row_16 (by decide) ?_
    refine lv_istore_n (lv' := [(2, .int 0), (1, .int c12), (0, .ref (r 0))]) hx hb dX11_row_17 rfl hl (by decide) rfl (fun ls hl => ?_)
    refine lv_iconst (v := 0) hx hb dX11_row_18 (by decide) ?_
    refine lv_istore_n (lv' := [(3, .int 0), (2, .int 0), (1, .int c12), (0, .ref (r 0))]) hx hb dX11_row_19 rfl hl (by decide) rfl (fun ls hl => ?_)
    refine lv_iconst (v := 0) hx hb dX11_row_20 (by decide) ?_
    refine lv_istore (lv' := [(4, .int 0), (3, .int 0), (2, .int 0), (1, .int c12), (0, .ref (r 0))]) hx hb dX11_row_21 hl (by decide) rfl (fun ls hl => ?_)
    have lp18 : ∀ (n19 : Nat) (k_ : Nat) (q : Nat) (mm : Nat) (kj : Nat → Int32) (F15 : Nat → Int32) (B16 : Nat → Nat → Int32) (G17 : xG) (H : Heap) (locs : List Loc) (ls : Array Slot) (y12 : Int32) (y13 : Int32) (y14 : Int32), ((101 : Int) < (k_ : Int) + (n19 : Int)) → (xI F15 B16) → (gOK K G17.2 tt) → (xEk ([12, 14, 16, 32, 704, 705, 2565, 2566, 2786], [2, 3, 4, 5, 6, 81, 94], []) f a g F15 B16 G17) → (F15 12 = 0) → (kb 0 y12 403) → (rSt (rOKx (a 93)) N0 q mm) → ((F15 32).toInt = (mm : Int)) → (y14.toInt = (mm : Int) - (N0 : Int)) → (y13.toInt = (k_ : Int) - ((mm : Int) - (N0 : Int))) → (y12.toInt = 4 * (k_ : Int)) → (k_ ≤ 101 ∧ N0 ≤ mm ∧ mm ≤ 10 ∧ q ≤ k_ ∧ 4 * q ≤ T ∧ (q = k_ ∨ T < 4 * q + 4) ∧ 4 * k_ < T + 4) → (B16 93 = a 93) → (kK kj) → (sV 32 2 F15 B16 kj) → (rwX (a 93) k q kj) → (xPs (F15 704) (F15 705) (B16 23) P (kBn k)) → (B16 94 = a 94) → va_P D vwCl (xX K r F15 B16 G17 tx) H → va_D A (xX K r F15 B16 G17 tx) → va_S A s.heap H locs → lv_has ls 5 [(4, .int y12), (3, .int y13), (2, .int y14), (1, .int c12), (0, .ref (r 0))] → W p l e (rmD 3 0 0) s m ([.ref (r 0)] : List Value).toArray below meth c H locs 0 0 (kQi D (tysK K) (fun v (u : xS) => kb (-2147483648) v 2147483647 ∧ xI u.1 u.2.1 ∧ gOK K u.2.2.2 tt ∧ xEk ([12, 14, 16, 32, 704, 705, 2565, 2566, 2786], [2, 3, 4, 5, 6, 81, 94], []) f a g u.1 u.2.1 u.2.2 ∧ u.1 12 = 0 ∧ rowP (rOKx (a 93)) (f 12) v (f 32) (u.1 32) (f 14) (u.1 14) ∧ ((f 12 = 0 ∧ v = -6 ∧ u.1 16 = -6 ∧ (∀ R1, rfE (a 94) R1 → rfE (u.2.1 94) (rfS (-6 : Int32).toInt R1)) ∧ sV 32 2 u.1 u.2.1 k ∧ xPs (u.1 704) (u.1 705) (u.2.1 23) P (kBn k)) ∨ (¬ f 12 = 0 ∧ u.1 16 = 0 ∧ (∀ R1, rfE (a 94) R1 → rfE (u.2.1 94) R1) ∧ ∃ k9 : Nat → Int32, rwX (a 93) k ((f 12).toInt.toNat / 4) k9 ∧ kK k9 ∧ sV 32 2 u.1 u.2.1 k9 ∧ xPs (u.1 704) (u.1 705) (u.2.1 23) (noP P) (kBn k)))) (fun u => xX K r u.1 u.2.1 u.2.2 tx) A below ([.ref (r 0)] : List Value).toArray s 0 0) (F0 m 23 ls []) := by
      intro n19
      induction n19 with
      | zero =>
        intro k_ q mm kj F15 B16 G17  H locs ls y12 y13 y14 hmlp18 hI hG hE hk0 b20 hvlp18_0 hvlp18_1 hvlp18_2 hvlp18_3 hvlp18_4 hvlp18_5 hvlp18_6 hvlp18_7 hvlp18_8 hvlp18_9 hvlp18_10 hvlp18_11 hP hD hS hl
        exact (by have w1 := hmlp18; have w2 := hvlp18_5; omega : False).elim
      | succ n19 ihlp18 =>
        intro k_ q mm kj F15 B16 G17  H locs ls y12 y13 y14 hmlp18 hI hG hE hk0 b20 hvlp18_0 hvlp18_1 hvlp18_2 hvlp18_3 hvlp18_4 hvlp18_5 hvlp18_6 hvlp18_7 hvlp18_8 hvlp18_9 hvlp18_10 hvlp18_11 hP hD hS hl
        refine lv_iload hx hb dX11_row_23 (lv_at hl 0 rfl) ?_
        obtain ⟨cF, ecF⟩ : ∃ z : Int32, z = F15 32 := ⟨_, rfl⟩
        have hcF : cF.toInt = (mm : Int) := by rw [ecF]; exact hvlp18_1
        have b21 : kb 0 y14 10 := ⟨by have w1 := hvlp18_2; have w2 := hvlp18_5; omega, by have w1 := hvlp18_2; have w2 := hvlp18_5; omega⟩
        have b22 : kb (-10) y13 200 := ⟨by have w1 := hvlp18_3; have w2 := hvlp18_5; omega, by have w1 := hvlp18_3; have w2 := hvlp18_5; omega⟩
        refine lv_iload_n hx hb dX11_row_25 rfl (lv_at hl 3 rfl) ?_
        refine lv_icmp_ge (tgt := 61) hx hb dX11_row_26 (by decide) (fun c23 => ?_) (fun c23 => ?_)
        · have h24 := (kc_le c23)
          have b25 : kb 1 y12 403 := kr_le2 h24 b11 b20
          have hrex := kc_le c23
          refine lv_aload_n hx hb dX11_row_61 rfl (lv_at hl 4 rfl) ?_
          refine lv_iload_n hx hb dX11_row_62 rfl (lv_at hl 1 rfl) ?_
          refine va_put (D := D) (ci := 11) (v := .int y13) (ty := .int) (C := RX11) (T := TX11) (N := 17) hx hb hg inC11 tyX11 tyX11_ok nmX11 hown hK hP hD hS 0 rfl rfl 14 (by decide) (hg _ wt2_200) (fun _ h9 => h9) rfl (by decide +kernel) rfl rfl (Nat.le_of_ble_eq_true rfl) dX11_row_63 (fun H locs hP hD hS => ?_)
          have hP : va_P D vwCl (xX K r (upd F15 14 y13) B16 G17 tx) H := hP
          have hD : va_D A (xX K r (upd F15 14 y13) B16 G17 tx) := hD
          refine k_gen (P := fun z => va_P D vwCl (xX K r z B16 G17 tx) H ∧ va_D A (xX K r z B16 G17 tx) ∧ (xI z B16) ∧ (gOK K G17.2 tt) ∧ (xEk ([12, 14, 16, 32, 704, 705, 2565, 2566, 2786], [2, 3, 4, 5, 6, 81, 94], []) f a g z B16 G17) ∧ (z 12 = 0)) (upd F15 14 y13) ⟨hP, hD, (xI_f hI (fI_st hI.1 14 (kb_any _) (by decide) (by decide))), hG, (xEk_f hE rfl), ((pk_un (by decide)).trans hk0)⟩ (fun f_26 ef_26 hq => ?_)
          obtain ⟨hP, hD, hI, hG, hE, hk0⟩ := hq
          refine lv_aload_n hx hb dX11_row_66 rfl (lv_at hl 4 rfl) ?_
          refine va_get (D := D) (ci := 11) (v := .ref (r 22)) (C := RX11) (T := TX11) (N := 17) hx hb hg inC11 hown hK hP 0 rfl rfl 1 (by decide) (hg _ wt2_187) (fun _ h9 => h9) rfl dX11_row_67 ?_
          refine kVG.callW (As := []) (rest := []) ⟨hx, hb, hml, hown, hg⟩ (z_pclear l r f_26 B16 G17 tx tt hT hI hG   ) (cwV 0 hg (kgV wt3_11 wt3_12 wt3_13 wt1_4 wt3_14) rfl rfl rfl (by decide +kernel) ⟨by decide, by decide⟩) hV hK hP hD hS hA (22) 2 rfl rfl rfl hl.1 rfl (Nat.le_of_ble_eq_true rfl) dX11_row_70 ⟨Nat.le_refl _, Nat.le_refl _⟩ (fun u29 H locs hw27 hP hD hS => ?_)
          obtain ⟨f30, a31, g32⟩ := u29
          have hP : va_P D vwCl (xX K r f30 a31 g32 tx) H := hP
          have hD : va_D A (xX K r f30 a31 g32 tx) := hD
          have hI : xI f30 a31 := hw27.1
          have hG : gOK K g32.2 tt := hw27.2.1
          have eE33 : xEk ([704, 705], [], []) f_26 B16 G17 f30 a31 g32 := hw27.2.2.1
          have hE : xEk ([12, 14, 16, 32, 704, 705, 2565, 2566, 2786], [2, 3, 4, 5, 6, 81, 94], []) f a g f30 a31 g32 := xEk_tr hE (xEk_w (by decide +kernel) eE33)
          have hk0 : f30 12 = 0 := (eE33.1 12 rfl).trans hk0
          refine lv_aload_n hx hb dX11_row_73 rfl (lv_at hl 4 rfl) ?_
          refine lv_iload_n hx hb dX11_row_74 rfl (lv_at hl 2 rfl) ?_
          refine kIG.callW (As := [.int y14]) (rest := []) ⟨hx, hb, hml, hown, hg⟩ (z_agreeChanged l r f30 a31 g32 tx tt hT hI hG y14  ) (cwV 1 hg (kgV wt3_15 wt3_17 wp1_1 wt1_1 wt3_18) rfl rfl rfl (by decide +kernel) ⟨by decide, by decide⟩) hV hK hP hD hS hA (0) 11 rfl rfl rfl hl.1 rfl (Nat.le_of_ble_eq_true rfl) dX11_row_75 ⟨Nat.le_refl _, Nat.le_refl _⟩ (fun v35 u36 H locs hw34 hP hD hS => ?_)
          obtain ⟨f37, a38, g39⟩ := u36
          have hP : va_P D vwCl (xX K r f37 a38 g39 tx) H := hP
          have hD : va_D A (xX K r f37 a38 g39 tx) := hD
          have hI : xI f37 a38 := hw34.2.1
          have hG : gOK K g39.2 tt := hw34.2.2.1
          have eE40 : xEk ([16, 2565, 2566, 2786], [81], []) f30 a31 g32 f37 a38 g39 := hw34.2.2.2.1
          have hE : xEk ([12, 14, 16, 32, 704, 705, 2565, 2566, 2786], [2, 3, 4, 5, 6, 81, 94], []) f a g f37 a38 g39 := xEk_tr hE (xEk_w (by decide +kernel) eE40)
          have hk0 : f37 12 = 0 := (eE40.1 12 rfl).trans hk0
          refine k_top (z := y14) hw34.2.2.2.2.1 ?_
          exact kI_ret (v := y14) hx hb hr hlocks rfl hK hS dX11_row_78 (f37, a38, g39) hP hD ⟨(kb_w b21 (by decide) (by decide)), hI, hG, hE, hk0, (Or.inr ⟨(fun z => c10 (ec12.trans z)), mm, (by rw [← hN0, ← hTT, show T / 4 = q from (by have w1 := hrex; have w2 := hvlp18_4; have w3 := hvlp18_5; omega)]; exact hvlp18_0), (by rw [← ec32, ← hNi]; exact hvlp18_2), (by show (f37 32).toInt = (mm : Int); have e1 := congrArg Int32.toInt (((eE40.1 32 rfl).trans ((eE33.1 32 rfl).trans ((show f_26 32 = F15 32 from by rw [← ef_26]; rfl).trans ecF.symm)))); omega), (by show (f37 14).toInt + (mm : Int) - (f 32).toInt = _; rw [← hTT, ← ec32]; have e1 := congrArg Int32.toInt (((eE40.1 14 rfl).trans ((eE33.1 14 rfl).trans (show f_26 14 = y13 from by rw [← ef_26]; rfl)))); have w1 := hrex; have w2 := hvlp18_3; have w3 := hvlp18_4; have w4 := hvlp18_5; omega)⟩), (Or.inr ⟨(fun z => c10 (ec12.trans z)), hw34.2.2.2.2.2, (fun R1 hR => by show rfE (a38 94) R1; rw [show a38 94 = a 94 from (((eE40.2.1 94 rfl).trans (eE33.2.1 94 rfl))).trans hvlp18_11]; exact hR), kj, (by rw [← hTT, show T / 4 = q from (by have w1 := hrex; have w2 := hvlp18_4; have w3 := hvlp18_5; omega)]; exact hvlp18_9), hvlp18_7, (show sV 32 2 f37 a38 kj from sV_cg hvlp18_8 ((eE40.1 32 rfl).trans ((eE33.1 32 rfl).trans (show f_26 32 = F15 32 from by rw [← ef_26]; rfl))) ((eE40.1 38 rfl).trans ((eE33.1 38 rfl).trans (show f_26 38 = F15 38 from by rw [← ef_26]; rfl))) ((eE40.1 44 rfl).trans ((eE33.1 44 rfl).trans (show f_26 44 = F15 44 from by rw [← ef_26]; rfl))) ((eE40.1 49 rfl).trans ((eE33.1 49 rfl).trans (show f_26 49 = F15 49 from by rw [← ef_26]; rfl))) ((eE40.1 50 rfl).trans ((eE33.1 50 rfl).trans (show f_26 50 = F15 50 from by rw [← ef_26]; rfl))) (fun j hj => by rcases (show j = 0 ∨ j = 1 ∨ j = 2 ∨ j = 3 ∨ j = 4 ∨ j = 5 ∨ j = 6 ∨ j = 7 ∨ j = 8 ∨ j = 9 ∨ j = 10 ∨ j = 11 ∨ j = 12 by omega) with e | e | e | e | e | e | e | e | e | e | e | e | e; subst e; exact ((eE40.2.1 2 rfl).trans (eE33.2.1 2 rfl)); subst e; exact ((eE40.2.1 3 rfl).trans (eE33.2.1 3 rfl)); subst e; exact ((eE40.2.1 4 rfl).trans (eE33.2.1 4 rfl)); subst e; exact ((eE40.2.1 5 rfl).trans (eE33.2.1 5 rfl)); subst e; exact ((eE40.2.1 6 rfl).trans (eE33.2.1 6 rfl)); subst e; exact ((eE40.2.1 7 rfl).trans (eE33.2.1 7 rfl)); subst e; exact ((eE40.2.1 8 rfl).trans (eE33.2.1 8 rfl)); subst e; exact ((eE40.2.1 9 rfl).trans (eE33.2.1 9 rfl)); subst e; exact ((eE40.2.1 10 rfl).trans (eE33.2.1 10 rfl)); subst e; exact ((eE40.2.1 11 rfl).trans (eE33.2.1 11 rfl)); subst e; exact ((eE40.2.1 12 rfl).trans (eE33.2.1 12 rfl)); subst e; exact ((eE40.2.1 13 rfl).trans (eE33.2.1 13 rfl)); subst e; exact ((eE40.2.1 14 rfl).trans (eE33.2.1 14 rfl)))), xP_no ((eE40.1 704 rfl).trans hw27.2.2.2.1) ((eE40.1 705 rfl).trans hw27.2.2.2.2)⟩)⟩
        · have h41 := (kc_nle c23)
          have b42 : kb 0 y12 399 := kr_lt1 h41 b20 b11 (by decide)
          have hlt := kc_nle c23
          refine lv_iload hx hb dX11_row_29 (lv_at hl 0 rfl) ?_
          refine lv_iconst (v := 4) hx hb dX11_row_31 (by decide) ?_
          refine lv_iadd hx hb dX11_row_32 ?_
          refine lv_topi (fun t43 et43 => ?_)
          have b44 : kb 4 t43 403 := kb_eq et43 (kb_add b42 kc_4 (by decide) (by decide))
          have qt43 : t43.toInt = y12.toInt + 4 := by rw [et43]; exact kt_addc b42 kc_4 (by decide) (by decide)
          refine lv_iload_n hx hb dX11_row_33 rfl (lv_at hl 3 rfl) ?_
          refine lv_icmp_gt (tgt := 52) hx hb dX11_row_34 (by decide) (fun c45 => ?_) (fun c45 => ?_)
          · have h46 := (kc_lt c45)
            have hbig := kc_lt c45
            obtain ⟨t47, et47⟩ : ∃ z : Int32, z = y13 + Int32.ofInt 1 := ⟨_, rfl⟩
            have qt47 : t47.toInt = y13.toInt + 1 := by rw [et47]; exact km_inc b22 (by decide) (by decide)
            have b48 : kb (-9) t47 201 := kb_inc (k := 1) qt47 b22
            refine lv_iinc (v := t47) (lv' := [(3, .int t47), (4, .int y12), (2, .int y14), (1, .int c12), (0, .ref (r 0))]) hx hb dX11_row_52 hl (k := 1) rfl et47.symm (by decide) rfl (fun ls hl => ?_)
            obtain ⟨t49, et49⟩ : ∃ z : Int32, z = y12 + Int32.ofInt 4 := ⟨_, rfl⟩
            have b50 : kb 4 t49 403 := kb_eq et49 (kb_add b42 (kb_ofInt 4 (by decide)) (by decide) (by decide))
            have qt49 : t49.toInt = y12.toInt + 4 := by rw [et49]; exact km_add b42 (by decide) (by decide) (by decide)
            refine lv_iinc (v := t49) (lv' := [(4, .int t49), (3, .int t47), (2, .int y14), (1, .int c12), (0, .ref (r 0))]) hx hb dX11_row_55 hl (k := 1) rfl et49.symm (by decide) rfl (fun ls hl => ?_)
            refine lv_goto (tgt := 23) hx hb dX11_row_58 (by decide) ?_
            exact ihlp18 (k_ + 1) q mm kj F15 B16 G17 _ _ _ t49 t47 y14 (by omega) hI hG hE hk0 (kb_w b50 (by decide) (by decide)) (hvlp18_0) (hvlp18_1) (by omega) (by omega) (by omega) (⟨by have w1 := hvlp18_4; have w2 := hvlp18_5; have w7 := hlt; omega, by have w1 := hvlp18_5; omega, by have w1 := hvlp18_5; omega, by have w1 := hvlp18_5; omega, by have w1 := hvlp18_5; omega, (by have w1 := hvlp18_5; have w2 := hvlp18_4; have w3 := hbig; omega), by have w1 := hvlp18_4; have w7 := hlt; omega⟩) ((rfl).trans hvlp18_6) (hvlp18_7) (hvlp18_8) (hvlp18_9) ((xP_cg hvlp18_10 rfl rfl rfl)) ((rfl).trans hvlp18_11) hP hD hS (lv_sub hl [0, 1, 2, 3, 4] rfl)
          · have h51 := (kc_nlt c45)
            have b52 : kb 4 t43 400 := kr_le1 h51 b44 b11
            have b53 : kb 4 c12 400 := kr_le2 h51 b44 b11
            have hfit := kc_nlt c45
            have b54 : kb 0 y12 396 := ⟨(b42).1, by have w1 := (b52).2; omega⟩
            have hqk : q = k_ := by have w1 := hvlp18_4; have w2 := hvlp18_5; omega
            refine lv_aload_n hx hb dX11_row_37 rfl (lv_at hl 4 rfl) ?_
            refine lv_iload hx hb dX11_row_38 (lv_at hl 0 rfl) ?_
            refine kIG.callW (As := [.int y12]) (rest := []) ⟨hx, hb, hml, hown, hg⟩ (z_addWritten l r F15 B16 G17 tx tt hT hI hG y12 b54 kj hvlp18_8 hvlp18_7 q mm (by have w1 := hvlp18_4; omega) (by have w1 := hvlp18_1; exact w1)) (cwV 1 hg (kgV wt3_141 wt3_143 wp1_8 wt1_1 wt3_144) rfl rfl rfl (by decide +kernel) ⟨by decide, by decide⟩) hV hK hP hD hS hA (0) 11 rfl rfl rfl hl.1 rfl (Nat.le_of_ble_eq_true rfl) dX11_row_40 ⟨Nat.le_refl _, Nat.le_refl _⟩ (fun v56 u57 H locs hw55 hP hD hS => ?_)
            obtain ⟨f58, a59, g60⟩ := u57
            have hP : va_P D vwCl (xX K r f58 a59 g60 tx) H := hP
            have hD : va_D A (xX K r f58 a59 g60 tx) := hD
            have hI : xI f58 a59 := hw55.2.1
            have hG : gOK K g60.2 tt := hw55.2.2.1
            have eE61 : xEk ([32], [2, 3, 4, 5, 6], []) F15 B16 G17 f58 a59 g60 := hw55.2.2.2.1
            have hE : xEk ([12, 14, 16, 32, 704, 705, 2565, 2566, 2786], [2, 3, 4, 5, 6, 81, 94], []) f a g f58 a59 g60 := xEk_tr hE (xEk_w (by decide +kernel) eE61)
            have hk0 : f58 12 = 0 := (eE61.1 12 rfl).trans hk0
            refine lv_if_eq (tgt := 52) hx hb dX11_row_43 (by decide) (fun c62 => ?_) (fun c62 => ?_)
            · have b63 : kb 0 v56 0 := kb_eq c62 kc_0
              obtain ⟨t64, et64⟩ : ∃ z : Int32, z = y13 + Int32.ofInt 1 := ⟨_, rfl⟩
              have qt64 : t64.toInt = y13.toInt + 1 := by rw [et64]; exact km_inc b22 (by decide) (by decide)
              have b65 : kb (-9) t64 201 := kb_inc (k := 1) qt64 b22
              refine lv_iinc (v := t64) (lv' := [(3, .int t64), (4, .int y12), (2, .int y14), (1, .int c12), (0, .ref (r 0))]) hx hb dX11_row_52 hl (k := 1) rfl et64.symm (by decide) rfl (fun ls hl => ?_)
              obtain ⟨t66, et66⟩ : ∃ z : Int32, z = y12 + Int32.ofInt 4 := ⟨_, rfl⟩
              have b67 : kb 4 t66 400 := kb_eq et66 (kb_add b54 (kb_ofInt 4 (by decide)) (by decide) (by decide))
              have qt66 : t66.toInt = y12.toInt + 4 := by rw [et66]; exact km_add b54 (by decide) (by decide) (by decide)
              refine lv_iinc (v := t66) (lv' := [(4, .int t66), (3, .int t64), (2, .int y14), (1, .int c12), (0, .ref (r 0))]) hx hb dX11_row_55 hl (k := 1) rfl et66.symm (by decide) rfl (fun ls hl => ?_)
              refine lv_goto (tgt := 23) hx hb dX11_row_58 (by decide) ?_
              exact ihlp18 (k_ + 1) (q + 1) mm kj f58 a59 g60 _ _ _ t66 t64 y14 (by omega) hI hG hE hk0 (kb_w b67 (by decide) (by decide)) (⟨mm, hvlp18_0, Or.inr ⟨(by rw [← hvlp18_6]; exact (wrx_0 (show (v56 = 1 ∧ rOKx (B16 93) q mm ∧ (f58 32).toInt = (mm : Int) + 1) ∨ (v56 = 0 ∧ ¬ rOKx (B16 93) q mm ∧ (f58 32).toInt = (mm : Int)) from hw55.2.2.2.2.1) c62).1), rfl⟩⟩) (((wrx_0 (show (v56 = 1 ∧ rOKx (B16 93) q mm ∧ (f58 32).toInt = (mm : Int) + 1) ∨ (v56 = 0 ∧ ¬ rOKx (B16 93) q mm ∧ (f58 32).toInt = (mm : Int)) from hw55.2.2.2.2.1) c62).2)) (by omega) (by omega) (by omega) (⟨by have w1 := hvlp18_4; have w2 := hvlp18_5; have w7 := hlt; omega, by have w1 := hvlp18_5; omega, by have w1 := hvlp18_5; omega, by omega, by have w1 := hvlp18_4; have w2 := hfit; omega, (by omega), by have w1 := hvlp18_4; have w7 := hlt; omega⟩) (((eE61.2.1 93 rfl)).trans hvlp18_6) (hvlp18_7) (((hw55.2.2.2.2.2).elim (fun h => absurd (h.1.symm.trans c62) (by decide +kernel)) (fun h => h.2))) (⟨kj, hvlp18_9, Or.inr ⟨(by have w7 := (wrx_0 (show (v56 = 1 ∧ rOKx (B16 93) q mm ∧ (f58 32).toInt = (mm : Int) + 1) ∨ (v56 = 0 ∧ ¬ rOKx (B16 93) q mm ∧ (f58 32).toInt = (mm : Int)) from hw55.2.2.2.2.1) c62).1; rw [show B16 93 = a 93 from (rfl).trans hvlp18_6] at w7; rw [show (kj 102).toInt.toNat = mm from by have w1 := sv_parts hvlp18_8; have w2 := hvlp18_1; rw [w1] at w2; omega]; exact w7), rfl⟩⟩) ((xP_cg hvlp18_10 (eE61.1 704 rfl) (eE61.1 705 rfl) (eE61.2.1 23 rfl))) (((eE61.2.1 94 rfl)).trans hvlp18_11) hP hD hS (lv_sub hl [0, 1, 2, 3, 4] rfl)
            · have b68 : kb 1 v56 1 := kr_nel c62 hw55.1 kc_0 (by decide)
              obtain ⟨t69, et69⟩ : ∃ z : Int32, z = y14 + Int32.ofInt 1 := ⟨_, rfl⟩
              have qt69 : t69.toInt = y14.toInt + 1 := by rw [et69]; exact km_inc b21 (by decide) (by decide)
              have b70 : kb 1 t69 11 := kb_inc (k := 1) qt69 b21
              refine lv_iinc (v := t69) (lv' := [(2, .int t69), (4, .int y12), (3, .int y13), (1, .int c12), (0, .ref (r 0))]) hx hb dX11_row_46 hl (k := 2) rfl et69.symm (by decide) rfl (fun ls hl => ?_)
              refine lv_goto (tgt := 55) hx hb dX11_row_49 (by decide) ?_
              obtain ⟨t71, et71⟩ : ∃ z : Int32, z = y12 + Int32.ofInt 4 := ⟨_, rfl⟩
              have b72 : kb 4 t71 400 := kb_eq et71 (kb_add b54 (kb_ofInt 4 (by decide)) (by decide) (by decide))
              have qt71 : t71.toInt = y12.toInt + 4 := by rw [et71]; exact km_add b54 (by decide) (by decide) (by decide)
              refine lv_iinc (v := t71) (lv' := [(4, .int t71), (2, .int t69), (3, .int y13), (1, .int c12), (0, .ref (r 0))]) hx hb dX11_row_55 hl (k := 1) rfl et71.symm (by decide) rfl (fun ls hl => ?_)
              refine lv_goto (tgt := 23) hx hb dX11_row_58 (by decide) ?_
              exact ihlp18 (k_ + 1) (q + 1) (mm + 1) (prtK kj mm (a 93 (4 * q) &&& 255) (a 93 (4 * q + 1) &&& 255) (a 93 (4 * q + 2) &&& 255) (a 93 (4 * q + 3) &&& 255)) f58 a59 g60 _ _ _ t71 y13 t69 (by omega) hI hG hE hk0 (kb_w b72 (by decide) (by decide)) (⟨mm, hvlp18_0, Or.inl ⟨(by rw [← hvlp18_6]; exact (wrx_1 (show (v56 = 1 ∧ rOKx (B16 93) q mm ∧ (f58 32).toInt = (mm : Int) + 1) ∨ (v56 = 0 ∧ ¬ rOKx (B16 93) q mm ∧ (f58 32).toInt = (mm : Int)) from hw55.2.2.2.2.1) c62).1), rfl⟩⟩) ((by have w1 := (wrx_1 (show (v56 = 1 ∧ rOKx (B16 93) q mm ∧ (f58 32).toInt = (mm : Int) + 1) ∨ (v56 = 0 ∧ ¬ rOKx (B16 93) q mm ∧ (f58 32).toInt = (mm : Int)) from hw55.2.2.2.2.1) c62).2; omega)) (by omega) (by omega) (by omega) (⟨by have w1 := hvlp18_4; have w2 := hvlp18_5; have w7 := hlt; omega, by have w1 := hvlp18_5; omega, by have w1 := (wrx_1 (show (v56 = 1 ∧ rOKx (B16 93) q mm ∧ (f58 32).toInt = (mm : Int) + 1) ∨ (v56 = 0 ∧ ¬ rOKx (B16 93) q mm ∧ (f58 32).toInt = (mm : Int)) from hw55.2.2.2.2.1) c62).1.1; omega, by omega, by have w1 := hvlp18_4; have w2 := hfit; omega, (by omega), by have w1 := hvlp18_4; have w7 := hlt; omega⟩) (((eE61.2.1 93 rfl)).trans hvlp18_6) ((by have w8 := kK_prt (x := a 93 (4 * q) &&& 255) (y := a 93 (4 * q + 1) &&& 255) (z := a 93 (4 * q + 2) &&& 255) (w := a 93 (4 * q + 3) &&& 255) hvlp18_7 (by have w7 := (by have w1 := ((wrx_1 (show (v56 = 1 ∧ rOKx (B16 93) q mm ∧ (f58 32).toInt = (mm : Int) + 1) ∨ (v56 = 0 ∧ ¬ rOKx (B16 93) q mm ∧ (f58 32).toInt = (mm : Int)) from hw55.2.2.2.2.1) c62)).1.2; have w2 := sv_parts hvlp18_8; have w3 := hvlp18_1; have w4 := (kK_r hvlp18_7 102 0 10 (by decide) (by decide)); have w5 := (okP_iff (by rw [nI_toInt (by have w6 := (wrx_1 (show (v56 = 1 ∧ rOKx (B16 93) q mm ∧ (f58 32).toInt = (mm : Int) + 1) ∨ (v56 = 0 ∧ ¬ rOKx (B16 93) q mm ∧ (f58 32).toInt = (mm : Int)) from hw55.2.2.2.2.1) c62).1.1; omega)]; have w6 := (wrx_1 (show (v56 = 1 ∧ rOKx (B16 93) q mm ∧ (f58 32).toInt = (mm : Int) + 1) ∨ (v56 = 0 ∧ ¬ rOKx (B16 93) q mm ∧ (f58 32).toInt = (mm : Int)) from hw55.2.2.2.2.1) c62).1.1; omega)).mp w1; rw [show nI mm = kj 102 from Int32.toInt_inj.mp (by rw [nI_toInt (by have w6 := (wrx_1 (show (v56 = 1 ∧ rOKx (B16 93) q mm ∧ (f58 32).toInt = (mm : Int) + 1) ∨ (v56 = 0 ∧ ¬ rOKx (B16 93) q mm ∧ (f58 32).toInt = (mm : Int)) from hw55.2.2.2.2.1) c62).1.1; omega), ← w2]; exact w3.symm)] at w5; exact w5); rw [show B16 93 = a 93 from (rfl).trans hvlp18_6] at w7; exact w7) (by have w1 := (wrx_1 (show (v56 = 1 ∧ rOKx (B16 93) q mm ∧ (f58 32).toInt = (mm : Int) + 1) ∨ (v56 = 0 ∧ ¬ rOKx (B16 93) q mm ∧ (f58 32).toInt = (mm : Int)) from hw55.2.2.2.2.1) c62).1.1; have w2 := sv_parts hvlp18_8; have w3 := hvlp18_1; rw [w2] at w3; omega); rw [show (kj 102).toInt.toNat = mm from by have w1 := sv_parts hvlp18_8; have w2 := hvlp18_1; rw [w1] at w2; omega] at w8; exact w8)) ((by have w8 := hw55.2.2.2.2.2; rw [show B16 93 = a 93 from (rfl).trans hvlp18_6] at w8; exact w8.elim (fun h => h.2) (fun h => absurd h.1 c62))) (⟨kj, hvlp18_9, Or.inl ⟨(by have w7 := (wrx_1 (show (v56 = 1 ∧ rOKx (B16 93) q mm ∧ (f58 32).toInt = (mm : Int) + 1) ∨ (v56 = 0 ∧ ¬ rOKx (B16 93) q mm ∧ (f58 32).toInt = (mm : Int)) from hw55.2.2.2.2.1) c62).1; rw [show B16 93 = a 93 from (rfl).trans hvlp18_6] at w7; rw [show (kj 102).toInt.toNat = mm from by have w1 := sv_parts hvlp18_8; have w2 := hvlp18_1; rw [w1] at w2; omega]; exact w7), by rw [show (kj 102).toInt.toNat = mm from by have w1 := sv_parts hvlp18_8; have w2 := hvlp18_1; rw [w1] at w2; omega]⟩⟩) ((xP_cg hvlp18_10 (eE61.1 704 rfl) (eE61.1 705 rfl) (eE61.2.1 23 rfl))) (((eE61.2.1 94 rfl)).trans hvlp18_11) hP hD hS (lv_sub hl [0, 2, 1, 3, 4] rfl)
    exact lp18 (102) 0 0 N0 k f6 a7 g8 _ _ _ 0 0 0 (by omega) hI hG hE hk0 (kb_w kc_0 (by decide) (by decide)) ((rfl : N0 = N0)) ((by have e1 := congrArg Int32.toInt (((eE9.1 32 rfl).trans ec32.symm)); omega)) ((by have z0 : (0 : Int32).toInt = 0 := (by decide +kernel); omega)) ((by have z0 : (0 : Int32).toInt = 0 := (by decide +kernel); omega)) ((by have z0 : (0 : Int32).toInt = 0 := (by decide +kernel); omega)) (⟨by omega, by omega, by have w1 := (b2).2; omega, by omega, by omega, Or.inl rfl, by have w1 : ¬ c12.toInt = 0 := (fun q => c10 (Int32.toInt_inj.mp (q.trans (by decide +kernel)))); omega⟩) (((eE9.2.1 93 rfl))) (hkk) ((show sV 32 2 f6 a7 k from sV_cg hVw (eE9.1 32 rfl) (eE9.1 38 rfl) (eE9.1 44 rfl) (eE9.1 49 rfl) (eE9.1 50 rfl) (fun j hj => by rcases (show j = 0 ∨ j = 1 ∨ j = 2 ∨ j = 3 ∨ j = 4 ∨ j = 5 ∨ j = 6 ∨ j = 7 ∨ j = 8 ∨ j = 9 ∨ j = 10 ∨ j = 11 ∨ j = 12 by omega) with e | e | e | e | e | e | e | e | e | e | e | e | e; subst e; exact (eE9.2.1 2 rfl); subst e; exact (eE9.2.1 3 rfl); subst e; exact (eE9.2.1 4 rfl); subst e; exact (eE9.2.1 5 rfl); subst e; exact (eE9.2.1 6 rfl); subst e; exact (eE9.2.1 7 rfl); subst e; exact (eE9.2.1 8 rfl); subst e; exact (eE9.2.1 9 rfl); subst e; exact (eE9.2.1 10 rfl); subst e; exact (eE9.2.1 11 rfl); subst e; exact (eE9.2.1 12 rfl); subst e; exact (eE9.2.1 13 rfl); subst e; exact (eE9.2.1 14 rfl)))) ((rfl : k = k)) ((xP_cg hp0 (eE9.1 704 rfl) (eE9.1 705 rfl) (eE9.2.1 23 rfl))) (((eE9.2.1 94 rfl))) hP hD hS (lv_sub hl [0, 1, 2, 3, 4] rfl)
  · have b73 : kb 0 c12 0 := kb_eq c10 kc_0
    refine lv_aload_n hx hb dX11_row_9 rfl (lv_at hl 1 rfl) ?_
    refine lv_bipush (v := (-6)) hx hb dX11_row_10 (by decide) ?_
    refine kIG.callW (As := [.int (-6)]) (rest := []) ⟨hx, hb, hml, hown, hg⟩ (z_refuse l r f6 a7 g8 tx tt hT hI hG (-6) (kb_w kc_m6 (by decide) (by decide)) (by decide +kernel)) (cwV 1 hg (kgV wt3_7 wt3_9 wp1_0 wt1_1 wt3_10) rfl rfl rfl (by decide +kernel) ⟨by decide, by decide⟩) hV hK hP hD hS hA (0) 11 rfl rfl rfl hl.1 rfl (Nat.le_of_ble_eq_true rfl) dX11_row_12 ⟨Nat.le_refl _, Nat.le_refl _⟩ (fun v75 u76 H locs hw74 hP hD hS => ?_)
    obtain ⟨f77, a78, g79⟩ := u76
    have hP : va_P D vwCl (xX K r f77 a78 g79 tx) H := hP
    have hD : va_D A (xX K r f77 a78 g79 tx) := hD
    have hI : xI f77 a78 := hw74.2.1
    have hG : gOK K g79.2 tt := hw74.2.2.1
    have eE80 : xEk ([16], [94], []) f6 a7 g8 f77 a78 g79 := hw74.2.2.2.1
    have hE : xEk ([12, 14, 16, 32, 704, 705, 2565, 2566, 2786], [2, 3, 4, 5, 6, 81, 94], []) f a g f77 a78 g79 := xEk_tr hE (xEk_w (by decide +kernel) eE80)
    have hk0 : f77 12 = 0 := (eE80.1 12 rfl).trans hk0
    refine k_top (z := (-6)) hw74.2.2.2.2.1 ?_
    exact kI_ret (v := (-6)) hx hb hr hlocks rfl hK hS dX11_row_15 (f77, a78, g79) hP hD ⟨(kb_w kc_m6 (by decide) (by decide)), hI, hG, hE, hk0, (Or.inl ⟨ec12.symm.trans c10, rfl, ((((eE80.1 32 rfl).trans ((eE9.1 32 rfl).trans ec32.symm))).trans ec32), ((((eE80.1 14 rfl).trans ((eE9.1 14 rfl).trans ec14.symm))).trans ec14)⟩), (Or.inl ⟨ec12.symm.trans c10, rfl, hw74.2.2.2.2.2.1, (fun R1 hR => hw74.2.2.2.2.2.2 R1 (by rw [show a7 94 = a 94 from (eE9.2.1 94 rfl)]; exact hR)), (show sV 32 2 f77 a78 k from sV_cg hVw ((eE80.1 32 rfl).trans (eE9.1 32 rfl)) ((eE80.1 38 rfl).trans (eE9.1 38 rfl)) ((eE80.1 44 rfl).trans (eE9.1 44 rfl)) ((eE80.1 49 rfl).trans (eE9.1 49 rfl)) ((eE80.1 50 rfl).trans (eE9.1 50 rfl)) (fun j hj => by rcases (show j = 0 ∨ j = 1 ∨ j = 2 ∨ j = 3 ∨ j = 4 ∨ j = 5 ∨ j = 6 ∨ j = 7 ∨ j = 8 ∨ j = 9 ∨ j = 10 ∨ j = 11 ∨ j = 12 by omega) with e | e | e | e | e | e | e | e | e | e | e | e | e; subst e; exact ((eE80.2.1 2 rfl).trans (eE9.2.1 2 rfl)); subst e; exact ((eE80.2.1 3 rfl).trans (eE9.2.1 3 rfl)); subst e; exact ((eE80.2.1 4 rfl).trans (eE9.2.1 4 rfl)); subst e; exact ((eE80.2.1 5 rfl).trans (eE9.2.1 5 rfl)); subst e; exact ((eE80.2.1 6 rfl).trans (eE9.2.1 6 rfl)); subst e; exact ((eE80.2.1 7 rfl).trans (eE9.2.1 7 rfl)); subst e; exact ((eE80.2.1 8 rfl).trans (eE9.2.1 8 rfl)); subst e; exact ((eE80.2.1 9 rfl).trans (eE9.2.1 9 rfl)); subst e; exact ((eE80.2.1 10 rfl).trans (eE9.2.1 10 rfl)); subst e; exact ((eE80.2.1 11 rfl).trans (eE9.2.1 11 rfl)); subst e; exact ((eE80.2.1 12 rfl).trans (eE9.2.1 12 rfl)); subst e; exact ((eE80.2.1 13 rfl).trans (eE9.2.1 13 rfl)); subst e; exact ((eE80.2.1 14 rfl).trans (eE9.2.1 14 rfl)))), xP_cg hp0 ((eE80.1 704 rfl).trans (eE9.1 704 rfl)) ((eE80.1 705 rfl).trans (eE9.1 705 rfl)) ((eE80.2.1 23 rfl).trans (eE9.2.1 23 rfl))⟩)⟩
