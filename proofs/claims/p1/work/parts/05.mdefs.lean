/-- the classes of arrays, by number: int, byte, boolean, long, Site, Text -/
abbrev tysK (K : Nat → ClassId) : List (ClassId × FieldType) := [(K 0, .int), (K 1, .byte), (K 2, .boolean), (K 3, .long), (K 4, .object "SunriseRoof$Site"), (K 5, .object "SunriseRoof$Text")]
abbrev mS : Type := (Nat → Int32) × (Nat → Nat → Int32) × (Nat → Int64)
/-- the reference's object: numbers f by slot, rows r by slot -/
def mO (f : Nat → Int32) (r : Nat → Nat) : List Value := [.int (f 0), .ref (r 1), .ref (r 2), .ref (r 3), .ref (r 4), .ref (r 5), .int (f 6), .ref (r 7), .int (f 8), .int (f 9), .int (f 10), .ref (r 11), .ref (r 12), .int (f 13), .int (f 14), .ref (r 15), .ref (r 16), .ref (r 17), .int (f 18), .int (f 19), .int (f 20), .int (f 21), .int (f 22), .int (f 23), .int (f 24), .int (f 25), .ref (r 26), .int (f 27), .int (f 28), .ref (r 29), .ref (r 30), .ref (r 31), .ref (r 32), .int (f 33), .ref (r 34), .ref (r 35), .ref (r 36), .int (f 37), .int (f 38), .int (f 39), .int (f 40), .int (f 41), .int (f 42), .ref (r 43), .ref (r 44), .int (f 45), .int (f 46), .int (f 47)]
/-- the reference's cells -/
def mW (K : Nat → ClassId) (o : Nat) (r : Nat → Nat) (f : Nat → Int32) (a : Nat → Nat → Int32) (g : Nat → Int64) : va_W := [(o, .inr (12, mO f r)), (r 1, .inl (K 0, 7, .inl (a 1))), (r 2, .inl (K 0, 5714, .inl (a 2))), (r 3, .inl (K 0, 11428, .inl (a 3))), (r 4, .inl (K 2, 2, .inl (a 4))), (r 5, .inl (K 0, 46, .inl (a 5))), (r 7, .inl (K 1, 146, .inl (a 7))), (r 11, .inl (K 1, 400, .inl (a 11))), (r 12, .inl (K 0, 5, .inl (a 12))), (r 15, .inl (K 0, 401, .inl (a 15))), (r 16, .inl (K 0, 401, .inl (a 16))), (r 17, .inl (K 0, 401, .inl (a 17))), (r 26, .inl (K 0, 10, .inl (a 26))), (r 29, .inl (K 0, 6, .inl (a 29))), (r 30, .inl (K 0, 6, .inl (a 30))), (r 31, .inl (K 0, 384, .inl (a 31))), (r 32, .inl (K 0, 384, .inl (a 32))), (r 34, .inl (K 0, 10, .inl (a 34))), (r 35, .inl (K 0, 1024, .inl (a 35))), (r 36, .inl (K 0, 451, .inl (a 36))), (r 43, .inl (K 3, 2, .inr (.inl g))), (r 44, .inl (K 0, 23, .inl (a 44)))]
abbrev mIs : List Nat := [0, 1, 2, 3, 4, 5, 6, 7, 8, 9, 10, 11, 12, 13, 14, 15, 16, 17, 18, 19, 20, 21]
def mLies (x lo hi : Int32) : Int32 := if x < lo then 0 else if hi < x then 0 else 1
theorem mLies_e {x lo hi : Int32} (h : hi < lo) : mLies x lo hi = 0 := by
  unfold mLies
  by_cases h1 : x < lo
  · rw [if_pos h1]
  · rw [if_neg h1, if_pos (by rw [Int32.lt_iff_toInt_lt] at *; omega)]
theorem mLies_01 (x lo hi : Int32) : mLies x lo hi = 0 ∨ mLies x lo hi = 1 := by
  unfold mLies
  by_cases h1 : x < lo
  · rw [if_pos h1]; exact Or.inl rfl
  · rw [if_neg h1]
    by_cases h2 : hi < x
    · rw [if_pos h2]; exact Or.inl rfl
    · rw [if_neg h2]; exact Or.inr rfl
def mIsTerm (x y : Int32) : Int32 := if x = 0 then mLies y 0 999 else if x = 1 then mLies y 1 99 else if x = 2 then mLies y 0 10 else if x = 3 then mLies y 0 9 else 0
theorem mLies_n (x lo hi : Int32) : narrow .boolean (.int (mLies x lo hi)) = .int (mLies x lo hi) := by
  rcases mLies_01 x lo hi with h | h <;> rw [h] <;> rfl

theorem mLies_q {x : Int32} (h0 : ¬ x = 0) (h1 : ¬ x = 1) : mLies x 0 1 = 0 := by
  unfold mLies
  by_cases h2 : x < 0
  · rw [if_pos h2]
  · rw [if_neg h2, if_pos]
    have g0 := lv_neT h0 (a := 0) (by decide +kernel)
    have g1 := lv_neT h1 (a := 1) (by decide +kernel)
    rw [Int32.lt_iff_toInt_lt] at *
    have e0 : (0 : Int32).toInt = 0 := by decide +kernel
    have e1 : (1 : Int32).toInt = 1 := by decide +kernel
    omega
theorem mLies_N {y : Int32} (h : ¬ mLies y 1 20 = 0) : ∃ N : Nat, N ≤ 20 ∧ y = nI N := by
  unfold mLies at h
  by_cases h2 : y < 1
  · rw [if_pos h2] at h; exact absurd rfl h
  · rw [if_neg h2] at h
    by_cases h3 : 20 < y
    · rw [if_pos h3] at h; exact absurd rfl h
    · have hn : ¬ y < 0 := by
        intro q
        apply h2
        rw [Int32.lt_iff_toInt_lt] at *
        have e0 : (0 : Int32).toInt = 0 := by decide +kernel
        have e1 : (1 : Int32).toInt = 1 := by decide +kernel
        omega
      refine nI_of2 (M := 20) (n := 20) (by decide +kernel) hn ?_
      rw [Int32.lt_iff_toInt_lt] at h3
      rw [Int32.le_iff_toInt_le]
      omega
def mCount (x : Int32) : Int32 := if x = 12 then -1 else if x = 14 then 30 else if x = 15 then 2 else if x = 0 ∨ x = 1 ∨ x = 2 ∨ x = 3 ∨ x = 4 ∨ x = 5 ∨ x = 6 ∨ x = 7 ∨ x = 8 ∨ x = 9 ∨ x = 10 ∨ x = 11 ∨ x = 13 ∨ x = 16 then 0 else -1
theorem kz_step {f : Nat → Int32} {i : Nat} (h : ∀ j, j < i → f j = 0) : ∀ j, j < i + 1 → upd f i 0 j = 0 := by
  intro j hj
  by_cases e : j = i
  · rw [e]; exact pk_us
  · rw [pk_un e]; exact h j (by omega)
def mSh (i j : Nat) : Int32 := if j % 11 = 0 ∧ j / 11 < i then 1 else 0
theorem mSh_0 (j : Nat) : mSh 0 j = 0 := by unfold mSh; rw [if_neg (by omega)]
theorem ks_at {i : Nat} : mSh i (11 * i + 0) = 0 := by unfold mSh; rw [if_neg (by omega)]
theorem ks_step {f : Nat → Int32} {i : Nat} (h : ∀ j, j < 451 → f j = mSh i j) {v : Int32} (hv : v = 1) : ∀ j, j < 451 → upd f (11 * i + 0) v j = mSh (i + 1) j := by
  intro j hj
  by_cases e : j = 11 * i + 0
  · rw [e, pk_us, hv]; unfold mSh; rw [if_pos (by omega)]
  · rw [pk_un e, h j hj]
    unfold mSh
    by_cases c : j % 11 = 0 ∧ j / 11 < i
    · rw [if_pos c, if_pos (by omega)]
    · rw [if_neg c, if_neg (by omega)]
theorem ks_one {i : Nat} (h : i < 41) : mSh 41 (11 * i + 0) = 1 := by unfold mSh; rw [if_pos (by omega)]
theorem ks_nil {i n : Nat} (h0 : 0 < n) (h : n < 11) : mSh 41 (11 * i + n) = 0 := by unfold mSh; rw [if_neg (by omega)]

theorem cl_0 : (0 : Int32).toNatClampNeg = 0 := by decide +kernel
theorem cl_1 : (1 : Int32).toNatClampNeg = 1 := by decide +kernel
theorem cl_2 : (2 : Int32).toNatClampNeg = 2 := by decide +kernel
theorem cl_3 : (3 : Int32).toNatClampNeg = 3 := by decide +kernel
theorem cl_4 : (4 : Int32).toNatClampNeg = 4 := by decide +kernel
theorem cl_5 : (5 : Int32).toNatClampNeg = 5 := by decide +kernel
theorem cl_6 : (6 : Int32).toNatClampNeg = 6 := by decide +kernel
theorem cl_7 : (7 : Int32).toNatClampNeg = 7 := by decide +kernel
theorem cl_8 : (8 : Int32).toNatClampNeg = 8 := by decide +kernel
theorem cl_9 : (9 : Int32).toNatClampNeg = 9 := by decide +kernel
theorem cl_10 : (10 : Int32).toNatClampNeg = 10 := by decide +kernel
theorem cl_16 : (16 : Int32).toNatClampNeg = 16 := by decide +kernel
theorem cl_22 : (22 : Int32).toNatClampNeg = 22 := by decide +kernel
theorem cl_23 : (23 : Int32).toNatClampNeg = 23 := by decide +kernel
theorem cl_33 : (33 : Int32).toNatClampNeg = 33 := by decide +kernel
theorem cl_43 : (43 : Int32).toNatClampNeg = 43 := by decide +kernel
theorem cl_53 : (53 : Int32).toNatClampNeg = 53 := by decide +kernel
theorem cl_63 : (63 : Int32).toNatClampNeg = 63 := by decide +kernel
theorem cl_69 : (69 : Int32).toNatClampNeg = 69 := by decide +kernel
theorem cl_99 : (99 : Int32).toNatClampNeg = 99 := by decide +kernel
theorem cl_100 : (100 : Int32).toNatClampNeg = 100 := by decide +kernel
theorem cl_101 : (101 : Int32).toNatClampNeg = 101 := by decide +kernel
theorem cl_102 : (102 : Int32).toNatClampNeg = 102 := by decide +kernel
theorem cl_103 : (103 : Int32).toNatClampNeg = 103 := by decide +kernel
theorem cl_104 : (104 : Int32).toNatClampNeg = 104 := by decide +kernel
theorem cl_105 : (105 : Int32).toNatClampNeg = 105 := by decide +kernel
theorem cl_106 : (106 : Int32).toNatClampNeg = 106 := by decide +kernel
