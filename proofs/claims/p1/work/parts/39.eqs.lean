/-! the answers of both sides are the same -/
theorem i_0 : (0 : Int32).toInt = 0 := by decide +kernel
theorem i_1 : (1 : Int32).toInt = 1 := by decide +kernel
theorem i_2 : (2 : Int32).toInt = 2 := by decide +kernel
theorem i_3 : (3 : Int32).toInt = 3 := by decide +kernel
theorem i_4 : (4 : Int32).toInt = 4 := by decide +kernel
theorem i_9 : (9 : Int32).toInt = 9 := by decide +kernel
theorem i_10 : (10 : Int32).toInt = 10 := by decide +kernel
theorem i_15 : (15 : Int32).toInt = 15 := by decide +kernel
theorem i_20 : (20 : Int32).toInt = 20 := by decide +kernel
theorem i_99 : (99 : Int32).toInt = 99 := by decide +kernel
theorem i_999 : (999 : Int32).toInt = 999 := by decide +kernel
theorem i_m : (1000000 : Int32).toInt = 1000000 := by decide +kernel
theorem i_m1 : (-1 : Int32).toInt = -1 := by decide +kernel
theorem lies_iff (x lo hi : Int32) : mLies x lo hi = 0 ↔ ¬ (lo.toInt ≤ x.toInt ∧ x.toInt ≤ hi.toInt) := by
  unfold mLies
  by_cases h1 : x < lo
  · rw [if_pos h1]
    rw [Int32.lt_iff_toInt_lt] at h1
    constructor
    · intro _ h; omega
    · intro _; rfl
  · rw [if_neg h1]
    rw [Int32.lt_iff_toInt_lt] at h1
    by_cases h2 : hi < x
    · rw [if_pos h2]
      rw [Int32.lt_iff_toInt_lt] at h2
      constructor
      · intro _ h; omega
      · intro _; rfl
    · rw [if_neg h2]
      rw [Int32.lt_iff_toInt_lt] at h2
      constructor
      · intro h; exact absurd h (by decide)
      · intro h; exact absurd (by omega) h
theorem ite_same {α : Type} {p q : Prop} {_ : Decidable p} {_ : Decidable q} (h : p ↔ q) (a b : α) : (if p then a else b) = (if q then a else b) := by
  by_cases hp : p
  · rw [if_pos hp, if_pos (h.mp hp)]
  · rw [if_neg hp, if_neg (fun z => hp (h.mpr z))]
theorem eq_i {x y : Int32} : x = y ↔ x.toInt = y.toInt := Int32.toInt_inj.symm
theorem q_end (x : Int32) : (if x < 0 then (-1 : Int32) else if x ≤ 0 then x else -1) = (if mLies x 0 0 = 0 then (-1 : Int32) else x) := by
  have h := lies_iff x 0 0
  by_cases h1 : x < 0
  · rw [if_pos h1, if_pos]
    rw [Int32.lt_iff_toInt_lt] at h1; rw [h]; omega
  · rw [if_neg h1]
    by_cases h2 : x ≤ 0
    · rw [if_pos h2, if_neg]
      rw [Int32.lt_iff_toInt_lt] at h1; rw [Int32.le_iff_toInt_le] at h2; rw [h]; omega
    · rw [if_neg h2, if_pos]
      rw [Int32.le_iff_toInt_le] at h2; rw [h]; omega
theorem q_two (x : Int32) {α : Type} (a b d : α) : (if x = 0 then a else if x = 1 then b else d) = (if mLies x 0 1 = 0 then d else if x = 0 then a else b) := by
  have h := lies_iff x 0 1
  rw [i_0, i_1] at h
  by_cases h0 : x = 0
  · rw [if_pos h0, if_neg, if_pos h0]
    rw [h, eq_i.mp h0, i_0]; omega
  · rw [if_neg h0]
    by_cases h1 : x = 1
    · rw [if_pos h1, if_neg, if_neg h0]
      rw [h, eq_i.mp h1, i_1]; omega
    · rw [if_neg h1, if_pos]
      rw [eq_i, i_0] at h0; rw [eq_i, i_1] at h1
      rw [h]; omega
theorem q_two' (x : Int32) {α : Type} (a d : α) : (if x = 0 then a else if x = 1 then a else d) = (if mLies x 0 1 = 0 then d else a) := by
  rw [q_two x a a d]
  by_cases h : mLies x 0 1 = 0
  · rw [if_pos h, if_pos h]
  · rw [if_neg h, if_neg h]
    by_cases h0 : x = 0
    · rw [if_pos h0]
    · rw [if_neg h0]
theorem q_force (x : Int32) : (if x = (-1) then (-1 : Int32) else -2) = (if mLies x (-1) (-1) = 0 then (-2 : Int32) else -1) := by
  have h := lies_iff x (-1) (-1)
  rw [i_m1] at h
  by_cases h0 : x = (-1)
  · rw [if_pos h0, if_neg]
    rw [h, eq_i.mp h0, i_m1]; omega
  · rw [if_neg h0, if_pos]
    rw [eq_i, i_m1] at h0
    rw [h]; omega
theorem q_rows (x : Int32) : (if x = (-1) then (1 : Int32) else -1) = (if x < (-1) then (-1 : Int32) else if x = (-1) then 1 else -1) := by
  by_cases h0 : x < (-1)
  · rw [if_pos h0, if_neg]
    intro h; rw [h] at h0; exact absurd h0 (by decide +kernel)
  · rw [if_neg h0]
theorem q_unseen (x : Int32) : (if x < 0 then (-1 : Int64) else if x ≤ 99 then 1000000000000 else -1) = (if mLies x 0 99 = 0 then (-1 : Int64) else 1000000000000) := by
  have h := lies_iff x 0 99
  rw [i_0, i_99] at h
  by_cases h1 : x < 0
  · rw [if_pos h1, if_pos]
    rw [Int32.lt_iff_toInt_lt, i_0] at h1; rw [h]; omega
  · rw [if_neg h1]
    by_cases h2 : x ≤ 99
    · rw [if_pos h2, if_neg]
      rw [Int32.lt_iff_toInt_lt, i_0] at h1; rw [Int32.le_iff_toInt_le, i_99] at h2; rw [h]; omega
    · rw [if_neg h2, if_pos]
      rw [Int32.le_iff_toInt_le, i_99] at h2; rw [h]; omega
theorem q_sight (x z : Int32) : (if x < 0 then (-1 : Int32) else if 99 < x then -1 else if z < 0 then -1 else if z ≤ 1 then -2 else -1) = (if mLies x 0 99 = 0 then (-1 : Int32) else if mLies z 0 1 = 0 then -1 else -2) := by
  have h := lies_iff x 0 99
  have g := lies_iff z 0 1
  rw [i_0, i_99] at h
  rw [i_0, i_1] at g
  by_cases h1 : x < 0
  · rw [if_pos h1, if_pos]
    rw [Int32.lt_iff_toInt_lt, i_0] at h1; rw [h]; omega
  · rw [if_neg h1]
    rw [Int32.lt_iff_toInt_lt, i_0] at h1
    by_cases h2 : 99 < x
    · rw [if_pos h2, if_pos]
      rw [Int32.lt_iff_toInt_lt, i_99] at h2; rw [h]; omega
    · rw [if_neg h2]
      rw [Int32.lt_iff_toInt_lt, i_99] at h2
      rw [if_neg (c := mLies x 0 99 = 0) (by rw [h]; omega)]
      by_cases h3 : z < 0
      · rw [if_pos h3, if_pos]
        rw [Int32.lt_iff_toInt_lt, i_0] at h3; rw [g]; omega
      · rw [if_neg h3]
        rw [Int32.lt_iff_toInt_lt, i_0] at h3
        by_cases h4 : z ≤ 1
        · rw [if_pos h4, if_neg]
          rw [Int32.le_iff_toInt_le, i_1] at h4; rw [g]; omega
        · rw [if_neg h4, if_pos]
          rw [Int32.le_iff_toInt_le, i_1] at h4; rw [g]; omega
theorem q_whose (x : Int32) : (if (0 : Int32) = x then (0 : Int32) else if x = (-1) then 1 else -1) = (if (-1) ≤ x then (if (0 : Int32) = x then (0 : Int32) else if x = (-1) then 1 else -1) else -1) := by
  by_cases h : (-1) ≤ x
  · rw [if_pos h]
  · rw [if_neg h, if_neg, if_neg]
    · intro h2; rw [h2] at h; exact h (by decide +kernel)
    · intro h2; rw [← h2] at h; exact h (by decide +kernel)
theorem q_nights (x y : Int32) : (if x < 0 then (-1 : Int32) else if 1000000 < x then -1 else if y < 1 then -1 else if y ≤ 20 then y else -1) = (if mLies x 0 1000000 = 0 then (-1 : Int32) else if mLies y 1 20 = 0 then -1 else y) := by
  have h := lies_iff x 0 1000000
  have g := lies_iff y 1 20
  rw [i_0, i_m] at h
  rw [i_1, i_20] at g
  by_cases h1 : x < 0
  · rw [if_pos h1, if_pos]
    rw [Int32.lt_iff_toInt_lt, i_0] at h1; rw [h]; omega
  · rw [if_neg h1]
    rw [Int32.lt_iff_toInt_lt, i_0] at h1
    by_cases h2 : 1000000 < x
    · rw [if_pos h2, if_pos]
      rw [Int32.lt_iff_toInt_lt, i_m] at h2; rw [h]; omega
    · rw [if_neg h2]
      rw [Int32.lt_iff_toInt_lt, i_m] at h2
      rw [if_neg (c := mLies x 0 1000000 = 0) (by rw [h]; omega)]
      by_cases h3 : y < 1
      · rw [if_pos h3, if_pos]
        rw [Int32.lt_iff_toInt_lt, i_1] at h3; rw [g]; omega
      · rw [if_neg h3]
        rw [Int32.lt_iff_toInt_lt, i_1] at h3
        by_cases h4 : y ≤ 20
        · rw [if_pos h4, if_neg]
          rw [Int32.le_iff_toInt_le, i_20] at h4; rw [g]; omega
        · rw [if_neg h4, if_pos]
          rw [Int32.le_iff_toInt_le, i_20] at h4; rw [g]; omega
theorem q_xT (y lo hi w : Int32) : xT y lo hi w = (if mLies y lo hi = 0 then (-1 : Int32) else w) := by
  have h := lies_iff y lo hi
  unfold xT
  by_cases h1 : y < lo
  · rw [if_pos h1, if_pos]
    rw [Int32.lt_iff_toInt_lt] at h1; rw [h]; omega
  · rw [if_neg h1]
    rw [Int32.lt_iff_toInt_lt] at h1
    by_cases h2 : y ≤ hi
    · rw [if_pos h2, if_neg]
      rw [Int32.le_iff_toInt_le] at h2; rw [h]; omega
    · rw [if_neg h2, if_pos]
      rw [Int32.le_iff_toInt_le] at h2; rw [h]; omega
theorem q_terms (x y : Int32) : (if x = 0 then xT y 0 999 0 else if x = 1 then xT y 1 99 30 else if x = 2 then xT y 0 10 2 else if x = 3 then xT y 0 9 0 else -1) = (if mIsTerm x y = 0 then (-1 : Int32) else if x = 1 then 30 else if x = 2 then 2 else 0) := by
  by_cases h0 : x = 0
  · subst h0; simp [mIsTerm, q_xT]
  · by_cases h1 : x = 1
    · subst h1; simp [mIsTerm, q_xT]
    · by_cases h2 : x = 2
      · subst h2; simp [mIsTerm, q_xT]
      · by_cases h3 : x = 3
        · subst h3; simp [mIsTerm, q_xT]
        · simp [mIsTerm, h0, h1, h2, h3]
theorem q_partOk {x y z w : Int32} (h : xPartOk x y z w) : (if (if mLies x 1 99 = 0 then (0 : Int32) else if mLies y 0 0 = 0 then 0 else if mLies z 0 3 = 0 then 0 else if mLies w 0 9 = 0 then 0 else 1) = 0 then (-1 : Int32) else 0) = 0 := by
  obtain ⟨rfl, h1, h2, h3, h4, h5, h6⟩ := h
  have a1 := lies_iff x 1 99
  have a3 := lies_iff z 0 3
  have a4 := lies_iff w 0 9
  rw [i_1, i_99] at a1; rw [i_0, i_3] at a3; rw [i_0, i_9] at a4
  rw [Int32.lt_iff_toInt_lt, i_1] at h1
  rw [Int32.lt_iff_toInt_lt, i_99] at h2
  rw [Int32.lt_iff_toInt_lt, i_0] at h3 h5
  rw [Int32.le_iff_toInt_le, i_4] at h4
  rw [Int32.le_iff_toInt_le, i_9] at h6
  rw [if_neg (c := mLies x 1 99 = 0) (by rw [a1]; omega), if_neg (c := mLies 0 0 0 = 0) (by decide +kernel), if_neg (c := mLies z 0 3 = 0) (by rw [a3]; omega), if_neg (c := mLies w 0 9 = 0) (by rw [a4]; omega)]
  decide +kernel
theorem q_partBad {x y z w : Int32} (h : ¬ xPartOk x y z w) : (if (if mLies x 1 99 = 0 then (0 : Int32) else if mLies y 0 0 = 0 then 0 else if mLies z 0 3 = 0 then 0 else if mLies w 0 9 = 0 then 0 else 1) = 0 then (-1 : Int32) else 0) = -1 := by
  have a1 := lies_iff x 1 99
  have a2 := lies_iff y 0 0
  have a3 := lies_iff z 0 3
  have a4 := lies_iff w 0 9
  rw [i_1, i_99] at a1; rw [i_0] at a2; rw [i_0, i_3] at a3; rw [i_0, i_9] at a4
  by_cases b1 : mLies x 1 99 = 0
  · simp [b1]
  · by_cases b2 : mLies y 0 0 = 0
    · simp [b1, b2]
    · by_cases b3 : mLies z 0 3 = 0
      · simp [b1, b2, b3]
      · by_cases b4 : mLies w 0 9 = 0
        · simp [b1, b2, b3, b4]
        · exfalso
          apply h
          rw [a1] at b1; rw [a2] at b2; rw [a3] at b3; rw [a4] at b4
          unfold xPartOk
          rw [eq_i]
          simp only [Int32.lt_iff_toInt_lt, Int32.le_iff_toInt_le, i_0, i_1, i_99, i_4, i_9]
          omega
theorem q_bldOk {x y : Int32} (h : xBldOk x y) : (if mLies x 1 15 = 0 then (-1 : Int32) else if mLies y 1 9 = 0 then -1 else 0) = 0 := by
  obtain ⟨h1, h2, h3, h4⟩ := h
  have a1 := lies_iff x 1 15
  have a2 := lies_iff y 1 9
  rw [i_1, i_15] at a1; rw [i_1, i_9] at a2
  rw [Int32.lt_iff_toInt_lt, i_1] at h1 h3
  rw [Int32.lt_iff_toInt_lt, i_15] at h2
  rw [Int32.le_iff_toInt_le, i_9] at h4
  rw [if_neg (c := mLies x 1 15 = 0) (by rw [a1]; omega), if_neg (c := mLies y 1 9 = 0) (by rw [a2]; omega)]
theorem q_bldBad {x y : Int32} (h : ¬ xBldOk x y) : (if mLies x 1 15 = 0 then (-1 : Int32) else if mLies y 1 9 = 0 then -1 else 0) = -1 := by
  have a1 := lies_iff x 1 15
  have a2 := lies_iff y 1 9
  rw [i_1, i_15] at a1; rw [i_1, i_9] at a2
  by_cases b1 : mLies x 1 15 = 0
  · simp [b1]
  · by_cases b2 : mLies y 1 9 = 0
    · simp [b1, b2]
    · exfalso
      apply h
      rw [a1] at b1; rw [a2] at b2
      unfold xBldOk
      simp only [Int32.lt_iff_toInt_lt, Int32.le_iff_toInt_le, i_1, i_15, i_9]
      omega

