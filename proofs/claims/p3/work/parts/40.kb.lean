/-! numbers between bounds -/
def kb (l : Int) (x : Int32) (h : Int) : Prop := l ≤ x.toInt ∧ x.toInt ≤ h
def kbl (l : Int) (x : Int64) (h : Int) : Prop := l ≤ x.toInt ∧ x.toInt ≤ h
theorem kb_any (x : Int32) : kb (-2147483648) x 2147483647 := ⟨Int32.le_toInt x, by have := Int32.toInt_lt x; omega⟩
theorem kb_w {l h l' h' : Int} {x : Int32} (b : kb l x h) (h1 : l' ≤ l) (h2 : h ≤ h') : kb l' x h' := ⟨Int.le_trans h1 b.1, Int.le_trans b.2 h2⟩
theorem kb_eq {l h : Int} {x y : Int32} (e : x = y) (b : kb l y h) : kb l x h := by rw [e]; exact b
theorem kb_no {l h : Int} {x : Int32} {C : Prop} (b : kb l x h) (q : h < l) : C := absurd (Int.le_trans b.1 b.2) (Int.not_le.mpr q)
theorem kb_in {l h : Int} {x : Int32} {n : Nat} (b : kb l x h) (h1 : 0 ≤ l) (h2 : h < (n : Int)) : vp_in x n := by
  intro q
  have e0 : (0 : Int32).toInt = 0 := by decide +kernel
  have b1 := b.1
  have b2 := b.2
  rcases q with q | q
  · rw [Int32.lt_iff_toInt_lt] at q; omega
  · unfold Int32.toNatClampNeg at q; omega
theorem kb_cl {l h : Int} {x : Int32} (b : kb l x h) (h1 : 0 ≤ l) : (x.toNatClampNeg : Int) = x.toInt := by
  have b1 := b.1
  unfold Int32.toNatClampNeg; omega
theorem kt_add {l1 h1 l2 h2 : Int} {x y : Int32} (bx : kb l1 x h1) (by_ : kb l2 y h2) (q1 : -2147483648 ≤ l1 + l2) (q2 : h1 + h2 ≤ 2147483647) : (x + y).toInt = x.toInt + y.toInt := by
  have := bx.1; have := bx.2; have := by_.1; have := by_.2
  rw [Int32.toInt_add, Int.bmod_eq_of_le] <;> omega
theorem kt_sub {l1 h1 l2 h2 : Int} {x y : Int32} (bx : kb l1 x h1) (by_ : kb l2 y h2) (q1 : -2147483648 ≤ l1 - h2) (q2 : h1 - l2 ≤ 2147483647) : (x - y).toInt = x.toInt - y.toInt := by
  have := bx.1; have := bx.2; have := by_.1; have := by_.2
  rw [Int32.toInt_sub, Int.bmod_eq_of_le] <;> omega
theorem kb_add {l1 h1 l2 h2 : Int} {x y : Int32} (bx : kb l1 x h1) (by_ : kb l2 y h2) (q1 : -2147483648 ≤ l1 + l2) (q2 : h1 + h2 ≤ 2147483647) : kb (l1 + l2) (x + y) (h1 + h2) := by
  have := bx.1; have := bx.2; have := by_.1; have := by_.2
  unfold kb; rw [kt_add bx by_ q1 q2]; omega
theorem kb_sub {l1 h1 l2 h2 : Int} {x y : Int32} (bx : kb l1 x h1) (by_ : kb l2 y h2) (q1 : -2147483648 ≤ l1 - h2) (q2 : h1 - l2 ≤ 2147483647) : kb (l1 - h2) (x - y) (h1 - l2) := by
  have := bx.1; have := bx.2; have := by_.1; have := by_.2
  unfold kb; rw [kt_sub bx by_ q1 q2]; omega
theorem kt_mul {l1 h1 l2 h2 : Int} {x y : Int32} (bx : kb l1 x h1) (by_ : kb l2 y h2) (p1 : 0 ≤ l1) (p2 : 0 ≤ l2) (q2 : h1 * h2 ≤ 2147483647) : (x * y).toInt = x.toInt * y.toInt := by
  have a1 := bx.1; have a2 := bx.2; have a3 := by_.1; have a4 := by_.2
  have m1 : 0 ≤ x.toInt * y.toInt := Int.mul_nonneg (by omega) (by omega)
  have m2 : x.toInt * y.toInt ≤ h1 * h2 := Int.mul_le_mul a2 a4 (by omega) (by omega)
  rw [Int32.toInt_mul, Int.bmod_eq_of_le] <;> omega
theorem kb_mul {l1 h1 l2 h2 : Int} {x y : Int32} (bx : kb l1 x h1) (by_ : kb l2 y h2) (p1 : 0 ≤ l1) (p2 : 0 ≤ l2) (q2 : h1 * h2 ≤ 2147483647) : kb (l1 * l2) (x * y) (h1 * h2) := by
  have a1 := bx.1; have a2 := bx.2; have a3 := by_.1; have a4 := by_.2
  unfold kb; rw [kt_mul bx by_ p1 p2 q2]
  exact ⟨Int.mul_le_mul a1 a3 p2 (by omega), Int.mul_le_mul a2 a4 (by omega) (by omega)⟩
theorem kt_neg {l h : Int} {x : Int32} (b : kb l x h) (q : -2147483647 ≤ l) : (-x).toInt = -x.toInt := by
  have := b.1; have := b.2; have := Int32.toInt_lt x
  rw [Int32.toInt_neg, Int.bmod_eq_of_le] <;> omega
theorem kb_neg {l h : Int} {x : Int32} (b : kb l x h) (q : -2147483647 ≤ l) : kb (-h) (-x) (-l) := by
  have := b.1; have := b.2
  unfold kb; rw [kt_neg b q]; omega
theorem kn_nat {l h : Int} {x : Int32} (b : kb l x h) (p : 0 ≤ l) : ∃ n : Nat, x = nI n ∧ (n : Int) = x.toInt ∧ n < 2 ^ 31 := by
  have b1 := b.1
  have b2 := Int32.toInt_lt x
  refine ⟨x.toInt.toNat, ?_, by omega, by omega⟩
  apply Int32.toInt_inj.mp
  unfold nI
  rw [Int32.toInt_ofNat']
  have hz : Int32.size = 4294967296 := rfl
  rw [hz, Int.bmod_eq_of_le] <;> omega
theorem kn_to {n : Nat} (h : n < 2 ^ 31) : (nI n).toInt = n := by
  unfold nI
  rw [Int32.toInt_ofNat']
  have hz : Int32.size = 4294967296 := rfl
  rw [hz, Int.bmod_eq_of_le] <;> omega
theorem kb_nI {n N : Nat} (h : n ≤ N) (hN : N < 2 ^ 31) : kb 0 (nI n) N := by
  unfold kb; rw [kn_to (by omega)]; omega
theorem kb_and {x m : Int32} (k : Nat) (hm : m.toBitVec.toNat = 2 ^ k - 1) (hk : k ≤ 30) : kb 0 (x &&& m) ((2 ^ k - 1 : Nat) : Int) := by
  obtain ⟨j, hj, e⟩ := pk_andE x k hm
  have h2 : 2 ^ k ≤ 2 ^ 30 := Nat.pow_le_pow_right (by decide) hk
  rw [e]
  exact kb_nI (by omega) (by omega)
theorem kn_bv {n : Nat} (h : n < 2 ^ 32) : (nI n).toBitVec.toNat = n := by
  have : (nI n).toBitVec = BitVec.ofNat 32 n := rfl
  rw [this, BitVec.toNat_ofNat, Nat.mod_eq_of_lt h]
theorem kb_or {x y : Int32} (k : Nat) {l1 l2 h1 h2 : Int} (bx : kb l1 x h1) (by_ : kb l2 y h2) (p1 : 0 ≤ l1) (p2 : 0 ≤ l2) (q1 : h1 < ((2 ^ k : Nat) : Int)) (q2 : h2 < ((2 ^ k : Nat) : Int)) (hk : k ≤ 30) : kb 0 (x ||| y) ((2 ^ k - 1 : Nat) : Int) := by
  obtain ⟨a, ea, ha, la⟩ := kn_nat bx p1
  obtain ⟨b, eb, hb, lb⟩ := kn_nat by_ p2
  have a2 := bx.2
  have b2 := by_.2
  have ha2 : a < 2 ^ k := by omega
  have hb2 : b < 2 ^ k := by omega
  have hab : a ||| b < 2 ^ k := Nat.or_lt_two_pow ha2 hb2
  have h30 : 2 ^ k ≤ 2 ^ 30 := Nat.pow_le_pow_right (by decide) hk
  have e : x ||| y = nI (a ||| b) := by
    rw [ea, eb]
    apply Int32.toBitVec_inj.mp
    apply BitVec.eq_of_toNat_eq
    rw [kn_bv (by omega), Int32.toBitVec_or, BitVec.toNat_or, kn_bv (by omega), kn_bv (by omega)]
  rw [e]
  exact kb_nI (by omega) (by omega)
theorem kn_shl : ∀ n : Fin 31, ((1 : Int32) <<< (nI n.val &&& 31)) = nI (2 ^ n.val) := by decide +kernel
theorem kb_shl {l h : Nat} {y : Int32} (b : kb l y h) (q : h ≤ 30) : kb ((2 ^ l : Nat) : Int) ((1 : Int32) <<< (y &&& 31)) ((2 ^ h : Nat) : Int) := by
  obtain ⟨a, ea, ha, la⟩ := kn_nat b (by omega)
  have b1 := b.1
  have b2 := b.2
  have e : ((1 : Int32) <<< (nI a &&& 31)) = nI (2 ^ a) := kn_shl ⟨a, by omega⟩
  have h1 : 2 ^ a ≤ 2 ^ h := Nat.pow_le_pow_right (by decide) (by omega)
  have h2 : 2 ^ l ≤ 2 ^ a := Nat.pow_le_pow_right (by decide) (by omega)
  have h3 : 2 ^ h ≤ 2 ^ 30 := Nat.pow_le_pow_right (by decide) q
  rw [ea, e]
  unfold kb
  rw [kn_to (by show 2 ^ a < 2 ^ 31; omega)]
  show ((2 ^ l : Nat) : Int) ≤ ((2 ^ a : Nat) : Int) ∧ _
  omega
theorem kb_div {l h : Int} {x y : Int32} {d : Nat} (b : kb l x h) (p : 0 ≤ l) (ey : y = nI d) (d0 : 0 < d) (d1 : d < 2 ^ 31) : kb (l / d) (x / y) (h / d) := by
  obtain ⟨a, ea, ha, la⟩ := kn_nat b p
  have b1 := b.1
  have b2 := b.2
  rw [ea, ey, pk_div la d0 d1]
  unfold kb
  rw [kn_to (Nat.lt_of_le_of_lt (Nat.div_le_self a d) la)]
  have e : ((a / d : Nat) : Int) = (a : Int) / d := Int.natCast_ediv a d
  rw [e]
  exact ⟨Int.ediv_le_ediv (by omega) (by omega), Int.ediv_le_ediv (by omega) (by omega)⟩
theorem kt_div {l h : Int} {x y : Int32} {d : Nat} (b : kb l x h) (p : 0 ≤ l) (ey : y = nI d) (d0 : 0 < d) (d1 : d < 2 ^ 31) : (x / y).toInt = x.toInt / d := by
  obtain ⟨a, ea, ha, la⟩ := kn_nat b p
  rw [ea, ey, pk_div la d0 d1, kn_to (Nat.lt_of_le_of_lt (Nat.div_le_self a d) la), kn_to la]
  exact Int.natCast_ediv a d
theorem kb_rem {l h : Int} {x y : Int32} {d : Nat} (b : kb l x h) (p : 0 ≤ l) (ey : y = nI d) (d0 : 0 < d) (d1 : d < 2 ^ 31) : kb 0 (x - x / y * y) ((d - 1 : Nat) : Int) := by
  obtain ⟨a, ea, ha, la⟩ := kn_nat b p
  have hm : a % d < d := Nat.mod_lt a d0
  rw [ea, ey, pk_rem la d0 d1]
  exact kb_nI (by omega) (by omega)
theorem kb_i2b (x : Int32) : kb (-128) x.toInt8.toInt32 127 := by
  unfold kb
  rw [Int8.toInt_toInt32]
  have := Int8.le_toInt x.toInt8
  have := Int8.toInt_lt x.toInt8
  omega
theorem kc_lt {x y : Int32} (h : x < y) : x.toInt < y.toInt := Int32.lt_iff_toInt_lt.mp h
theorem kc_nlt {x y : Int32} (h : ¬ x < y) : y.toInt ≤ x.toInt := by rw [Int32.lt_iff_toInt_lt] at h; omega
theorem kc_le {x y : Int32} (h : x ≤ y) : x.toInt ≤ y.toInt := Int32.le_iff_toInt_le.mp h
theorem kc_nle {x y : Int32} (h : ¬ x ≤ y) : y.toInt < x.toInt := by rw [Int32.le_iff_toInt_le] at h; omega
theorem kr_lt1 {lx hx ly hy : Int} {x y : Int32} {H : Int} (h : x.toInt < y.toInt) (bx : kb lx x hx) (by_ : kb ly y hy) (e : hy ≤ H + 1) : kb lx x H := ⟨bx.1, by have := by_.2; omega⟩
theorem kr_lt2 {lx hx ly hy : Int} {x y : Int32} {L : Int} (h : x.toInt < y.toInt) (bx : kb lx x hx) (by_ : kb ly y hy) (e : L ≤ lx + 1) : kb L y hy := ⟨by have := bx.1; omega, by_.2⟩
theorem kr_le1 {lx hx ly hy : Int} {x y : Int32} (h : x.toInt ≤ y.toInt) (bx : kb lx x hx) (by_ : kb ly y hy) : kb lx x hy := ⟨bx.1, by have := by_.2; omega⟩
theorem kr_le2 {lx hx ly hy : Int} {x y : Int32} (h : x.toInt ≤ y.toInt) (bx : kb lx x hx) (by_ : kb ly y hy) : kb lx y hy := ⟨by have := bx.1; omega, by_.2⟩
theorem kr_neh {lx hx : Int} {x y : Int32} {H : Int} (h : ¬ x = y) (bx : kb lx x hx) (by_ : kb hx y hx) (e : hx = H + 1) : kb lx x H := by
  have := bx.1; have := bx.2; have := by_.1; have := by_.2
  have : ¬ x.toInt = y.toInt := fun q => h (Int32.toInt_inj.mp q)
  unfold kb; omega
theorem kr_nel {lx hx : Int} {x y : Int32} {L : Int} (h : ¬ x = y) (bx : kb lx x hx) (by_ : kb lx y lx) (e : L = lx + 1) : kb L x hx := by
  have := bx.1; have := bx.2; have := by_.1; have := by_.2
  have : ¬ x.toInt = y.toInt := fun q => h (Int32.toInt_inj.mp q)
  unfold kb; omega
theorem kb_bo {x : Int32} (b : kb 0 x 1) : narrow .boolean (.int x) = .int x := by
  have h1 := b.1
  have h2 := b.2
  have e0 : (0 : Int32).toInt = 0 := by decide +kernel
  have e1 : (1 : Int32).toInt = 1 := by decide +kernel
  have h : x = 0 ∨ x = 1 := by
    by_cases q : x.toInt = 0
    · exact Or.inl (Int32.toInt_inj.mp (by omega))
    · exact Or.inr (Int32.toInt_inj.mp (by omega))
  rcases h with h | h <;> rw [h] <;> rfl
/-! a loop's measure: up, down -/
theorem km_up {N : Int} {x z : Int32} {n : Nat} (h : N < x.toInt + ((n + 1 : Nat) : Int)) (e : z.toInt = x.toInt + 1) : N < z.toInt + (n : Int) := by omega
theorem km_dn {N : Int} {x z : Int32} {n : Nat} (h : x.toInt + N < ((n + 1 : Nat) : Int)) (e : z.toInt = x.toInt - 1) : z.toInt + N < (n : Int) := by omega
theorem km_inc {x : Int32} {l h : Int} (b : kb l x h) (q1 : -2147483648 ≤ l) (q2 : h ≤ 2147483646) : (x + Int32.ofInt 1).toInt = x.toInt + 1 := by
  have e : (Int32.ofInt 1).toInt = 1 := by decide +kernel
  have b2 : kb 1 (Int32.ofInt 1) 1 := by unfold kb; omega
  rw [kt_add b b2 (by omega) (by omega), e]
theorem km_dec {x : Int32} {l h : Int} (b : kb l x h) (q1 : -2147483647 ≤ l) : (x + Int32.ofInt (-1)).toInt = x.toInt - 1 := by
  have e : (Int32.ofInt (-1)).toInt = -1 := by decide +kernel
  have b2 : kb (-1) (Int32.ofInt (-1)) (-1) := by unfold kb; omega
  have := Int32.toInt_lt x
  have b3 : kb l x 2147483647 := ⟨b.1, by omega⟩
  rw [kt_add b3 b2 (by omega) (by omega), e]; omega
theorem kb_inc {x z : Int32} {l h k : Int} (e : z.toInt = x.toInt + k) (b : kb l x h) : kb (l + k) z (h + k) := by
  have := b.1; have := b.2; unfold kb; omega
/-! long numbers -/
theorem kbl_eq {l h : Int} {x y : Int64} (e : x = y) (b : kbl l y h) : kbl l x h := by rw [e]; exact b
theorem kbl_any (x : Int64) : kbl (-9223372036854775808) x 9223372036854775807 := ⟨Int64.le_toInt x, by have := Int64.toInt_lt x; omega⟩
theorem kbl_w {l h l' h' : Int} {x : Int64} (b : kbl l x h) (h1 : l' ≤ l) (h2 : h ≤ h') : kbl l' x h' := ⟨Int.le_trans h1 b.1, Int.le_trans b.2 h2⟩
theorem kbl_i2l {l h : Int} {x : Int32} (b : kb l x h) : kbl l x.toInt64 h := by
  unfold kbl; rw [Int32.toInt_toInt64]; exact b
theorem kb_l2i {l h : Int} {x : Int64} (b : kbl l x h) (q1 : -2147483648 ≤ l) (q2 : h ≤ 2147483647) : kb l x.toInt32 h := by
  have := b.1; have := b.2
  unfold kb; rw [Int64.toInt_toInt32, Int.bmod_eq_of_le] <;> omega
/-! rows and numbers of a world between bounds -/
def aI (B : Nat → Nat → Int × Int) (a : Nat → Nat → Int32) : Prop := ∀ s i, (B s i).1 ≤ (a s i).toInt ∧ (a s i).toInt ≤ (B s i).2
def fI (B : Nat → Int × Int) (f : Nat → Int32) : Prop := ∀ i, (B i).1 ≤ (f i).toInt ∧ (f i).toInt ≤ (B i).2
def bLd (B : Nat → Nat → Int × Int) (s l n : Nat) (L H : Int) : Bool := (List.range n).all (fun j => decide (L ≤ (B s (l + j)).1) && decide ((B s (l + j)).2 ≤ H))
def bSt (B : Nat → Nat → Int × Int) (s l n : Nat) (L H : Int) : Bool := (List.range n).all (fun j => decide ((B s (l + j)).1 ≤ L) && decide (H ≤ (B s (l + j)).2))
theorem aI_at {B : Nat → Nat → Int × Int} {a : Nat → Nat → Int32} (h : aI B a) (s i : Nat) {L H : Int} (q1 : L ≤ (B s i).1) (q2 : (B s i).2 ≤ H) : kb L (a s i) H := ⟨Int.le_trans q1 (h s i).1, Int.le_trans (h s i).2 q2⟩
theorem aI_ld {B : Nat → Nat → Int × Int} {a : Nat → Nat → Int32} (h : aI B a) (s l n : Nat) {x : Int32} {l' h' L H : Int} (b : kb l' x h') (hl : l' = (l : Int)) (hh : h' < (l : Int) + (n : Int)) (hc : bLd B s l n L H = true) : kb L (a s x.toNatClampNeg) H := by
  have b1 := b.1; have b2 := b.2
  have e := kb_cl b (by omega)
  have hc := List.all_eq_true.mp hc (x.toNatClampNeg - l) (List.mem_range.mpr (by omega))
  rw [Bool.and_eq_true] at hc
  have e2 : l + (x.toNatClampNeg - l) = x.toNatClampNeg := by omega
  rw [e2] at hc
  exact aI_at h s _ (of_decide_eq_true hc.1) (of_decide_eq_true hc.2)
theorem fI_at {B : Nat → Int × Int} {f : Nat → Int32} (h : fI B f) (i : Nat) {L H : Int} (q1 : L ≤ (B i).1) (q2 : (B i).2 ≤ H) : kb L (f i) H := ⟨Int.le_trans q1 (h i).1, Int.le_trans (h i).2 q2⟩
theorem fI_st {B : Nat → Int × Int} {f : Nat → Int32} (h : fI B f) (i : Nat) {x : Int32} {L H : Int} (b : kb L x H) (q1 : (B i).1 ≤ L) (q2 : H ≤ (B i).2) : fI B (upd f i x) := by
  intro j
  by_cases e : j = i
  · rw [e, pk_us]; exact ⟨Int.le_trans q1 b.1, Int.le_trans b.2 q2⟩
  · rw [pk_un e]; exact h j
theorem aI_st {B : Nat → Nat → Int × Int} {a : Nat → Nat → Int32} (h : aI B a) (s k : Nat) {y : Int32} {L H : Int} (by_ : kb L y H) (q1 : (B s k).1 ≤ L) (q2 : H ≤ (B s k).2) : aI B (va_up a s (upd (a s) k y)) := by
  intro s' j
  unfold va_up
  by_cases e : s' = s
  · rw [if_pos e, e]
    by_cases e2 : j = k
    · rw [e2, pk_us]; exact ⟨Int.le_trans q1 by_.1, Int.le_trans by_.2 q2⟩
    · rw [pk_un e2]; exact h s j
  · rw [if_neg e]; exact h s' j
theorem aI_sx {B : Nat → Nat → Int × Int} {a : Nat → Nat → Int32} (h : aI B a) (s l n : Nat) {x y : Int32} {l' h' L H : Int} (b : kb l' x h') (hl : l' = (l : Int)) (hh : h' < (l : Int) + (n : Int)) (by_ : kb L y H) (hc : bSt B s l n L H = true) : aI B (va_up a s (upd (a s) x.toNatClampNeg y)) := by
  have b1 := b.1; have b2 := b.2
  have e := kb_cl b (by omega)
  have hc := List.all_eq_true.mp hc (x.toNatClampNeg - l) (List.mem_range.mpr (by omega))
  rw [Bool.and_eq_true] at hc
  have e2 : l + (x.toNatClampNeg - l) = x.toNatClampNeg := by omega
  rw [e2] at hc
  exact aI_st h s _ by_ (of_decide_eq_true hc.1) (of_decide_eq_true hc.2)
/-- a row without bounds may be written anywhere -/
theorem aI_free {B : Nat → Nat → Int × Int} {a : Nat → Nat → Int32} (h : aI B a) (s k : Nat) {y : Int32} (q : ∀ j, (B s j).1 ≤ -2147483648 ∧ 2147483647 ≤ (B s j).2) : aI B (va_up a s (upd (a s) k y)) := aI_st h s k (kb_any y) (q k).1 (q k).2
theorem kb_nc {c : Nat} {x : Int32} {l h : Int} (b : kb l x h) (p : 0 ≤ l) (q : (c : Int) < l ∨ h < (c : Int)) : c ≠ x.toNatClampNeg := by
  intro e
  have := b.1; have := b.2; have e2 := kb_cl b p
  omega
theorem kb_nd {x y : Int32} {l1 h1 l2 h2 : Int} (b : kb l1 x h1) (b2 : kb l2 y h2) (p1 : 0 ≤ l1) (p2 : 0 ≤ l2) (q : h1 < l2 ∨ h2 < l1) : x.toNatClampNeg ≠ y.toNatClampNeg := by
  intro e
  have := b.1; have := b.2; have e2 := kb_cl b p1
  have := b2.1; have := b2.2; have e3 := kb_cl b2 p2
  omega
theorem kb_dj {C : Prop} {x y : Int32} {l1 h1 l2 h2 : Int} (e : x = y) (b : kb l1 x h1) (b2 : kb l2 y h2) (q : h1 < l2 ∨ h2 < l1) : C := by
  have := b.1; have := b.2; have := b2.1; have := b2.2
  rw [e] at *; exfalso; omega
theorem kb_nsame {C : Prop} {x y : Int32} {l : Int} (e : ¬ x = y) (b : kb l x l) (b2 : kb l y l) : C := by
  have := b.1; have := b.2; have := b2.1; have := b2.2
  exact absurd (Int32.toInt_inj.mp (by omega)) e
theorem kb_ofInt (k : Int) (h : (Int32.ofInt k).toInt = k) : kb k (Int32.ofInt k) k := ⟨by omega, by omega⟩
theorem km_add {x : Int32} {l h k : Int} (b : kb l x h) (e : (Int32.ofInt k).toInt = k) (q1 : -2147483648 ≤ l + k) (q2 : h + k ≤ 2147483647) : (x + Int32.ofInt k).toInt = x.toInt + k := by
  rw [kt_add b (kb_ofInt k e) q1 q2, e]
theorem klc_t (x y : Int64) : (lg_cmp x y).toInt = if y.toInt < x.toInt then 1 else if x.toInt = y.toInt then 0 else -1 := by
  have e0 : (0 : Int32).toInt = 0 := by decide +kernel
  have e1 : (1 : Int32).toInt = 1 := by decide +kernel
  have e2 : (-1 : Int32).toInt = -1 := by decide +kernel
  unfold lg_cmp
  by_cases h : y < x
  · rw [if_pos h, if_pos (Int64.lt_iff_toInt_lt.mp h)]; exact e1
  · rw [if_neg h, if_neg (fun q => h (Int64.lt_iff_toInt_lt.mpr q))]
    by_cases h2 : x = y
    · rw [if_pos h2, if_pos (congrArg _ h2)]; exact e0
    · rw [if_neg h2, if_neg (fun q => h2 (Int64.toInt_inj.mp q))]; exact e2
theorem klc_lt {x y : Int64} (h : lg_cmp x y < 0) : x.toInt < y.toInt := by
  have e0 : (0 : Int32).toInt = 0 := by decide +kernel
  have e := klc_t x y
  simp only [Int32.lt_iff_toInt_lt, Int32.le_iff_toInt_le] at h
  split at e <;> (try split at e) <;> omega
theorem klc_nlt {x y : Int64} (h : ¬ lg_cmp x y < 0) : y.toInt ≤ x.toInt := by
  have e0 : (0 : Int32).toInt = 0 := by decide +kernel
  have e := klc_t x y
  simp only [Int32.lt_iff_toInt_lt, Int32.le_iff_toInt_le] at h
  split at e <;> (try split at e) <;> omega
theorem klc_ge {x y : Int64} (h : 0 ≤ lg_cmp x y) : y.toInt ≤ x.toInt := by
  have e0 : (0 : Int32).toInt = 0 := by decide +kernel
  have e := klc_t x y
  simp only [Int32.lt_iff_toInt_lt, Int32.le_iff_toInt_le] at h
  split at e <;> (try split at e) <;> omega
theorem klc_nge {x y : Int64} (h : ¬ 0 ≤ lg_cmp x y) : x.toInt < y.toInt := by
  have e0 : (0 : Int32).toInt = 0 := by decide +kernel
  have e := klc_t x y
  simp only [Int32.lt_iff_toInt_lt, Int32.le_iff_toInt_le] at h
  split at e <;> (try split at e) <;> omega
theorem klc_gt {x y : Int64} (h : 0 < lg_cmp x y) : y.toInt < x.toInt := by
  have e0 : (0 : Int32).toInt = 0 := by decide +kernel
  have e := klc_t x y
  simp only [Int32.lt_iff_toInt_lt, Int32.le_iff_toInt_le] at h
  split at e <;> (try split at e) <;> omega
theorem klc_ngt {x y : Int64} (h : ¬ 0 < lg_cmp x y) : x.toInt ≤ y.toInt := by
  have e0 : (0 : Int32).toInt = 0 := by decide +kernel
  have e := klc_t x y
  simp only [Int32.lt_iff_toInt_lt, Int32.le_iff_toInt_le] at h
  split at e <;> (try split at e) <;> omega
theorem klc_le {x y : Int64} (h : lg_cmp x y ≤ 0) : x.toInt ≤ y.toInt := by
  have e0 : (0 : Int32).toInt = 0 := by decide +kernel
  have e := klc_t x y
  simp only [Int32.lt_iff_toInt_lt, Int32.le_iff_toInt_le] at h
  split at e <;> (try split at e) <;> omega
theorem klc_nle {x y : Int64} (h : ¬ lg_cmp x y ≤ 0) : y.toInt < x.toInt := by
  have e0 : (0 : Int32).toInt = 0 := by decide +kernel
  have e := klc_t x y
  simp only [Int32.lt_iff_toInt_lt, Int32.le_iff_toInt_le] at h
  split at e <;> (try split at e) <;> omega
theorem klc_eq {x y : Int64} (h : lg_cmp x y = 0) : x = y := by
  have e0 : (0 : Int32).toInt = 0 := by decide +kernel
  have e := klc_t x y
  rw [h] at e
  apply Int64.toInt_inj.mp
  split at e <;> (try split at e) <;> omega
theorem klc_ne {x y : Int64} (h : ¬ lg_cmp x y = 0) : ¬ x = y := by
  intro q
  apply h
  apply Int32.toInt_inj.mp
  have e0 : (0 : Int32).toInt = 0 := by decide +kernel
  have e := klc_t x y
  rw [q] at e ⊢
  rw [e, e0]
  simp
theorem klr_lt1 {lx hx ly hy : Int} {x y : Int64} {H : Int} (h : x.toInt < y.toInt) (bx : kbl lx x hx) (by_ : kbl ly y hy) (e : hy ≤ H + 1) : kbl lx x H := ⟨bx.1, by have := by_.2; omega⟩
theorem klr_lt2 {lx hx ly hy : Int} {x y : Int64} {L : Int} (h : x.toInt < y.toInt) (bx : kbl lx x hx) (by_ : kbl ly y hy) (e : L ≤ lx + 1) : kbl L y hy := ⟨by have := bx.1; omega, by_.2⟩
theorem klr_le1 {lx hx ly hy : Int} {x y : Int64} (h : x.toInt ≤ y.toInt) (bx : kbl lx x hx) (by_ : kbl ly y hy) : kbl lx x hy := ⟨bx.1, by have := by_.2; omega⟩
theorem klr_le2 {lx hx ly hy : Int} {x y : Int64} (h : x.toInt ≤ y.toInt) (bx : kbl lx x hx) (by_ : kbl ly y hy) : kbl lx y hy := ⟨by have := bx.1; omega, by_.2⟩
theorem bX_at {X : Nat → Bool} (l n : Nat) {x : Int32} {l' h' : Int} (b : kb l' x h') (hl : l' = (l : Int)) (hh : h' < (l : Int) + (n : Int)) (hc : (List.range n).all (fun j => X (l + j)) = true) : X x.toNatClampNeg = true := by
  have b1 := b.1; have b2 := b.2
  have e := kb_cl b (by omega)
  have hc := List.all_eq_true.mp hc (x.toNatClampNeg - l) (List.mem_range.mpr (by omega))
  have e2 : l + (x.toNatClampNeg - l) = x.toNatClampNeg := by omega
  rw [e2] at hc
  exact hc
theorem kb_clt {x : Int32} {l h : Int} {n : Nat} (b : kb l x h) (p : 0 ≤ l) (q : h < (n : Int)) : x.toNatClampNeg < n := by
  have := b.2; have e := kb_cl b p; omega
theorem kb_c {c : Int} {y : Int32} (b : kb c y c) : y.toInt = c := Int.le_antisymm b.2 b.1
theorem kt_addc {l1 h1 c : Int} {x y : Int32} (bx : kb l1 x h1) (by_ : kb c y c) (q1 : -2147483648 ≤ l1 + c) (q2 : h1 + c ≤ 2147483647) : (x + y).toInt = x.toInt + c := by rw [kt_add bx by_ q1 q2, kb_c by_]
theorem kt_cadd {l1 h1 c : Int} {x y : Int32} (by_ : kb c y c) (bx : kb l1 x h1) (q1 : -2147483648 ≤ c + l1) (q2 : c + h1 ≤ 2147483647) : (y + x).toInt = c + x.toInt := by rw [kt_add by_ bx q1 q2, kb_c by_]
theorem kt_subc {l1 h1 c : Int} {x y : Int32} (bx : kb l1 x h1) (by_ : kb c y c) (q1 : -2147483648 ≤ l1 - c) (q2 : h1 - c ≤ 2147483647) : (x - y).toInt = x.toInt - c := by rw [kt_sub bx by_ q1 q2, kb_c by_]
theorem kt_csub {l1 h1 c : Int} {x y : Int32} (by_ : kb c y c) (bx : kb l1 x h1) (q1 : -2147483648 ≤ c - h1) (q2 : c - l1 ≤ 2147483647) : (y - x).toInt = c - x.toInt := by rw [kt_sub by_ bx q1 q2, kb_c by_]
theorem kt_mulc {l1 h1 c : Int} {x y : Int32} (bx : kb l1 x h1) (by_ : kb c y c) (p1 : 0 ≤ l1) (p2 : 0 ≤ c) (q2 : h1 * c ≤ 2147483647) : (x * y).toInt = x.toInt * c := by rw [kt_mul bx by_ p1 p2 q2, kb_c by_]
theorem kt_cmul {l1 h1 c : Int} {x y : Int32} (by_ : kb c y c) (bx : kb l1 x h1) (p2 : 0 ≤ c) (p1 : 0 ≤ l1) (q2 : c * h1 ≤ 2147483647) : (y * x).toInt = c * x.toInt := by rw [kt_mul by_ bx p2 p1 q2, kb_c by_]
theorem kb_of2 {x : Int32} {l h : Int} (q : l ≤ x.toInt ∧ x.toInt ≤ h) : kb l x h := q
theorem kb_nz {l h : Int} {y : Int32} (b : kb l y h) (q : 0 < l) : ¬ y = 0 := by
  intro e
  have := b.1
  have e0 : (0 : Int32).toInt = 0 := by decide +kernel
  rw [e] at this; omega
theorem kb_fit {x : Int32} (b : kb 0 x 1) : fits .boolean (.int x) = true := by
  have h1 := b.1
  have h2 := b.2
  have e0 : (0 : Int32).toInt = 0 := by decide +kernel
  have e1 : (1 : Int32).toInt = 1 := by decide +kernel
  have h : x = 0 ∨ x = 1 := by
    by_cases q : x.toInt = 0
    · exact Or.inl (Int32.toInt_inj.mp (by omega))
    · exact Or.inr (Int32.toInt_inj.mp (by omega))
  rcases h with h | h <;> rw [h] <;> rfl
