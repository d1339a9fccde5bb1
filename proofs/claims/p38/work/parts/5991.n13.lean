/-! orders -/
def oW (k : Nat → Int32) (dn st : Int32) (n : Nat) : Int :=
  if n = 0 then (k 22).toInt else if n = 1 then dn.toInt else if n = 2 then st.toInt else if n = 3 then (pop (upM k).toInt.toNat : Int)
  else if n < 14 then (if ((n - 4 : Nat) : Int) < (k 102).toInt then (k (0 + (n - 4))).toInt else -1)
  else if n < 20 then (if ((n - 14 : Nat) : Int) < (k 103).toInt then (k (10 + (n - 14))).toInt else -1)
  else if n < 26 then (if ((n - 20 : Nat) : Int) < (k 103).toInt then (k (16 + (n - 20))).toInt else -1) else 0
theorem oW_l {k : Nat → Int32} {dn st : Int32} {p : Nat} (h : p < 10) : oW k dn st (4 + p) = if (p : Int) < (k 102).toInt then (k (0 + p)).toInt else -1 := by
  unfold oW
  rw [if_neg (by omega), if_neg (by omega), if_neg (by omega), if_neg (by omega), if_pos (by omega), show 4 + p - 4 = p by omega]
theorem oW_t {k : Nat → Int32} {dn st : Int32} {p : Nat} (h : p < 6) : oW k dn st (14 + p) = if (p : Int) < (k 103).toInt then (k (10 + p)).toInt else -1 := by
  unfold oW
  rw [if_neg (by omega), if_neg (by omega), if_neg (by omega), if_neg (by omega), if_neg (by omega), if_pos (by omega), show 14 + p - 14 = p by omega]
theorem oW_a {k : Nat → Int32} {dn st : Int32} {p : Nat} (h : p < 6) : oW k dn st (20 + p) = if (p : Int) < (k 103).toInt then (k (16 + p)).toInt else -1 := by
  unfold oW
  rw [if_neg (by omega), if_neg (by omega), if_neg (by omega), if_neg (by omega), if_neg (by omega), if_neg (by omega), if_pos (by omega), show 20 + p - 20 = p by omega]
theorem popI_le (x : Nat) : ∀ n, popI x n ≤ n
  | 0 => Nat.le_refl 0
  | n + 1 => by
    have w := popI_le x n
    show popI x n + x / 2 ^ n % 2 ≤ n + 1
    omega
theorem pop_le (x : Nat) : pop x ≤ 10 := by rw [← popI_10]; exact popI_le x 10
theorem oW_b {k : Nat → Int32} {dn st : Int32} (h : kK k) (hd : kb 0 dn 100000) (hs : kb (-1) st 99) : wB (oW k dn st) := by
  intro n
  have d1 := hd.1
  have d2 := hd.2
  have s1 := hs.1
  have s2 := hs.2
  have q1 := kK_r h 22 0 1000000 (by decide) (by decide)
  have q2 := pop_le (upM k).toInt.toNat
  unfold kb at q1
  unfold oBp
  by_cases c1 : n < 4
  · unfold oW
    repeat' split
    all_goals omega
  · by_cases c2 : n < 14
    · have e := oW_l (k := k) (dn := dn) (st := st) (p := n - 4) (by omega)
      rw [show 4 + (n - 4) = n by omega] at e
      rw [e]
      have q := kK_s h 0 10 0 99 (by decide) (by decide) (show n - 4 < 10 by omega)
      unfold kb at q
      split <;> omega
    · by_cases c3 : n < 20
      · have e := oW_t (k := k) (dn := dn) (st := st) (p := n - 14) (by omega)
        rw [show 14 + (n - 14) = n by omega] at e
        rw [e]
        have q := kK_s h 10 6 0 99 (by decide) (by decide) (show n - 14 < 6 by omega)
        unfold kb at q
        split <;> omega
      · by_cases c4 : n < 26
        · have e := oW_a (k := k) (dn := dn) (st := st) (p := n - 20) (by omega)
          rw [show 20 + (n - 20) = n by omega] at e
          rw [e]
          have q := kK_s h 16 6 (-1) 9 (by decide) (by decide) (show n - 20 < 6 by omega)
          unfold kb at q
          split <;> omega
        · unfold oW
          rw [if_neg (by omega), if_neg (by omega), if_neg (by omega), if_neg (by omega), if_neg (by omega), if_neg (by omega), if_neg (by omega)]
          omega
/-- the state while orders run: the site, what can be undone, how many were run, what the latest tick told -/
abbrev oSt : Type := (Nat → Int32) × pS × Int32 × Int32
def ordR (DD : Nat → tE) (hd : Int32) (x y : Int) (k : Nat → Int32) (P : pS) : dR :=
  if hd = 2018 then sndF DD k P (Int32.ofInt x) (Int32.ofInt y) else if hd = 2019 then rstF k P (Int32.ofInt x) else if hd = 2020 then thrF k P (Int32.ofInt x) else ticF DD k P
def ordZ (R : dR) (hd : Int32) (s : oSt) : Option oSt := if 0 ≤ R.1 then some (R.2.1, R.2.2, s.2.2.1 + 1, if hd = 2021 then Int32.ofInt R.1 else s.2.2.2) else none
def ordO (DD : Nat → tE) (D : tE) (c : Nat) (s : oSt) : Option oSt :=
  if D.2.2.2.2.2.2 c (oW s.1 s.2.2.1 s.2.2.2) = some 1 then (D.2.2.2.2.1 c (oW s.1 s.2.2.1 s.2.2.2)).bind fun x => (D.2.2.2.2.2.1 c (oW s.1 s.2.2.1 s.2.2.2)).bind fun y => ordZ (ordR DD (D.2.2.1 c) x y s.1 s.2.1) (D.2.2.1 c) s
  else some s
def ordT (DD : Nat → tE) (D : tE) (c : Nat) : Nat → oSt → Option oSt
  | 0, s => some s
  | n + 1, s => (ordT DD D c n s).bind (ordO DD D c)
/-- the clauses ahead of n: which could not be, or the state behind them -/
def oA2 (n : Nat) : Option oSt → Sum Nat oSt
  | none => .inl n
  | some u => .inr u
def oA1 (DD : Nat → tE) (D : tE) (n : Nat) : Sum Nat oSt → Sum Nat oSt
  | .inl c => .inl c
  | .inr t => oA2 n (ordT DD D n (D.2.2.2.1 n).toInt.toNat t)
def ordA (DD : Nat → tE) (D : tE) (s : oSt) : Nat → Sum Nat oSt
  | 0 => .inr s
  | n + 1 => oA1 DD D n (ordA DD D s n)
section OO
variable {DD : Nat → tE} {D : tE} {c n : Nat} {s t : oSt} {x y : Int} {R : dR} {hd : Int32}
theorem od_s (h : ¬ D.2.2.2.2.2.2 c (oW s.1 s.2.2.1 s.2.2.2) = some 1) : ordO DD D c s = some s := by unfold ordO; rw [if_neg h]
theorem od_1 (h : D.2.2.2.2.2.2 c (oW s.1 s.2.2.1 s.2.2.2) = some 1) (h1 : D.2.2.2.2.1 c (oW s.1 s.2.2.1 s.2.2.2) = none) : ordO DD D c s = none := by unfold ordO; rw [if_pos h, h1]; rfl
theorem od_2 (h : D.2.2.2.2.2.2 c (oW s.1 s.2.2.1 s.2.2.2) = some 1) (h2 : D.2.2.2.2.2.1 c (oW s.1 s.2.2.1 s.2.2.2) = none) : ordO DD D c s = none := by
  unfold ordO
  rw [if_pos h, h2]
  cases D.2.2.2.2.1 c (oW s.1 s.2.2.1 s.2.2.2) <;> rfl
theorem od_g (h : D.2.2.2.2.2.2 c (oW s.1 s.2.2.1 s.2.2.2) = some 1) (h1 : D.2.2.2.2.1 c (oW s.1 s.2.2.1 s.2.2.2) = some x) (h2 : D.2.2.2.2.2.1 c (oW s.1 s.2.2.1 s.2.2.2) = some y) : ordO DD D c s = ordZ (ordR DD (D.2.2.1 c) x y s.1 s.2.1) (D.2.2.1 c) s := by unfold ordO; rw [if_pos h, h1, h2]; rfl
theorem oz_y (h : 0 ≤ R.1) : ordZ R hd s = some (R.2.1, R.2.2, s.2.2.1 + 1, if hd = 2021 then Int32.ofInt R.1 else s.2.2.2) := by unfold ordZ; rw [if_pos h]
theorem oz_n (h : ¬ 0 ≤ R.1) : ordZ R hd s = none := by unfold ordZ; rw [if_neg h]
theorem oA_f (h : ordA DD D s n = .inr t) (q : ordT DD D n (D.2.2.2.1 n).toInt.toNat t = none) : ordA DD D s (n + 1) = .inl n := by
  show oA1 DD D n (ordA DD D s n) = _
  rw [h]
  show oA2 n (ordT DD D n (D.2.2.2.1 n).toInt.toNat t) = _
  rw [q]
  rfl
theorem oA_g {u : oSt} (h : ordA DD D s n = .inr t) (q : ordT DD D n (D.2.2.2.1 n).toInt.toNat t = some u) : ordA DD D s (n + 1) = .inr u := by
  show oA1 DD D n (ordA DD D s n) = _
  rw [h]
  show oA2 n (ordT DD D n (D.2.2.2.1 n).toInt.toNat t) = _
  rw [q]
  rfl
theorem oA_k {c0 : Nat} (h : ordA DD D s n = .inl c0) : ∀ d, ordA DD D s (n + d) = .inl c0
  | 0 => h
  | d + 1 => by
    have w := oA_k h d
    show oA1 DD D (n + d) (ordA DD D s (n + d)) = _
    rw [w]
    rfl
theorem oT_s (h : ordT DD D c n s = some t) : ordT DD D c (n + 1) s = ordO DD D c t := by
  show (ordT DD D c n s).bind _ = _
  rw [h]; rfl
theorem oT_k (h : ordT DD D c n s = none) : ∀ d, ordT DD D c (n + d) s = none
  | 0 => h
  | d + 1 => by
    have w := oT_k h d
    show (ordT DD D c (n + d) s).bind _ = none
    rw [w]; rfl
end OO
theorem l2i_o (x : Int64) : x.toInt32 = Int32.ofInt x.toInt := Int32.toInt_inj.mp (by rw [Int64.toInt_toInt32, Int32.toInt_ofInt])
theorem i32s : (Int32.size : Int) = 4294967296 := rfl
theorem ofI_t {v : Int32} {x : Int} (h : v.toInt = x) : v = Int32.ofInt x := Int32.toInt_inj.mp (by
  rw [Int32.toInt_ofInt, ← h]
  have h1 := Int32.le_toInt v
  have h2 := Int32.toInt_lt v
  have h3 := i32s
  exact (Int.bmod_eq_of_le (by omega) (by omega)).symm)
/-- one more word's number -/
theorem st_w {R R' : Nat → Int64} {S : Nat → Int} {n ix : Nat} {v : Int64} (h : ∀ j, j < n → (R j).toInt = S j) (e : ∀ j, R' j = if j = ix then v else R j) (hi : ix = n) (hv : v.toInt = S n) : ∀ j, j < n + 1 → (R' j).toInt = S j := by
  intro j hj
  rw [e j]
  by_cases q : j = ix
  · rw [if_pos q, q, hi]; exact hv
  · rw [if_neg q]; exact h j (by omega)
/-! states that orders come to -/
def oG (k0 : Nat → Int32) (s : oSt) (n : Int) : Prop := kK s.1 ∧ (∀ i, 23 ≤ i → s.1 i = k0 i) ∧ kb 0 s.2.2.1 n ∧ kb (-1) s.2.2.2 99
theorem kK_pl {k : Nat → Int32} (hk : kK k) {b : Nat} {p : Int32} (hb : b < 6) (hp : kb (-1) p 9) (h2 : p.toInt < (k 102).toInt) : kK (upd k (16 + b) p) := by
  refine ⟨fun i hi => ?_, fun j hj => ?_, ?_⟩
  · by_cases c : i = 16 + b
    · have e : kBd i = (-1, 9) := by unfold kBd; rw [if_neg (by omega), if_pos (by omega)]
      rw [c, pk_us, ← c, e]; exact hp
    · rw [pk_un c]; exact hk.1 i hi
  · rw [pk_un (show (102 : Nat) ≠ 16 + b by omega)]
    by_cases c : j = b
    · rw [c, pk_us]; exact h2
    · rw [pk_un (by omega)]; exact hk.2.1 j hj
  · rw [pk_un (by omega), pk_un (by omega)]; exact hk.2.2
theorem kK_lf {k : Nat → Int32} (hk : kK k) {q : Nat} {v : Int32} (hq : q < 10) (hv : kb 0 v 99) : kK (upd k (0 + q) v) := by
  refine ⟨fun i hi => ?_, fun j hj => ?_, ?_⟩
  · by_cases c : i = 0 + q
    · have e : kBd i = (0, 99) := by unfold kBd; rw [if_pos (by omega)]
      rw [c, pk_us, ← c, e]; exact hv
    · rw [pk_un c]; exact hk.1 i hi
  · rw [pk_un (by omega), pk_un (by omega)]; exact hk.2.1 j hj
  · rw [pk_un (by omega), pk_un (by omega)]; exact hk.2.2
theorem m1_b {k : Nat → Int32} (hk : kK k) : kb (-1) (-1) 9 ∧ (-1 : Int32).toInt < (k 102).toInt := by
  have e : (-1 : Int32).toInt = -1 := by decide +kernel
  have w := (kK_r hk 102 0 10 (by decide) (by decide)).1
  exact ⟨⟨by rw [e]; decide, by rw [e]; decide⟩, by rw [e]; omega⟩
theorem okB_i {k : Nat → Int32} (hk : kK k) {x : Int32} (h : okB k x = true) : kb 0 x 5 ∧ x.toInt < (k 103).toInt := by
  unfold okB at h
  rw [Bool.and_eq_true, decide_eq_true_iff, decide_eq_true_iff] at h
  have w := (kK_r hk 103 0 6 (by decide) (by decide)).2
  exact ⟨⟨h.1, by omega⟩, h.2⟩
theorem okQ_i {k : Nat → Int32} (hk : kK k) {x : Int32} (h : okQ k x = true) : kb 0 x 9 ∧ x.toInt < (k 102).toInt := by
  unfold okQ at h
  rw [Bool.and_eq_true, decide_eq_true_iff, decide_eq_true_iff] at h
  have w := (kK_r hk 102 0 10 (by decide) (by decide)).2
  exact ⟨⟨h.1, by omega⟩, h.2⟩
theorem cl_lt {x : Int32} {h : Int} {n : Nat} (b : kb 0 x h) (q : h < (n : Int)) : x.toNatClampNeg < n := kb_clt b (by decide) q
/-- what a deed leaves is a state; what does not move stays -/
def dG (k : Nat → Int32) (R : dR) : Prop := kK R.2.1 ∧ ∀ i, 23 ≤ i → R.2.1 i = k i
theorem sndF_g {DD : Nat → tE} {k : Nat → Int32} {P : pS} {x y : Int32} (hk : kK k) : dG k (sndF DD k P x y) := by
  unfold sndF
  split
  · rename_i h1
    split
    · rename_i h2
      split
      · split
        · exact ⟨hk, fun _ _ => rfl⟩
        · have b := okB_i hk h1
          have p := okQ_i hk h2
          have hb := cl_lt b.1 (n := 6) (by decide)
          exact ⟨kK_pl hk hb ⟨by have := p.1.1; omega, p.1.2⟩ p.2, fun i hi => pk_un (by omega)⟩
      · exact ⟨hk, fun _ _ => rfl⟩
    · exact ⟨hk, fun _ _ => rfl⟩
  · exact ⟨hk, fun _ _ => rfl⟩
theorem rstF_g {k : Nat → Int32} {P : pS} {x : Int32} (hk : kK k) : dG k (rstF k P x) := by
  unfold rstF
  split
  · rename_i h1
    split
    · exact ⟨hk, fun _ _ => rfl⟩
    · have b := okB_i hk h1
      have hb := cl_lt b.1 (n := 6) (by decide)
      exact ⟨kK_pl hk hb (m1_b hk).1 (m1_b hk).2, fun i hi => pk_un (by omega)⟩
  · exact ⟨hk, fun _ _ => rfl⟩
theorem thrF_g {k : Nat → Int32} {P : pS} {y : Int32} (hk : kK k) : dG k (thrF k P y) := by
  unfold thrF
  split
  · rename_i h1
    split
    · have p := okQ_i hk h1
      have hp := cl_lt p.1 (n := 10) (by decide)
      exact ⟨kK_lf hk hp (kK_s hk 23 10 0 99 (by decide) (by decide) hp), fun i hi => pk_un (by omega)⟩
    · exact ⟨hk, fun _ _ => rfl⟩
  · exact ⟨hk, fun _ _ => rfl⟩
theorem tkR_b (k k' : Nat → Int32) : 0 ≤ tkR k k' ∧ tkR k k' ≤ 10 := by
  unfold tkR
  have := pop_le (upM k' &&& (upM k ^^^ (-1))).toInt.toNat
  omega
theorem ticF_g {DD : Nat → tE} {k : Nat → Int32} {P : pS} (hk : kK k) : dG k (ticF DD k P) := by
  unfold ticF
  split
  · exact ⟨hk, fun _ _ => rfl⟩
  · exact ⟨kK_tk hk (by omega), fun i hi => tkF_hi hk hi⟩
theorem ticF_r {DD : Nat → tE} {k : Nat → Int32} {P : pS} : -3 ≤ (ticF DD k P).1 ∧ (ticF DD k P).1 ≤ 10 := by
  unfold ticF
  split
  · exact ⟨Int.le_refl _, by show (-3 : Int) ≤ 10; decide⟩
  · have := tkR_b k (tkF DD k)
    exact ⟨by show -3 ≤ tkR _ _; omega, this.2⟩
theorem ordR_g {DD : Nat → tE} {hd : Int32} {x y : Int} {k : Nat → Int32} {P : pS} (hk : kK k) : dG k (ordR DD hd x y k P) := by
  unfold ordR
  split
  · exact sndF_g hk
  · split
    · exact rstF_g hk
    · split
      · exact thrF_g hk
      · exact ticF_g hk
theorem oG_s {DD : Nat → tE} {D : tE} {c : Nat} {k0 : Nat → Int32} {s t : oSt} {n : Int} (h : oG k0 s n) (hn : 0 ≤ n ∧ n < 100000) (q : ordO DD D c s = some t) : oG k0 t (n + 1) := by
  obtain ⟨h1, h2, h3, h4⟩ := h
  unfold ordO at q
  split at q
  · obtain ⟨x, hx, q⟩ := Option.bind_eq_some_iff.mp q
    obtain ⟨y, hy, q⟩ := Option.bind_eq_some_iff.mp q
    have g := ordR_g (DD := DD) (hd := D.2.2.1 c) (x := x) (y := y) (P := s.2.1) h1
    unfold ordZ at q
    split at q
    · rename_i r0
      have e := Option.some.inj q
      rw [← e]
      have d1 := h3.1
      have d2 := h3.2
      have e1 : (1 : Int32).toInt = 1 := by decide +kernel
      have ed : (s.2.2.1 + 1).toInt = s.2.2.1.toInt + 1 := by
        rw [kt_add (l1 := 0) (h1 := 100000) (l2 := 1) (h2 := 1) ⟨d1, by omega⟩ ⟨by rw [e1]; decide, by rw [e1]; decide⟩ (by decide) (by decide), e1]
      refine ⟨g.1, fun i hi => (g.2 i hi).trans (h2 i hi), ⟨by show 0 ≤ (s.2.2.1 + 1).toInt; omega, by show (s.2.2.1 + 1).toInt ≤ n + 1; omega⟩, ?_⟩
      show kb (-1) (if D.2.2.1 c = 2021 then _ else _) 99
      by_cases z : D.2.2.1 c = 2021
      · rw [if_pos z]
        have w : ordR DD (D.2.2.1 c) x y s.1 s.2.1 = ticF DD s.1 s.2.1 := by
          unfold ordR
          rw [z, if_neg (by decide +kernel), if_neg (by decide +kernel), if_neg (by decide +kernel)]
        rw [w] at r0 ⊢
        have r := ticF_r (DD := DD) (k := s.1) (P := s.2.1)
        have h3 := i32s
        unfold kb
        rw [Int32.toInt_ofInt, Int.bmod_eq_of_le (by omega) (by omega)]
        exact ⟨by omega, by omega⟩
      · rw [if_neg z]; exact h4
    · cases q
  · have e := Option.some.inj q
    rw [← e]
    exact ⟨h1, h2, ⟨h3.1, by have := h3.2; omega⟩, h4⟩
theorem kBn_e {k k' : Nat → Int32} (e : k' 103 = k 103) : kBn k' = kBn k := by unfold kBn; rw [e]
/-! the reference's orders -/
def smF (x : Int) : Int32 := if 0 ≤ x ∧ x ≤ 1000000 then Int32.ofInt x else -1
theorem ofI_v {x : Int} (h : oBp 0 x) : (Int32.ofInt x).toInt = x := by
  unfold oBp at h
  rw [Int32.toInt_ofInt]
  have h3 := i32s
  exact Int.bmod_eq_of_le (by omega) (by omega)
theorem sm_m1 : (-1 : Int32).toInt = -1 := by decide +kernel
theorem smB {k : Nat → Int32} {x : Int} (hk : kK k) (h : oBp 0 x) : (okB k (Int32.ofInt x) = true ∧ smF x = Int32.ofInt x) ∨ (¬ okB k (Int32.ofInt x) = true ∧ ¬ okB k (smF x) = true) := by
  have w := (kK_r hk 103 0 6 (by decide) (by decide)).2
  have e := ofI_v h
  have m := sm_m1
  by_cases q : 0 ≤ x ∧ x < (k 103).toInt
  · exact Or.inl ⟨okB_y (by rw [e]; exact q), by unfold smF; rw [if_pos (by omega)]⟩
  · refine Or.inr ⟨okB_n (by rw [e]; exact q), okB_n (fun z => ?_)⟩
    unfold smF at z
    split at z
    · rw [e] at z; exact q z
    · rw [m] at z; omega
theorem smQ {k : Nat → Int32} {x : Int} (hk : kK k) (h : oBp 0 x) : (okQ k (Int32.ofInt x) = true ∧ smF x = Int32.ofInt x) ∨ (¬ okQ k (Int32.ofInt x) = true ∧ ¬ okQ k (smF x) = true) := by
  have w := (kK_r hk 102 0 10 (by decide) (by decide)).2
  have e := ofI_v h
  have m := sm_m1
  by_cases q : 0 ≤ x ∧ x < (k 102).toInt
  · exact Or.inl ⟨okQ_y (by rw [e]; exact q), by unfold smF; rw [if_pos (by omega)]⟩
  · refine Or.inr ⟨okQ_n (by rw [e]; exact q), okQ_n (fun z => ?_)⟩
    unfold smF at z
    split at z
    · rw [e] at z; exact q z
    · rw [m] at z; omega
theorem tkF_22 {DD : Nat → tE} {k : Nat → Int32} (hk : kK k) : (tkF DD k 22).toInt = (k 22).toInt + 1 := by
  have w := kK_r hk 22 0 1000000 (by decide) (by decide)
  have e1 : (1 : Int32).toInt = 1 := by decide +kernel
  unfold tkF
  rw [pk_us, kt_add (l1 := 0) (h1 := 1000000) (l2 := 1) (h2 := 1) w ⟨by rw [e1]; decide, by rw [e1]; decide⟩ (by decide) (by decide), e1]
section OR
variable {DD : Nat → tE} {k : Nat → Int32} {P : pS} {x y : Int}
theorem or_s (hk : kK k) (hx : oBp 0 x) (hy : oBp 0 y) : ordR DD 2018 x y k P = sndF DD k P (smF x) (smF y) := by
  have e : ordR DD 2018 x y k P = sndF DD k P (Int32.ofInt x) (Int32.ofInt y) := by unfold ordR; rw [if_pos rfl]
  rw [e]
  rcases smB hk hx with ⟨a1, a2⟩ | ⟨a1, a2⟩
  · rw [a2]
    rcases smQ hk hy with ⟨b1, b2⟩ | ⟨b1, b2⟩
    · rw [b2]
    · unfold sndF; rw [if_pos a1, if_pos a1, if_neg b1, if_neg b2]
  · unfold sndF; rw [if_neg a1, if_neg a2]
theorem or_r (hk : kK k) (hx : oBp 0 x) : ordR DD 2019 x y k P = rstF k P (smF x) := by
  have e : ordR DD 2019 x y k P = rstF k P (Int32.ofInt x) := by unfold ordR; rw [if_neg (by decide +kernel), if_pos rfl]
  rw [e]
  rcases smB hk hx with ⟨a1, a2⟩ | ⟨a1, a2⟩
  · rw [a2]
  · unfold rstF; rw [if_neg a1, if_neg a2]
theorem or_t (hk : kK k) (hx : oBp 0 x) : ordR DD 2020 x y k P = thrF k P (smF x) := by
  have e : ordR DD 2020 x y k P = thrF k P (Int32.ofInt x) := by unfold ordR; rw [if_neg (by decide +kernel), if_neg (by decide +kernel), if_pos rfl]
  rw [e]
  rcases smQ hk hx with ⟨a1, a2⟩ | ⟨a1, a2⟩
  · rw [a2]
  · unfold thrF; rw [if_neg a1, if_neg a2]
theorem or_k : ordR DD 2021 x y k P = ticF DD k P := by unfold ordR; rw [if_neg (by decide +kernel), if_neg (by decide +kernel), if_neg (by decide +kernel)]
/-- the hour stays within 999 -/
theorem snd_22 {u v : Int32} (hk : kK k) (h : (k 22).toInt ≤ 999) : ((sndF DD k P u v).2.1 22).toInt ≤ 999 := by
  unfold sndF
  split
  · rename_i h1
    split
    · split
      · split
        · exact h
        · have b := okB_i hk h1
          have hb := cl_lt b.1 (n := 6) (by decide)
          show (upd k (16 + u.toNatClampNeg) v 22).toInt ≤ 999
          rw [pk_un (by omega)]; exact h
      · exact h
    · exact h
  · exact h
theorem rst_22 {u : Int32} (hk : kK k) (h : (k 22).toInt ≤ 999) : ((rstF k P u).2.1 22).toInt ≤ 999 := by
  unfold rstF
  split
  · rename_i h1
    split
    · exact h
    · have b := okB_i hk h1
      have hb := cl_lt b.1 (n := 6) (by decide)
      show (upd k (16 + u.toNatClampNeg) (-1) 22).toInt ≤ 999
      rw [pk_un (by omega)]; exact h
  · exact h
theorem thr_22 {u : Int32} (hk : kK k) (h : (k 22).toInt ≤ 999) : ((thrF k P u).2.1 22).toInt ≤ 999 := by
  unfold thrF
  split
  · rename_i h1
    split
    · have b := okQ_i hk h1
      have hb := cl_lt b.1 (n := 10) (by decide)
      show (upd k (0 + u.toNatClampNeg) _ 22).toInt ≤ 999
      rw [pk_un (by omega)]; exact h
    · exact h
  · exact h
theorem tic_22 (hk : kK k) (h : (k 22).toInt ≤ 999) : ((ticF DD k P).2.1 22).toInt ≤ 999 := by
  unfold ticF
  split
  · exact h
  · rename_i h1
    show (tkF DD k 22).toInt ≤ 999
    have w := tkF_22 (DD := DD) (k := k) hk
    omega
theorem ord_22 {hd : Int32} (hk : kK k) (h : (k 22).toInt ≤ 999) : ((ordR DD hd x y k P).2.1 22).toInt ≤ 999 := by
  unfold ordR
  split
  · exact snd_22 hk h
  · split
    · exact rst_22 hk h
    · split
      · exact thr_22 hk h
      · exact tic_22 hk h
end OR
theorem st_e {s s' hd v : Int32} {x : Int} (e : s' = (if hd = 2021 ∧ 0 ≤ v.toInt then v else s)) (hv : v.toInt = x) (h0 : 0 ≤ x) : s' = (if hd = 2021 then Int32.ofInt x else s) := by
  rw [e]
  by_cases c : hd = 2021
  · rw [if_pos c, if_pos ⟨c, by omega⟩]; exact ofI_t hv
  · rw [if_neg c, if_neg (fun q => c q.1)]
theorem wQ_s {f : Nat → Int32} {a : Nat → Nat → Int32} {k : Nat → Int32} {dn st : Int32} (e1 : a 2 = k) (e2 : f 27 = dn) (e3 : f 28 = st) (hk : kK k) (hd : kb 0 dn 100000) (hs : kb (-1) st 99) : wQ true (oW k dn st) f a := by
  refine ⟨oW_b hk hd hs, fun h => absurd h (by decide), fun _ => ?_⟩
  rw [e1]
  exact ⟨hk, rfl, by rw [e2]; rfl, by rw [e3]; rfl, rfl, fun p hp => oW_l hp, fun p hp => oW_t hp, fun p hp => oW_a hp⟩
theorem tQ_k {k k' : Nat → Int32} {t : Nat} {T : Nat → Int32} (e : ∀ i, 107 ≤ i → k' i = k i) (h : tQ k t T) : tQ k' t T := by
  intro i
  have w := h i
  have e1 : mC k' t = mC k t := mC_cg (fun i hi => e i (by omega)) t
  have e2 : mV k' t i = mV k t i := by unfold mV; exact e _ (by omega)
  rw [e1, e2]
  exact w
theorem lM_k {k k' : Nat → Int32} {DD : Nat → tE} (e : ∀ i, 23 ≤ i → k' i = k i) (h : lM k DD) : lM k' DD := by
  intro t ht
  rw [e 105 (by decide)] at ht
  obtain ⟨T, h1, h2⟩ := h t ht
  exact ⟨T, tQ_k (fun i hi => e i (by omega)) h1, by rw [e (107 + t) (by omega)]; exact h2⟩
theorem cl_hd {o : Bool} {T : Nat → Int32} {i j : Nat} {hd tm : Int32} {v1 v2 v3 : eV} (h : clE o T i j hd tm v1 v2 v3) : clE o T i j (T i) tm v1 v2 v3 := ⟨rfl, h.2⟩
theorem tm_r {T : Nat → Int32} {i j : Nat} {tm : Int32} (h : tmE T i j tm) : 1 ≤ tm.toInt ∧ tm.toInt ≤ 20 := by
  rcases h with ⟨_, h2, h3, _⟩ | ⟨_, h3, _⟩
  · unfold pInr at h2
    rw [h3]
    exact of_decide_eq_true h2
  · rw [h3]; decide +kernel
theorem cl_tmr {T : Nat → Int32} {i j : Nat} {hd tm : Int32} {v1 v2 v3 : eV} (h : clE true T i j hd tm v1 v2 v3) : 1 ≤ tm.toInt ∧ tm.toInt ≤ 20 := by
  have h := h.2
  rw [if_pos rfl] at h
  rcases h with ⟨_, _, _, _, _, _, _, h, _⟩ | ⟨_, _, _, _, _, h, _⟩ | ⟨_, _, _, _, h, _⟩
  · exact tm_r h
  · exact tm_r h
  · exact tm_r h
theorem ob_hd {k T : Nat → Int32} {t i j : Nat} {hd tm c : Int32} {v1 v2 v3 : eV} (h : clE true T i j hd tm v1 v2 v3) (q : tQ k t T) (e : c = mC k t i) : (c = 23 ∧ hd = 2018) ∨ (c = 25 ∧ hd = 2019) ∨ (c = 26 ∧ hd = 2020) ∨ (c = 27 ∧ hd = 2021) := by
  have h0 := h.1
  have h := h.2
  rw [if_pos rfl] at h
  rw [e, h0]
  rcases h with ⟨h1, _⟩ | ⟨h1 | h1, _⟩ | ⟨h1, _⟩
  · exact Or.inl ⟨tq_y q (x := 23) (y := 2018) (by decide +kernel) (by decide +kernel) h1, h1⟩
  · exact Or.inr (Or.inl ⟨tq_y q (x := 25) (y := 2019) (by decide +kernel) (by decide +kernel) h1, h1⟩)
  · exact Or.inr (Or.inr (Or.inl ⟨tq_y q (x := 26) (y := 2020) (by decide +kernel) (by decide +kernel) h1, h1⟩))
  · exact Or.inr (Or.inr (Or.inr ⟨tq_y q (x := 27) (y := 2021) (by decide +kernel) (by decide +kernel) h1, h1⟩))
set_option maxHeartbeats 4000000 in
set_option maxRecDepth 100000 in
theorem n_small (l : Launch) (x : Int64)   : kN l yX12_small (Cond.code yX12_small cX12_small 2 (some .int) :: kG) (rmD 1 0 0) [.long x] (fun v => kb (-1) v 1000000 ∧ v = smF x.toInt) := by
  refine kN.of (cc := cX12_small) (maxL := 2) (ret := (some .int)) (by decide) rfl (Nat.le_of_ble_eq_true rfl) ?_
  intro p e s m below meth c hx hb hr hml hown hts hlocks hS ls hl
  have hg : ∀ w ∈ kG, w.before _ s = true := fun w h => hts w (List.mem_cons_of_mem _ h)
  have hown : s.vm.findClass RX12 = some m.cls := hown
  have hl : lv_has ls 2 [(0, .long x)] := hl
  refine lv_lload_n hx hb dX12_small_0 rfl (lv_at hl 0 rfl) ?_
  refine lv_lconst (v := 0) hx hb dX12_small_1 (by decide) ?_
  refine W.lcmp hx hb dX12_small_2 ?_
  refine lv_topi (fun t1 et1 => ?_)
  refine lv_if_lt (tgt := 14) hx hb dX12_small_3 (by decide) (fun c2 => ?_) (fun c2 => ?_)
  · have h3 := klc_lt (et1 ▸ c2)
    have b4 : kbl (-9223372036854775808) x (-1) := klr_lt1 h3 (kbl_any x) kcl_0 (by decide)
    refine lv_iconst (v := (-1)) hx hb dX12_small_14 (by decide) ?_
    refine lv_goto (tgt := 20) hx hb dX12_small_15 (by decide) ?_
    exact kN_ret (v := (-1)) hx hb hr hlocks rfl hS dX12_small_20 (⟨(kb_w kc_m1 (by decide) (by decide)), (by have k1 : (0 : Int64).toInt = 0 := (by decide +kernel); have k2 : (1000000 : Int64).toInt = 1000000 := (by decide +kernel); unfold smF; rw [if_neg (by omega)])⟩)
  · have h5 := klc_nlt (et1 ▸ c2)
    have b6 : kbl 0 x 9223372036854775807 := klr_le2 h5 kcl_0 (kbl_any x)
    refine lv_lload_n hx hb dX12_small_6 rfl (lv_at hl 0 rfl) ?_
    refine lv_ldc2 (v := (1000000)) hx hb hown (hg _ wt8_66) dX12_small_7 ?_
    refine W.lcmp hx hb dX12_small_10 ?_
    refine lv_topi (fun t7 et7 => ?_)
    refine lv_if_le (tgt := 18) hx hb dX12_small_11 (by decide) (fun c8 => ?_) (fun c8 => ?_)
    · have h9 := klc_le (et7 ▸ c8)
      have b10 : kbl 0 x 1000000 := klr_le1 h9 b6 kcl_1000000
      refine lv_lload_n hx hb dX12_small_18 rfl (lv_at hl 0 rfl) ?_
      refine lv_l2i hx hb dX12_small_19 rfl ?_
      refine lv_topi (fun t11 et11 => ?_)
      have b12 : kb 0 t11 1000000 := kb_eq et11 (kb_l2i b10 (by decide) (by decide))
      exact kN_ret (v := t11) hx hb hr hlocks rfl hS dX12_small_20 (⟨(kb_w b12 (by decide) (by decide)), (by have k1 : (0 : Int64).toInt = 0 := (by decide +kernel); have k2 : (1000000 : Int64).toInt = 1000000 := (by decide +kernel); unfold smF; rw [if_pos (by omega), et11]; exact l2i_o x)⟩)
    · have h13 := klc_nle (et7 ▸ c8)
      have b14 : kbl 1000001 x 9223372036854775807 := klr_lt2 h13 kcl_1000000 b6 (by decide)
      refine lv_iconst (v := (-1)) hx hb dX12_small_14 (by decide) ?_
      refine lv_goto (tgt := 20) hx hb dX12_small_15 (by decide) ?_
      exact kN_ret (v := (-1)) hx hb hr hlocks rfl hS dX12_small_20 (⟨(kb_w kc_m1 (by decide) (by decide)), (by have k1 : (0 : Int64).toInt = 0 := (by decide +kernel); have k2 : (1000000 : Int64).toInt = 1000000 := (by decide +kernel); unfold smF; rw [if_neg (by omega)])⟩)
set_option maxHeartbeats 4000000 in
set_option maxRecDepth 100000 in
theorem n_obeys  (l : Launch) {D : va_G} {K : Nat → ClassId} (o : Nat) (r : Nat → Nat) (f : Nat → Int32) (a : Nat → Nat → Int32) (g : Nat → Int64) (hI : mI f a)   (DD : Nat → tE) (P : pS) (hd : Int32) (x y : Int) (hp0 : kK (a 2)) (hp1 : lM (a 2) DD) (hp2 : mPs (f 33) (a 31) P) (hp3 : (a 2 22).toInt ≤ 999) (hp4 : (f 40 = 23 ∧ hd = 2018) ∨ (f 40 = 25 ∧ hd = 2019) ∨ (f 40 = 26 ∧ hd = 2020) ∨ (f 40 = 27 ∧ hd = 2021)) (hp5 : ¬ hd = 2021 → ((g 0).toInt = x ∧ oBp 0 x)) (hp6 : hd = 2018 → ((g 1).toInt = y ∧ oBp 0 y)) : kI l yX12_obeys (Cond.code yX12_obeys cX12_obeys 3 (some .int) :: kG) (rmD 52 0 0) D (tysK K) [.ref o] (mW K o r f a g) (fun v (u : mS) => kb (-3) v 99 ∧ mI u.1 u.2.1 ∧ mE (XR [(0, 23)]) f a u.1 u.2.1 ∧ mDd v u.1 u.2.1 (ordR DD hd x y (a 2) P) ∧ (u.1 28 = (if hd = 2021 ∧ 0 ≤ v.toInt then v else f 28)) ∧ mZ [22, 23, 24, 25, 28, 33] [2, 26, 29, 30, 31] f a u.1 u.2.1) (fun u => mW K o r u.1 u.2.1 u.2.2) 0 0 := by
  refine kI.of (cc := cX12_obeys) (maxL := 3) (ret := (some .int)) (by decide) rfl (Nat.le_of_ble_eq_true rfl) ?_
  intro p e s m below meth c A hx hb hr hml hown hts hlocks hnm hK hP hD hS hA ls hl
  have hE : mE (XR [(0, 23)]) f a f a := mE_rf
  have hZ : mZ [22, 23, 24, 25, 28, 33] [2, 26, 29, 30, 31] f a f a := mZ_rf
  have hg : ∀ w ∈ kG, w.before _ s = true := fun w h => hts w (List.mem_cons_of_mem _ h)
  have hown : s.vm.findClass RX12 = some m.cls := hown
  have hl : lv_has ls 3 [(0, .ref o)] := hl
  rcases hp4 with ⟨h40, hhd⟩ | ⟨h40, hhd⟩ | ⟨h40, hhd⟩ | ⟨h40, hhd⟩
  · have n21 : ¬ hd = 2021 := by rw [hhd]; decide +kernel
    refine lv_aload_n hx hb dX12_obeys_0 rfl (lv_at hl 0 rfl) ?_
    refine va_get (D := D) (ci := 12) (v := .ref (r 43)) (C := RX12) (T := TX12) (N := 48) hx hb hg inC12 hown hK hP 0 rfl rfl 43 (by decide) (hg _ wt5_203) (fun _ h9 => h9) rfl dX12_obeys_1 ?_
    refine lv_iconst (v := 0) hx hb dX12_obeys_4 (by decide) ?_
    refine va_lald hx hb hK hP 20 3 rfl rfl (kb_in kc_0 (by decide) (by decide)) dX12_obeys_5 ?_
    refine lv_topl (fun t1 et1 => ?_)
    refine kN.callS (As := [.long t1]) (rest := []) ⟨hx, hb, hml, hown, hg⟩ (n_small l t1 ) (va_cwS 1 hg (kgS wt8_63 wt8_64 wt1_14 wt8_65) rfl rfl rfl (by decide +kernel) ⟨by decide, by decide⟩) hP hS rfl hl.1 rfl (Nat.le_of_ble_eq_true rfl) dX12_obeys_6 ⟨Nat.le_refl _, Nat.le_refl _⟩ (fun v3 H locs hw2 hP hS => ?_)
    refine lv_istore_n (lv' := [(1, .int v3), (0, .ref o)]) hx hb dX12_obeys_9 rfl hl (by decide) rfl (fun ls hl => ?_)
    refine lv_aload_n hx hb dX12_obeys_10 rfl (lv_at hl 1 rfl) ?_
    refine va_get (D := D) (ci := 12) (v := .int (f 40)) (C := RX12) (T := TX12) (N := 48) hx hb hg inC12 hown hK hP 0 rfl rfl 40 (by decide) (hg _ wt5_200) (fun _ h9 => h9) rfl dX12_obeys_11 ?_
    refine k_top (z := 23) h40 ?_
    refine lv_tableIn (tgt := 44) hx hb dX12_obeys_14 (by decide +kernel) (by decide +kernel) rfl (by decide) ?_
    refine lv_aload_n hx hb dX12_obeys_44 rfl (lv_at hl 1 rfl) ?_
    refine lv_iload_n hx hb dX12_obeys_45 rfl (lv_at hl 0 rfl) ?_
    refine lv_aload_n hx hb dX12_obeys_46 rfl (lv_at hl 1 rfl) ?_
    refine va_get (D := D) (ci := 12) (v := .ref (r 43)) (C := RX12) (T := TX12) (N := 48) hx hb hg inC12 hown hK hP 0 rfl rfl 43 (by decide) (hg _ wt5_203) (fun _ h9 => h9) rfl dX12_obeys_47 ?_
    refine lv_iconst (v := 1) hx hb dX12_obeys_50 (by decide) ?_
    refine va_lald hx hb hK hP 20 3 rfl rfl (kb_in kc_1 (by decide) (by decide)) dX12_obeys_51 ?_
    refine lv_topl (fun t5 et5 => ?_)
    refine kN.callS (As := [.long t5]) (rest := [.int v3, .ref o]) ⟨hx, hb, hml, hown, hg⟩ (n_small l t5 ) (va_cwS 1 hg (kgS wt8_63 wt8_64 wt1_14 wt8_65) rfl rfl rfl (by decide +kernel) ⟨by decide, by decide⟩) hP hS rfl hl.1 rfl (Nat.le_of_ble_eq_true rfl) dX12_obeys_52 ⟨Nat.le_refl _, Nat.le_refl _⟩ (fun v7 H locs hw6 hP hS => ?_)
    refine kI.callV (As := [.int v3, .int v7]) (rest := []) ⟨hx, hb, hml, hown, hg⟩ (n_sendsKept l o r f a g hI v3 v7  DD P hp0 hp1 hp2) (cwV 2 hg (kgV wt7_120 wt7_122 wp6_6 wt1_14 wt7_123) rfl rfl rfl (by decide +kernel) ⟨by decide, by decide⟩) hK hP hD hS hA mIs [] rfl (wr := []) rfl rfl rfl (fun i h => by cases h) 0 12 rfl rfl rfl hl.1 rfl (Nat.le_of_ble_eq_true rfl) dX12_obeys_55 ⟨Nat.le_refl _, Nat.le_refl _⟩ (fun v10 u11 H locs hw9 hP hD hS => ?_)
    obtain ⟨f12, a13, g14⟩ := u11
    have hP : va_P D vwCl (mW K o r f12 a13 g14) H := hP
    have hD : va_D A (mW K o r f12 a13 g14) := hD
    have hI : mI f12 a13 := hw9.2.1
    have hE : mE (XR [(0, 23)]) f a f12 a13 := mE_tr hE hw9.2.2.1
    have eE15 : mE (XR [(0, 23)]) f a f12 a13 := hw9.2.2.1
    have eZ16 : mZ [22, 23, 24, 25, 33] [2, 26, 31] f a f12 a13 := hw9.2.2.2.2
    have hZ : mZ [22, 23, 24, 25, 28, 33] [2, 26, 29, 30, 31] f a f12 a13 := mZ_tr hZ (mZ_w (by decide) (by decide) eZ16)
    exact kI_ret (v := v10) hx hb hr hlocks rfl hK hS dX12_obeys_58 (f12, a13, g14) hP hD ⟨hw9.1, hI, hE, (by rw [hhd, or_s hp0 (hp5 n21).2 (hp6 hhd).2]; have w1 := hw9.2.2.2.1; rw [show v3 = smF x from by rw [hw2.2, show t1 = g 0 from et1.trans (congrArg g (by decide +kernel)), (hp5 n21).1], show v7 = smF y from by rw [hw6.2, show t5 = g 1 from et5.trans (congrArg g (by decide +kernel)), (hp6 hhd).1]] at w1; exact ⟨w1.1, rfl.trans w1.2.1, by (try dsimp only); rw [show f12 33 = f12 33 from rfl, show a13 31 = a13 31 from rfl]; exact w1.2.2⟩), (by rw [if_neg (fun q => n21 q.1)]; exact (eZ16.1 28 rfl)), hZ⟩
  · have n21 : ¬ hd = 2021 := by rw [hhd]; decide +kernel
    refine lv_aload_n hx hb dX12_obeys_0 rfl (lv_at hl 0 rfl) ?_
    refine va_get (D := D) (ci := 12) (v := .ref (r 43)) (C := RX12) (T := TX12) (N := 48) hx hb hg inC12 hown hK hP 0 rfl rfl 43 (by decide) (hg _ wt5_203) (fun _ h9 => h9) rfl dX12_obeys_1 ?_
    refine lv_iconst (v := 0) hx hb dX12_obeys_4 (by decide) ?_
    refine va_lald hx hb hK hP 20 3 rfl rfl (kb_in kc_0 (by decide) (by decide)) dX12_obeys_5 ?_
    refine lv_topl (fun t17 et17 => ?_)
    refine kN.callS (As := [.long t17]) (rest := []) ⟨hx, hb, hml, hown, hg⟩ (n_small l t17 ) (va_cwS 1 hg (kgS wt8_63 wt8_64 wt1_14 wt8_65) rfl rfl rfl (by decide +kernel) ⟨by decide, by decide⟩) hP hS rfl hl.1 rfl (Nat.le_of_ble_eq_true rfl) dX12_obeys_6 ⟨Nat.le_refl _, Nat.le_refl _⟩ (fun v19 H locs hw18 hP hS => ?_)
    refine lv_istore_n (lv' := [(1, .int v19), (0, .ref o)]) hx hb dX12_obeys_9 rfl hl (by decide) rfl (fun ls hl => ?_)
    refine lv_aload_n hx hb dX12_obeys_10 rfl (lv_at hl 1 rfl) ?_
    refine va_get (D := D) (ci := 12) (v := .int (f 40)) (C := RX12) (T := TX12) (N := 48) hx hb hg inC12 hown hK hP 0 rfl rfl 40 (by decide) (hg _ wt5_200) (fun _ h9 => h9) rfl dX12_obeys_11 ?_
    refine k_top (z := 25) h40 ?_
    refine lv_tableIn (tgt := 59) hx hb dX12_obeys_14 (by decide +kernel) (by decide +kernel) rfl (by decide) ?_
    refine lv_aload_n hx hb dX12_obeys_59 rfl (lv_at hl 1 rfl) ?_
    refine lv_iload_n hx hb dX12_obeys_60 rfl (lv_at hl 0 rfl) ?_
    refine kI.callV (As := [.int v19]) (rest := []) ⟨hx, hb, hml, hown, hg⟩ (n_restsKept l o r f a g hI v19  P hp2) (cwV 1 hg (kgV wt7_136 wt7_138 wp6_9 wt1_14 wt7_139) rfl rfl rfl (by decide +kernel) ⟨by decide, by decide⟩) hK hP hD hS hA mIs [] rfl (wr := []) rfl rfl rfl (fun i h => by cases h) 0 12 rfl rfl rfl hl.1 rfl (Nat.le_of_ble_eq_true rfl) dX12_obeys_61 ⟨Nat.le_refl _, Nat.le_refl _⟩ (fun v22 u23 H locs hw21 hP hD hS => ?_)
    obtain ⟨f24, a25, g26⟩ := u23
    have hP : va_P D vwCl (mW K o r f24 a25 g26) H := hP
    have hD : va_D A (mW K o r f24 a25 g26) := hD
    have hI : mI f24 a25 := hw21.2.1
    have hE : mE (XR [(0, 23)]) f a f24 a25 := mE_tr hE hw21.2.2.1
    have eE27 : mE (XR [(0, 23)]) f a f24 a25 := hw21.2.2.1
    have eZ28 : mZ [33] [2, 31] f a f24 a25 := hw21.2.2.2.2
    have hZ : mZ [22, 23, 24, 25, 28, 33] [2, 26, 29, 30, 31] f a f24 a25 := mZ_tr hZ (mZ_w (by decide) (by decide) eZ28)
    exact kI_ret (v := v22) hx hb hr hlocks rfl hK hS dX12_obeys_64 (f24, a25, g26) hP hD ⟨(kb_w hw21.1 (by decide) (by decide)), hI, hE, (by rw [hhd, or_r hp0 (hp5 n21).2]; have w1 := hw21.2.2.2.1; rw [show v19 = smF x from by rw [hw18.2, show t17 = g 0 from et17.trans (congrArg g (by decide +kernel)), (hp5 n21).1]] at w1; exact ⟨w1.1, rfl.trans w1.2.1, by (try dsimp only); rw [show f24 33 = f24 33 from rfl, show a25 31 = a25 31 from rfl]; exact w1.2.2⟩), (by rw [if_neg (fun q => n21 q.1)]; exact (eZ28.1 28 rfl)), hZ⟩
  · have n21 : ¬ hd = 2021 := by rw [hhd]; decide +kernel
    refine lv_aload_n hx hb dX12_obeys_0 rfl (lv_at hl 0 rfl) ?_
    refine va_get (D := D) (ci := 12) (v := .ref (r 43)) (C := RX12) (T := TX12) (N := 48) hx hb hg inC12 hown hK hP 0 rfl rfl 43 (by decide) (hg _ wt5_203) (fun _ h9 => h9) rfl dX12_obeys_1 ?_
    refine lv_iconst (v := 0) hx hb dX12_obeys_4 (by decide) ?_
    refine va_lald hx hb hK hP 20 3 rfl rfl (kb_in kc_0 (by decide) (by decide)) dX12_obeys_5 ?_
    refine lv_topl (fun t29 et29 => ?_)
    refine kN.callS (As := [.long t29]) (rest := []) ⟨hx, hb, hml, hown, hg⟩ (n_small l t29 ) (va_cwS 1 hg (kgS wt8_63 wt8_64 wt1_14 wt8_65) rfl rfl rfl (by decide +kernel) ⟨by decide, by decide⟩) hP hS rfl hl.1 rfl (Nat.le_of_ble_eq_true rfl) dX12_obeys_6 ⟨Nat.le_refl _, Nat.le_refl _⟩ (fun v31 H locs hw30 hP hS => ?_)
    refine lv_istore_n (lv' := [(1, .int v31), (0, .ref o)]) hx hb dX12_obeys_9 rfl hl (by decide) rfl (fun ls hl => ?_)
    refine lv_aload_n hx hb dX12_obeys_10 rfl (lv_at hl 1 rfl) ?_
    refine va_get (D := D) (ci := 12) (v := .int (f 40)) (C := RX12) (T := TX12) (N := 48) hx hb hg inC12 hown hK hP 0 rfl rfl 40 (by decide) (hg _ wt5_200) (fun _ h9 => h9) rfl dX12_obeys_11 ?_
    refine k_top (z := 26) h40 ?_
    refine lv_tableIn (tgt := 65) hx hb dX12_obeys_14 (by decide +kernel) (by decide +kernel) rfl (by decide) ?_
    refine lv_aload_n hx hb dX12_obeys_65 rfl (lv_at hl 1 rfl) ?_
    refine lv_iload_n hx hb dX12_obeys_66 rfl (lv_at hl 0 rfl) ?_
    refine kI.callV (As := [.int v31]) (rest := []) ⟨hx, hb, hml, hown, hg⟩ (n_throwsKept l o r f a g hI v31  P hp0 hp2) (cwV 1 hg (kgV wt7_144 wt7_146 wp6_10 wt1_14 wt7_147) rfl rfl rfl (by decide +kernel) ⟨by decide, by decide⟩) hK hP hD hS hA mIs [] rfl (wr := []) rfl rfl rfl (fun i h => by cases h) 0 12 rfl rfl rfl hl.1 rfl (Nat.le_of_ble_eq_true rfl) dX12_obeys_67 ⟨Nat.le_refl _, Nat.le_refl _⟩ (fun v34 u35 H locs hw33 hP hD hS => ?_)
    obtain ⟨f36, a37, g38⟩ := u35
    have hP : va_P D vwCl (mW K o r f36 a37 g38) H := hP
    have hD : va_D A (mW K o r f36 a37 g38) := hD
    have hI : mI f36 a37 := hw33.2.1
    have hE : mE (XR [(0, 23)]) f a f36 a37 := mE_tr hE hw33.2.2.1
    have eE39 : mE (XR [(0, 23)]) f a f36 a37 := hw33.2.2.1
    have eZ40 : mZ [33] [2, 31] f a f36 a37 := hw33.2.2.2.2
    have hZ : mZ [22, 23, 24, 25, 28, 33] [2, 26, 29, 30, 31] f a f36 a37 := mZ_tr hZ (mZ_w (by decide) (by decide) eZ40)
    exact kI_ret (v := v34) hx hb hr hlocks rfl hK hS dX12_obeys_70 (f36, a37, g38) hP hD ⟨hw33.1, hI, hE, (by rw [hhd, or_t hp0 (hp5 n21).2]; have w1 := hw33.2.2.2.1; rw [show v31 = smF x from by rw [hw30.2, show t29 = g 0 from et29.trans (congrArg g (by decide +kernel)), (hp5 n21).1]] at w1; exact ⟨w1.1, rfl.trans w1.2.1, by (try dsimp only); rw [show f36 33 = f36 33 from rfl, show a37 31 = a37 31 from rfl]; exact w1.2.2⟩), (by rw [if_neg (fun q => n21 q.1)]; exact (eZ40.1 28 rfl)), hZ⟩
  · refine lv_aload_n hx hb dX12_obeys_0 rfl (lv_at hl 0 rfl) ?_
    refine va_get (D := D) (ci := 12) (v := .ref (r 43)) (C := RX12) (T := TX12) (N := 48) hx hb hg inC12 hown hK hP 0 rfl rfl 43 (by decide) (hg _ wt5_203) (fun _ h9 => h9) rfl dX12_obeys_1 ?_
    refine lv_iconst (v := 0) hx hb dX12_obeys_4 (by decide) ?_
    refine va_lald hx hb hK hP 20 3 rfl rfl (kb_in kc_0 (by decide) (by decide)) dX12_obeys_5 ?_
    refine lv_topl (fun t41 et41 => ?_)
    refine kN.callS (As := [.long t41]) (rest := []) ⟨hx, hb, hml, hown, hg⟩ (n_small l t41 ) (va_cwS 1 hg (kgS wt8_63 wt8_64 wt1_14 wt8_65) rfl rfl rfl (by decide +kernel) ⟨by decide, by decide⟩) hP hS rfl hl.1 rfl (Nat.le_of_ble_eq_true rfl) dX12_obeys_6 ⟨Nat.le_refl _, Nat.le_refl _⟩ (fun v43 H locs hw42 hP hS => ?_)
    refine lv_istore_n (lv' := [(1, .int v43), (0, .ref o)]) hx hb dX12_obeys_9 rfl hl (by decide) rfl (fun ls hl => ?_)
    refine lv_aload_n hx hb dX12_obeys_10 rfl (lv_at hl 1 rfl) ?_
    refine va_get (D := D) (ci := 12) (v := .int (f 40)) (C := RX12) (T := TX12) (N := 48) hx hb hg inC12 hown hK hP 0 rfl rfl 40 (by decide) (hg _ wt5_200) (fun _ h9 => h9) rfl dX12_obeys_11 ?_
    refine k_top (z := 27) h40 ?_
    refine lv_tableOut (tgt := 71) hx hb dX12_obeys_14 (by decide +kernel) (by decide) ?_
    refine lv_aload_n hx hb dX12_obeys_71 rfl (lv_at hl 1 rfl) ?_
    refine kI.callV (As := []) (rest := []) ⟨hx, hb, hml, hown, hg⟩ (n_ticksKept l o r f a g hI   DD P hp0 hp1 hp2 hp3) (cwV 0 hg (kgV wt7_160 wt7_162 wp6_13 wt1_14 wt7_163) rfl rfl rfl (by decide +kernel) ⟨by decide, by decide⟩) hK hP hD hS hA mIs [] rfl (wr := []) rfl rfl rfl (fun i h => by cases h) 0 12 rfl rfl rfl hl.1 rfl (Nat.le_of_ble_eq_true rfl) dX12_obeys_72 ⟨Nat.le_refl _, Nat.le_refl _⟩ (fun v46 u47 H locs hw45 hP hD hS => ?_)
    obtain ⟨f48, a49, g50⟩ := u47
    have hP : va_P D vwCl (mW K o r f48 a49 g50) H := hP
    have hD : va_D A (mW K o r f48 a49 g50) := hD
    have hI : mI f48 a49 := hw45.2.1
    have hE : mE (XR [(0, 23)]) f a f48 a49 := mE_tr hE hw45.2.2.1
    have eE51 : mE (XR [(0, 23)]) f a f48 a49 := hw45.2.2.1
    have eZ52 : mZ [22, 23, 24, 25, 33] [2, 26, 29, 30, 31] f a f48 a49 := hw45.2.2.2.2
    have hZ : mZ [22, 23, 24, 25, 28, 33] [2, 26, 29, 30, 31] f a f48 a49 := mZ_tr hZ (mZ_w (by decide) (by decide) eZ52)
    refine lv_istore_n (lv' := [(2, .int v46), (1, .int v43), (0, .ref o)]) hx hb dX12_obeys_75 rfl hl (by decide) rfl (fun ls hl => ?_)
    refine lv_aload_n hx hb dX12_obeys_76 rfl (lv_at hl 2 rfl) ?_
    refine lv_iload_n hx hb dX12_obeys_77 rfl (lv_at hl 0 rfl) ?_
    refine lv_if_ge (tgt := 88) hx hb dX12_obeys_78 (by decide) (fun c53 => ?_) (fun c53 => ?_)
    · have h54 := (kc_le c53)
      have b55 : kb 0 v46 10 := kr_le2 h54 kc_0 hw45.1
      refine lv_iload_n hx hb dX12_obeys_88 rfl (lv_at hl 0 rfl) ?_
      refine va_put (D := D) (ci := 12) (v := .int v46) (ty := .int) (C := RX12) (T := TX12) (N := 48) hx hb hg inC12 tyX12 tyX12_ok nmX12 hown hK hP hD hS 0 rfl rfl 28 (by decide) (hg _ wt5_188) (fun _ h9 => h9) rfl (by decide +kernel) rfl rfl (Nat.le_of_ble_eq_true rfl) dX12_obeys_89 (fun H locs hP hD hS => ?_)
      have hP : va_P D vwCl (mW K o r (upd f48 28 v46) a49 g50) H := hP
      have hD : va_D A (mW K o r (upd f48 28 v46) a49 g50) := hD
      refine k_gen (P := fun z => va_P D vwCl (mW K o r z a49 g50) H ∧ va_D A (mW K o r z a49 g50) ∧ (mI z a49) ∧ (mE (XR [(0, 23)]) f a z a49) ∧ (mZ [22, 23, 24, 25, 28, 33] [2, 26, 29, 30, 31] f a z a49)) (upd f48 28 v46) ⟨hP, hD, (mI_f hI (fI_st hI.1 28 (kb_any _) (by decide) (by decide))), (mE_f hE (by decide)), (mZ_f hZ rfl)⟩ (fun f_56 ef_56 hq => ?_)
      obtain ⟨hP, hD, hI, hE, hZ⟩ := hq
      refine lv_iload_n hx hb dX12_obeys_92 rfl (lv_at hl 0 rfl) ?_
      exact kI_ret (v := v46) hx hb hr hlocks rfl hK hS dX12_obeys_93 (f_56, a49, g50) hP hD ⟨(kb_w b55 (by decide) (by decide)), hI, hE, (by rw [hhd, or_k]; have w1 := hw45.2.2.2.1; exact ⟨w1.1, rfl.trans w1.2.1, by (try dsimp only); rw [show f_56 33 = f48 33 from (show f_56 33 = f48 33 from by rw [← ef_56]; rfl), show a49 31 = a49 31 from rfl]; exact w1.2.2⟩), (by rw [if_pos ⟨hhd, by have w3 : (0 : Int32).toInt = 0 := (by decide +kernel); have w2 := kc_le c53; omega⟩]; exact (show f_56 28 = v46 from by rw [← ef_56]; rfl)), hZ⟩
    · have h57 := (kc_nle c53)
      have b58 : kb (-3) v46 (-1) := kr_lt1 h57 hw45.1 kc_0 (by decide)
      refine lv_aload_n hx hb dX12_obeys_81 rfl (lv_at hl 2 rfl) ?_
      refine va_get (D := D) (ci := 12) (v := .int (f48 28)) (C := RX12) (T := TX12) (N := 48) hx hb hg inC12 hown hK hP 0 rfl rfl 28 (by decide) (hg _ wt5_188) (fun _ h9 => h9) rfl dX12_obeys_82 ?_
      refine lv_topi (fun t59 et59 => ?_)
      refine lv_goto (tgt := 89) hx hb dX12_obeys_85 (by decide) ?_
      refine va_put (D := D) (ci := 12) (v := .int t59) (ty := .int) (C := RX12) (T := TX12) (N := 48) hx hb hg inC12 tyX12 tyX12_ok nmX12 hown hK hP hD hS 0 rfl rfl 28 (by decide) (hg _ wt5_188) (fun _ h9 => h9) rfl (by decide +kernel) rfl rfl (Nat.le_of_ble_eq_true rfl) dX12_obeys_89 (fun H locs hP hD hS => ?_)
      have hP : va_P D vwCl (mW K o r (upd f48 28 t59) a49 g50) H := hP
      have hD : va_D A (mW K o r (upd f48 28 t59) a49 g50) := hD
      refine k_gen (P := fun z => va_P D vwCl (mW K o r z a49 g50) H ∧ va_D A (mW K o r z a49 g50) ∧ (mI z a49) ∧ (mE (XR [(0, 23)]) f a z a49) ∧ (mZ [22, 23, 24, 25, 28, 33] [2, 26, 29, 30, 31] f a z a49)) (upd f48 28 t59) ⟨hP, hD, (mI_f hI (fI_st hI.1 28 (kb_any _) (by decide) (by decide))), (mE_f hE (by decide)), (mZ_f hZ rfl)⟩ (fun f_60 ef_60 hq => ?_)
      obtain ⟨hP, hD, hI, hE, hZ⟩ := hq
      refine lv_iload_n hx hb dX12_obeys_92 rfl (lv_at hl 0 rfl) ?_
      exact kI_ret (v := v46) hx hb hr hlocks rfl hK hS dX12_obeys_93 (f_60, a49, g50) hP hD ⟨(kb_w b58 (by decide) (by decide)), hI, hE, (by rw [hhd, or_k]; have w1 := hw45.2.2.2.1; exact ⟨w1.1, rfl.trans w1.2.1, by (try dsimp only); rw [show f_60 33 = f48 33 from (show f_60 33 = f48 33 from by rw [← ef_60]; rfl), show a49 31 = a49 31 from rfl]; exact w1.2.2⟩), (by rw [if_neg (fun q => by have w3 : (0 : Int32).toInt = 0 := (by decide +kernel); have w2 := kc_nle c53; have w4 := q.2; omega)]; exact (show f_60 28 = t59 from by rw [← ef_60]; rfl).trans (et59.trans (eZ52.1 28 rfl))), hZ⟩
set_option maxHeartbeats 4000000 in
set_option maxRecDepth 100000 in
theorem n_runs  (l : Launch) {D : va_G} {K : Nat → ClassId} (o : Nat) (r : Nat → Nat) (f : Nat → Int32) (a : Nat → Nat → Int32) (g : Nat → Int64) (hI : mI f a) (en : Int32)  (DD : Nat → tE) (P : pS) (Dt : tE) (cc t i j : Nat) (T : Nat → Int32) (dB : Int) (hp0 : oZ en a t j) (hp1 : (f 38).toInt = 400 * (t : Int) + (i : Int)) (hp2 : tQ (a 2) t T) (hp3 : clE true T i j (Dt.2.2.1 cc) (Dt.2.2.2.1 cc) (Dt.2.2.2.2.1 cc) (Dt.2.2.2.2.2.1 cc) (Dt.2.2.2.2.2.2 cc)) (hp4 : kK (a 2)) (hp5 : lM (a 2) DD) (hp6 : mPs (f 33) (a 31) P) (hp7 : (a 2 22).toInt ≤ 999) (hp8 : kb 0 (f 27) dB ∧ dB + 20 ≤ 100000) (hp9 : kb (-1) (f 28) 99) : kI l yX12_runs (Cond.code yX12_runs cX12_runs 5 (some .boolean) :: kG) (rmD 53 0 0) D (tysK K) [.ref o, .int en] (mW K o r f a g) (fun v (u : mS) => kb 0 v 1 ∧ mI u.1 u.2.1 ∧ mF (XR [(0, 23)]) f a u.1 u.2.1 ∧ ((v = 1 ∧ ∃ s : oSt, ordT DD Dt cc (Dt.2.2.2.1 cc).toInt.toNat ((a 2, P, f 27, f 28) : oSt) = some s ∧ u.2.1 2 = s.1 ∧ mPs (u.1 33) (u.2.1 31) s.2.1 ∧ u.1 27 = s.2.2.1 ∧ u.1 28 = s.2.2.2 ∧ (s.1 22).toInt ≤ 999 ∧ oG (a 2) s (dB + 20) ∧ (u.1 38).toInt = 400 * (t : Int) + ((j + 1 : Nat) : Int)) ∨ (v = 0 ∧ ordT DD Dt cc (Dt.2.2.2.1 cc).toInt.toNat ((a 2, P, f 27, f 28) : oSt) = none)) ∧ mZ [22, 23, 24, 25, 27, 28, 33, 38, 39, 40, 41, 42] [2, 26, 29, 30, 31] f a u.1 u.2.1) (fun u => mW K o r u.1 u.2.1 u.2.2) 0 0 := by
  refine kI.of (cc := cX12_runs) (maxL := 5) (ret := (some .boolean)) (by decide) rfl (Nat.le_of_ble_eq_true rfl) ?_
  intro p e s m below meth c A hx hb hr hml hown hts hlocks hnm hK hP hD hS hA ls hl
  have hE : mF (XR [(0, 23)]) f a f a := mF_rf
  have hZ : mZ [22, 23, 24, 25, 27, 28, 33, 38, 39, 40, 41, 42] [2, 26, 29, 30, 31] f a f a := mZ_rf
  have hg : ∀ w ∈ kG, w.before _ s = true := fun w h => hts w (List.mem_cons_of_mem _ h)
  have hown : s.vm.findClass RX12 = some m.cls := hown
  have hl : lv_has ls 5 [(0, .ref o), (1, .int en)] := hl
  have hdm := cl_tmr hp3
  refine lv_aload_n hx hb dX12_runs_0 rfl (lv_at hl 0 rfl) ?_
  refine lv_iload_n hx hb dX12_runs_1 rfl (lv_at hl 1 rfl) ?_
  refine lv_iconst (v := 0) hx hb dX12_runs_2 (by decide) ?_
  refine kV.callV (As := [.int en, .int 0]) (rest := []) ⟨hx, hb, hml, hown, hg⟩ (n_goesAlong l o r f a g hI en 0 (kb_w kc_0 (by decide) (by decide)) t i j T (oW (a 2) (f 27) (f 28)) (Dt.2.2.2.1 cc) (Dt.2.2.2.2.1 cc) (Dt.2.2.2.2.2.1 cc) (Dt.2.2.2.2.2.2 cc) hp0 hp1 hp2 (wQ_s rfl rfl rfl hp4 (kb_w hp8.1 (by decide) (by have w1 := hp8.2; omega)) hp9) (cl_hd hp3)) (cwV 2 hg (kgV wt8_55 wt8_57 wp8_1 wt1_14 wt8_58) rfl rfl rfl (by decide +kernel) ⟨by decide, by decide⟩) hK hP hD hS hA mIs [] rfl (wr := []) rfl rfl rfl (fun i h => by cases h) 0 12 rfl rfl rfl hl.1 rfl (Nat.le_of_ble_eq_true rfl) dX12_runs_3 ⟨Nat.le_refl _, Nat.le_refl _⟩ (fun u3 H locs hw1 hP hD hS => ?_)
  obtain ⟨f4, a5, g6⟩ := u3
  have hP : va_P D vwCl (mW K o r f4 a5 g6) H := hP
  have hD : va_D A (mW K o r f4 a5 g6) := hD
  have hI : mI f4 a5 := hw1.1
  have hE : mF (XR [(0, 23)]) f a f4 a5 := mF_tr hE (mF_w (XR_w (by decide)) (mF_of hw1.2.1))
  have eE7 : mE (XR []) f a f4 a5 := hw1.2.1
  have eZ8 : mZ [22, 23, 24, 25, 39, 40, 41, 42] [] f a f4 a5 := hw1.2.2.2.2.2.2.2.2.2
  have hZ : mZ [22, 23, 24, 25, 27, 28, 33, 38, 39, 40, 41, 42] [2, 26, 29, 30, 31] f a f4 a5 := mZ_tr hZ (mZ_w (by decide) (by decide) eZ8)
  obtain ⟨c39, ec39⟩ : ∃ z : Int32, z = f4 39 := ⟨_, rfl⟩
  have htm : c39 = Dt.2.2.2.1 cc := ec39.trans hw1.2.2.2.2.2.1
  have b9 : kb 1 c39 20 := ⟨by rw [htm]; exact hdm.1, by rw [htm]; exact hdm.2⟩
  obtain ⟨c22, ec22⟩ : ∃ z : Int32, z = f4 22 := ⟨_, rfl⟩
  have hg22 : c22.toInt = 400 * (t : Int) + ((j + 1 : Nat) : Int) := by rw [ec22]; exact hw1.2.2.2.2.1
  refine lv_aload_n hx hb dX12_runs_6 rfl (lv_at hl 0 rfl) ?_
  refine va_get (D := D) (ci := 12) (v := .int (f4 39)) (C := RX12) (T := TX12) (N := 48) hx hb hg inC12 hown hK hP 0 rfl rfl 39 (by decide) (hg _ wt5_199) (fun _ h9 => h9) rfl dX12_runs_7 ?_
  refine k_top (z := c39) ec39.symm ?_
  refine lv_istore_n (lv' := [(2, .int c39), (0, .ref o), (1, .int en)]) hx hb dX12_runs_10 rfl hl (by decide) rfl (fun ls hl => ?_)
  refine lv_aload_n hx hb dX12_runs_11 rfl (lv_at hl 1 rfl) ?_
  refine va_get (D := D) (ci := 12) (v := .int (f4 22)) (C := RX12) (T := TX12) (N := 48) hx hb hg inC12 hown hK hP 0 rfl rfl 22 (by decide) (hg _ wt5_182) (fun _ h9 => h9) rfl dX12_runs_12 ?_
  refine k_top (z := c22) ec22.symm ?_
  refine lv_istore_n (lv' := [(3, .int c22), (2, .int c39), (0, .ref o), (1, .int en)]) hx hb dX12_runs_15 rfl hl (by decide) rfl (fun ls hl => ?_)
  refine lv_iconst (v := 0) hx hb dX12_runs_16 (by decide) ?_
  refine lv_istore (lv' := [(4, .int 0), (3, .int c22), (2, .int c39), (0, .ref o), (1, .int en)]) hx hb dX12_runs_17 hl (by decide) rfl (fun ls hl => ?_)
  have lp14 : ∀ (n15 : Nat) (nn : Nat) (s_ : oSt) (F11 : Nat → Int32) (B12 : Nat → Nat → Int32) (G13 : Nat → Int64) (H : Heap) (locs : List Loc) (ls : Array Slot) (y10 : Int32), (20 < y10.toInt + (n15 : Int)) → (mI F11 B12) → (mF (XR [(0, 23)]) f a F11 B12) → (mZ [22, 23, 24, 25, 27, 28, 33, 38, 39, 40, 41, 42] [2, 26, 29, 30, 31] f a F11 B12) → (kb 0 y10 20) → (y10.toInt = (nn : Int)) → (nn ≤ (Dt.2.2.2.1 cc).toInt.toNat ∧ ordT DD Dt cc nn ((a 2, P, f 27, f 28) : oSt) = some s_) → (oG (a 2) s_ (dB + (nn : Int))) → ((s_.1 22).toInt ≤ 999) → (B12 2 = s_.1 ∧ mPs (F11 33) (B12 31) s_.2.1) → (F11 27 = s_.2.2.1 ∧ F11 28 = s_.2.2.2) → (F11 38 = f 38) → va_P D vwCl (mW K o r F11 B12 G13) H → va_D A (mW K o r F11 B12 G13) → va_S A s.heap H locs → lv_has ls 5 [(4, .int y10), (3, .int c22), (2, .int c39), (0, .ref o), (1, .int en)] → W p l e (rmD 53 0 0) s m ([.ref o, .int en] : List Value).toArray below meth c H locs 0 0 (kQi D (tysK K) (fun v (u : mS) => kb 0 v 1 ∧ mI u.1 u.2.1 ∧ mF (XR [(0, 23)]) f a u.1 u.2.1 ∧ ((v = 1 ∧ ∃ s : oSt, ordT DD Dt cc (Dt.2.2.2.1 cc).toInt.toNat ((a 2, P, f 27, f 28) : oSt) = some s ∧ u.2.1 2 = s.1 ∧ mPs (u.1 33) (u.2.1 31) s.2.1 ∧ u.1 27 = s.2.2.1 ∧ u.1 28 = s.2.2.2 ∧ (s.1 22).toInt ≤ 999 ∧ oG (a 2) s (dB + 20) ∧ (u.1 38).toInt = 400 * (t : Int) + ((j + 1 : Nat) : Int)) ∨ (v = 0 ∧ ordT DD Dt cc (Dt.2.2.2.1 cc).toInt.toNat ((a 2, P, f 27, f 28) : oSt) = none)) ∧ mZ [22, 23, 24, 25, 27, 28, 33, 38, 39, 40, 41, 42] [2, 26, 29, 30, 31] f a u.1 u.2.1) (fun u => mW K o r u.1 u.2.1 u.2.2) A below ([.ref o, .int en] : List Value).toArray s 0 0) (F0 m 19 ls []) := by
    intro n15
    induction n15 with
    | zero =>
      intro nn s_ F11 B12 G13  H locs ls y10 hmlp14 hI hE hZ b16 hvlp14_0 hvlp14_1 hvlp14_2 hvlp14_3 hvlp14_4 hvlp14_5 hvlp14_6 hP hD hS hl
      exact (by have h1 := b16.2; have h2 := hmlp14; omega : False).elim
    | succ n15 ihlp14 =>
      intro nn s_ F11 B12 G13  H locs ls y10 hmlp14 hI hE hZ b16 hvlp14_0 hvlp14_1 hvlp14_2 hvlp14_3 hvlp14_4 hvlp14_5 hvlp14_6 hP hD hS hl
      have hnn : y10 = nI nn := nI_q hvlp14_0
      have hZB := hZ
      have hod := hvlp14_1
      have hog := hvlp14_2
      have h22 := hvlp14_3
      have hst := hvlp14_4
      have hfd := hvlp14_5
      have h38 := hvlp14_6
      have hEb := hE.1
      refine lv_iload hx hb dX12_runs_19 (lv_at hl 0 rfl) ?_
      refine lv_iload_n hx hb dX12_runs_21 rfl (lv_at hl 2 rfl) ?_
      refine lv_icmp_ge (tgt := 73) hx hb dX12_runs_22 (by decide) (fun c17 => ?_) (fun c17 => ?_)
      · have h18 := (kc_le c17)
        have b19 : kb 1 y10 20 := kr_le2 h18 b9 b16
        refine lv_aload_n hx hb dX12_runs_73 rfl (lv_at hl 3 rfl) ?_
        refine lv_iload_n hx hb dX12_runs_74 rfl (lv_at hl 1 rfl) ?_
        refine va_put (D := D) (ci := 12) (v := .int c22) (ty := .int) (C := RX12) (T := TX12) (N := 48) hx hb hg inC12 tyX12 tyX12_ok nmX12 hown hK hP hD hS 0 rfl rfl 38 (by decide) (hg _ wt5_198) (fun _ h9 => h9) rfl (by decide +kernel) rfl rfl (Nat.le_of_ble_eq_true rfl) dX12_runs_75 (fun H locs hP hD hS => ?_)
        have hP : va_P D vwCl (mW K o r (upd F11 38 c22) B12 G13) H := hP
        have hD : va_D A (mW K o r (upd F11 38 c22) B12 G13) := hD
        refine k_gen (P := fun z => va_P D vwCl (mW K o r z B12 G13) H ∧ va_D A (mW K o r z B12 G13) ∧ (mI z B12) ∧ (mF (XR [(0, 23)]) f a z B12) ∧ (mZ [22, 23, 24, 25, 27, 28, 33, 38, 39, 40, 41, 42] [2, 26, 29, 30, 31] f a z B12)) (upd F11 38 c22) ⟨hP, hD, (mI_f hI (fI_st hI.1 38 (kb_any _) (by decide) (by decide))), (mF_f hE), (mZ_f hZ rfl)⟩ (fun f_20 ef_20 hq => ?_)
        obtain ⟨hP, hD, hI, hE, hZ⟩ := hq
        refine lv_iconst (v := 1) hx hb dX12_runs_78 (by decide) ?_
        exact kI_ret (v := 1) hx hb hr hlocks (by decide +kernel) hK hS dX12_runs_79 (f_20, B12, G13) hP hD ⟨(kb_w kc_1 (by decide) (by decide)), hI, hE, (Or.inl ⟨rfl, s_, by have w9 := hod.2; rw [show nn = (Dt.2.2.2.1 cc).toInt.toNat from by have w1 := hvlp14_0; have w2 := kc_le c17; have w3 := congrArg Int32.toInt htm; have w4 := hod.1; omega] at w9; exact w9, (rfl).trans hst.1, by (try dsimp only); rw [show f_20 33 = F11 33 from (show f_20 33 = F11 33 from by rw [← ef_20]; rfl), show B12 31 = B12 31 from rfl]; exact hst.2, ((show f_20 27 = F11 27 from by rw [← ef_20]; rfl)).trans hfd.1, ((show f_20 28 = F11 28 from by rw [← ef_20]; rfl)).trans hfd.2, h22, ⟨hog.1, hog.2.1, kb_w hog.2.2.1 (by decide) (by have w1 := hod.1; have w2 := hdm.2; omega), hog.2.2.2⟩, by (try dsimp only); rw [(show f_20 38 = c22 from by rw [← ef_20]; rfl)]; exact hg22⟩), hZ⟩
      · have h21 := (kc_nle c17)
        have b22 : kb 0 y10 19 := kr_lt1 h21 b16 b9 (by decide)
        refine lv_aload_n hx hb dX12_runs_25 rfl (lv_at hl 3 rfl) ?_
        have hlt : nn < (Dt.2.2.2.1 cc).toInt.toNat := by have w1 := hvlp14_0; have w2 := kc_nle c17; have w3 := congrArg Int32.toInt htm; have w4 := hdm.1; omega
        refine lv_iload_n hx hb dX12_runs_26 rfl (lv_at hl 4 rfl) ?_
        refine lv_iconst (v := 1) hx hb dX12_runs_27 (by decide) ?_
        refine kV.callV (As := [.int en, .int 1]) (rest := []) ⟨hx, hb, hml, hown, hg⟩ (n_goesAlong l o r F11 B12 G13 hI en 1 (kb_w kc_1 (by decide) (by decide)) t i j T (oW s_.1 s_.2.2.1 s_.2.2.2) (Dt.2.2.2.1 cc) (Dt.2.2.2.2.1 cc) (Dt.2.2.2.2.2.1 cc) (Dt.2.2.2.2.2.2 cc) (oZ_E (fun i9 h9 => hE.1 i9 (XR23 (by omega))) hp0) (by rw [h38]; exact hp1) (tQ_k (fun i9 h9 => hE.1 i9 (XR23 (by omega))) hp2) (wQ_s hst.1 hfd.1 hfd.2 hog.1 (kb_w hog.2.2.1 (by decide) (by have w1 := hp8.2; have w2 := hlt; have w3 := hdm.2; omega)) hog.2.2.2) (cl_hd hp3)) (cwV 2 hg (kgV wt8_55 wt8_57 wp8_1 wt1_14 wt8_58) rfl rfl rfl (by decide +kernel) ⟨by decide, by decide⟩) hK hP hD hS hA mIs [] rfl (wr := []) rfl rfl rfl (fun i h => by cases h) 0 12 rfl rfl rfl hl.1 rfl (Nat.le_of_ble_eq_true rfl) dX12_runs_28 ⟨Nat.le_refl _, Nat.le_refl _⟩ (fun u25 H locs hw23 hP hD hS => ?_)
        obtain ⟨f26, a27, g28⟩ := u25
        have hP : va_P D vwCl (mW K o r f26 a27 g28) H := hP
        have hD : va_D A (mW K o r f26 a27 g28) := hD
        have hI : mI f26 a27 := hw23.1
        have hE : mF (XR [(0, 23)]) f a f26 a27 := mF_tr hE (mF_w (XR_w (by decide)) (mF_of hw23.2.1))
        have eE29 : mE (XR []) F11 B12 f26 a27 := hw23.2.1
        have eZ30 : mZ [22, 23, 24, 25, 39, 40, 41, 42] [] F11 B12 f26 a27 := hw23.2.2.2.2.2.2.2.2.2
        have hZ : mZ [22, 23, 24, 25, 27, 28, 33, 38, 39, 40, 41, 42] [2, 26, 29, 30, 31] f a f26 a27 := mZ_tr hZ (mZ_w (by decide) (by decide) eZ30)
        have hg40 := hw23.2.2.2.2.2.2.1
        rcases hw23.2.2.2.2.2.2.2.1 rfl with ⟨t1, t2⟩ | ⟨t1, t2⟩
        · rcases hw23.2.2.2.2.2.2.2.2.1 rfl with ⟨u1, ⟨sx, sx1, sx2⟩, sy, sy1, sy2⟩ | ⟨u1, u2⟩
          · refine lv_aload_n hx hb dX12_runs_31 rfl (lv_at hl 3 rfl) ?_
            refine va_get (D := D) (ci := 12) (v := .int (f26 42)) (C := RX12) (T := TX12) (N := 48) hx hb hg inC12 hown hK hP 0 rfl rfl 42 (by decide) (hg _ wt5_202) (fun _ h9 => h9) rfl dX12_runs_32 ?_
            refine k_top (z := 1) t1 ?_
            refine lv_if_ne (tgt := 41) hx hb dX12_runs_35 (by decide) (fun c31 => ?_) (fun c31 => ?_)
            · refine lv_aload_n hx hb dX12_runs_41 rfl (lv_at hl 3 rfl) ?_
              refine va_get (D := D) (ci := 12) (v := .int (f26 41)) (C := RX12) (T := TX12) (N := 48) hx hb hg inC12 hown hK hP 0 rfl rfl 41 (by decide) (hg _ wt5_201) (fun _ h9 => h9) rfl dX12_runs_42 ?_
              refine k_top (z := 1) u1 ?_
              refine lv_if_eq (tgt := 55) hx hb dX12_runs_45 (by decide) (fun c32 => ?_) (fun c32 => ?_)
              · exact kb_dj c32 kc_1 kc_0 (by decide)
              · refine lv_aload_n hx hb dX12_runs_48 rfl (lv_at hl 3 rfl) ?_
                have r2 : a27 2 = s_.1 := ((eZ30.2 2 rfl)).trans hst.1
                refine kI.callV (As := []) (rest := []) ⟨hx, hb, hml, hown, hg⟩ (n_obeys l o r f26 a27 g28 hI   DD s_.2.1 (Dt.2.2.1 cc) sx sy (by rw [r2]; exact hog.1) (lM_k (fun i9 h9 => by rw [r2]; exact hog.2.1 i9 h9) hp5) (by (try dsimp only); rw [show f26 33 = F11 33 from (eZ30.1 33 rfl), show a27 31 = B12 31 from (eZ30.2 31 rfl)]; exact hst.2) (by rw [r2]; exact h22) (ob_hd hp3 (tQ_k (fun i9 h9 => hEb i9 (XR23 (by omega))) hp2) hg40) (fun n9 => sx2 (fun z9 => n9 (hp3.1.trans z9))) (fun z9 => sy2 (hp3.1.symm.trans z9))) (cwV 0 hg (kgV wt8_59 wt8_61 wp8_2 wt1_14 wt8_62) rfl rfl rfl (by decide +kernel) ⟨by decide, by decide⟩) hK hP hD hS hA mIs [] rfl (wr := []) rfl rfl rfl (fun i h => by cases h) 0 12 rfl rfl rfl hl.1 rfl (Nat.le_of_ble_eq_true rfl) dX12_runs_49 ⟨Nat.le_refl _, Nat.le_refl _⟩ (fun v34 u35 H locs hw33 hP hD hS => ?_)
                obtain ⟨f36, a37, g38⟩ := u35
                have hP : va_P D vwCl (mW K o r f36 a37 g38) H := hP
                have hD : va_D A (mW K o r f36 a37 g38) := hD
                have hI : mI f36 a37 := hw33.2.1
                have hE : mF (XR [(0, 23)]) f a f36 a37 := mF_tr hE (mF_of hw33.2.2.1)
                have eE39 : mE (XR [(0, 23)]) f26 a27 f36 a37 := hw33.2.2.1
                have eZ40 : mZ [22, 23, 24, 25, 28, 33] [2, 26, 29, 30, 31] f26 a27 f36 a37 := hw33.2.2.2.2.2
                have hZ : mZ [22, 23, 24, 25, 27, 28, 33, 38, 39, 40, 41, 42] [2, 26, 29, 30, 31] f a f36 a37 := mZ_tr hZ (mZ_w (by decide) (by decide) eZ40)
                have hdd : mDd v34 f36 a37 (ordR DD (Dt.2.2.1 cc) sx sy s_.1 s_.2.1) := by have w1 := hw33.2.2.2.1; rw [r2] at w1; exact w1
                have h28 := hw33.2.2.2.2.1
                refine lv_if_ge (tgt := 57) hx hb dX12_runs_52 (by decide) (fun c41 => ?_) (fun c41 => ?_)
                · have h42 := (kc_le c41)
                  have b43 : kb 0 v34 99 := kr_le2 h42 kc_0 hw33.1
                  refine lv_aload_n hx hb dX12_runs_57 rfl (lv_at hl 3 rfl) ?_
                  refine lv_dup hx hb dX12_runs_58 rfl ?_
                  refine va_get (D := D) (ci := 12) (v := .int (f36 27)) (C := RX12) (T := TX12) (N := 48) hx hb hg inC12 hown hK hP 0 rfl rfl 27 (by decide) (hg _ wt5_187) (fun _ h9 => h9) rfl dX12_runs_59 ?_
                  refine lv_topi (fun t44 et44 => ?_)
                  refine lv_iconst (v := 1) hx hb dX12_runs_62 (by decide) ?_
                  refine lv_iadd hx hb dX12_runs_63 ?_
                  refine lv_topi (fun t45 et45 => ?_)
                  refine va_put (D := D) (ci := 12) (v := .int t45) (ty := .int) (C := RX12) (T := TX12) (N := 48) hx hb hg inC12 tyX12 tyX12_ok nmX12 hown hK hP hD hS 0 rfl rfl 27 (by decide) (hg _ wt5_187) (fun _ h9 => h9) rfl (by decide +kernel) rfl rfl (Nat.le_of_ble_eq_true rfl) dX12_runs_64 (fun H locs hP hD hS => ?_)
                  have hP : va_P D vwCl (mW K o r (upd f36 27 t45) a37 g38) H := hP
                  have hD : va_D A (mW K o r (upd f36 27 t45) a37 g38) := hD
                  refine k_gen (P := fun z => va_P D vwCl (mW K o r z a37 g38) H ∧ va_D A (mW K o r z a37 g38) ∧ (mI z a37) ∧ (mF (XR [(0, 23)]) f a z a37) ∧ (mZ [22, 23, 24, 25, 27, 28, 33, 38, 39, 40, 41, 42] [2, 26, 29, 30, 31] f a z a37)) (upd f36 27 t45) ⟨hP, hD, (mI_f hI (fI_st hI.1 27 (kb_any _) (by decide) (by decide))), (mF_f hE), (mZ_f hZ rfl)⟩ (fun f_46 ef_46 hq => ?_)
                  obtain ⟨hP, hD, hI, hE, hZ⟩ := hq
                  obtain ⟨t47, et47⟩ : ∃ z : Int32, z = y10 + Int32.ofInt 1 := ⟨_, rfl⟩
                  have qt47 : t47.toInt = y10.toInt + 1 := by rw [et47]; exact km_inc b22 (by decide) (by decide)
                  have b48 : kb 1 t47 20 := kb_inc (k := 1) qt47 b22
                  refine lv_iinc (v := t47) (lv' := [(4, .int t47), (3, .int c22), (2, .int c39), (0, .ref o), (1, .int en)]) hx hb dX12_runs_67 hl (k := 0) rfl et47.symm (by decide) rfl (fun ls hl => ?_)
                  refine lv_goto (tgt := 19) hx hb dX12_runs_70 (by decide) ?_
                  exact ihlp14 (nn + 1) ((ordR DD (Dt.2.2.1 cc) sx sy s_.1 s_.2.1).2.1, (ordR DD (Dt.2.2.1 cc) sx sy s_.1 s_.2.1).2.2, s_.2.2.1 + 1, if Dt.2.2.1 cc = 2021 then Int32.ofInt (ordR DD (Dt.2.2.1 cc) sx sy s_.1 s_.2.1).1 else s_.2.2.2) f_46 a37 g38 _ _ _ t47 (km_up hmlp14 qt47) hI hE hZ (kb_w b48 (by decide) (by decide)) (by have w1 := hvlp14_0; have w2 := qt47; omega) (⟨hlt, (oT_s hod.2).trans ((od_g t2 sx1 sy1).trans (oz_y (by have w1 := hdd.1; have w2 := kc_le c41; have w3 : (0 : Int32).toInt = 0 := (by decide +kernel); omega)))⟩) (by have w9 := oG_s (DD := DD) (D := Dt) (c := cc) hog (by have w1 := hp8.1.1; have w2 := hp8.1.2; have w3 := hp8.2; have w4 := hlt; have w5 := hdm.2; omega) ((od_g t2 sx1 sy1).trans (oz_y (by have w1 := hdd.1; have w2 := kc_le c41; have w3 : (0 : Int32).toInt = 0 := (by decide +kernel); omega))); rw [show dB + ((nn + 1 : Nat) : Int) = dB + (nn : Int) + 1 by omega]; exact w9) (ord_22 hog.1 h22) (⟨(rfl).trans hdd.2.1, by (try dsimp only); rw [show f_46 33 = f36 33 from (show f_46 33 = f36 33 from by rw [← ef_46]; rfl), show a37 31 = a37 31 from rfl]; exact hdd.2.2⟩) (⟨((show f_46 27 = t45 from by rw [← ef_46]; rfl)).trans (et45.trans (by rw [et44, show f36 27 = F11 27 from ((eZ40.1 27 rfl).trans (eZ30.1 27 rfl)), hfd.1])), ((show f_46 28 = f36 28 from by rw [← ef_46]; rfl)).trans (st_e (h28.trans (by rw [show f26 28 = F11 28 from (eZ30.1 28 rfl), hfd.2])) hdd.1 (by have w1 := hdd.1; have w2 := kc_le c41; have w3 : (0 : Int32).toInt = 0 := (by decide +kernel); omega))⟩) ((((show f_46 38 = f36 38 from by rw [← ef_46]; rfl).trans ((eZ40.1 38 rfl).trans (eZ30.1 38 rfl)))).trans h38) hP hD hS (lv_sub hl [0, 1, 2, 3, 4] rfl)
                · have h49 := (kc_nle c41)
                  have b50 : kb (-3) v34 (-1) := kr_lt1 h49 hw33.1 kc_0 (by decide)
                  refine lv_iconst (v := 0) hx hb dX12_runs_55 (by decide) ?_
                  exact kI_ret (v := 0) hx hb hr hlocks (by decide +kernel) hK hS dX12_runs_56 (f36, a37, g38) hP hD ⟨(kb_w kc_0 (by decide) (by decide)), hI, hE, (Or.inr ⟨rfl, by have w9 := oT_k ((oT_s hod.2).trans ((od_g t2 sx1 sy1).trans (oz_n (fun q9 => by have w1 := hdd.1; have w2 := kc_nle c41; have w3 : (0 : Int32).toInt = 0 := (by decide +kernel); omega)))) ((Dt.2.2.2.1 cc).toInt.toNat - (nn + 1)); rw [show nn + 1 + ((Dt.2.2.2.1 cc).toInt.toNat - (nn + 1)) = (Dt.2.2.2.1 cc).toInt.toNat by have w1 := hlt; omega] at w9; exact w9⟩), hZ⟩
            · exact kb_dj c31 kc_1 kc_0 (by decide)
          · refine lv_aload_n hx hb dX12_runs_31 rfl (lv_at hl 3 rfl) ?_
            refine va_get (D := D) (ci := 12) (v := .int (f26 42)) (C := RX12) (T := TX12) (N := 48) hx hb hg inC12 hown hK hP 0 rfl rfl 42 (by decide) (hg _ wt5_202) (fun _ h9 => h9) rfl dX12_runs_32 ?_
            refine k_top (z := 1) t1 ?_
            refine lv_if_ne (tgt := 41) hx hb dX12_runs_35 (by decide) (fun c51 => ?_) (fun c51 => ?_)
            · refine lv_aload_n hx hb dX12_runs_41 rfl (lv_at hl 3 rfl) ?_
              refine va_get (D := D) (ci := 12) (v := .int (f26 41)) (C := RX12) (T := TX12) (N := 48) hx hb hg inC12 hown hK hP 0 rfl rfl 41 (by decide) (hg _ wt5_201) (fun _ h9 => h9) rfl dX12_runs_42 ?_
              refine k_top (z := 0) u1 ?_
              refine lv_if_eq (tgt := 55) hx hb dX12_runs_45 (by decide) (fun c52 => ?_) (fun c52 => ?_)
              · refine lv_iconst (v := 0) hx hb dX12_runs_55 (by decide) ?_
                exact kI_ret (v := 0) hx hb hr hlocks (by decide +kernel) hK hS dX12_runs_56 (f26, a27, g28) hP hD ⟨(kb_w kc_0 (by decide) (by decide)), hI, hE, (Or.inr ⟨rfl, by have w9 := oT_k ((oT_s hod.2).trans (u2.elim (fun q9 => od_1 t2 q9) (fun q9 => od_2 t2 q9))) ((Dt.2.2.2.1 cc).toInt.toNat - (nn + 1)); rw [show nn + 1 + ((Dt.2.2.2.1 cc).toInt.toNat - (nn + 1)) = (Dt.2.2.2.1 cc).toInt.toNat by have w1 := hlt; omega] at w9; exact w9⟩), hZ⟩
              · exact kb_nsame c52 kc_0 kc_0
            · exact kb_dj c51 kc_1 kc_0 (by decide)
        · refine lv_aload_n hx hb dX12_runs_31 rfl (lv_at hl 3 rfl) ?_
          refine va_get (D := D) (ci := 12) (v := .int (f26 42)) (C := RX12) (T := TX12) (N := 48) hx hb hg inC12 hown hK hP 0 rfl rfl 42 (by decide) (hg _ wt5_202) (fun _ h9 => h9) rfl dX12_runs_32 ?_
          refine k_top (z := 0) t1 ?_
          refine lv_if_ne (tgt := 41) hx hb dX12_runs_35 (by decide) (fun c53 => ?_) (fun c53 => ?_)
          · exact kb_nsame c53 kc_0 kc_0
          · refine lv_goto (tgt := 67) hx hb dX12_runs_38 (by decide) ?_
            obtain ⟨t54, et54⟩ : ∃ z : Int32, z = y10 + Int32.ofInt 1 := ⟨_, rfl⟩
            have qt54 : t54.toInt = y10.toInt + 1 := by rw [et54]; exact km_inc b22 (by decide) (by decide)
            have b55 : kb 1 t54 20 := kb_inc (k := 1) qt54 b22
            refine lv_iinc (v := t54) (lv' := [(4, .int t54), (3, .int c22), (2, .int c39), (0, .ref o), (1, .int en)]) hx hb dX12_runs_67 hl (k := 0) rfl et54.symm (by decide) rfl (fun ls hl => ?_)
            refine lv_goto (tgt := 19) hx hb dX12_runs_70 (by decide) ?_
            exact ihlp14 (nn + 1) s_ f26 a27 g28 _ _ _ t54 (km_up hmlp14 qt54) hI hE hZ (kb_w b55 (by decide) (by decide)) (by have w1 := hvlp14_0; have w2 := qt54; omega) (⟨hlt, (oT_s hod.2).trans (od_s t2)⟩) (by have w9 := oG_s (DD := DD) (D := Dt) (c := cc) hog (by have w1 := hp8.1.1; have w2 := hp8.1.2; have w3 := hp8.2; have w4 := hlt; have w5 := hdm.2; omega) (od_s t2); rw [show dB + ((nn + 1 : Nat) : Int) = dB + (nn : Int) + 1 by omega]; exact w9) (h22) (⟨((eZ30.2 2 rfl)).trans hst.1, by (try dsimp only); rw [show f26 33 = F11 33 from (eZ30.1 33 rfl), show a27 31 = B12 31 from (eZ30.2 31 rfl)]; exact hst.2⟩) (⟨((eZ30.1 27 rfl)).trans hfd.1, ((eZ30.1 28 rfl)).trans hfd.2⟩) (((eZ30.1 38 rfl)).trans h38) hP hD hS (lv_sub hl [0, 1, 2, 3, 4] rfl)
  exact lp14 (21) 0 ((a 2, P, f 27, f 28) : oSt) f4 a5 g6 _ _ _ 0 (by have h1 := (kc_0); unfold kb at h1; omega) hI hE hZ (kb_w kc_0 (by decide) (by decide)) (by decide +kernel) (⟨Nat.zero_le _, rfl⟩) (⟨hp4, fun _ _ => rfl, ⟨hp8.1.1, by have w1 := hp8.1.2; show (f 27).toInt ≤ _; omega⟩, hp9⟩) (hp7) (⟨(eZ8.2 2 rfl), (by (try dsimp only); rw [show f4 33 = f 33 from (eZ8.1 33 rfl), show a5 31 = a 31 from (eZ8.2 31 rfl)]; exact hp6)⟩) (⟨(eZ8.1 27 rfl), (eZ8.1 28 rfl)⟩) ((eZ8.1 38 rfl)) hP hD hS (lv_sub hl [0, 1, 2, 3, 4] rfl)
