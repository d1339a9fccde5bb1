/-! the texts: which tokens from i to j are a piece of a kind (0 sum, 6 its rest, 1 term, 7 its rest, 2 part, 3 test, 8 its rest, 4 both, 9 its rest, 5 plain, 10 without not, 11 a law's clause, 12 its if, 13 an order, 14 its times, 15 clauses, 16 their rest); n: fuel; d: how deep it may still go -/
def gF (o : Bool) (c : Nat → Int32) (R : Nat → Nat → Nat → Nat → Prop) (d k i j : Nat) : Prop :=
  match k with
  | 0 => ∃ m, R d 1 i m ∧ R d 6 m j
  | 6 => (¬ (c i = 143 ∨ c i = 145) ∧ j = i) ∨ ((c i = 143 ∨ c i = 145) ∧ ∃ m, R d 1 (i + 1) m ∧ R d 6 m j)
  | 1 => ∃ m, R d 2 i m ∧ R d 7 m j
  | 7 => (¬ (c i = 142 ∨ c i = 147 ∨ c i = 137) ∧ j = i) ∨ ((c i = 142 ∨ c i = 147 ∨ c i = 137) ∧ ∃ m, R d 2 (i + 1) m ∧ R d 7 m j)
  | 2 => (c i = 191 ∧ ∃ e m, d = e + 1 ∧ R e 0 (i + 1) m ∧ c m = 193 ∧ j = m + 1) ∨ (c i = 50 ∧ j = i + 1) ∨ (o = false ∧ 9 ≤ (c i).toInt ∧ (c i).toInt ≤ 18 ∧ j = i + 1) ∨ (o = true ∧ 16 ≤ (c i).toInt ∧ (c i).toInt ≤ 22 ∧ ¬ (c i = 16 ∨ c i = 17 ∨ c i = 22) ∧ j = i + 1) ∨ (o = true ∧ (c i = 16 ∨ c i = 17 ∨ c i = 22) ∧ c (i + 1) = 50 ∧ j = i + 2)
  | 3 => ∃ m, R d 4 i m ∧ R d 8 m j
  | 8 => (¬ c i = 6 ∧ j = i) ∨ (c i = 6 ∧ ∃ m, R d 4 (i + 1) m ∧ R d 8 m j)
  | 4 => ∃ m, R d 5 i m ∧ R d 9 m j
  | 9 => (¬ c i = 7 ∧ j = i) ∨ (c i = 7 ∧ ∃ m, R d 5 (i + 1) m ∧ R d 9 m j)
  | 5 => (c i = 8 ∧ R d 5 (i + 1) j) ∨ (¬ c i = 8 ∧ R d 10 i j)
  | 10 => (c i = 140 ∧ ∃ e m, d = e + 1 ∧ R e 3 (i + 1) m ∧ c m = 141 ∧ j = m + 1) ∨ (¬ c i = 140 ∧ ∃ m, R d 0 i m ∧ (c m = 160 ∨ c m = 162 ∨ c m = 161) ∧ R d 0 (m + 1) j)
  | 11 => ((c i = 1 ∨ c i = 2 ∨ c i = 3) ∧ ∃ m, R d 0 (i + 1) m ∧ R d 12 m j) ∨ (c i = 4 ∧ R d 12 (i + 1) j)
  | 12 => (c i = 5 ∧ R d 3 (i + 1) j) ∨ (¬ c i = 5 ∧ j = i)
  | 13 => (c i = 23 ∧ ∃ m m', R d 0 (i + 1) m ∧ c m = 24 ∧ R d 0 (m + 1) m' ∧ R d 14 m' j) ∨ ((c i = 25 ∨ c i = 26) ∧ ∃ m, R d 0 (i + 1) m ∧ R d 14 m j) ∨ (c i = 27 ∧ R d 14 (i + 1) j)
  | 14 => (c i = 28 ∧ c (i + 1) = 50 ∧ R d 12 (i + 2) j) ∨ (¬ c i = 28 ∧ R d 12 i j)
  | 15 => ∃ m, R d (if o = true then 13 else 11) i m ∧ R d 16 m j
  | 16 => (c i = 159 ∧ R d 15 (i + 1) j) ∨ (¬ c i = 159 ∧ j = i)
  | _ => False
def gg (o : Bool) (c : Nat → Int32) : Nat → Nat → Nat → Nat → Nat → Prop
  | 0 => fun _ _ _ _ => False
  | n + 1 => gF o c (gg o c n)
def gG (o : Bool) (c : Nat → Int32) (d k i j : Nat) : Prop := ∃ n, gg o c n d k i j
/-- the tokens of text t in the reference's kept row -/
def mC (k : Nat → Int32) (t : Nat) (i : Nat) : Int32 := if (i : Int) < (k (107 + t)).toInt then k (114 + 400 * t + i) else 0
/-- all laws of a kept row are texts, or empty -/
def mT (k : Nat → Int32) : Prop := ∀ t, t < 6 → (k (107 + t)).toInt = 0 ∨ gG false (mC k t) 8 15 0 (k (107 + t)).toInt.toNat
theorem mC_cg {k k' : Nat → Int32} (h : ∀ i, 107 ≤ i → k' i = k i) (t : Nat) : mC k' t = mC k t := by
  funext i
  unfold mC
  rw [h (107 + t) (by omega), h (114 + 400 * t + i) (by omega)]
theorem mT_cg {k k' : Nat → Int32} (h : ∀ i, 107 ≤ i → k' i = k i) (q : mT k) : mT k' := by
  intro t ht
  rw [mC_cg h t, h (107 + t) (by omega)]
  exact q t ht
/-! the reference's bounds -/
abbrev kAny : Int × Int := (-2147483648, 2147483647)
def mWd : List Int := 119 :: 111 :: 114 :: 107 :: 115 :: 32 :: 116 :: 105 :: 114 :: 101 :: 115 :: 32 :: 115 :: 104 :: 111 :: 119 :: 115 :: 32 :: 98 :: 97 :: 114 :: 115 :: 32 :: 105 :: 102 :: 32 :: 111 :: 114 :: 32 :: 97 :: 110 :: 100 :: 32 :: 110 :: 111 :: 116 :: 32 :: 98 :: 117 :: 105 :: 108 :: 100 :: 101 :: 114 :: 32 :: 112 :: 97 :: 99 :: 101 :: 32 :: 112 :: 97 :: 114 :: 116 :: 32 :: 99 :: 114 :: 97 :: 102 :: 116 :: 32 :: 104 :: 101 :: 97 :: 118 :: 121 :: 32 :: 119 :: 105 :: 116 :: 104 :: 32 :: 109 :: 111 :: 111 :: 100 :: 32 :: 108 :: 101 :: 102 :: 116 :: 32 :: 116 :: 105 :: 114 :: 101 :: 100 :: 32 :: 104 :: 111 :: 117 :: 114 :: 32 :: 100 :: 111 :: 110 :: 101 :: 32 :: 115 :: 116 :: 111 :: 111 :: 100 :: 32 :: 115 :: 116 :: 97 :: 110 :: 100 :: 105 :: 110 :: 103 :: 32 :: 97 :: 116 :: 32 :: 115 :: 101 :: 110 :: 100 :: 32 :: 116 :: 111 :: 32 :: 114 :: 101 :: 115 :: 116 :: 32 :: 116 :: 104 :: 114 :: 111 :: 119 :: 32 :: 116 :: 105 :: 99 :: 107 :: 32 :: 116 :: 105 :: 109 :: 101 :: 115 :: 32 :: []
def mB2 (i : Nat) : Int × Int := if i < 16 then (0, 99) else if i < 22 then (-1, 9) else if i < 23 then kAny else if i < 33 then (0, 99) else if i < 69 then kAny else if i < 75 then (0, 9) else if i < 100 then (0, 99) else if i < 102 then kAny else if i < 103 then (0, 10) else if i < 104 then (0, 6) else if i < 105 then (0, 8) else if i < 106 then (0, 6) else if i < 107 then (-1, 5) else if i < 114 then (0, 400) else kAny
def mBa (s i : Nat) : Int × Int :=
  if s = 2 then mB2 i
  else if s = 3 then (if i < 5714 then mB2 i else if i < 11428 then mB2 (i - 5714) else kAny)
  else if s = 5 then (if i < 23 then mB2 i else if i < 46 then mB2 (i - 23) else kAny)
  else if s = 7 then (if i < 146 then (mWd.getD i 0, mWd.getD i 0) else kAny)
  else if s = 17 then (if i < 401 then (0, 400) else kAny)
  else if s = 29 then (if i < 6 then (0, 20) else kAny)
  else if s = 30 then (if i < 6 then (-2, 20) else kAny)
  else if s = 31 then (if i < 384 ∧ i % 24 < 23 then mB2 (i % 24) else kAny)
  else if s = 32 then (if i < 384 ∧ i % 24 < 23 then mB2 (i % 24) else kAny)
  else kAny
def mBf (i : Nat) : Int × Int := if i = 13 then (0, 400) else if i = 18 then (0, 400) else if i = 19 then (0, 400) else if i = 10 then (0, 1) else if i = 24 then (0, 1) else if i = 25 then (0, 1) else if i = 33 then (0, 16) else if i = 41 then (0, 1) else if i = 42 then (0, 1) else if i = 45 then (-1, 10) else if i = 46 then (0, 6) else kAny
def mI (f : Nat → Int32) (a : Nat → Nat → Int32) : Prop := fI mBf f ∧ aI mBa a ∧ mT (a 2) ∧ mT (a 3) ∧ mT (fun i => a 3 (i + 5714))
theorem mI_f {f f' : Nat → Int32} {a : Nat → Nat → Int32} (h : mI f a) (q : fI mBf f') : mI f' a := ⟨q, h.2⟩
theorem mI_s {f : Nat → Int32} {a : Nat → Nat → Int32} (h : mI f a) {s : Nat} {u : Nat → Int32} (q : aI mBa (va_up a s u)) (n2 : s ≠ 2) (n3 : s ≠ 3) : mI f (va_up a s u) := by
  have e2 : va_up a s u 2 = a 2 := by unfold va_up; rw [if_neg (Ne.symm n2)]
  have e3 : va_up a s u 3 = a 3 := by unfold va_up; rw [if_neg (Ne.symm n3)]
  exact ⟨h.1, q, by rw [e2]; exact h.2.2.1, by rw [e3]; exact h.2.2.2.1, by rw [e3]; exact h.2.2.2.2⟩
theorem mI_2 {f : Nat → Int32} {a : Nat → Nat → Int32} (h : mI f a) {k : Nat} {y : Int32} (q : aI mBa (va_up a 2 (upd (a 2) k y))) (hk : k < 107) : mI f (va_up a 2 (upd (a 2) k y)) := by
  refine ⟨h.1, q, ?_, h.2.2.2.1, h.2.2.2.2⟩
  refine mT_cg (fun i hi => ?_) h.2.2.1
  show upd (a 2) k y i = a 2 i
  exact pk_un (by omega)
/-! what stays: the tape, the kept row but where X allows, the images -/
def mTr : List Nat := [6, 13, 14, 37, 38]
def mE (X : Nat → Bool) (f : Nat → Int32) (a : Nat → Nat → Int32) (f' : Nat → Int32) (a' : Nat → Nat → Int32) : Prop := (∀ k, mTr.contains k = true → f' k = f k) ∧ a' 11 = a 11 ∧ (∀ i, X i = false → a' 2 i = a 2 i) ∧ a' 3 = a 3 ∧ a' 4 = a 4
def XR (L : List (Nat × Nat)) (i : Nat) : Bool := L.any (fun q => decide (q.1 ≤ i) && decide (i < q.2))
theorem XR_w {L M : List (Nat × Nat)} (h : L.all (fun q => M.any (fun z => decide (z.1 ≤ q.1) && decide (q.2 ≤ z.2))) = true) (i : Nat) (hi : XR L i = true) : XR M i = true := by
  unfold XR at *
  obtain ⟨q, hq, e⟩ := List.any_eq_true.mp hi
  obtain ⟨z, hz, e2⟩ := List.any_eq_true.mp (List.all_eq_true.mp h q hq)
  rw [Bool.and_eq_true, decide_eq_true_iff, decide_eq_true_iff] at e e2
  refine List.any_eq_true.mpr ⟨z, hz, ?_⟩
  rw [Bool.and_eq_true, decide_eq_true_iff, decide_eq_true_iff]
  omega
theorem mE_rf {X : Nat → Bool} {f : Nat → Int32} {a : Nat → Nat → Int32} : mE X f a f a := ⟨fun _ _ => rfl, rfl, fun _ _ => rfl, rfl, rfl⟩
theorem mE_tr {X : Nat → Bool} {f f1 f2 : Nat → Int32} {a a1 a2 : Nat → Nat → Int32} (h : mE X f a f1 a1) (q : mE X f1 a1 f2 a2) : mE X f a f2 a2 := ⟨fun k hk => (q.1 k hk).trans (h.1 k hk), q.2.1.trans h.2.1, fun i hi => (q.2.2.1 i hi).trans (h.2.2.1 i hi), q.2.2.2.1.trans h.2.2.2.1, q.2.2.2.2.trans h.2.2.2.2⟩
theorem mE_w {X Y : Nat → Bool} {f f1 : Nat → Int32} {a a1 : Nat → Nat → Int32} (w : ∀ i, X i = true → Y i = true) (h : mE X f a f1 a1) : mE Y f a f1 a1 := by
  refine ⟨h.1, h.2.1, fun i hi => h.2.2.1 i ?_, h.2.2.2.1, h.2.2.2.2⟩
  cases hx : X i with
  | false => rfl
  | true => rw [w i hx] at hi; cases hi
theorem mE_f {X : Nat → Bool} {f f1 : Nat → Int32} {a a1 : Nat → Nat → Int32} (h : mE X f a f1 a1) {k : Nat} {v : Int32} (n : mTr.contains k = false) : mE X f a (upd f1 k v) a1 := ⟨fun j hj => (pk_un (fun e => by rw [e, n] at hj; cases hj)).trans (h.1 j hj), h.2⟩
theorem mE_s {X : Nat → Bool} {f f1 : Nat → Int32} {a a1 : Nat → Nat → Int32} (h : mE X f a f1 a1) {s : Nat} {u : Nat → Int32} (n2 : (2 : Nat) ≠ s) (n3 : (3 : Nat) ≠ s) (n4 : (4 : Nat) ≠ s) (n5 : (11 : Nat) ≠ s) : mE X f a f1 (va_up a1 s u) := by
  unfold mE va_up
  rw [if_neg n2, if_neg n3, if_neg n4, if_neg n5]
  exact h
theorem mE_2 {X : Nat → Bool} {f f1 : Nat → Int32} {a a1 : Nat → Nat → Int32} (h : mE X f a f1 a1) {k : Nat} {v : Int32} (hk : X k = true) : mE X f a f1 (va_up a1 2 (upd (a1 2) k v)) := by
  refine ⟨h.1, h.2.1, fun i hi => ?_, h.2.2.2.1, h.2.2.2.2⟩
  have : i ≠ k := fun e => by rw [e, hk] at hi; cases hi
  show upd (a1 2) k v i = a 2 i
  rw [pk_un this]; exact h.2.2.1 i hi
/-- as mE, but the tape may change -/
def mF (X : Nat → Bool) (f : Nat → Int32) (a : Nat → Nat → Int32) (f' : Nat → Int32) (a' : Nat → Nat → Int32) : Prop := (∀ i, X i = false → a' 2 i = a 2 i) ∧ a' 3 = a 3 ∧ a' 4 = a 4
/-- as mE, without the tape, in mE's places -/
def mG (X : Nat → Bool) (a a' : Nat → Nat → Int32) : Prop := True ∧ True ∧ (∀ i, X i = false → a' 2 i = a 2 i) ∧ a' 3 = a 3 ∧ a' 4 = a 4
theorem mF_of {X : Nat → Bool} {f f1 : Nat → Int32} {a a1 : Nat → Nat → Int32} (h : mE X f a f1 a1) : mF X f a f1 a1 := h.2.2
theorem mF_rf {X : Nat → Bool} {f : Nat → Int32} {a : Nat → Nat → Int32} : mF X f a f a := ⟨fun _ _ => rfl, rfl, rfl⟩
theorem mF_tr {X : Nat → Bool} {f f1 f2 : Nat → Int32} {a a1 a2 : Nat → Nat → Int32} (h : mF X f a f1 a1) (q : mF X f1 a1 f2 a2) : mF X f a f2 a2 := ⟨fun i hi => (q.1 i hi).trans (h.1 i hi), q.2.1.trans h.2.1, q.2.2.trans h.2.2⟩
theorem mF_w {X Y : Nat → Bool} {f f1 : Nat → Int32} {a a1 : Nat → Nat → Int32} (w : ∀ i, X i = true → Y i = true) (h : mF X f a f1 a1) : mF Y f a f1 a1 := by
  refine ⟨fun i hi => h.1 i ?_, h.2.1, h.2.2⟩
  cases hx : X i with
  | false => rfl
  | true => rw [w i hx] at hi; cases hi
theorem mF_f {X : Nat → Bool} {f f1 : Nat → Int32} {a a1 : Nat → Nat → Int32} (h : mF X f a f1 a1) {k : Nat} {v : Int32} : mF X f a (upd f1 k v) a1 := h
theorem mF_s {X : Nat → Bool} {f f1 : Nat → Int32} {a a1 : Nat → Nat → Int32} (h : mF X f a f1 a1) {s : Nat} {u : Nat → Int32} (n2 : (2 : Nat) ≠ s) (n3 : (3 : Nat) ≠ s) (n4 : (4 : Nat) ≠ s) : mF X f a f1 (va_up a1 s u) := by
  unfold mF va_up
  rw [if_neg n2, if_neg n3, if_neg n4]
  exact h
theorem mF_2 {X : Nat → Bool} {f f1 : Nat → Int32} {a a1 : Nat → Nat → Int32} (h : mF X f a f1 a1) {k : Nat} {v : Int32} (hk : X k = true) : mF X f a f1 (va_up a1 2 (upd (a1 2) k v)) := by
  refine ⟨fun i hi => ?_, h.2.1, h.2.2⟩
  have : i ≠ k := fun e => by rw [e, hk] at hi; cases hi
  show upd (a1 2) k v i = a 2 i
  rw [pk_un this]; exact h.1 i hi
/-- which fields may change -/
def fE (L : List Nat) (f f' : Nat → Int32) : Prop := ∀ k, L.contains k = false → f' k = f k
theorem fE_rf {L : List Nat} {f : Nat → Int32} : fE L f f := fun _ _ => rfl
theorem fE_tr {L : List Nat} {f f1 f2 : Nat → Int32} (h : fE L f f1) (q : fE L f1 f2) : fE L f f2 := fun k hk => (q k hk).trans (h k hk)
theorem fE_f {L : List Nat} {f f1 : Nat → Int32} (h : fE L f f1) {k : Nat} {v : Int32} (hk : L.contains k = true) : fE L f (upd f1 k v) := by
  intro j hj
  have : j ≠ k := fun e => by rw [e, hk] at hj; cases hj
  rw [pk_un this]; exact h j hj
theorem fE_w {L M : List Nat} {f f1 : Nat → Int32} (w : L.all (fun k => M.contains k) = true) (h : fE L f f1) : fE M f f1 := by
  intro k hk
  refine h k ?_
  cases hx : L.contains k with
  | false => rfl
  | true =>
    have := List.all_eq_true.mp w k (List.contains_iff_mem.mp hx)
    rw [this] at hk; cases hk
theorem mE_fE {X : Nat → Bool} {L : List Nat} {f f1 f2 : Nat → Int32} {a a1 : Nat → Nat → Int32} (h : mE X f a f1 a1) (q : fE L f1 f2) (n : mTr.all (fun k => !(L.contains k)) = true) : mE X f a f2 a1 := ⟨fun k hk => (q k (by have w := List.all_eq_true.mp n k (List.contains_iff_mem.mp hk); simpa using w)).trans (h.1 k hk), h.2⟩
theorem mF_fE {X : Nat → Bool} {L : List Nat} {f f1 f2 : Nat → Int32} {a a1 : Nat → Nat → Int32} (h : mF X f a f1 a1) (q : fE L f1 f2) (n : L.contains 13 = false) : mF X f a f2 a1 := h
