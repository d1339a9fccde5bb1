/-! reading: the tokens read, N of them -/
def rC (c : Nat → Int32) (N i : Nat) : Int32 := if i < N then c i else 0
def rS (f : Nat → Int32) (a : Nat → Nat → Int32) (N : Nat) (ob : Bool) : Prop := (f 18).toInt = (N : Int) ∧ N ≤ 400 ∧ a 15 N = 0 ∧ f 10 = (if ob = true then 1 else 0) ∧ f 8 = (if ob = true then 16 else 9) ∧ f 9 = (if ob = true then 22 else 18)
theorem rS_fE {L : List Nat} {f f1 : Nat → Int32} {a : Nat → Nat → Int32} {N : Nat} {ob : Bool} (h : fE L f f1) (q : rS f a N ob) (n : (L.contains 18 || L.contains 10 || L.contains 8 || L.contains 9) = false) : rS f1 a N ob := by
  simp only [Bool.or_eq_false_iff] at n
  exact ⟨by rw [h 18 n.1.1.1]; exact q.1, q.2.1, q.2.2.1, by rw [h 10 n.1.1.2]; exact q.2.2.2.1, by rw [h 8 n.1.2]; exact q.2.2.2.2.1, by rw [h 9 n.2]; exact q.2.2.2.2.2⟩
theorem rC_at {f : Nat → Int32} {a : Nat → Nat → Int32} {N i : Nat} {ob : Bool} {x : Int32} (hS : rS f a N ob) (h : i ≤ N) (e : x.toInt = (i : Int)) : a 15 x.toNatClampNeg = rC (a 15) N i := by
  have e2 : x.toNatClampNeg = i := by unfold Int32.toNatClampNeg; omega
  unfold rC
  rw [e2]
  by_cases q : i < N
  · rw [if_pos q]
  · have : i = N := by omega
    rw [if_neg q, this]; exact hS.2.2.1
theorem rC_lt {c : Nat → Int32} {N i : Nat} (h : ¬ rC c N i = 0) : i < N := by
  unfold rC at h
  by_cases q : i < N
  · exact q
  · rw [if_neg q] at h; exact absurd rfl h
theorem kb_tok {f : Nat → Int32} {a : Nat → Nat → Int32} {N i : Nat} {ob : Bool} {x : Int32} (hS : rS f a N ob) (h : i ≤ N) (e : x.toInt = (i : Int)) : kb 0 x 400 := by
  have := hS.2.1; unfold kb; omega
theorem kb_tok1 {f : Nat → Int32} {a : Nat → Nat → Int32} {N i : Nat} {ob : Bool} {x : Int32} (hS : rS f a N ob) (h : i < N) (e : x.toInt = (i : Int)) : kb 0 x 399 := by
  have := hS.2.1; unfold kb; omega
theorem kb_nm1 {x : Int32} {l h : Int} (b : kb l x h) (q : 0 ≤ l) : ¬ x = -1 := by
  intro e
  have := b.1
  have e0 : (-1 : Int32).toInt = -1 := by decide +kernel
  rw [e] at this; omega
section GI
variable {o : Bool} {c : Nat → Int32} {d i j m e : Nat}
theorem gi_0 (h1 : gG o c d 1 i m) (h2 : gG o c d 6 m j) : gG o c d 0 i j := gG_in (L := [(d, 1, i, m), (d, 6, m, j)]) (by simp; exact ⟨h1, h2⟩) ⟨m, by simp, by simp⟩
theorem gi_6n (h : ¬ (c i = 143 ∨ c i = 145)) : gG o c d 6 i i := gG_in (L := []) (by simp) (Or.inl ⟨h, rfl⟩)
theorem gi_6y (h : c i = 143 ∨ c i = 145) (h1 : gG o c d 1 (i + 1) m) (h2 : gG o c d 6 m j) : gG o c d 6 i j := gG_in (L := [(d, 1, i + 1, m), (d, 6, m, j)]) (by simp; exact ⟨h1, h2⟩) (Or.inr ⟨h, m, by simp, by simp⟩)
theorem gi_1 (h1 : gG o c d 2 i m) (h2 : gG o c d 7 m j) : gG o c d 1 i j := gG_in (L := [(d, 2, i, m), (d, 7, m, j)]) (by simp; exact ⟨h1, h2⟩) ⟨m, by simp, by simp⟩
theorem gi_7n (h : ¬ (c i = 142 ∨ c i = 147 ∨ c i = 137)) : gG o c d 7 i i := gG_in (L := []) (by simp) (Or.inl ⟨h, rfl⟩)
theorem gi_7y (h : c i = 142 ∨ c i = 147 ∨ c i = 137) (h1 : gG o c d 2 (i + 1) m) (h2 : gG o c d 7 m j) : gG o c d 7 i j := gG_in (L := [(d, 2, i + 1, m), (d, 7, m, j)]) (by simp; exact ⟨h1, h2⟩) (Or.inr ⟨h, m, by simp, by simp⟩)
theorem gi_2a (h : c i = 191) (hd : d = e + 1) (h1 : gG o c e 0 (i + 1) m) (h2 : c m = 193) (ej : j = m + 1) : gG o c d 2 i j := gG_in (L := [(e, 0, i + 1, m)]) (by simp; exact h1) (Or.inl ⟨h, e, m, hd, by simp, h2, ej⟩)
theorem gi_2n (h : c i = 50) (ej : j = i + 1) : gG o c d 2 i j := gG_in (L := []) (by simp) (Or.inr (Or.inl ⟨h, ej⟩))
theorem gi_2l (ho : o = false) (h : 9 ≤ (c i).toInt ∧ (c i).toInt ≤ 18) (ej : j = i + 1) : gG o c d 2 i j := gG_in (L := []) (by simp) (Or.inr (Or.inr (Or.inl ⟨ho, h.1, h.2, ej⟩)))
theorem gi_2o (ho : o = true) (h : 16 ≤ (c i).toInt ∧ (c i).toInt ≤ 22) (hn : ¬ (c i = 16 ∨ c i = 17 ∨ c i = 22)) (ej : j = i + 1) : gG o c d 2 i j := gG_in (L := []) (by simp) (Or.inr (Or.inr (Or.inr (Or.inl ⟨ho, h.1, h.2, hn, ej⟩))))
theorem gi_2p (ho : o = true) (h : c i = 16 ∨ c i = 17 ∨ c i = 22) (em : m = i + 1) (h2 : c m = 50) (ej : j = m + 1) : gG o c d 2 i j := gG_in (L := []) (by simp) (Or.inr (Or.inr (Or.inr (Or.inr ⟨ho, h, em ▸ h2, by omega⟩))))
theorem gi_3 (h1 : gG o c d 4 i m) (h2 : gG o c d 8 m j) : gG o c d 3 i j := gG_in (L := [(d, 4, i, m), (d, 8, m, j)]) (by simp; exact ⟨h1, h2⟩) ⟨m, by simp, by simp⟩
theorem gi_8n (h : ¬ c i = 6) : gG o c d 8 i i := gG_in (L := []) (by simp) (Or.inl ⟨h, rfl⟩)
theorem gi_8y (h : c i = 6) (h1 : gG o c d 4 (i + 1) m) (h2 : gG o c d 8 m j) : gG o c d 8 i j := gG_in (L := [(d, 4, i + 1, m), (d, 8, m, j)]) (by simp; exact ⟨h1, h2⟩) (Or.inr ⟨h, m, by simp, by simp⟩)
theorem gi_4 (h1 : gG o c d 5 i m) (h2 : gG o c d 9 m j) : gG o c d 4 i j := gG_in (L := [(d, 5, i, m), (d, 9, m, j)]) (by simp; exact ⟨h1, h2⟩) ⟨m, by simp, by simp⟩
theorem gi_9n (h : ¬ c i = 7) : gG o c d 9 i i := gG_in (L := []) (by simp) (Or.inl ⟨h, rfl⟩)
theorem gi_9y (h : c i = 7) (h1 : gG o c d 5 (i + 1) m) (h2 : gG o c d 9 m j) : gG o c d 9 i j := gG_in (L := [(d, 5, i + 1, m), (d, 9, m, j)]) (by simp; exact ⟨h1, h2⟩) (Or.inr ⟨h, m, by simp, by simp⟩)
theorem gi_5y (h : c i = 8) (h1 : gG o c d 5 (i + 1) j) : gG o c d 5 i j := gG_in (L := [(d, 5, i + 1, j)]) (by simp; exact h1) (Or.inl ⟨h, by simp⟩)
theorem gi_5n (h : ¬ c i = 8) (h1 : gG o c d 10 i j) : gG o c d 5 i j := gG_in (L := [(d, 10, i, j)]) (by simp; exact h1) (Or.inr ⟨h, by simp⟩)
theorem gi_10a (h : c i = 140) (hd : d = e + 1) (h1 : gG o c e 3 (i + 1) m) (h2 : c m = 141) (ej : j = m + 1) : gG o c d 10 i j := gG_in (L := [(e, 3, i + 1, m)]) (by simp; exact h1) (Or.inl ⟨h, e, m, hd, by simp, h2, ej⟩)
theorem gi_10b (h : ¬ c i = 140) (h1 : gG o c d 0 i m) (h2 : c m = 160 ∨ c m = 162 ∨ c m = 161) (em : e = m + 1) (h3 : gG o c d 0 e j) : gG o c d 10 i j := gG_in (L := [(d, 0, i, m), (d, 0, m + 1, j)]) (by simp; exact ⟨h1, em ▸ h3⟩) (Or.inr ⟨h, m, by simp, h2, by simp⟩)
theorem gi_12n (h : ¬ c i = 5) : gG o c d 12 i i := gG_in (L := []) (by simp) (Or.inr ⟨h, rfl⟩)
theorem gi_12y (h : c i = 5) (h1 : gG o c d 3 (i + 1) j) : gG o c d 12 i j := gG_in (L := [(d, 3, i + 1, j)]) (by simp; exact h1) (Or.inl ⟨h, by simp⟩)
theorem gi_11a (h : c i = 1 ∨ c i = 2 ∨ c i = 3) (h1 : gG o c d 0 (i + 1) m) (h2 : gG o c d 12 m j) : gG o c d 11 i j := gG_in (L := [(d, 0, i + 1, m), (d, 12, m, j)]) (by simp; exact ⟨h1, h2⟩) (Or.inl ⟨h, m, by simp, by simp⟩)
theorem gi_11b (h : c i = 4) (em : m = i + 1) (h2 : gG o c d 12 m j) : gG o c d 11 i j := gG_in (L := [(d, 12, i + 1, j)]) (by simp; exact em ▸ h2) (Or.inr ⟨h, by simp⟩)
theorem gi_14n (h : ¬ c i = 28) (h1 : gG o c d 12 i j) : gG o c d 14 i j := gG_in (L := [(d, 12, i, j)]) (by simp; exact h1) (Or.inr ⟨h, by simp⟩)
theorem gi_14y (h : c i = 28) (h2 : c (i + 1) = 50) (em : m = i + 1 + 1) (h1 : gG o c d 12 m j) : gG o c d 14 i j := gG_in (L := [(d, 12, i + 2, j)]) (by simp; exact em ▸ h1) (Or.inl ⟨h, h2, by simp⟩)
theorem gi_13a {m' m2 : Nat} (h : c i = 23) (h1 : gG o c d 0 (i + 1) m) (h2 : c m = 24) (em : m2 = m + 1) (h3 : gG o c d 0 m2 m') (h4 : gG o c d 14 m' j) : gG o c d 13 i j := gG_in (L := [(d, 0, i + 1, m), (d, 0, m + 1, m'), (d, 14, m', j)]) (by simp; exact ⟨h1, em ▸ h3, h4⟩) (Or.inl ⟨h, m, m', by simp, h2, by simp, by simp⟩)
theorem gi_13b (h : c i = 25 ∨ c i = 26) (h1 : gG o c d 0 (i + 1) m) (h4 : gG o c d 14 m j) : gG o c d 13 i j := gG_in (L := [(d, 0, i + 1, m), (d, 14, m, j)]) (by simp; exact ⟨h1, h4⟩) (Or.inr (Or.inl ⟨h, m, by simp, by simp⟩))
theorem gi_13c (h : c i = 27) (em : m = i + 1) (h4 : gG o c d 14 m j) : gG o c d 13 i j := gG_in (L := [(d, 14, i + 1, j)]) (by simp; exact em ▸ h4) (Or.inr (Or.inr ⟨h, by simp⟩))
theorem gi_15 (h1 : gG o c d (if o = true then 13 else 11) i m) (h2 : gG o c d 16 m j) : gG o c d 15 i j := by
  refine gG_in (L := [(d, (if o = true then 13 else 11), i, m), (d, 16, m, j)]) (fun q hq => ?_) ⟨m, by simp, by simp⟩
  rcases List.mem_cons.mp hq with e | e
  · rw [e]; exact h1
  · rcases List.mem_cons.mp e with e | e
    · rw [e]; exact h2
    · cases e
theorem gi_16n (h : ¬ c i = 159) : gG o c d 16 i i := gG_in (L := []) (by simp) (Or.inr ⟨h, rfl⟩)
theorem gi_16y (h : c i = 159) (h1 : gG o c d 15 (i + 1) j) : gG o c d 16 i j := gG_in (L := [(d, 15, i + 1, j)]) (by simp; exact h1) (Or.inl ⟨h, by simp⟩)
end GI
theorem w145 {a : Nat → Nat → Int32} {x y : Int32} (h : aI mBa a) (e : x.toInt = 145) (q : y = a 7 x.toNatClampNeg) : y = 32 := by
  have e2 : x.toNatClampNeg = 145 := by unfold Int32.toNatClampNeg; omega
  rw [e2] at q
  have b : kb 32 (a 7 145) 32 := aI_at h 7 145 (by decide +kernel) (by decide +kernel)
  have e3 : (32 : Int32).toInt = 32 := by decide +kernel
  rw [q]
  exact Int32.toInt_inj.mp (by rw [kb_c b, e3])
theorem w144 {a : Nat → Nat → Int32} {x y : Int32} (h : aI mBa a) (hx : x.toInt ≤ 145) (q : y = a 7 x.toNatClampNeg) (c : ¬ y = 32) : x.toInt ≤ 144 := by
  by_cases e : x.toInt = 145
  · exact absurd (w145 h e q) c
  · omega
/-! a world whose kept row may be on the way from one text to the next -/
def mJ (f : Nat → Int32) (a : Nat → Nat → Int32) : Prop := fI mBf f ∧ aI mBa a ∧ mT (a 3) ∧ mT (fun i => a 3 (i + 5714))
theorem mJ_of {f : Nat → Int32} {a : Nat → Nat → Int32} (h : mI f a) : mJ f a := ⟨h.1, h.2.1, h.2.2.2⟩
theorem mJ_s {f : Nat → Int32} {a : Nat → Nat → Int32} (h : mJ f a) {s : Nat} {u : Nat → Int32} (q : aI mBa (va_up a s u)) (n3 : s ≠ 3) : mJ f (va_up a s u) := by
  have e3 : va_up a s u 3 = a 3 := by unfold va_up; rw [if_neg (Ne.symm n3)]
  exact ⟨h.1, q, by rw [e3]; exact h.2.2.1, by rw [e3]; exact h.2.2.2⟩
theorem mB_hi {k : Nat} (h : 114 ≤ k) : mBa 2 k = kAny := by
  show mB2 k = kAny
  unfold mB2
  repeat rw [if_neg (by omega)]
theorem kq_hi {x : Int32} {l h : Int} (b : kb l x h) (q : 114 ≤ l) : mBa 2 x.toNatClampNeg = kAny := mB_hi (by have := b.1; have := kb_cl b (by omega); omega)
/-- the kept row when k tokens of text t are laid -/
def mLay (k0 cd vl : Nat → Int32) (t k : Nat) (tok : Int32) (i : Nat) : Int32 := if i = 107 + t then tok else if 114 + 400 * t ≤ i ∧ i < 114 + 400 * t + k then cd (i - (114 + 400 * t)) else if 2914 + 400 * t ≤ i ∧ i < 2914 + 400 * t + k then vl (i - (2914 + 400 * t)) else k0 i
theorem mLay_0 {k0 cd vl : Nat → Int32} {t : Nat} {tok : Int32} : upd k0 (107 + t) tok = mLay k0 cd vl t 0 tok := by
  funext i
  unfold mLay
  by_cases e : i = 107 + t
  · rw [if_pos e, e, pk_us]
  · rw [if_neg e, pk_un e, if_neg (by omega), if_neg (by omega)]
theorem mLay_s {k0 cd vl : Nat → Int32} {t k : Nat} {tok : Int32} (ht : t ≤ 6) (hk : k < 400) : upd (upd (mLay k0 cd vl t k tok) (114 + 400 * t + k) (cd k)) (2914 + 400 * t + k) (vl k) = mLay k0 cd vl t (k + 1) tok := by
  funext i
  by_cases e2 : i = 2914 + 400 * t + k
  · rw [e2, pk_us]
    unfold mLay
    rw [if_neg (by omega), if_neg (by omega), if_pos (by omega)]
    congr 1; omega
  · rw [pk_un e2]
    by_cases e1 : i = 114 + 400 * t + k
    · rw [e1, pk_us]
      unfold mLay
      rw [if_neg (by omega), if_pos (by omega)]
      congr 1; omega
    · rw [pk_un e1]
      unfold mLay
      by_cases q0 : i = 107 + t
      · rw [if_pos q0, if_pos q0]
      · rw [if_neg q0, if_neg q0]
        by_cases q1 : 114 + 400 * t ≤ i ∧ i < 114 + 400 * t + k
        · rw [if_pos q1, if_pos (show 114 + 400 * t ≤ i ∧ i < 114 + 400 * t + (k + 1) by omega)]
        · rw [if_neg q1, if_neg (show ¬ (114 + 400 * t ≤ i ∧ i < 114 + 400 * t + (k + 1)) by omega)]
          by_cases q2 : 2914 + 400 * t ≤ i ∧ i < 2914 + 400 * t + k
          · rw [if_pos q2, if_pos (show 2914 + 400 * t ≤ i ∧ i < 2914 + 400 * t + (k + 1) by omega)]
          · rw [if_neg q2, if_neg (show ¬ (2914 + 400 * t ≤ i ∧ i < 2914 + 400 * t + (k + 1)) by omega)]
theorem mLay_lo {k0 cd vl : Nat → Int32} {t k : Nat} {tok : Int32} {i : Nat} (h : i < 107) : mLay k0 cd vl t k tok i = k0 i := by
  unfold mLay; rw [if_neg (by omega), if_neg (by omega), if_neg (by omega)]
/-- the text that was laid -/
theorem mLay_C {k0 cd vl : Nat → Int32} {t N : Nat} {tok : Int32} (ht : t ≤ 6) (hN : N ≤ 400) (e : tok.toInt = (N : Int)) : mC (mLay k0 cd vl t N tok) t = rC cd N := by
  funext i
  have e0 : mLay k0 cd vl t N tok (107 + t) = tok := by unfold mLay; rw [if_pos rfl]
  unfold mC rC
  rw [e0, e]
  by_cases q : i < N
  · rw [if_pos (by omega), if_pos q]
    unfold mLay
    rw [if_neg (by omega), if_pos (by omega)]
    congr 1; omega
  · rw [if_neg (by omega), if_neg q]
/-- the other texts -/
theorem mLay_D {k0 cd vl : Nat → Int32} {t N t' : Nat} {tok : Int32} (ht : t ≤ 6) (ht' : t' ≤ 6) (hN : N ≤ 400) (ne : t' ≠ t) (hs : (k0 (107 + t')).toInt ≤ 400) : mC (mLay k0 cd vl t N tok) t' = mC k0 t' := by
  funext i
  have e0 : mLay k0 cd vl t N tok (107 + t') = k0 (107 + t') := by unfold mLay; rw [if_neg (by omega), if_neg (by omega), if_neg (by omega)]
  unfold mC
  rw [e0]
  by_cases q : (i : Int) < (k0 (107 + t')).toInt
  · rw [if_pos q, if_pos q]
    unfold mLay
    rw [if_neg (by omega), if_neg (by omega), if_neg (by omega)]
  · rw [if_neg q, if_neg q]
theorem mT_lay {k0 cd vl : Nat → Int32} {t N : Nat} {tok : Int32} (ht : t ≤ 6) (hN : N ≤ 400) (e : tok.toInt = (N : Int)) (hs : ∀ t', t' < 7 → (k0 (107 + t')).toInt ≤ 400) (h : mT k0) (hg : t < 6 → gG false (rC cd N) 8 15 0 N) : mT (mLay k0 cd vl t N tok) := by
  intro t' ht'
  by_cases q : t' = t
  · subst q
    right
    have e0 : mLay k0 cd vl t' N tok (107 + t') = tok := by unfold mLay; rw [if_pos rfl]
    rw [mLay_C ht hN e, e0, e]
    exact hg ht'
  · rw [mLay_D ht (by omega) hN q (hs t' (by omega))]
    have e0 : mLay k0 cd vl t N tok (107 + t') = k0 (107 + t') := by unfold mLay; rw [if_neg (by omega), if_neg (by omega), if_neg (by omega)]
    rw [e0]
    exact h t' ht'
theorem szB {a : Nat → Nat → Int32} (h : aI mBa a) (t : Nat) (ht : t < 7) : (a 2 (107 + t)).toInt ≤ 400 := by
  have e : mBa 2 (107 + t) = (0, 400) := by
    show mB2 (107 + t) = (0, 400)
    unfold mB2
    rw [if_neg (by omega), if_neg (by omega), if_neg (by omega), if_neg (by omega), if_neg (by omega), if_neg (by omega), if_neg (by omega), if_neg (by omega), if_neg (by omega), if_neg (by omega), if_neg (by omega), if_neg (by omega), if_neg (by omega), if_pos (by omega)]
  have := (h 2 (107 + t)).2
  rw [e] at this
  exact this
theorem XR1 {x : Int32} {l h : Int} {A B : Nat} {M : List (Nat × Nat)} (b : kb l x h) (p : 0 ≤ l) (q1 : (A : Int) ≤ l) (q2 : h < (B : Int)) (hm : (A, B) ∈ M) : XR M x.toNatClampNeg = true := by
  have := b.1; have := b.2; have e := kb_cl b p
  unfold XR
  refine List.any_eq_true.mpr ⟨(A, B), hm, ?_⟩
  rw [Bool.and_eq_true, decide_eq_true_iff, decide_eq_true_iff]
  exact ⟨by show A ≤ _; omega, by show _ < B; omega⟩
theorem rS_f {f : Nat → Int32} {a : Nat → Nat → Int32} {N : Nat} {ob : Bool} (h : rS f a N ob) {k : Nat} {v : Int32} (n1 : (18 : Nat) ≠ k) (n2 : (10 : Nat) ≠ k) (n3 : (8 : Nat) ≠ k) (n4 : (9 : Nat) ≠ k) : rS (upd f k v) a N ob := ⟨by rw [pk_un n1]; exact h.1, h.2.1, h.2.2.1, by rw [pk_un n2]; exact h.2.2.2.1, by rw [pk_un n3]; exact h.2.2.2.2.1, by rw [pk_un n4]; exact h.2.2.2.2.2⟩
theorem kb_one {x : Int32} (b : kb 1 x 1) : x = 1 := Int32.toInt_inj.mp (by rw [kb_c b]; decide +kernel)
theorem kb_zero {x : Int32} (b : kb 0 x 0) : x = 0 := Int32.toInt_inj.mp (by rw [kb_c b]; decide +kernel)
theorem mLay_in {B a' a'' : Nat → Nat → Int32} {k0 cd vl : Nat → Int32} {t k : Nat} {tok v1 v2 i1 i2 : Int32} {y : Int32} (ht : t ≤ 6) (hk : k < 400) (hB : B 2 = mLay k0 cd vl t k tok) (e1 : va_up B 2 (upd (B 2) i1.toNatClampNeg v1) = a') (e2 : va_up a' 2 (upd (a' 2) i2.toNatClampNeg v2) = a'') (h1 : i1.toInt = 114 + 400 * (t : Int) + (k : Int)) (h2 : i2.toInt = 2914 + 400 * (t : Int) + (k : Int)) (hy : y.toInt = (k : Int)) (q1 : v1 = B 15 y.toNatClampNeg) (q2 : v2 = a' 16 y.toNatClampNeg) (c1 : B 15 = cd) (c2 : B 16 = vl) : a'' 2 = mLay k0 cd vl t (k + 1) tok := by
  have x2 : a'' 2 = upd (a' 2) i2.toNatClampNeg v2 := by rw [← e2]; rfl
  have x1 : a' 2 = upd (B 2) i1.toNatClampNeg v1 := by rw [← e1]; rfl
  have x3 : a' 16 = B 16 := by rw [← e1]; rfl
  have n1 : i1.toNatClampNeg = 114 + 400 * t + k := by unfold Int32.toNatClampNeg; omega
  have n2 : i2.toNatClampNeg = 2914 + 400 * t + k := by unfold Int32.toNatClampNeg; omega
  have n3 : y.toNatClampNeg = k := by unfold Int32.toNatClampNeg; omega
  rw [x2, x1, hB, n1, n2, q1, q2, x3, c1, c2, n3]
  exact mLay_s ht hk
theorem dX12_fine_0 : decode cX12_fine 0 = .ok (.aload_n 0, 1) := by decide +kernel
theorem dX12_fine_1 : decode cX12_fine 1 = .ok (.getfield 158, 3) := by decide +kernel
theorem dX12_fine_4 : decode cX12_fine 4 = .ok (.iconst (-1), 1) := by decide +kernel
theorem dX12_fine_5 : decode cX12_fine 5 = .ok (.if_icmp .ne 7, 3) := by decide +kernel
theorem dX12_fine_8 : decode cX12_fine 8 = .ok (.iconst 1, 1) := by decide +kernel
theorem dX12_fine_9 : decode cX12_fine 9 = .ok (.goto 4, 3) := by decide +kernel
theorem dX12_fine_12 : decode cX12_fine 12 = .ok (.iconst 0, 1) := by decide +kernel
theorem dX12_fine_13 : decode cX12_fine 13 = .ok (.ireturn, 1) := by decide +kernel
theorem dX12_lays_0 : decode cX12_lays 0 = .ok (.aload_n 0, 1) := by decide +kernel
theorem dX12_lays_1 : decode cX12_lays 1 = .ok (.getfield 24, 3) := by decide +kernel
theorem dX12_lays_4 : decode cX12_lays 4 = .ok (.bipush 107, 2) := by decide +kernel
theorem dX12_lays_6 : decode cX12_lays 6 = .ok (.iload_n 1, 1) := by decide +kernel
theorem dX12_lays_7 : decode cX12_lays 7 = .ok (.iadd, 1) := by decide +kernel
theorem dX12_lays_8 : decode cX12_lays 8 = .ok (.aload_n 0, 1) := by decide +kernel
theorem dX12_lays_9 : decode cX12_lays 9 = .ok (.getfield 144, 3) := by decide +kernel
theorem dX12_lays_12 : decode cX12_lays 12 = .ok (.iastore, 1) := by decide +kernel
theorem dX12_lays_13 : decode cX12_lays 13 = .ok (.iconst 0, 1) := by decide +kernel
theorem dX12_lays_14 : decode cX12_lays 14 = .ok (.istore_n 2, 1) := by decide +kernel
theorem dX12_lays_15 : decode cX12_lays 15 = .ok (.iload_n 2, 1) := by decide +kernel
theorem dX12_lays_16 : decode cX12_lays 16 = .ok (.aload_n 0, 1) := by decide +kernel
theorem dX12_lays_17 : decode cX12_lays 17 = .ok (.getfield 144, 3) := by decide +kernel
theorem dX12_lays_20 : decode cX12_lays 20 = .ok (.if_icmp .ge 52, 3) := by decide +kernel
theorem dX12_lays_23 : decode cX12_lays 23 = .ok (.aload_n 0, 1) := by decide +kernel
theorem dX12_lays_24 : decode cX12_lays 24 = .ok (.getfield 24, 3) := by decide +kernel
theorem dX12_lays_27 : decode cX12_lays 27 = .ok (.bipush 114, 2) := by decide +kernel
theorem dX12_lays_29 : decode cX12_lays 29 = .ok (.sipush 400, 3) := by decide +kernel
theorem dX12_lays_32 : decode cX12_lays 32 = .ok (.iload_n 1, 1) := by decide +kernel
theorem dX12_lays_33 : decode cX12_lays 33 = .ok (.imul, 1) := by decide +kernel
theorem dX12_lays_34 : decode cX12_lays 34 = .ok (.iadd, 1) := by decide +kernel
theorem dX12_lays_35 : decode cX12_lays 35 = .ok (.iload_n 2, 1) := by decide +kernel
theorem dX12_lays_36 : decode cX12_lays 36 = .ok (.iadd, 1) := by decide +kernel
theorem dX12_lays_37 : decode cX12_lays 37 = .ok (.aload_n 0, 1) := by decide +kernel
theorem dX12_lays_38 : decode cX12_lays 38 = .ok (.getfield 50, 3) := by decide +kernel
theorem dX12_lays_41 : decode cX12_lays 41 = .ok (.iload_n 2, 1) := by decide +kernel
theorem dX12_lays_42 : decode cX12_lays 42 = .ok (.iaload, 1) := by decide +kernel
theorem dX12_lays_43 : decode cX12_lays 43 = .ok (.iastore, 1) := by decide +kernel
theorem dX12_lays_44 : decode cX12_lays 44 = .ok (.aload_n 0, 1) := by decide +kernel
theorem dX12_lays_45 : decode cX12_lays 45 = .ok (.getfield 24, 3) := by decide +kernel
theorem dX12_lays_48 : decode cX12_lays 48 = .ok (.sipush 2914, 3) := by decide +kernel
theorem dX12_lays_51 : decode cX12_lays 51 = .ok (.sipush 400, 3) := by decide +kernel
theorem dX12_lays_54 : decode cX12_lays 54 = .ok (.iload_n 1, 1) := by decide +kernel
theorem dX12_lays_55 : decode cX12_lays 55 = .ok (.imul, 1) := by decide +kernel
theorem dX12_lays_56 : decode cX12_lays 56 = .ok (.iadd, 1) := by decide +kernel
theorem dX12_lays_57 : decode cX12_lays 57 = .ok (.iload_n 2, 1) := by decide +kernel
theorem dX12_lays_58 : decode cX12_lays 58 = .ok (.iadd, 1) := by decide +kernel
theorem dX12_lays_59 : decode cX12_lays 59 = .ok (.aload_n 0, 1) := by decide +kernel
theorem dX12_lays_60 : decode cX12_lays 60 = .ok (.getfield 53, 3) := by decide +kernel
theorem dX12_lays_63 : decode cX12_lays 63 = .ok (.iload_n 2, 1) := by decide +kernel
theorem dX12_lays_64 : decode cX12_lays 64 = .ok (.iaload, 1) := by decide +kernel
theorem dX12_lays_65 : decode cX12_lays 65 = .ok (.iastore, 1) := by decide +kernel
theorem dX12_lays_66 : decode cX12_lays 66 = .ok (.iinc 2 1, 3) := by decide +kernel
theorem dX12_lays_69 : decode cX12_lays 69 = .ok (.goto (-54), 3) := by decide +kernel
theorem dX12_lays_72 : decode cX12_lays 72 = .ok (.return_, 1) := by decide +kernel
theorem wt5_181 : Cond.fieldLink RX12 158 "SunriseRoofModel" "bad" "I" ∈ kG := kt5 181 rfl rfl
theorem wt5_178 : Cond.fieldLink RX12 144 "SunriseRoofModel" "tokens" "I" ∈ kG := kt5 178 rfl rfl
set_option maxHeartbeats 4000000 in
set_option maxRecDepth 100000 in
theorem m_fine  (l : Launch) {D : va_G} {K : Nat → ClassId} (o : Nat) (r : Nat → Nat) (f : Nat → Int32) (a : Nat → Nat → Int32) (g : Nat → Int64) (hI : mI f a)     : kI l yX12_fine (Cond.code yX12_fine cX12_fine 1 (some .boolean) :: kG) (rmD 1 0 0) D (tysK K) [.ref o] (mW K o r f a g) (fun v (_ : Unit) => kb 0 v 1 ∧ ((v = 1 ∧ f 21 = -1) ∨ (v = 0 ∧ ¬ f 21 = -1))) (fun _ => mW K o r f a g) 0 0 := by
  refine kI.of (cc := cX12_fine) (maxL := 1) (ret := (some .boolean)) (by decide) rfl (Nat.le_of_ble_eq_true rfl) ?_
  intro p e s m below meth c A hx hb hr hml hown hts hlocks hnm hK hP hD hS hA ls hl
  have hg : ∀ w ∈ kG, w.before _ s = true := fun w h => hts w (List.mem_cons_of_mem _ h)
  have hown : s.vm.findClass RX12 = some m.cls := hown
  have hl : lv_has ls 1 [(0, .ref o)] := hl
  refine lv_aload_n hx hb dX12_fine_0 rfl (lv_at hl 0 rfl) ?_
  refine va_get (D := D) (ci := 12) (v := .int (f 21)) (C := RX12) (T := TX12) (N := 48) hx hb hg inC12 hown hK hP 0 rfl rfl 21 (by decide) (hg _ wt5_181) (fun _ h9 => h9) rfl dX12_fine_1 ?_
  refine lv_topi (fun t1 et1 => ?_)
  refine lv_iconst (v := (-1)) hx hb dX12_fine_4 (by decide) ?_
  refine lv_icmp_ne (tgt := 12) hx hb dX12_fine_5 (by decide) (fun c2 => ?_) (fun c2 => ?_)
  · refine lv_iconst (v := 0) hx hb dX12_fine_12 (by decide) ?_
    exact kI_ret (v := 0) hx hb hr hlocks (by decide +kernel) hK hS dX12_fine_13 () hP hD ⟨(kb_w kc_0 (by decide) (by decide)), (Or.inr ⟨rfl, (fun q => c2 ((et1.symm).symm.trans q))⟩)⟩
  · have b3 : kb (-1) t1 (-1) := kb_eq c2 kc_m1
    refine lv_iconst (v := 1) hx hb dX12_fine_8 (by decide) ?_
    refine lv_goto (tgt := 13) hx hb dX12_fine_9 (by decide) ?_
    exact kI_ret (v := 1) hx hb hr hlocks (by decide +kernel) hK hS dX12_fine_13 () hP hD ⟨(kb_w kc_1 (by decide) (by decide)), (Or.inl ⟨rfl, (et1.symm).trans c2⟩)⟩
set_option maxHeartbeats 4000000 in
set_option maxRecDepth 100000 in
theorem m_lays  (l : Launch) {D : va_G} {K : Nat → ClassId} (o : Nat) (r : Nat → Nat) (f : Nat → Int32) (a : Nat → Nat → Int32) (g : Nat → Int64) (hI : mI f a) (x : Int32) (bx : kb 0 x 6) (N : Nat) (hp0 : True) (hp1 : (f 18).toInt = (N : Int)) (hp2 : N ≤ 400) (hp3 : x.toInt < 6 → gG false (rC (a 15) N) 8 15 0 N) : kV l yX12_lays (Cond.code yX12_lays cX12_lays 3 none :: kG) (rmD 1 0 0) D (tysK K) [.ref o, .int x] (mW K o r f a g) (fun (u : mS) => mI u.1 u.2.1 ∧ mE (XR [(107, 6000)]) f a u.1 u.2.1 ∧ (∃ t : Nat, (t : Int) = x.toInt ∧ t ≤ 6 ∧ u.2.1 2 = mLay (a 2) (a 15) (a 16) t N (f 18)) ∧ u.1 = f ∧ mZ [] [2] f a u.1 u.2.1) (fun u => mW K o r u.1 u.2.1 u.2.2) 0 0 := by
  refine kV.of (cc := cX12_lays) (maxL := 3) (ret := none) (by decide) rfl (Nat.le_of_ble_eq_true rfl) ?_
  intro p e s m below meth c A hx hb hr hml hown hts hlocks hnm hK hP hD hS hA ls hl
  have hE : mE (XR [(107, 6000)]) f a f a := mE_rf
  have hZ : mZ [] [2] f a f a := mZ_rf
  have hg : ∀ w ∈ kG, w.before _ s = true := fun w h => hts w (List.mem_cons_of_mem _ h)
  have hown : s.vm.findClass RX12 = some m.cls := hown
  have hl : lv_has ls 3 [(0, .ref o), (1, .int x)] := hl
  have hI0 := hI
  have hI : mJ f a := mJ_of hI
  obtain ⟨t, ht⟩ : ∃ t : Nat, (t : Int) = x.toInt := ⟨x.toInt.toNat, by have w1 := bx.1; omega⟩
  have ht6 : t ≤ 6 := by have w1 := bx.2; omega
  obtain ⟨tok, etok⟩ : ∃ z : Int32, z = f 18 := ⟨_, rfl⟩
  have htok : tok.toInt = (N : Int) := by rw [etok]; exact hp1
  have b1 : kb 0 tok 400 := ⟨by omega, by have w1 := hp2; omega⟩
  refine lv_aload_n hx hb dX12_lays_0 rfl (lv_at hl 0 rfl) ?_
  refine va_get (D := D) (ci := 12) (v := .ref (r 2)) (C := RX12) (T := TX12) (N := 48) hx hb hg inC12 hown hK hP 0 rfl rfl 2 (by decide) (hg _ wt5_162) (fun _ h9 => h9) rfl dX12_lays_1 ?_
  refine lv_bipush (v := 107) hx hb dX12_lays_4 (by decide) ?_
  refine lv_iload_n hx hb dX12_lays_6 rfl (lv_at hl 1 rfl) ?_
  refine lv_iadd hx hb dX12_lays_7 ?_
  refine lv_topi (fun t2 et2 => ?_)
  have b3 : kb 107 t2 113 := kb_eq et2 (kb_add kc_107 bx (by decide) (by decide))
  have qt2 : t2.toInt = 107 + x.toInt := by rw [et2]; exact kt_cadd kc_107 bx (by decide) (by decide)
  refine lv_aload_n hx hb dX12_lays_8 rfl (lv_at hl 0 rfl) ?_
  refine va_get (D := D) (ci := 12) (v := .int (f 18)) (C := RX12) (T := TX12) (N := 48) hx hb hg inC12 hown hK hP 0 rfl rfl 18 (by decide) (hg _ wt5_178) (fun _ h9 => h9) rfl dX12_lays_9 ?_
  refine k_top (z := tok) etok.symm ?_
  refine va_iast hx hb hK hP hD hS 2 0 rfl rfl (kb_in b3 (by decide) (by decide)) dX12_lays_12 (fun H locs hP hD hS => ?_)
  have hP : va_P D vwCl (mW K o r f (va_up a 2 (upd (a 2) t2.toNatClampNeg tok)) g) H := hP
  have hD : va_D A (mW K o r f (va_up a 2 (upd (a 2) t2.toNatClampNeg tok)) g) := hD
  refine k_gen (P := fun z => va_P D vwCl (mW K o r f z g) H ∧ va_D A (mW K o r f z g) ∧ (mJ f z) ∧ (mE (XR [(107, 6000)]) f a f z) ∧ (mZ [] [2] f a f z)) (va_up a 2 (upd (a 2) t2.toNatClampNeg tok)) ⟨hP, hD, (mJ_s hI (aI_sx hI.2.1 2 107 7 b3 (by decide) (by decide) b1 (by decide +kernel)) (by decide)), (mE_2 hE (bX_at 107 7 b3 (by decide) (by decide) (by decide))), (mZ_a hZ rfl)⟩ (fun a_4 ea_4 hq => ?_)
  obtain ⟨hP, hD, hI, hE, hZ⟩ := hq
  refine lv_iconst (v := 0) hx hb dX12_lays_13 (by decide) ?_
  refine lv_istore_n (lv' := [(2, .int 0), (0, .ref o), (1, .int x)]) hx hb dX12_lays_14 rfl hl (by decide) rfl (fun ls hl => ?_)
  have lp7 : ∀ (n8 : Nat) (k : Nat) (B6 : Nat → Nat → Int32) (H : Heap) (locs : List Loc) (ls : Array Slot) (y5 : Int32), ((N : Int) < (k : Int) + (n8 : Int)) → (mJ f B6) → (mE (XR [(107, 6000)]) f a f B6) → (mZ [] [2] f a f B6) → (kb 0 y5 400) → (B6 2 = mLay (a 2) (a 15) (a 16) t k tok) → (B6 15 = a 15 ∧ B6 16 = a 16) → (y5.toInt = (k : Int)) → (k ≤ N) → va_P D vwCl (mW K o r f B6 g) H → va_D A (mW K o r f B6 g) → va_S A s.heap H locs → lv_has ls 3 [(2, .int y5), (0, .ref o), (1, .int x)] → W p l e (rmD 1 0 0) s m ([.ref o, .int x] : List Value).toArray below meth c H locs 0 0 (kQv D (tysK K) (fun (u : mS) => mI u.1 u.2.1 ∧ mE (XR [(107, 6000)]) f a u.1 u.2.1 ∧ (∃ t : Nat, (t : Int) = x.toInt ∧ t ≤ 6 ∧ u.2.1 2 = mLay (a 2) (a 15) (a 16) t N (f 18)) ∧ u.1 = f ∧ mZ [] [2] f a u.1 u.2.1) (fun u => mW K o r u.1 u.2.1 u.2.2) A below ([.ref o, .int x] : List Value).toArray s 0 0) (F0 m 15 ls []) := by
    intro n8
    induction n8 with
    | zero =>
      intro k B6  H locs ls y5 hmlp7 hI hE hZ b9 hvlp7_0 hvlp7_1 hvlp7_2 hvlp7_3 hP hD hS hl
      exact (by have w1 := hmlp7; have w2 := hvlp7_3; omega : False).elim
    | succ n8 ihlp7 =>
      intro k B6  H locs ls y5 hmlp7 hI hE hZ b9 hvlp7_0 hvlp7_1 hvlp7_2 hvlp7_3 hP hD hS hl
      refine lv_iload_n hx hb dX12_lays_15 rfl (lv_at hl 0 rfl) ?_
      refine lv_aload_n hx hb dX12_lays_16 rfl (lv_at hl 1 rfl) ?_
      refine va_get (D := D) (ci := 12) (v := .int (f 18)) (C := RX12) (T := TX12) (N := 48) hx hb hg inC12 hown hK hP 0 rfl rfl 18 (by decide) (hg _ wt5_178) (fun _ h9 => h9) rfl dX12_lays_17 ?_
      refine k_top (z := tok) etok.symm ?_
      refine lv_icmp_ge (tgt := 72) hx hb dX12_lays_20 (by decide) (fun c10 => ?_) (fun c10 => ?_)
      · have h11 := (kc_le c10)
        exact kV_ret hx hb hr hlocks hK hS dX12_lays_72 (f, B6, g) hP hD ⟨(by have hkN : k = N := (by have w1 := hvlp7_2; have w2 := hvlp7_3; omega); have hB := hvlp7_0; rw [hkN] at hB; exact ⟨hI.1, hI.2.1, by show mT (B6 2); rw [hB]; exact mT_lay ht6 hp2 htok (szB hI0.2.1) hI0.2.2.1 (fun q => hp3 (by omega)), hI.2.2.1, hI.2.2.2⟩), hE, ⟨t, ht, ht6, by have hkN : k = N := (by have w1 := hvlp7_2; have w2 := hvlp7_3; omega); have hB := hvlp7_0; rw [hkN, etok] at hB; exact hB⟩, rfl, hZ⟩
      · have h12 := (kc_nle c10)
        have b13 : kb 0 y5 399 := kr_lt1 h12 b9 b1 (by decide)
        have b14 : kb 1 tok 400 := kr_lt2 h12 b9 b1 (by decide)
        have hkN : y5.toInt < tok.toInt := by omega
        have b15 : kb 0 y5 399 := ⟨(b13).1, by have w1 := hp2; omega⟩
        refine lv_aload_n hx hb dX12_lays_23 rfl (lv_at hl 1 rfl) ?_
        refine va_get (D := D) (ci := 12) (v := .ref (r 2)) (C := RX12) (T := TX12) (N := 48) hx hb hg inC12 hown hK hP 0 rfl rfl 2 (by decide) (hg _ wt5_162) (fun _ h9 => h9) rfl dX12_lays_24 ?_
        refine lv_bipush (v := 114) hx hb dX12_lays_27 (by decide) ?_
        refine lv_sipush (v := 400) hx hb dX12_lays_29 (by decide) ?_
        refine lv_iload_n hx hb dX12_lays_32 rfl (lv_at hl 2 rfl) ?_
        refine lv_imul hx hb dX12_lays_33 ?_
        refine lv_topi (fun t16 et16 => ?_)
        have b17 : kb 0 t16 2400 := kb_eq et16 (kb_mul kc_400 bx (by decide) (by decide) (by decide))
        have qt16 : t16.toInt = 400 * x.toInt := by rw [et16]; exact kt_cmul kc_400 bx (by decide) (by decide) (by decide)
        refine lv_iadd hx hb dX12_lays_34 ?_
        refine lv_topi (fun t18 et18 => ?_)
        have b19 : kb 114 t18 2514 := kb_eq et18 (kb_add kc_114 b17 (by decide) (by decide))
        have qt18 : t18.toInt = 114 + t16.toInt := by rw [et18]; exact kt_cadd kc_114 b17 (by decide) (by decide)
        refine lv_iload_n hx hb dX12_lays_35 rfl (lv_at hl 0 rfl) ?_
        refine lv_iadd hx hb dX12_lays_36 ?_
        refine lv_topi (fun t20 et20 => ?_)
        have b21 : kb 114 t20 2913 := kb_eq et20 (kb_add b19 b15 (by decide) (by decide))
        have qt20 : t20.toInt = t18.toInt + y5.toInt := by rw [et20]; exact kt_add b19 b15 (by decide) (by decide)
        refine lv_aload_n hx hb dX12_lays_37 rfl (lv_at hl 1 rfl) ?_
        refine va_get (D := D) (ci := 12) (v := .ref (r 15)) (C := RX12) (T := TX12) (N := 48) hx hb hg inC12 hown hK hP 0 rfl rfl 15 (by decide) (hg _ wt5_175) (fun _ h9 => h9) rfl dX12_lays_38 ?_
        refine lv_iload_n hx hb dX12_lays_41 rfl (lv_at hl 0 rfl) ?_
        refine va_iald hx hb hK hP 9 0 rfl rfl (kb_in b15 (by decide) (by decide)) dX12_lays_42 ?_
        refine lv_topi (fun t22 et22 => ?_)
        refine va_iast hx hb hK hP hD hS 2 0 rfl rfl (kb_in b21 (by decide) (by decide)) dX12_lays_43 (fun H locs hP hD hS => ?_)
        have hP : va_P D vwCl (mW K o r f (va_up B6 2 (upd (B6 2) t20.toNatClampNeg t22)) g) H := hP
        have hD : va_D A (mW K o r f (va_up B6 2 (upd (B6 2) t20.toNatClampNeg t22)) g) := hD
        refine k_gen (P := fun z => va_P D vwCl (mW K o r f z g) H ∧ va_D A (mW K o r f z g) ∧ (mJ f z) ∧ (mE (XR [(107, 6000)]) f a f z) ∧ (mZ [] [2] f a f z)) (va_up B6 2 (upd (B6 2) t20.toNatClampNeg t22)) ⟨hP, hD, (mJ_s hI (aI_any hI.2.1 2 _ (kq_hi b21 (by decide))) (by decide)), (mE_2 hE (XR1 (A := 107) (B := 6000) b21 (by decide) (by decide) (by decide) (by decide))), (mZ_a hZ rfl)⟩ (fun a_23 ea_23 hq => ?_)
        obtain ⟨hP, hD, hI, hE, hZ⟩ := hq
        refine lv_aload_n hx hb dX12_lays_44 rfl (lv_at hl 1 rfl) ?_
        refine va_get (D := D) (ci := 12) (v := .ref (r 2)) (C := RX12) (T := TX12) (N := 48) hx hb hg inC12 hown hK hP 0 rfl rfl 2 (by decide) (hg _ wt5_162) (fun _ h9 => h9) rfl dX12_lays_45 ?_
        refine lv_sipush (v := 2914) hx hb dX12_lays_48 (by decide) ?_
        refine lv_sipush (v := 400) hx hb dX12_lays_51 (by decide) ?_
        refine lv_iload_n hx hb dX12_lays_54 rfl (lv_at hl 2 rfl) ?_
        refine lv_imul hx hb dX12_lays_55 ?_
        refine k_top (z := t16) et16.symm ?_
        refine lv_iadd hx hb dX12_lays_56 ?_
        refine lv_topi (fun t24 et24 => ?_)
        have b25 : kb 2914 t24 5314 := kb_eq et24 (kb_add kc_2914 b17 (by decide) (by decide))
        have qt24 : t24.toInt = 2914 + t16.toInt := by rw [et24]; exact kt_cadd kc_2914 b17 (by decide) (by decide)
        refine lv_iload_n hx hb dX12_lays_57 rfl (lv_at hl 0 rfl) ?_
        refine lv_iadd hx hb dX12_lays_58 ?_
        refine lv_topi (fun t26 et26 => ?_)
        have b27 : kb 2914 t26 5713 := kb_eq et26 (kb_add b25 b15 (by decide) (by decide))
        have qt26 : t26.toInt = t24.toInt + y5.toInt := by rw [et26]; exact kt_add b25 b15 (by decide) (by decide)
        refine lv_aload_n hx hb dX12_lays_59 rfl (lv_at hl 1 rfl) ?_
        refine va_get (D := D) (ci := 12) (v := .ref (r 16)) (C := RX12) (T := TX12) (N := 48) hx hb hg inC12 hown hK hP 0 rfl rfl 16 (by decide) (hg _ wt5_176) (fun _ h9 => h9) rfl dX12_lays_60 ?_
        refine lv_iload_n hx hb dX12_lays_63 rfl (lv_at hl 0 rfl) ?_
        refine va_iald hx hb hK hP 10 0 rfl rfl (kb_in b15 (by decide) (by decide)) dX12_lays_64 ?_
        refine lv_topi (fun t28 et28 => ?_)
        refine va_iast hx hb hK hP hD hS 2 0 rfl rfl (kb_in b27 (by decide) (by decide)) dX12_lays_65 (fun H locs hP hD hS => ?_)
        have hP : va_P D vwCl (mW K o r f (va_up a_23 2 (upd (a_23 2) t26.toNatClampNeg t28)) g) H := hP
        have hD : va_D A (mW K o r f (va_up a_23 2 (upd (a_23 2) t26.toNatClampNeg t28)) g) := hD
        refine k_gen (P := fun z => va_P D vwCl (mW K o r f z g) H ∧ va_D A (mW K o r f z g) ∧ (mJ f z) ∧ (mE (XR [(107, 6000)]) f a f z) ∧ (mZ [] [2] f a f z)) (va_up a_23 2 (upd (a_23 2) t26.toNatClampNeg t28)) ⟨hP, hD, (mJ_s hI (aI_any hI.2.1 2 _ (kq_hi b27 (by decide))) (by decide)), (mE_2 hE (XR1 (A := 107) (B := 6000) b27 (by decide) (by decide) (by decide) (by decide))), (mZ_a hZ rfl)⟩ (fun a_29 ea_29 hq => ?_)
        obtain ⟨hP, hD, hI, hE, hZ⟩ := hq
        obtain ⟨t30, et30⟩ : ∃ z : Int32, z = y5 + Int32.ofInt 1 := ⟨_, rfl⟩
        have qt30 : t30.toInt = y5.toInt + 1 := by rw [et30]; exact km_inc b15 (by decide) (by decide)
        have b31 : kb 1 t30 400 := kb_inc (k := 1) qt30 b15
        refine lv_iinc (v := t30) (lv' := [(2, .int t30), (0, .ref o), (1, .int x)]) hx hb dX12_lays_66 hl (k := 0) rfl et30.symm (by decide) rfl (fun ls hl => ?_)
        refine lv_goto (tgt := 15) hx hb dX12_lays_69 (by decide) ?_
        exact ihlp7 (k + 1) a_29 _ _ _ t30 (by omega) hI hE hZ (kb_w b31 (by decide) (by decide)) (mLay_in ht6 (by omega) hvlp7_0 ea_23 ea_29 (by omega) (by omega) hvlp7_2 et22 et28 hvlp7_1.1 hvlp7_1.2) (⟨by rw [← ea_29]; show a_23 15 = _; rw [← ea_23]; exact hvlp7_1.1, by rw [← ea_29]; show a_23 16 = _; rw [← ea_23]; exact hvlp7_1.2⟩) (by omega) (by omega) hP hD hS (lv_sub hl [0, 1, 2] rfl)
  exact lp7 (N + 1) 0 a_4 _ _ _ 0 (by omega) hI hE hZ (kb_w kc_0 (by decide) (by decide)) (by rw [← ea_4]; show upd (a 2) t2.toNatClampNeg tok = _; have w1 : t2.toNatClampNeg = 107 + t := (by have w2 := kb_cl b3 (by decide); omega); rw [w1]; exact mLay_0) (⟨by rw [← ea_4]; rfl, by rw [← ea_4]; rfl⟩) (by decide +kernel) (Nat.zero_le _) hP hD hS (lv_sub hl [0, 1, 2] rfl)
