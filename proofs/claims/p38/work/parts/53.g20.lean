theorem wBR_i : ∀ j < 146, (wBR j).toInt = mWd.getD j 0 := by decide +kernel
theorem wv {a : Nat → Nat → Int32} {x : Int32} {j : Nat} (h : aI mBa a) (hx : x.toInt = (j : Int)) (hj : j < 146) : a 7 x.toNatClampNeg = wBR j := by
  rw [cl_nat hx]
  have b := h 7 j
  have e : mBa 7 j = (mWd.getD j 0, mWd.getD j 0) := by
    unfold mBa
    rw [if_neg (by decide), if_neg (by decide), if_neg (by decide), if_pos rfl, if_pos hj]
  rw [e] at b
  exact Int32.toInt_inj.mp (by rw [wBR_i j hj]; exact Int.le_antisymm b.2 b.1)
theorem ofR_lt {q : Nat} (h : q ≤ 28) (h1 : (ofR.getD q 0 : Int) < 146) : q < 28 := by
  by_cases e : q = 28
  · rw [e, ofR_28] at h1; omega
  · omega
/-! the reference's tokens, as they are split -/
def sPre (t : Nat → Int32) (S ta : Nat) (A : Nat → Nat → Int32) : Prop := ∀ i, i < ta → plT t S i < S ∧ tOk (A 15 i) (A 16 i) (tkT t S i) ∧ A 17 i = pcT t S i
theorem sPre_st {t : Nat → Int32} {S ta s k : Nat} {A : Nat → Nat → Int32} {v : Int32} (h : sPre t S ta A) (hk : ta ≤ k) : sPre t S ta (va_up A s (upd (A s) k v)) := by
  intro i hi
  have e : ∀ q, va_up A s (upd (A s) k v) q i = A q i := by
    intro q
    unfold va_up
    by_cases w : q = s
    · rw [if_pos w, pk_un (by omega), w]
    · rw [if_neg w]
  rw [e, e, e]
  exact h i hi
theorem isS_D {b : Int32} (h : isS b = true) (q : isD b = true) : False := by
  have h1 := of_decide_eq_true h
  have h2 := of_decide_eq_true q
  omega
def vOk (v : Int32) (nv : Int) : Prop := (nv ≤ 1000000 ∧ v.toInt = nv) ∨ (1000000 < nv ∧ 1000000 < v.toInt ∧ v.toInt ≤ 10000009)
theorem vOk_y {v w : Int32} {nv d : Int} (h : vOk v nv) (hv : v.toInt ≤ 1000000) (h0 : 0 ≤ nv) (hd : 0 ≤ d ∧ d ≤ 9) (e : w.toInt = 10 * v.toInt + d) : vOk w (10 * nv + d) := by
  rcases h with ⟨h1, h2⟩ | ⟨h1, h2, h3⟩
  · by_cases q : 10 * nv + d ≤ 1000000
    · exact Or.inl ⟨q, by omega⟩
    · exact Or.inr ⟨by omega, by omega, by omega⟩
  · omega
theorem vOk_n {v : Int32} {nv d : Int} (h : vOk v nv) (hv : 1000000 < v.toInt) (h0 : 0 ≤ nv) (hd : 0 ≤ d ∧ d ≤ 9) : vOk v (10 * nv + d) := by
  rcases h with ⟨h1, h2⟩ | ⟨h1, h2, h3⟩
  · omega
  · exact Or.inr ⟨by omega, h2, h3⟩
theorem vOk_b {v : Int32} {nv : Int} (h : vOk v nv) (h0 : 0 ≤ nv) : kb 0 v 10000009 := by
  rcases h with ⟨h1, h2⟩ | ⟨h1, h2, h3⟩
  · exact ⟨by omega, by omega⟩
  · exact ⟨by omega, h3⟩
theorem i_of {z : Int} (h : 0 ≤ z ∧ z ≤ 1000) : (Int32.ofInt z).toInt = z := by
  have : ∀ q : Nat, q < 1001 → (Int32.ofInt (q : Int)).toInt = (q : Int) := by decide +kernel
  have := this z.toNat (by omega)
  rw [show ((z.toNat : Nat) : Int) = z by omega] at this
  exact this
theorem tok_d {t : Nat → Int32} {S k e : Nat} {v : Int32} (hS : ¬ isS (t k) = true) (hD : isD (t k) = true) (he : enT t S k = e) (h0 : 0 ≤ nvT t k (e - k)) (h : vOk v (nvT t k (e - k))) : tOk 50 v (toT t S k) := by
  unfold toT
  rw [if_neg hS, if_pos hD, he]
  refine Or.inr (Or.inr (Or.inl ⟨rfl, (vOk_b h h0).1, ?_⟩))
  rcases h with ⟨h1, h2⟩ | ⟨h1, h2, h3⟩
  · by_cases q : nvT t k (e - k) ≤ 1000
    · rw [if_pos q]
      exact Or.inl ⟨by omega, Int32.toInt_inj.mp (by rw [i_of ⟨h0, q⟩]; omega)⟩
    · rw [if_neg q]
      exact Or.inr ⟨by omega, rfl⟩
  · rw [if_neg (by omega)]
    exact Or.inr ⟨by omega, rfl⟩
theorem tok_w {t : Nat → Int32} {S k e : Nat} {c v : Int32} (hS : isS (t k) = true) (he : enT t S k = e) (h : (∃ q, q < 28 ∧ dcR.getD q [] = slT t k e ∧ c.toInt = (q : Int) + 1) ∨ (c = 0 ∧ ∀ q < 28, ¬ dcR.getD q [] = slT t k e)) : tOk c v (toT t S k) := by
  unfold toT
  rw [if_pos hS, he]
  rcases h with ⟨q, hq, e1, e2⟩ | ⟨e1, h2⟩
  · rw [← e1, wdR q hq]
    exact Or.inr (Or.inl ⟨q + 1, by omega, by omega, by omega, rfl⟩)
  · exact Or.inl ⟨e1, Or.inl (wd_0 h2)⟩
theorem tok_s {t : Nat → Int32} {S k : Nat} {c b x v : Int32} (hS : ¬ isS (t k) = true) (hD : ¬ isD (t k) = true) (hb : b = t k) (hx : x = b &&& 255) (hk : kb 0 x 255) (hc : c.toInt = 100 + x.toInt) : tOk c v (toT t S k) := by
  unfold toT
  rw [if_neg hS, if_neg hD, ← hb, ← hx]
  have b1 : kb 3000 3000 3000 := ⟨by decide +kernel, by decide +kernel⟩
  have e := kt_add b1 hk (by decide) (by decide)
  have e2 : (3000 : Int32).toInt = 3000 := by decide +kernel
  have h1 := hk.1
  have h2 := hk.2
  exact Or.inr (Or.inr (Or.inr ⟨by omega, by omega, by rw [e, e2]; omega⟩))
theorem pc_of {x : Int32} {k : Nat} (h : x.toInt = (k : Int)) (hk : k ≤ 400) : x = Int32.ofNat k := by
  have : ∀ q : Nat, q < 401 → (Int32.ofNat q).toInt = (q : Int) := by decide +kernel
  exact Int32.toInt_inj.mp (by rw [h, this k (by omega)])
theorem sPre_add {t : Nat → Int32} {S ta : Nat} {A : Nat → Nat → Int32} (h : sPre t S ta A) (h1 : plT t S ta < S) (h2 : tOk (A 15 ta) (A 16 ta) (tkT t S ta)) (h3 : A 17 ta = pcT t S ta) : sPre t S (ta + 1) A := by
  intro i hi
  by_cases e : i = ta
  · rw [e]; exact ⟨h1, h2, h3⟩
  · exact h i (by omega)
/-- the tape's tokens stand in the rows 15, 16, 17 -/
def spR (t : Nat → Int32) (S N : Nat) (A : Nat → Nat → Int32) : Prop := plT t S N = S ∧ sPre t S N A ∧ A 17 N = pcT t S N
theorem rn_d {t : Nat → Int32} {kk ii : Nat} (h : ∀ j, kk ≤ j → j < ii → isD (t j) = true) : ∀ j, j < ii - kk → isD (t (kk + j)) = true := fun j hj => h (kk + j) (by omega) (by omega)
theorem nv_s {t : Nat → Int32} {kk ii : Nat} (h : kk ≤ ii) : nvT t kk (ii + 1 - kk) = 10 * nvT t kk (ii - kk) + ((t ii).toInt - 48) := by
  rw [show ii + 1 - kk = (ii - kk) + 1 by omega]
  show 10 * nvT t kk (ii - kk) + ((t (kk + (ii - kk))).toInt - 48) = _
  rw [show kk + (ii - kk) = ii by omega]
theorem isD_b {b : Int32} (h : isD b = true) : kb 48 b 57 := of_decide_eq_true (p := 48 ≤ b.toInt ∧ b.toInt ≤ 57) h
theorem isD_f {b : Int32} (h : isS b = true) : isD b = false := by
  cases q : isD b with
  | false => rfl
  | true => exact (isS_D h q).elim
theorem dX4_isLetter_0 : decode cX4_isLetter 0 = .ok (.iload_n 0, 1) := by decide +kernel
theorem dX4_isLetter_1 : decode cX4_isLetter 1 = .ok (.bipush 97, 2) := by decide +kernel
theorem dX4_isLetter_3 : decode cX4_isLetter 3 = .ok (.if_icmp .lt 13, 3) := by decide +kernel
theorem dX4_isLetter_6 : decode cX4_isLetter 6 = .ok (.iload_n 0, 1) := by decide +kernel
theorem dX4_isLetter_7 : decode cX4_isLetter 7 = .ok (.bipush 122, 2) := by decide +kernel
theorem dX4_isLetter_9 : decode cX4_isLetter 9 = .ok (.if_icmp .gt 7, 3) := by decide +kernel
theorem dX4_isLetter_12 : decode cX4_isLetter 12 = .ok (.iconst 1, 1) := by decide +kernel
theorem dX4_isLetter_13 : decode cX4_isLetter 13 = .ok (.goto 4, 3) := by decide +kernel
theorem dX4_isLetter_16 : decode cX4_isLetter 16 = .ok (.iconst 0, 1) := by decide +kernel
theorem dX4_isLetter_17 : decode cX4_isLetter 17 = .ok (.ireturn, 1) := by decide +kernel
theorem dX4_isDigit_0 : decode cX4_isDigit 0 = .ok (.iload_n 0, 1) := by decide +kernel
theorem dX4_isDigit_1 : decode cX4_isDigit 1 = .ok (.bipush 48, 2) := by decide +kernel
theorem dX4_isDigit_3 : decode cX4_isDigit 3 = .ok (.if_icmp .lt 13, 3) := by decide +kernel
theorem dX4_isDigit_6 : decode cX4_isDigit 6 = .ok (.iload_n 0, 1) := by decide +kernel
theorem dX4_isDigit_7 : decode cX4_isDigit 7 = .ok (.bipush 57, 2) := by decide +kernel
theorem dX4_isDigit_9 : decode cX4_isDigit 9 = .ok (.if_icmp .gt 7, 3) := by decide +kernel
theorem dX4_isDigit_12 : decode cX4_isDigit 12 = .ok (.iconst 1, 1) := by decide +kernel
theorem dX4_isDigit_13 : decode cX4_isDigit 13 = .ok (.goto 4, 3) := by decide +kernel
theorem dX4_isDigit_16 : decode cX4_isDigit 16 = .ok (.iconst 0, 1) := by decide +kernel
theorem dX4_isDigit_17 : decode cX4_isDigit 17 = .ok (.ireturn, 1) := by decide +kernel
theorem dX12_isSmall_0 : decode cX12_isSmall 0 = .ok (.iload_n 0, 1) := by decide +kernel
theorem dX12_isSmall_1 : decode cX12_isSmall 1 = .ok (.bipush 97, 2) := by decide +kernel
theorem dX12_isSmall_3 : decode cX12_isSmall 3 = .ok (.if_icmp .lt 13, 3) := by decide +kernel
theorem dX12_isSmall_6 : decode cX12_isSmall 6 = .ok (.iload_n 0, 1) := by decide +kernel
theorem dX12_isSmall_7 : decode cX12_isSmall 7 = .ok (.bipush 122, 2) := by decide +kernel
theorem dX12_isSmall_9 : decode cX12_isSmall 9 = .ok (.if_icmp .gt 7, 3) := by decide +kernel
theorem dX12_isSmall_12 : decode cX12_isSmall 12 = .ok (.iconst 1, 1) := by decide +kernel
theorem dX12_isSmall_13 : decode cX12_isSmall 13 = .ok (.goto 4, 3) := by decide +kernel
theorem dX12_isSmall_16 : decode cX12_isSmall 16 = .ok (.iconst 0, 1) := by decide +kernel
theorem dX12_isSmall_17 : decode cX12_isSmall 17 = .ok (.ireturn, 1) := by decide +kernel
theorem dX12_isDigit_0 : decode cX12_isDigit 0 = .ok (.iload_n 0, 1) := by decide +kernel
theorem dX12_isDigit_1 : decode cX12_isDigit 1 = .ok (.bipush 48, 2) := by decide +kernel
theorem dX12_isDigit_3 : decode cX12_isDigit 3 = .ok (.if_icmp .lt 13, 3) := by decide +kernel
theorem dX12_isDigit_6 : decode cX12_isDigit 6 = .ok (.iload_n 0, 1) := by decide +kernel
theorem dX12_isDigit_7 : decode cX12_isDigit 7 = .ok (.bipush 57, 2) := by decide +kernel
theorem dX12_isDigit_9 : decode cX12_isDigit 9 = .ok (.if_icmp .gt 7, 3) := by decide +kernel
theorem dX12_isDigit_12 : decode cX12_isDigit 12 = .ok (.iconst 1, 1) := by decide +kernel
theorem dX12_isDigit_13 : decode cX12_isDigit 13 = .ok (.goto 4, 3) := by decide +kernel
theorem dX12_isDigit_16 : decode cX12_isDigit 16 = .ok (.iconst 0, 1) := by decide +kernel
theorem dX12_isDigit_17 : decode cX12_isDigit 17 = .ok (.ireturn, 1) := by decide +kernel
theorem dX12_wordOf_0 : decode cX12_wordOf 0 = .ok (.iconst 1, 1) := by decide +kernel
theorem dX12_wordOf_1 : decode cX12_wordOf 1 = .ok (.istore_n 3, 1) := by decide +kernel
theorem dX12_wordOf_2 : decode cX12_wordOf 2 = .ok (.iconst 0, 1) := by decide +kernel
theorem dX12_wordOf_3 : decode cX12_wordOf 3 = .ok (.istore 4, 2) := by decide +kernel
theorem dX12_wordOf_5 : decode cX12_wordOf 5 = .ok (.iload 4, 2) := by decide +kernel
theorem dX12_wordOf_7 : decode cX12_wordOf 7 = .ok (.aload_n 0, 1) := by decide +kernel
theorem dX12_wordOf_8 : decode cX12_wordOf 8 = .ok (.getfield 37, 3) := by decide +kernel
theorem dX12_wordOf_11 : decode cX12_wordOf 11 = .ok (.arraylength, 1) := by decide +kernel
theorem dX12_wordOf_12 : decode cX12_wordOf 12 = .ok (.if_icmp .ge 114, 3) := by decide +kernel
theorem dX12_wordOf_15 : decode cX12_wordOf 15 = .ok (.iconst 0, 1) := by decide +kernel
theorem dX12_wordOf_16 : decode cX12_wordOf 16 = .ok (.istore 5, 2) := by decide +kernel
theorem dX12_wordOf_18 : decode cX12_wordOf 18 = .ok (.aload_n 0, 1) := by decide +kernel
theorem dX12_wordOf_19 : decode cX12_wordOf 19 = .ok (.getfield 37, 3) := by decide +kernel
theorem dX12_wordOf_22 : decode cX12_wordOf 22 = .ok (.iload 4, 2) := by decide +kernel
theorem dX12_wordOf_24 : decode cX12_wordOf 24 = .ok (.iload 5, 2) := by decide +kernel
theorem dX12_wordOf_26 : decode cX12_wordOf 26 = .ok (.iadd, 1) := by decide +kernel
theorem dX12_wordOf_27 : decode cX12_wordOf 27 = .ok (.baload, 1) := by decide +kernel
theorem dX12_wordOf_28 : decode cX12_wordOf 28 = .ok (.bipush 32, 2) := by decide +kernel
theorem dX12_wordOf_30 : decode cX12_wordOf 30 = .ok (.if_icmp .eq 9, 3) := by decide +kernel
theorem dX12_wordOf_33 : decode cX12_wordOf 33 = .ok (.iinc 5 1, 3) := by decide +kernel
theorem dX12_wordOf_36 : decode cX12_wordOf 36 = .ok (.goto (-18), 3) := by decide +kernel
theorem dX12_wordOf_39 : decode cX12_wordOf 39 = .ok (.iload 5, 2) := by decide +kernel
theorem dX12_wordOf_41 : decode cX12_wordOf 41 = .ok (.iload_n 2, 1) := by decide +kernel
theorem dX12_wordOf_42 : decode cX12_wordOf 42 = .ok (.iload_n 1, 1) := by decide +kernel
theorem dX12_wordOf_43 : decode cX12_wordOf 43 = .ok (.isub, 1) := by decide +kernel
theorem dX12_wordOf_44 : decode cX12_wordOf 44 = .ok (.if_icmp .ne 7, 3) := by decide +kernel
theorem dX12_wordOf_47 : decode cX12_wordOf 47 = .ok (.iconst 1, 1) := by decide +kernel
theorem dX12_wordOf_48 : decode cX12_wordOf 48 = .ok (.goto 4, 3) := by decide +kernel
theorem dX12_wordOf_51 : decode cX12_wordOf 51 = .ok (.iconst 0, 1) := by decide +kernel
theorem dX12_wordOf_52 : decode cX12_wordOf 52 = .ok (.istore 6, 2) := by decide +kernel
theorem dX12_wordOf_54 : decode cX12_wordOf 54 = .ok (.iconst 0, 1) := by decide +kernel
theorem dX12_wordOf_55 : decode cX12_wordOf 55 = .ok (.istore 7, 2) := by decide +kernel
theorem dX12_wordOf_57 : decode cX12_wordOf 57 = .ok (.iload 7, 2) := by decide +kernel
theorem dX12_wordOf_59 : decode cX12_wordOf 59 = .ok (.iload 5, 2) := by decide +kernel
theorem dX12_wordOf_61 : decode cX12_wordOf 61 = .ok (.if_icmp .ge 43, 3) := by decide +kernel
theorem dX12_wordOf_64 : decode cX12_wordOf 64 = .ok (.iload 6, 2) := by decide +kernel
theorem dX12_wordOf_66 : decode cX12_wordOf 66 = .ok (.ifCond .eq 38, 3) := by decide +kernel
theorem dX12_wordOf_69 : decode cX12_wordOf 69 = .ok (.aload_n 0, 1) := by decide +kernel
theorem dX12_wordOf_70 : decode cX12_wordOf 70 = .ok (.getfield 37, 3) := by decide +kernel
theorem dX12_wordOf_73 : decode cX12_wordOf 73 = .ok (.iload 4, 2) := by decide +kernel
theorem dX12_wordOf_75 : decode cX12_wordOf 75 = .ok (.iload 7, 2) := by decide +kernel
theorem dX12_wordOf_77 : decode cX12_wordOf 77 = .ok (.iadd, 1) := by decide +kernel
theorem dX12_wordOf_78 : decode cX12_wordOf 78 = .ok (.baload, 1) := by decide +kernel
theorem dX12_wordOf_79 : decode cX12_wordOf 79 = .ok (.aload_n 0, 1) := by decide +kernel
theorem dX12_wordOf_80 : decode cX12_wordOf 80 = .ok (.getfield 41, 3) := by decide +kernel
theorem dX12_wordOf_83 : decode cX12_wordOf 83 = .ok (.iload_n 1, 1) := by decide +kernel
theorem dX12_wordOf_84 : decode cX12_wordOf 84 = .ok (.iload 7, 2) := by decide +kernel
theorem dX12_wordOf_86 : decode cX12_wordOf 86 = .ok (.iadd, 1) := by decide +kernel
theorem dX12_wordOf_87 : decode cX12_wordOf 87 = .ok (.baload, 1) := by decide +kernel
theorem dX12_wordOf_88 : decode cX12_wordOf 88 = .ok (.if_icmp .ne 7, 3) := by decide +kernel
theorem dX12_wordOf_91 : decode cX12_wordOf 91 = .ok (.iconst 1, 1) := by decide +kernel
theorem dX12_wordOf_92 : decode cX12_wordOf 92 = .ok (.goto 4, 3) := by decide +kernel
theorem dX12_wordOf_95 : decode cX12_wordOf 95 = .ok (.iconst 0, 1) := by decide +kernel
theorem dX12_wordOf_96 : decode cX12_wordOf 96 = .ok (.istore 6, 2) := by decide +kernel
theorem dX12_wordOf_98 : decode cX12_wordOf 98 = .ok (.iinc 7 1, 3) := by decide +kernel
theorem dX12_wordOf_101 : decode cX12_wordOf 101 = .ok (.goto (-44), 3) := by decide +kernel
theorem dX12_wordOf_104 : decode cX12_wordOf 104 = .ok (.iload 6, 2) := by decide +kernel
theorem dX12_wordOf_106 : decode cX12_wordOf 106 = .ok (.ifCond .eq 5, 3) := by decide +kernel
theorem dX12_wordOf_109 : decode cX12_wordOf 109 = .ok (.iload_n 3, 1) := by decide +kernel
theorem dX12_wordOf_110 : decode cX12_wordOf 110 = .ok (.ireturn, 1) := by decide +kernel
theorem dX12_wordOf_111 : decode cX12_wordOf 111 = .ok (.iload 4, 2) := by decide +kernel
theorem dX12_wordOf_113 : decode cX12_wordOf 113 = .ok (.iload 5, 2) := by decide +kernel
theorem dX12_wordOf_115 : decode cX12_wordOf 115 = .ok (.iconst 1, 1) := by decide +kernel
theorem dX12_wordOf_116 : decode cX12_wordOf 116 = .ok (.iadd, 1) := by decide +kernel
theorem dX12_wordOf_117 : decode cX12_wordOf 117 = .ok (.iadd, 1) := by decide +kernel
theorem dX12_wordOf_118 : decode cX12_wordOf 118 = .ok (.istore 4, 2) := by decide +kernel
theorem dX12_wordOf_120 : decode cX12_wordOf 120 = .ok (.iinc 3 1, 3) := by decide +kernel
theorem dX12_wordOf_123 : decode cX12_wordOf 123 = .ok (.goto (-118), 3) := by decide +kernel
theorem dX12_wordOf_126 : decode cX12_wordOf 126 = .ok (.iconst 0, 1) := by decide +kernel
theorem dX12_wordOf_127 : decode cX12_wordOf 127 = .ok (.ireturn, 1) := by decide +kernel
theorem dX12_splits_0 : decode cX12_splits 0 = .ok (.aload_n 0, 1) := by decide +kernel
theorem dX12_splits_1 : decode cX12_splits 1 = .ok (.iconst 0, 1) := by decide +kernel
theorem dX12_splits_2 : decode cX12_splits 2 = .ok (.putfield 144, 3) := by decide +kernel
theorem dX12_splits_5 : decode cX12_splits 5 = .ok (.iconst 0, 1) := by decide +kernel
theorem dX12_splits_6 : decode cX12_splits 6 = .ok (.istore_n 2, 1) := by decide +kernel
theorem dX12_splits_7 : decode cX12_splits 7 = .ok (.iload_n 2, 1) := by decide +kernel
theorem dX12_splits_8 : decode cX12_splits 8 = .ok (.iload_n 1, 1) := by decide +kernel
theorem dX12_splits_9 : decode cX12_splits 9 = .ok (.if_icmp .ge 254, 3) := by decide +kernel
theorem dX12_splits_12 : decode cX12_splits 12 = .ok (.aload_n 0, 1) := by decide +kernel
theorem dX12_splits_13 : decode cX12_splits 13 = .ok (.getfield 41, 3) := by decide +kernel
theorem dX12_splits_16 : decode cX12_splits 16 = .ok (.iload_n 2, 1) := by decide +kernel
theorem dX12_splits_17 : decode cX12_splits 17 = .ok (.baload, 1) := by decide +kernel
theorem dX12_splits_18 : decode cX12_splits 18 = .ok (.istore_n 3, 1) := by decide +kernel
theorem dX12_splits_19 : decode cX12_splits 19 = .ok (.iload_n 3, 1) := by decide +kernel
theorem dX12_splits_20 : decode cX12_splits 20 = .ok (.bipush 32, 2) := by decide +kernel
theorem dX12_splits_22 : decode cX12_splits 22 = .ok (.if_icmp .ne 9, 3) := by decide +kernel
theorem dX12_splits_25 : decode cX12_splits 25 = .ok (.iinc 2 1, 3) := by decide +kernel
theorem dX12_splits_28 : decode cX12_splits 28 = .ok (.goto (-21), 3) := by decide +kernel
theorem dX12_splits_31 : decode cX12_splits 31 = .ok (.iload_n 2, 1) := by decide +kernel
theorem dX12_splits_32 : decode cX12_splits 32 = .ok (.iconst 1, 1) := by decide +kernel
theorem dX12_splits_33 : decode cX12_splits 33 = .ok (.iadd, 1) := by decide +kernel
theorem dX12_splits_34 : decode cX12_splits 34 = .ok (.istore 4, 2) := by decide +kernel
theorem dX12_splits_36 : decode cX12_splits 36 = .ok (.iload_n 3, 1) := by decide +kernel
theorem dX12_splits_37 : decode cX12_splits 37 = .ok (.invokestatic 147, 3) := by decide +kernel
theorem dX12_splits_40 : decode cX12_splits 40 = .ok (.ifCond .eq 28, 3) := by decide +kernel
theorem dX12_splits_43 : decode cX12_splits 43 = .ok (.iload 4, 2) := by decide +kernel
theorem dX12_splits_45 : decode cX12_splits 45 = .ok (.iload_n 1, 1) := by decide +kernel
theorem dX12_splits_46 : decode cX12_splits 46 = .ok (.if_icmp .ge 22, 3) := by decide +kernel
theorem dX12_splits_49 : decode cX12_splits 49 = .ok (.aload_n 0, 1) := by decide +kernel
theorem dX12_splits_50 : decode cX12_splits 50 = .ok (.getfield 41, 3) := by decide +kernel
theorem dX12_splits_53 : decode cX12_splits 53 = .ok (.iload 4, 2) := by decide +kernel
theorem dX12_splits_55 : decode cX12_splits 55 = .ok (.baload, 1) := by decide +kernel
theorem dX12_splits_56 : decode cX12_splits 56 = .ok (.invokestatic 147, 3) := by decide +kernel
theorem dX12_splits_59 : decode cX12_splits 59 = .ok (.ifCond .eq 9, 3) := by decide +kernel
theorem dX12_splits_62 : decode cX12_splits 62 = .ok (.iinc 4 1, 3) := by decide +kernel
theorem dX12_splits_65 : decode cX12_splits 65 = .ok (.goto (-22), 3) := by decide +kernel
theorem dX12_splits_68 : decode cX12_splits 68 = .ok (.iload_n 3, 1) := by decide +kernel
theorem dX12_splits_69 : decode cX12_splits 69 = .ok (.invokestatic 150, 3) := by decide +kernel
theorem dX12_splits_72 : decode cX12_splits 72 = .ok (.ifCond .eq 28, 3) := by decide +kernel
theorem dX12_splits_75 : decode cX12_splits 75 = .ok (.iload 4, 2) := by decide +kernel
theorem dX12_splits_77 : decode cX12_splits 77 = .ok (.iload_n 1, 1) := by decide +kernel
theorem dX12_splits_78 : decode cX12_splits 78 = .ok (.if_icmp .ge 22, 3) := by decide +kernel
theorem dX12_splits_81 : decode cX12_splits 81 = .ok (.aload_n 0, 1) := by decide +kernel
theorem dX12_splits_82 : decode cX12_splits 82 = .ok (.getfield 41, 3) := by decide +kernel
theorem dX12_splits_85 : decode cX12_splits 85 = .ok (.iload 4, 2) := by decide +kernel
theorem dX12_splits_87 : decode cX12_splits 87 = .ok (.baload, 1) := by decide +kernel
theorem dX12_splits_88 : decode cX12_splits 88 = .ok (.invokestatic 150, 3) := by decide +kernel
theorem dX12_splits_91 : decode cX12_splits 91 = .ok (.ifCond .eq 9, 3) := by decide +kernel
theorem dX12_splits_94 : decode cX12_splits 94 = .ok (.iinc 4 1, 3) := by decide +kernel
theorem dX12_splits_97 : decode cX12_splits 97 = .ok (.goto (-22), 3) := by decide +kernel
theorem dX12_splits_100 : decode cX12_splits 100 = .ok (.aload_n 0, 1) := by decide +kernel
theorem dX12_splits_101 : decode cX12_splits 101 = .ok (.getfield 56, 3) := by decide +kernel
theorem dX12_splits_104 : decode cX12_splits 104 = .ok (.aload_n 0, 1) := by decide +kernel
theorem dX12_splits_105 : decode cX12_splits 105 = .ok (.getfield 144, 3) := by decide +kernel
theorem dX12_splits_108 : decode cX12_splits 108 = .ok (.iload_n 2, 1) := by decide +kernel
theorem dX12_splits_109 : decode cX12_splits 109 = .ok (.iastore, 1) := by decide +kernel
theorem dX12_splits_110 : decode cX12_splits 110 = .ok (.aload_n 0, 1) := by decide +kernel
theorem dX12_splits_111 : decode cX12_splits 111 = .ok (.getfield 53, 3) := by decide +kernel
theorem dX12_splits_114 : decode cX12_splits 114 = .ok (.aload_n 0, 1) := by decide +kernel
theorem dX12_splits_115 : decode cX12_splits 115 = .ok (.getfield 144, 3) := by decide +kernel
theorem dX12_splits_118 : decode cX12_splits 118 = .ok (.iconst 0, 1) := by decide +kernel
theorem dX12_splits_119 : decode cX12_splits 119 = .ok (.iastore, 1) := by decide +kernel
theorem dX12_splits_120 : decode cX12_splits 120 = .ok (.aload_n 0, 1) := by decide +kernel
theorem dX12_splits_121 : decode cX12_splits 121 = .ok (.getfield 50, 3) := by decide +kernel
theorem dX12_splits_124 : decode cX12_splits 124 = .ok (.aload_n 0, 1) := by decide +kernel
theorem dX12_splits_125 : decode cX12_splits 125 = .ok (.getfield 144, 3) := by decide +kernel
theorem dX12_splits_128 : decode cX12_splits 128 = .ok (.iload_n 3, 1) := by decide +kernel
theorem dX12_splits_129 : decode cX12_splits 129 = .ok (.invokestatic 147, 3) := by decide +kernel
theorem dX12_splits_132 : decode cX12_splits 132 = .ok (.ifCond .eq 13, 3) := by decide +kernel
theorem dX12_splits_135 : decode cX12_splits 135 = .ok (.aload_n 0, 1) := by decide +kernel
theorem dX12_splits_136 : decode cX12_splits 136 = .ok (.iload_n 2, 1) := by decide +kernel
theorem dX12_splits_137 : decode cX12_splits 137 = .ok (.iload 4, 2) := by decide +kernel
theorem dX12_splits_139 : decode cX12_splits 139 = .ok (.invokevirtual 153, 3) := by decide +kernel
theorem dX12_splits_142 : decode cX12_splits 142 = .ok (.goto 23, 3) := by decide +kernel
theorem dX12_splits_145 : decode cX12_splits 145 = .ok (.iload_n 3, 1) := by decide +kernel
theorem dX12_splits_146 : decode cX12_splits 146 = .ok (.invokestatic 150, 3) := by decide +kernel
theorem dX12_splits_149 : decode cX12_splits 149 = .ok (.ifCond .eq 8, 3) := by decide +kernel
theorem dX12_splits_152 : decode cX12_splits 152 = .ok (.bipush 50, 2) := by decide +kernel
theorem dX12_splits_154 : decode cX12_splits 154 = .ok (.goto 11, 3) := by decide +kernel
theorem dX12_splits_157 : decode cX12_splits 157 = .ok (.bipush 100, 2) := by decide +kernel
theorem dX12_splits_159 : decode cX12_splits 159 = .ok (.iload_n 3, 1) := by decide +kernel
theorem dX12_splits_160 : decode cX12_splits 160 = .ok (.sipush 255, 3) := by decide +kernel
theorem dX12_splits_163 : decode cX12_splits 163 = .ok (.iand, 1) := by decide +kernel
theorem dX12_splits_164 : decode cX12_splits 164 = .ok (.iadd, 1) := by decide +kernel
theorem dX12_splits_165 : decode cX12_splits 165 = .ok (.iastore, 1) := by decide +kernel
theorem dX12_splits_166 : decode cX12_splits 166 = .ok (.iload_n 2, 1) := by decide +kernel
theorem dX12_splits_167 : decode cX12_splits 167 = .ok (.istore 5, 2) := by decide +kernel
theorem dX12_splits_169 : decode cX12_splits 169 = .ok (.iload 5, 2) := by decide +kernel
theorem dX12_splits_171 : decode cX12_splits 171 = .ok (.iload 4, 2) := by decide +kernel
theorem dX12_splits_173 : decode cX12_splits 173 = .ok (.if_icmp .ge 74, 3) := by decide +kernel
theorem dX12_splits_176 : decode cX12_splits 176 = .ok (.iload_n 3, 1) := by decide +kernel
theorem dX12_splits_177 : decode cX12_splits 177 = .ok (.invokestatic 150, 3) := by decide +kernel
theorem dX12_splits_180 : decode cX12_splits 180 = .ok (.ifCond .eq 67, 3) := by decide +kernel
theorem dX12_splits_183 : decode cX12_splits 183 = .ok (.aload_n 0, 1) := by decide +kernel
theorem dX12_splits_184 : decode cX12_splits 184 = .ok (.getfield 53, 3) := by decide +kernel
theorem dX12_splits_187 : decode cX12_splits 187 = .ok (.aload_n 0, 1) := by decide +kernel
theorem dX12_splits_188 : decode cX12_splits 188 = .ok (.getfield 144, 3) := by decide +kernel
theorem dX12_splits_191 : decode cX12_splits 191 = .ok (.aload_n 0, 1) := by decide +kernel
theorem dX12_splits_192 : decode cX12_splits 192 = .ok (.getfield 53, 3) := by decide +kernel
theorem dX12_splits_195 : decode cX12_splits 195 = .ok (.aload_n 0, 1) := by decide +kernel
theorem dX12_splits_196 : decode cX12_splits 196 = .ok (.getfield 144, 3) := by decide +kernel
theorem dX12_splits_199 : decode cX12_splits 199 = .ok (.iaload, 1) := by decide +kernel
theorem dX12_splits_200 : decode cX12_splits 200 = .ok (.ldc 157, 2) := by decide +kernel
theorem dX12_splits_202 : decode cX12_splits 202 = .ok (.if_icmp .le 15, 3) := by decide +kernel
theorem dX12_splits_205 : decode cX12_splits 205 = .ok (.aload_n 0, 1) := by decide +kernel
theorem dX12_splits_206 : decode cX12_splits 206 = .ok (.getfield 53, 3) := by decide +kernel
theorem dX12_splits_209 : decode cX12_splits 209 = .ok (.aload_n 0, 1) := by decide +kernel
theorem dX12_splits_210 : decode cX12_splits 210 = .ok (.getfield 144, 3) := by decide +kernel
theorem dX12_splits_213 : decode cX12_splits 213 = .ok (.iaload, 1) := by decide +kernel
theorem dX12_splits_214 : decode cX12_splits 214 = .ok (.goto 26, 3) := by decide +kernel
theorem dX12_splits_217 : decode cX12_splits 217 = .ok (.bipush 10, 2) := by decide +kernel
theorem dX12_splits_219 : decode cX12_splits 219 = .ok (.aload_n 0, 1) := by decide +kernel
theorem dX12_splits_220 : decode cX12_splits 220 = .ok (.getfield 53, 3) := by decide +kernel
theorem dX12_splits_223 : decode cX12_splits 223 = .ok (.aload_n 0, 1) := by decide +kernel
theorem dX12_splits_224 : decode cX12_splits 224 = .ok (.getfield 144, 3) := by decide +kernel
theorem dX12_splits_227 : decode cX12_splits 227 = .ok (.iaload, 1) := by decide +kernel
theorem dX12_splits_228 : decode cX12_splits 228 = .ok (.imul, 1) := by decide +kernel
theorem dX12_splits_229 : decode cX12_splits 229 = .ok (.aload_n 0, 1) := by decide +kernel
theorem dX12_splits_230 : decode cX12_splits 230 = .ok (.getfield 41, 3) := by decide +kernel
theorem dX12_splits_233 : decode cX12_splits 233 = .ok (.iload 5, 2) := by decide +kernel
theorem dX12_splits_235 : decode cX12_splits 235 = .ok (.baload, 1) := by decide +kernel
theorem dX12_splits_236 : decode cX12_splits 236 = .ok (.iadd, 1) := by decide +kernel
theorem dX12_splits_237 : decode cX12_splits 237 = .ok (.bipush 48, 2) := by decide +kernel
theorem dX12_splits_239 : decode cX12_splits 239 = .ok (.isub, 1) := by decide +kernel
theorem dX12_splits_240 : decode cX12_splits 240 = .ok (.iastore, 1) := by decide +kernel
theorem dX12_splits_241 : decode cX12_splits 241 = .ok (.iinc 5 1, 3) := by decide +kernel
theorem dX12_splits_244 : decode cX12_splits 244 = .ok (.goto (-75), 3) := by decide +kernel
theorem dX12_splits_247 : decode cX12_splits 247 = .ok (.aload_n 0, 1) := by decide +kernel
theorem dX12_splits_248 : decode cX12_splits 248 = .ok (.dup, 1) := by decide +kernel
theorem dX12_splits_249 : decode cX12_splits 249 = .ok (.getfield 144, 3) := by decide +kernel
theorem dX12_splits_252 : decode cX12_splits 252 = .ok (.iconst 1, 1) := by decide +kernel
theorem dX12_splits_253 : decode cX12_splits 253 = .ok (.iadd, 1) := by decide +kernel
theorem dX12_splits_254 : decode cX12_splits 254 = .ok (.putfield 144, 3) := by decide +kernel
theorem dX12_splits_257 : decode cX12_splits 257 = .ok (.iload 4, 2) := by decide +kernel
theorem dX12_splits_259 : decode cX12_splits 259 = .ok (.istore_n 2, 1) := by decide +kernel
theorem dX12_splits_260 : decode cX12_splits 260 = .ok (.goto (-253), 3) := by decide +kernel
theorem dX12_splits_263 : decode cX12_splits 263 = .ok (.aload_n 0, 1) := by decide +kernel
theorem dX12_splits_264 : decode cX12_splits 264 = .ok (.getfield 56, 3) := by decide +kernel
theorem dX12_splits_267 : decode cX12_splits 267 = .ok (.aload_n 0, 1) := by decide +kernel
theorem dX12_splits_268 : decode cX12_splits 268 = .ok (.getfield 144, 3) := by decide +kernel
theorem dX12_splits_271 : decode cX12_splits 271 = .ok (.iload_n 1, 1) := by decide +kernel
theorem dX12_splits_272 : decode cX12_splits 272 = .ok (.iastore, 1) := by decide +kernel
theorem dX12_splits_273 : decode cX12_splits 273 = .ok (.aload_n 0, 1) := by decide +kernel
theorem dX12_splits_274 : decode cX12_splits 274 = .ok (.getfield 50, 3) := by decide +kernel
theorem dX12_splits_277 : decode cX12_splits 277 = .ok (.aload_n 0, 1) := by decide +kernel
theorem dX12_splits_278 : decode cX12_splits 278 = .ok (.getfield 144, 3) := by decide +kernel
theorem dX12_splits_281 : decode cX12_splits 281 = .ok (.iconst 0, 1) := by decide +kernel
theorem dX12_splits_282 : decode cX12_splits 282 = .ok (.iastore, 1) := by decide +kernel
theorem dX12_splits_283 : decode cX12_splits 283 = .ok (.aload_n 0, 1) := by decide +kernel
theorem dX12_splits_284 : decode cX12_splits 284 = .ok (.getfield 53, 3) := by decide +kernel
theorem dX12_splits_287 : decode cX12_splits 287 = .ok (.aload_n 0, 1) := by decide +kernel
theorem dX12_splits_288 : decode cX12_splits 288 = .ok (.getfield 144, 3) := by decide +kernel
theorem dX12_splits_291 : decode cX12_splits 291 = .ok (.iconst 0, 1) := by decide +kernel
theorem dX12_splits_292 : decode cX12_splits 292 = .ok (.iastore, 1) := by decide +kernel
theorem dX12_splits_293 : decode cX12_splits 293 = .ok (.return_, 1) := by decide +kernel
theorem wt6_181 : Cond.methodLink RX12 147 yX12_isSmall ∈ kG := kt6 181 rfl rfl
theorem wt6_182 : Cond.static yX12_isSmall ∈ kG := kt6 182 rfl rfl
theorem wt6_183 : Cond.code yX12_isSmall cX12_isSmall 1 (some .boolean) ∈ kG := kt6 183 rfl rfl
theorem wt6_184 : Cond.methodLink RX12 150 yX12_isDigit ∈ kG := kt6 184 rfl rfl
theorem wt6_185 : Cond.static yX12_isDigit ∈ kG := kt6 185 rfl rfl
theorem wt6_186 : Cond.code yX12_isDigit cX12_isDigit 1 (some .boolean) ∈ kG := kt6 186 rfl rfl
theorem wt6_187 : Cond.methodLink RX12 153 yX12_wordOf ∈ kG := kt6 187 rfl rfl
theorem wt6_189 : Cond.instanceMethod yX12_wordOf ∈ kG := kt6 189 rfl rfl
theorem wp4_3 : Cond.selects RX12 yX12_wordOf yX12_wordOf ∈ kG := kp4 3 rfl rfl
theorem wt6_190 : Cond.code yX12_wordOf cX12_wordOf 8 (some .int) ∈ kG := kt6 190 rfl rfl
theorem kc_122 : kb 122 122 122 := ⟨by decide +kernel, by decide +kernel⟩
theorem kc_146 : kb 146 146 146 := ⟨by decide +kernel, by decide +kernel⟩
theorem kc_32 : kb 32 32 32 := ⟨by decide +kernel, by decide +kernel⟩
theorem kc_48 : kb 48 48 48 := ⟨by decide +kernel, by decide +kernel⟩
theorem kc_57 : kb 57 57 57 := ⟨by decide +kernel, by decide +kernel⟩
theorem kc_97 : kb 97 97 97 := ⟨by decide +kernel, by decide +kernel⟩
set_option maxHeartbeats 4000000 in
set_option maxRecDepth 100000 in
theorem q_wordOf  (l : Launch) {D : va_G} {K : Nat → ClassId} (o : Nat) (r : Nat → Nat) (f : Nat → Int32) (a : Nat → Nat → Int32) (g : Nat → Int64) (hI : mI f a) (x1 : Int32) (x2 : Int32) (bx1 : kb 0 x1 400) (bx2 : kb 0 x2 400) (k1 k2 : Nat) (hp0 : x1.toInt = (k1 : Int)) (hp1 : x2.toInt = (k2 : Int)) (hp2 : k1 ≤ k2) : kI l yX12_wordOf (Cond.code yX12_wordOf cX12_wordOf 8 (some .int) :: kG) (rmD 1 0 0) D (tysK K) [.ref o, .int x1, .int x2] (mW K o r f a g) (fun v (_ : Unit) => kb (-2147483648) v 2147483647 ∧ ((∃ q, q < 28 ∧ dcR.getD q [] = slT (a 11) k1 k2 ∧ v.toInt = (q : Int) + 1) ∨ (v = 0 ∧ ∀ q < 28, ¬ dcR.getD q [] = slT (a 11) k1 k2))) (fun _ => mW K o r f a g) 0 0 := by
  refine kI.of (cc := cX12_wordOf) (maxL := 8) (ret := (some .int)) (by decide) rfl (Nat.le_of_ble_eq_true rfl) ?_
  intro p e s m below meth c A hx hb hr hml hown hts hlocks hnm hK hP hD hS hA ls hl
  have hg : ∀ w ∈ kG, w.before _ s = true := fun w h => hts w (List.mem_cons_of_mem _ h)
  have hown : s.vm.findClass RX12 = some m.cls := hown
  have hl : lv_has ls 8 [(0, .ref o), (1, .int x1), (2, .int x2)] := hl
  refine lv_iconst (v := 1) hx hb dX12_wordOf_0 (by decide) ?_
  refine lv_istore_n (lv' := [(3, .int 1), (0, .ref o), (1, .int x1), (2, .int x2)]) hx hb dX12_wordOf_1 rfl hl (by decide) rfl (fun ls hl => ?_)
  refine lv_iconst (v := 0) hx hb dX12_wordOf_2 (by decide) ?_
  refine lv_istore (lv' := [(4, .int 0), (3, .int 1), (0, .ref o), (1, .int x1), (2, .int x2)]) hx hb dX12_wordOf_3 hl (by decide) rfl (fun ls hl => ?_)
  have lp3 : ∀ (n4 : Nat) (q : Nat) (H : Heap) (locs : List Loc) (ls : Array Slot) (y1 : Int32) (y2 : Int32), ((146 : Int) < y1.toInt + (n4 : Int)) → (kb 0 y1 146) → (kb 1 y2 29) → (y1.toInt = ((ofR.getD q 0 : Nat) : Int)) → (q ≤ 28) → (y2.toInt = (q : Int) + 1) → (∀ j < q, ¬ dcR.getD j [] = slT (a 11) k1 k2) → va_P D vwCl (mW K o r f a g) H → va_D A (mW K o r f a g) → va_S A s.heap H locs → lv_has ls 8 [(4, .int y1), (3, .int y2), (0, .ref o), (1, .int x1), (2, .int x2)] → W p l e (rmD 1 0 0) s m ([.ref o, .int x1, .int x2] : List Value).toArray below meth c H locs 0 0 (kQi D (tysK K) (fun v (_ : Unit) => kb (-2147483648) v 2147483647 ∧ ((∃ q, q < 28 ∧ dcR.getD q [] = slT (a 11) k1 k2 ∧ v.toInt = (q : Int) + 1) ∨ (v = 0 ∧ ∀ q < 28, ¬ dcR.getD q [] = slT (a 11) k1 k2))) (fun _ => mW K o r f a g) A below ([.ref o, .int x1, .int x2] : List Value).toArray s 0 0) (F0 m 5 ls []) := by
    intro n4
    induction n4 with
    | zero =>
      intro q  H locs ls y1 y2 hmlp3 b5 b6 hvlp3_0 hvlp3_1 hvlp3_2 hvlp3_3 hP hD hS hl
      exact (by have w1 := hmlp3; have w2 := (b5).2; have w3 := (b6).2; omega : False).elim
    | succ n4 ihlp3 =>
      intro q  H locs ls y1 y2 hmlp3 b5 b6 hvlp3_0 hvlp3_1 hvlp3_2 hvlp3_3 hP hD hS hl
      refine lv_iload hx hb dX12_wordOf_5 (lv_at hl 0 rfl) ?_
      refine lv_aload_n hx hb dX12_wordOf_7 rfl (lv_at hl 2 rfl) ?_
      refine va_get (D := D) (ci := 12) (v := .ref (r 7)) (C := RX12) (T := TX12) (N := 48) hx hb hg inC12 hown hK hP 0 rfl rfl 7 (by decide) (hg _ wt5_167) (fun _ h9 => h9) rfl dX12_wordOf_8 ?_
      refine va_alen (v := 146) hx hb hK hP 6 1 rfl rfl rfl dX12_wordOf_11 ?_
      refine lv_icmp_ge (tgt := 126) hx hb dX12_wordOf_12 (by decide) (fun c7 => ?_) (fun c7 => ?_)
      · have h8 := (kc_le c7)
        have b9 : kb 146 y1 146 := kr_le2 h8 kc_146 b5
        refine lv_iconst (v := 0) hx hb dX12_wordOf_126 (by decide) ?_
        exact kI_ret (v := 0) hx hb hr hlocks rfl hK hS dX12_wordOf_127 () hP hD ⟨(kb_w kc_0 (by decide) (by decide)), (Or.inr ⟨rfl, fun j hj => hvlp3_3 j (by have w1 := hvlp3_0; have w2 := kc_le c7; have w3 : (146 : Int32).toInt = 146 := (by decide +kernel); have w4 : ¬ q < 28 := (fun z => by have w5 := ofR_l q z; omega); omega)⟩)⟩
      · have h10 := (kc_nle c7)
        have b11 : kb 0 y1 145 := kr_lt1 h10 b5 kc_146 (by decide)
        have hq28 : q < 28 := ofR_lt hvlp3_1 (by have w1 := hvlp3_0; have w2 := kc_nle c7; have w3 : (146 : Int32).toInt = 146 := (by decide +kernel); omega)
        have hol := ofR_l q hq28
        refine lv_iconst (v := 0) hx hb dX12_wordOf_15 (by decide) ?_
        refine lv_istore (lv' := [(5, .int 0), (4, .int y1), (3, .int y2), (0, .ref o), (1, .int x1), (2, .int x2)]) hx hb dX12_wordOf_16 hl (by decide) rfl (fun ls hl => ?_)
        have lp13 : ∀ (n14 : Nat) (nn : Nat) (H : Heap) (locs : List Loc) (ls : Array Slot) (y12 : Int32), (145 < y12.toInt + (n14 : Int)) → (kb 0 y12 145) → (y12.toInt = (nn : Int) ∧ nn ≤ lnR q) → va_P D vwCl (mW K o r f a g) H → va_D A (mW K o r f a g) → va_S A s.heap H locs → lv_has ls 8 [(5, .int y12), (4, .int y1), (3, .int y2), (0, .ref o), (1, .int x1), (2, .int x2)] → W p l e (rmD 1 0 0) s m ([.ref o, .int x1, .int x2] : List Value).toArray below meth c H locs 0 0 (kQi D (tysK K) (fun v (_ : Unit) => kb (-2147483648) v 2147483647 ∧ ((∃ q, q < 28 ∧ dcR.getD q [] = slT (a 11) k1 k2 ∧ v.toInt = (q : Int) + 1) ∨ (v = 0 ∧ ∀ q < 28, ¬ dcR.getD q [] = slT (a 11) k1 k2))) (fun _ => mW K o r f a g) A below ([.ref o, .int x1, .int x2] : List Value).toArray s 0 0) (F0 m 18 ls []) := by
          intro n14
          induction n14 with
          | zero =>
            intro nn  H locs ls y12 hmlp13 b15 hvlp13_0 hP hD hS hl
            exact (by have h1 := b15.2; have h2 := hmlp13; omega : False).elim
          | succ n14 ihlp13 =>
            intro nn  H locs ls y12 hmlp13 b15 hvlp13_0 hP hD hS hl
            refine lv_aload_n hx hb dX12_wordOf_18 rfl (lv_at hl 3 rfl) ?_
            refine va_get (D := D) (ci := 12) (v := .ref (r 7)) (C := RX12) (T := TX12) (N := 48) hx hb hg inC12 hown hK hP 0 rfl rfl 7 (by decide) (hg _ wt5_167) (fun _ h9 => h9) rfl dX12_wordOf_19 ?_
            refine lv_iload hx hb dX12_wordOf_22 (lv_at hl 1 rfl) ?_
            refine lv_iload hx hb dX12_wordOf_24 (lv_at hl 0 rfl) ?_
            refine lv_iadd hx hb dX12_wordOf_26 ?_
            refine lv_topi (fun t16 et16 => ?_)
            have b17 : kb 0 t16 290 := kb_eq et16 (kb_add b11 b15 (by decide) (by decide))
            have qt16 : t16.toInt = y1.toInt + y12.toInt := by rw [et16]; exact kt_add b11 b15 (by decide) (by decide)
            have hix : t16.toInt = ((ofR.getD q 0 + nn : Nat) : Int) := by have w1 := hvlp3_0; have w2 := hvlp13_0.1; have w3 := qt16; omega
            have b18 : kb 0 t16 145 := ⟨by omega, by have w1 := hvlp13_0.2; omega⟩
            refine va_bald hx hb hK hP 6 1 rfl rfl (kb_in b18 (by decide) (by decide)) dX12_wordOf_27 ?_
            refine lv_topi (fun t19 et19 => ?_)
            have b20 : kb 32 t19 121 := kb_eq et19 (aI_ld hI.2.1 7 0 146 b18 (by decide) (by decide) (by decide +kernel))
            have hyb : t19 = wBR (ofR.getD q 0 + nn) := et19.trans (wv hI.2.1 hix (by have w1 := hvlp13_0.2; omega))
            refine lv_bipush (v := 32) hx hb dX12_wordOf_28 (by decide) ?_
            refine lv_icmp_eq (tgt := 39) hx hb dX12_wordOf_30 (by decide) (fun c21 => ?_) (fun c21 => ?_)
            · have b22 : kb 32 t19 32 := kb_eq c21 kc_32
              have hnn : nn = lnR q := by
                by_cases w1 : nn < lnR q
                · exact absurd (hyb.symm.trans c21) (wBR_n q hq28 nn w1)
                · have w2 := hvlp13_0.2; omega
              refine lv_iload hx hb dX12_wordOf_39 (lv_at hl 0 rfl) ?_
              refine lv_iload_n hx hb dX12_wordOf_41 rfl (lv_at hl 5 rfl) ?_
              refine lv_iload_n hx hb dX12_wordOf_42 rfl (lv_at hl 4 rfl) ?_
              refine lv_isub hx hb dX12_wordOf_43 ?_
              refine lv_topi (fun t23 et23 => ?_)
              have b24 : kb (-400) t23 400 := kb_eq et23 (kb_sub bx2 bx1 (by decide) (by decide))
              have qt23 : t23.toInt = x2.toInt - x1.toInt := by rw [et23]; exact kt_sub bx2 bx1 (by decide) (by decide)
              refine lv_icmp_ne (tgt := 51) hx hb dX12_wordOf_44 (by decide) (fun c25 => ?_) (fun c25 => ?_)
              · refine lv_iconst (v := 0) hx hb dX12_wordOf_51 (by decide) ?_
                refine lv_istore (lv' := [(6, .int 0), (5, .int y12), (4, .int y1), (3, .int y2), (0, .ref o), (1, .int x1), (2, .int x2)]) hx hb dX12_wordOf_52 hl (by decide) rfl (fun ls hl => ?_)
                refine lv_iconst (v := 0) hx hb dX12_wordOf_54 (by decide) ?_
                refine lv_istore (lv' := [(7, .int 0), (6, .int 0), (5, .int y12), (4, .int y1), (3, .int y2), (0, .ref o), (1, .int x1), (2, .int x2)]) hx hb dX12_wordOf_55 hl (by decide) rfl (fun ls hl => ?_)
                have lp28 : ∀ (n29 : Nat) (ii : Nat) (H : Heap) (locs : List Loc) (ls : Array Slot) (y26 : Int32) (y27 : Int32), (145 < y26.toInt + (n29 : Int)) → (kb 0 y26 145) → (kb 0 y27 1) → (y26.toInt = (ii : Int)) → (ii ≤ lnR q) → ((¬ y27 = 0 → lnR q = k2 - k1 ∧ ∀ j, j < ii → wBR (ofR.getD q 0 + j) = a 11 (k1 + j)) ∧ (y27 = 0 → ¬ dcR.getD q [] = slT (a 11) k1 k2)) → va_P D vwCl (mW K o r f a g) H → va_D A (mW K o r f a g) → va_S A s.heap H locs → lv_has ls 8 [(7, .int y26), (6, .int y27), (5, .int y12), (4, .int y1), (3, .int y2), (0, .ref o), (1, .int x1), (2, .int x2)] → W p l e (rmD 1 0 0) s m ([.ref o, .int x1, .int x2] : List Value).toArray below meth c H locs 0 0 (kQi D (tysK K) (fun v (_ : Unit) => kb (-2147483648) v 2147483647 ∧ ((∃ q, q < 28 ∧ dcR.getD q [] = slT (a 11) k1 k2 ∧ v.toInt = (q : Int) + 1) ∨ (v = 0 ∧ ∀ q < 28, ¬ dcR.getD q [] = slT (a 11) k1 k2))) (fun _ => mW K o r f a g) A below ([.ref o, .int x1, .int x2] : List Value).toArray s 0 0) (F0 m 57 ls []) := by
                  intro n29
                  induction n29 with
                  | zero =>
                    intro ii  H locs ls y26 y27 hmlp28 b30 b31 hvlp28_0 hvlp28_1 hvlp28_2 hP hD hS hl
                    exact (by have h1 := b30.2; have h2 := hmlp28; omega : False).elim
                  | succ n29 ihlp28 =>
                    intro ii  H locs ls y26 y27 hmlp28 b30 b31 hvlp28_0 hvlp28_1 hvlp28_2 hP hD hS hl
                    refine lv_iload hx hb dX12_wordOf_57 (lv_at hl 0 rfl) ?_
                    refine lv_iload hx hb dX12_wordOf_59 (lv_at hl 2 rfl) ?_
                    refine lv_icmp_ge (tgt := 104) hx hb dX12_wordOf_61 (by decide) (fun c32 => ?_) (fun c32 => ?_)
                    · have h33 := (kc_le c32)
                      refine lv_iload hx hb dX12_wordOf_104 (lv_at hl 1 rfl) ?_
                      refine lv_if_eq (tgt := 111) hx hb dX12_wordOf_106 (by decide) (fun c34 => ?_) (fun c34 => ?_)
                      · have b35 : kb 0 y27 0 := kb_eq c34 kc_0
                        refine lv_iload hx hb dX12_wordOf_111 (lv_at hl 3 rfl) ?_
                        refine lv_iload hx hb dX12_wordOf_113 (lv_at hl 2 rfl) ?_
                        refine lv_iconst (v := 1) hx hb dX12_wordOf_115 (by decide) ?_
                        refine lv_iadd hx hb dX12_wordOf_116 ?_
                        refine lv_topi (fun t36 et36 => ?_)
                        have b37 : kb 1 t36 146 := kb_eq et36 (kb_add b15 kc_1 (by decide) (by decide))
                        have qt36 : t36.toInt = y12.toInt + 1 := by rw [et36]; exact kt_addc b15 kc_1 (by decide) (by decide)
                        refine lv_iadd hx hb dX12_wordOf_117 ?_
                        refine lv_topi (fun t38 et38 => ?_)
                        have b39 : kb 1 t38 291 := kb_eq et38 (kb_add b11 b37 (by decide) (by decide))
                        have qt38 : t38.toInt = y1.toInt + t36.toInt := by rw [et38]; exact kt_add b11 b37 (by decide) (by decide)
                        have hk5 : t38.toInt = ((ofR.getD (q + 1) 0 : Nat) : Int) := by have w1 := hvlp3_0; have w2 := hvlp13_0.1; omega
                        have b40 : kb 1 t38 146 := ⟨by omega, by omega⟩
                        refine lv_istore (lv' := [(4, .int t38), (7, .int y26), (6, .int y27), (5, .int y12), (3, .int y2), (0, .ref o), (1, .int x1), (2, .int x2)]) hx hb dX12_wordOf_118 hl (by decide) rfl (fun ls hl => ?_)
                        have b41 : kb 1 y2 28 := ⟨by have w1 := hvlp3_2; omega, by have w1 := hvlp3_2; omega⟩
                        obtain ⟨t42, et42⟩ : ∃ z : Int32, z = y2 + Int32.ofInt 1 := ⟨_, rfl⟩
                        have qt42 : t42.toInt = y2.toInt + 1 := by rw [et42]; exact km_inc b41 (by decide) (by decide)
                        have b43 : kb 2 t42 29 := kb_inc (k := 1) qt42 b41
                        refine lv_iinc (v := t42) (lv' := [(3, .int t42), (4, .int t38), (7, .int y26), (6, .int y27), (5, .int y12), (0, .ref o), (1, .int x1), (2, .int x2)]) hx hb dX12_wordOf_120 hl (k := 4) rfl et42.symm (by decide) rfl (fun ls hl => ?_)
                        refine lv_goto (tgt := 5) hx hb dX12_wordOf_123 (by decide) ?_
                        exact ihlp3 (q + 1) _ _ _ t38 t42 (by have w1 := hk5; have w2 := hvlp3_0; omega) (kb_w b40 (by decide) (by decide)) (kb_w b43 (by decide) (by decide)) (hk5) (hq28) (by have w1 := hvlp3_2; omega) (fun j hj => by by_cases w1 : j = q; (rw [w1]; exact hvlp28_2.2 c34); exact hvlp3_3 j (by omega)) hP hD hS (lv_sub hl [1, 0, 5, 6, 7] rfl)
                      · have b44 : kb 1 y27 1 := kr_nel c34 b31 kc_0 (by decide)
                        refine lv_iload_n hx hb dX12_wordOf_109 rfl (lv_at hl 4 rfl) ?_
                        exact kI_ret (v := y2) hx hb hr hlocks rfl hK hS dX12_wordOf_110 () hP hD ⟨(kb_w b6 (by decide) (by decide)), (Or.inl ⟨q, hq28, by rw [dcR_A q hq28]; exact sl_eq (hvlp28_2.1 c34).1 (fun j hj => (hvlp28_2.1 c34).2 j (by have w1 := hvlp28_0; have w2 := hvlp13_0.1; first | (have w3 := kc_le c32; omega) | (have w3 := kc_nlt c32; omega))), by have w1 := hvlp3_2; omega⟩)⟩
                    · have h45 := (kc_nle c32)
                      have b46 : kb 0 y26 144 := kr_lt1 h45 b30 b15 (by decide)
                      have b47 : kb 1 y12 145 := kr_lt2 h45 b30 b15 (by decide)
                      refine lv_iload hx hb dX12_wordOf_64 (lv_at hl 1 rfl) ?_
                      refine lv_if_eq (tgt := 104) hx hb dX12_wordOf_66 (by decide) (fun c48 => ?_) (fun c48 => ?_)
                      · have b49 : kb 0 y27 0 := kb_eq c48 kc_0
                        refine lv_iload hx hb dX12_wordOf_104 (lv_at hl 1 rfl) ?_
                        refine lv_if_eq (tgt := 111) hx hb dX12_wordOf_106 (by decide) (fun c50 => ?_) (fun c50 => ?_)
                        · refine lv_iload hx hb dX12_wordOf_111 (lv_at hl 3 rfl) ?_
                          refine lv_iload hx hb dX12_wordOf_113 (lv_at hl 2 rfl) ?_
                          refine lv_iconst (v := 1) hx hb dX12_wordOf_115 (by decide) ?_
                          refine lv_iadd hx hb dX12_wordOf_116 ?_
                          refine lv_topi (fun t51 et51 => ?_)
                          have b52 : kb 2 t51 146 := kb_eq et51 (kb_add b47 kc_1 (by decide) (by decide))
                          have qt51 : t51.toInt = y12.toInt + 1 := by rw [et51]; exact kt_addc b47 kc_1 (by decide) (by decide)
                          refine lv_iadd hx hb dX12_wordOf_117 ?_
                          refine lv_topi (fun t53 et53 => ?_)
                          have b54 : kb 2 t53 291 := kb_eq et53 (kb_add b11 b52 (by decide) (by decide))
                          have qt53 : t53.toInt = y1.toInt + t51.toInt := by rw [et53]; exact kt_add b11 b52 (by decide) (by decide)
                          have hk5 : t53.toInt = ((ofR.getD (q + 1) 0 : Nat) : Int) := by have w1 := hvlp3_0; have w2 := hvlp13_0.1; omega
                          have b55 : kb 1 t53 146 := ⟨by omega, by omega⟩
                          refine lv_istore (lv' := [(4, .int t53), (7, .int y26), (6, .int y27), (5, .int y12), (3, .int y2), (0, .ref o), (1, .int x1), (2, .int x2)]) hx hb dX12_wordOf_118 hl (by decide) rfl (fun ls hl => ?_)
                          have b56 : kb 1 y2 28 := ⟨by have w1 := hvlp3_2; omega, by have w1 := hvlp3_2; omega⟩
                          obtain ⟨t57, et57⟩ : ∃ z : Int32, z = y2 + Int32.ofInt 1 := ⟨_, rfl⟩
                          have qt57 : t57.toInt = y2.toInt + 1 := by rw [et57]; exact km_inc b56 (by decide) (by decide)
                          have b58 : kb 2 t57 29 := kb_inc (k := 1) qt57 b56
                          refine lv_iinc (v := t57) (lv' := [(3, .int t57), (4, .int t53), (7, .int y26), (6, .int y27), (5, .int y12), (0, .ref o), (1, .int x1), (2, .int x2)]) hx hb dX12_wordOf_120 hl (k := 4) rfl et57.symm (by decide) rfl (fun ls hl => ?_)
                          refine lv_goto (tgt := 5) hx hb dX12_wordOf_123 (by decide) ?_
                          exact ihlp3 (q + 1) _ _ _ t53 t57 (by have w1 := hk5; have w2 := hvlp3_0; omega) (kb_w b55 (by decide) (by decide)) (kb_w b58 (by decide) (by decide)) (hk5) (hq28) (by have w1 := hvlp3_2; omega) (fun j hj => by by_cases w1 : j = q; (rw [w1]; exact hvlp28_2.2 c50); exact hvlp3_3 j (by omega)) hP hD hS (lv_sub hl [1, 0, 5, 6, 7] rfl)
                        · exact kb_nsame c50 b49 kc_0
                      · have b59 : kb 1 y27 1 := kr_nel c48 b31 kc_0 (by decide)
                        refine lv_aload_n hx hb dX12_wordOf_69 rfl (lv_at hl 5 rfl) ?_
                        refine va_get (D := D) (ci := 12) (v := .ref (r 7)) (C := RX12) (T := TX12) (N := 48) hx hb hg inC12 hown hK hP 0 rfl rfl 7 (by decide) (hg _ wt5_167) (fun _ h9 => h9) rfl dX12_wordOf_70 ?_
                        refine lv_iload hx hb dX12_wordOf_73 (lv_at hl 3 rfl) ?_
                        refine lv_iload hx hb dX12_wordOf_75 (lv_at hl 0 rfl) ?_
                        refine lv_iadd hx hb dX12_wordOf_77 ?_
                        refine lv_topi (fun t60 et60 => ?_)
                        have b61 : kb 0 t60 289 := kb_eq et60 (kb_add b11 b46 (by decide) (by decide))
                        have qt60 : t60.toInt = y1.toInt + y26.toInt := by rw [et60]; exact kt_add b11 b46 (by decide) (by decide)
                        have hil : ii < lnR q := by have w1 := hvlp28_0; have w2 := hvlp13_0.1; first | (have w3 := kc_nle c32; omega) | (have w3 := kc_lt c32; omega)
                        have hi1 : t60.toInt = ((ofR.getD q 0 + ii : Nat) : Int) := by have w1 := hvlp3_0; have w2 := hvlp28_0; have w3 := qt60; omega
                        have b62 : kb 0 t60 145 := ⟨by omega, by omega⟩
                        refine va_bald hx hb hK hP 6 1 rfl rfl (kb_in b62 (by decide) (by decide)) dX12_wordOf_78 ?_
                        refine lv_topi (fun t63 et63 => ?_)
                        have b64 : kb 32 t63 121 := kb_eq et63 (aI_ld hI.2.1 7 0 146 b62 (by decide) (by decide) (by decide +kernel))
                        have hw1 : t63 = wBR (ofR.getD q 0 + ii) := et63.trans (wv hI.2.1 hi1 (by omega))
                        refine lv_aload_n hx hb dX12_wordOf_79 rfl (lv_at hl 5 rfl) ?_
                        refine va_get (D := D) (ci := 12) (v := .ref (r 11)) (C := RX12) (T := TX12) (N := 48) hx hb hg inC12 hown hK hP 0 rfl rfl 11 (by decide) (hg _ wt5_171) (fun _ h9 => h9) rfl dX12_wordOf_80 ?_
                        refine lv_iload_n hx hb dX12_wordOf_83 rfl (lv_at hl 6 rfl) ?_
                        refine lv_iload hx hb dX12_wordOf_84 (lv_at hl 0 rfl) ?_
                        refine lv_iadd hx hb dX12_wordOf_86 ?_
                        refine lv_topi (fun t65 et65 => ?_)
                        have b66 : kb 0 t65 544 := kb_eq et65 (kb_add bx1 b46 (by decide) (by decide))
                        have qt65 : t65.toInt = x1.toInt + y26.toInt := by rw [et65]; exact kt_add bx1 b46 (by decide) (by decide)
                        have hi2 : t65.toInt = ((k1 + ii : Nat) : Int) := by have w1 := hp0; have w2 := hvlp28_0; have w3 := qt65; omega
                        have b67 : kb 0 t65 399 := ⟨by omega, by have w1 := (hvlp28_2.1 c48).1; have w2 := hp1; have w3 := bx2.2; have w4 := hp2; omega⟩
                        refine va_bald hx hb hK hP 7 1 rfl rfl (kb_in b67 (by decide) (by decide)) dX12_wordOf_87 ?_
                        refine lv_topi (fun t68 et68 => ?_)
                        have hw2 : t68 = a 11 (k1 + ii) := et68.trans (congrArg (a 11) (cl_nat hi2))
                        refine lv_icmp_ne (tgt := 95) hx hb dX12_wordOf_88 (by decide) (fun c69 => ?_) (fun c69 => ?_)
                        · refine lv_iconst (v := 0) hx hb dX12_wordOf_95 (by decide) ?_
                          refine lv_istore (lv' := [(6, .int 0), (7, .int y26), (5, .int y12), (4, .int y1), (3, .int y2), (0, .ref o), (1, .int x1), (2, .int x2)]) hx hb dX12_wordOf_96 hl (by decide) rfl (fun ls hl => ?_)
                          obtain ⟨t70, et70⟩ : ∃ z : Int32, z = y26 + Int32.ofInt 1 := ⟨_, rfl⟩
                          have qt70 : t70.toInt = y26.toInt + 1 := by rw [et70]; exact km_inc b46 (by decide) (by decide)
                          have b71 : kb 1 t70 145 := kb_inc (k := 1) qt70 b46
                          refine lv_iinc (v := t70) (lv' := [(7, .int t70), (6, .int 0), (5, .int y12), (4, .int y1), (3, .int y2), (0, .ref o), (1, .int x1), (2, .int x2)]) hx hb dX12_wordOf_98 hl (k := 1) rfl et70.symm (by decide) rfl (fun ls hl => ?_)
                          refine lv_goto (tgt := 57) hx hb dX12_wordOf_101 (by decide) ?_
                          exact ihlp28 (ii + 1) _ _ _ t70 0 (km_up hmlp28 qt70) (kb_w b71 (by decide) (by decide)) (kb_w kc_0 (by decide) (by decide)) (by have w1 := hvlp28_0; omega) (by omega) (⟨fun q9 => absurd rfl q9, fun _ e9 => by rw [dcR_A q hq28] at e9; exact c69 (hw1.trans ((sl_at e9 (by omega)).trans hw2.symm))⟩) hP hD hS (lv_sub hl [0, 1, 2, 3, 4, 5, 6, 7] rfl)
                        · have b72 : kb 32 t68 121 := kb_eq c69.symm b64
                          refine lv_iconst (v := 1) hx hb dX12_wordOf_91 (by decide) ?_
                          refine lv_goto (tgt := 96) hx hb dX12_wordOf_92 (by decide) ?_
                          refine lv_istore (lv' := [(6, .int 1), (7, .int y26), (5, .int y12), (4, .int y1), (3, .int y2), (0, .ref o), (1, .int x1), (2, .int x2)]) hx hb dX12_wordOf_96 hl (by decide) rfl (fun ls hl => ?_)
                          obtain ⟨t73, et73⟩ : ∃ z : Int32, z = y26 + Int32.ofInt 1 := ⟨_, rfl⟩
                          have qt73 : t73.toInt = y26.toInt + 1 := by rw [et73]; exact km_inc b46 (by decide) (by decide)
                          have b74 : kb 1 t73 145 := kb_inc (k := 1) qt73 b46
                          refine lv_iinc (v := t73) (lv' := [(7, .int t73), (6, .int 1), (5, .int y12), (4, .int y1), (3, .int y2), (0, .ref o), (1, .int x1), (2, .int x2)]) hx hb dX12_wordOf_98 hl (k := 1) rfl et73.symm (by decide) rfl (fun ls hl => ?_)
                          refine lv_goto (tgt := 57) hx hb dX12_wordOf_101 (by decide) ?_
                          exact ihlp28 (ii + 1) _ _ _ t73 1 (km_up hmlp28 qt73) (kb_w b74 (by decide) (by decide)) (kb_w kc_1 (by decide) (by decide)) (by have w1 := hvlp28_0; omega) (by omega) (⟨fun _ => ⟨(hvlp28_2.1 c48).1, fun j hj => by by_cases w1 : j = ii; (rw [w1]; exact hw1.symm.trans (c69.trans hw2)); exact (hvlp28_2.1 c48).2 j (by omega)⟩, fun q9 => absurd q9 (by decide +kernel)⟩) hP hD hS (lv_sub hl [0, 1, 2, 3, 4, 5, 6, 7] rfl)
                exact lp28 (146) 0 _ _ _ 0 0 (by decide +kernel) (kb_w kc_0 (by decide) (by decide)) (kb_w kc_0 (by decide) (by decide)) (by decide +kernel) (Nat.zero_le _) (⟨fun q9 => absurd rfl q9, fun _ e9 => c25 (Int32.toInt_inj.mp (by rw [dcR_A q hq28] at e9; have w0 := sl_len e9; have w1 := hvlp13_0.1; have w2 := qt23; have w3 := hp0; have w4 := hp1; have w5 := hp2; omega))⟩) hP hD hS (lv_sub hl [0, 1, 2, 3, 4, 5, 6, 7] rfl)
              · have b75 : kb 0 t23 145 := kb_eq c25.symm b15
                refine lv_iconst (v := 1) hx hb dX12_wordOf_47 (by decide) ?_
                refine lv_goto (tgt := 52) hx hb dX12_wordOf_48 (by decide) ?_
                refine lv_istore (lv' := [(6, .int 1), (5, .int y12), (4, .int y1), (3, .int y2), (0, .ref o), (1, .int x1), (2, .int x2)]) hx hb dX12_wordOf_52 hl (by decide) rfl (fun ls hl => ?_)
                refine lv_iconst (v := 0) hx hb dX12_wordOf_54 (by decide) ?_
                refine lv_istore (lv' := [(7, .int 0), (6, .int 1), (5, .int y12), (4, .int y1), (3, .int y2), (0, .ref o), (1, .int x1), (2, .int x2)]) hx hb dX12_wordOf_55 hl (by decide) rfl (fun ls hl => ?_)
                have lp78 : ∀ (n79 : Nat) (ii : Nat) (H : Heap) (locs : List Loc) (ls : Array Slot) (y76 : Int32) (y77 : Int32), (145 < y76.toInt + (n79 : Int)) → (kb 0 y76 145) → (kb 0 y77 1) → (y76.toInt = (ii : Int)) → (ii ≤ lnR q) → ((¬ y77 = 0 → lnR q = k2 - k1 ∧ ∀ j, j < ii → wBR (ofR.getD q 0 + j) = a 11 (k1 + j)) ∧ (y77 = 0 → ¬ dcR.getD q [] = slT (a 11) k1 k2)) → va_P D vwCl (mW K o r f a g) H → va_D A (mW K o r f a g) → va_S A s.heap H locs → lv_has ls 8 [(7, .int y76), (6, .int y77), (5, .int y12), (4, .int y1), (3, .int y2), (0, .ref o), (1, .int x1), (2, .int x2)] → W p l e (rmD 1 0 0) s m ([.ref o, .int x1, .int x2] : List Value).toArray below meth c H locs 0 0 (kQi D (tysK K) (fun v (_ : Unit) => kb (-2147483648) v 2147483647 ∧ ((∃ q, q < 28 ∧ dcR.getD q [] = slT (a 11) k1 k2 ∧ v.toInt = (q : Int) + 1) ∨ (v = 0 ∧ ∀ q < 28, ¬ dcR.getD q [] = slT (a 11) k1 k2))) (fun _ => mW K o r f a g) A below ([.ref o, .int x1, .int x2] : List Value).toArray s 0 0) (F0 m 57 ls []) := by
                  intro n79
                  induction n79 with
                  | zero =>
                    intro ii  H locs ls y76 y77 hmlp78 b80 b81 hvlp78_0 hvlp78_1 hvlp78_2 hP hD hS hl
                    exact (by have h1 := b80.2; have h2 := hmlp78; omega : False).elim
                  | succ n79 ihlp78 =>
                    intro ii  H locs ls y76 y77 hmlp78 b80 b81 hvlp78_0 hvlp78_1 hvlp78_2 hP hD hS hl
                    refine lv_iload hx hb dX12_wordOf_57 (lv_at hl 0 rfl) ?_
                    refine lv_iload hx hb dX12_wordOf_59 (lv_at hl 2 rfl) ?_
                    refine lv_icmp_ge (tgt := 104) hx hb dX12_wordOf_61 (by decide) (fun c82 => ?_) (fun c82 => ?_)
                    · have h83 := (kc_le c82)
                      refine lv_iload hx hb dX12_wordOf_104 (lv_at hl 1 rfl) ?_
                      refine lv_if_eq (tgt := 111) hx hb dX12_wordOf_106 (by decide) (fun c84 => ?_) (fun c84 => ?_)
                      · have b85 : kb 0 y77 0 := kb_eq c84 kc_0
                        refine lv_iload hx hb dX12_wordOf_111 (lv_at hl 3 rfl) ?_
                        refine lv_iload hx hb dX12_wordOf_113 (lv_at hl 2 rfl) ?_
                        refine lv_iconst (v := 1) hx hb dX12_wordOf_115 (by decide) ?_
                        refine lv_iadd hx hb dX12_wordOf_116 ?_
                        refine lv_topi (fun t86 et86 => ?_)
                        have b87 : kb 1 t86 146 := kb_eq et86 (kb_add b15 kc_1 (by decide) (by decide))
                        have qt86 : t86.toInt = y12.toInt + 1 := by rw [et86]; exact kt_addc b15 kc_1 (by decide) (by decide)
                        refine lv_iadd hx hb dX12_wordOf_117 ?_
                        refine lv_topi (fun t88 et88 => ?_)
                        have b89 : kb 1 t88 291 := kb_eq et88 (kb_add b11 b87 (by decide) (by decide))
                        have qt88 : t88.toInt = y1.toInt + t86.toInt := by rw [et88]; exact kt_add b11 b87 (by decide) (by decide)
                        have hk5 : t88.toInt = ((ofR.getD (q + 1) 0 : Nat) : Int) := by have w1 := hvlp3_0; have w2 := hvlp13_0.1; omega
                        have b90 : kb 1 t88 146 := ⟨by omega, by omega⟩
                        refine lv_istore (lv' := [(4, .int t88), (7, .int y76), (6, .int y77), (5, .int y12), (3, .int y2), (0, .ref o), (1, .int x1), (2, .int x2)]) hx hb dX12_wordOf_118 hl (by decide) rfl (fun ls hl => ?_)
                        have b91 : kb 1 y2 28 := ⟨by have w1 := hvlp3_2; omega, by have w1 := hvlp3_2; omega⟩
                        obtain ⟨t92, et92⟩ : ∃ z : Int32, z = y2 + Int32.ofInt 1 := ⟨_, rfl⟩
                        have qt92 : t92.toInt = y2.toInt + 1 := by rw [et92]; exact km_inc b91 (by decide) (by decide)
                        have b93 : kb 2 t92 29 := kb_inc (k := 1) qt92 b91
                        refine lv_iinc (v := t92) (lv' := [(3, .int t92), (4, .int t88), (7, .int y76), (6, .int y77), (5, .int y12), (0, .ref o), (1, .int x1), (2, .int x2)]) hx hb dX12_wordOf_120 hl (k := 4) rfl et92.symm (by decide) rfl (fun ls hl => ?_)
                        refine lv_goto (tgt := 5) hx hb dX12_wordOf_123 (by decide) ?_
                        exact ihlp3 (q + 1) _ _ _ t88 t92 (by have w1 := hk5; have w2 := hvlp3_0; omega) (kb_w b90 (by decide) (by decide)) (kb_w b93 (by decide) (by decide)) (hk5) (hq28) (by have w1 := hvlp3_2; omega) (fun j hj => by by_cases w1 : j = q; (rw [w1]; exact hvlp78_2.2 c84); exact hvlp3_3 j (by omega)) hP hD hS (lv_sub hl [1, 0, 5, 6, 7] rfl)
                      · have b94 : kb 1 y77 1 := kr_nel c84 b81 kc_0 (by decide)
                        refine lv_iload_n hx hb dX12_wordOf_109 rfl (lv_at hl 4 rfl) ?_
                        exact kI_ret (v := y2) hx hb hr hlocks rfl hK hS dX12_wordOf_110 () hP hD ⟨(kb_w b6 (by decide) (by decide)), (Or.inl ⟨q, hq28, by rw [dcR_A q hq28]; exact sl_eq (hvlp78_2.1 c84).1 (fun j hj => (hvlp78_2.1 c84).2 j (by have w1 := hvlp78_0; have w2 := hvlp13_0.1; first | (have w3 := kc_le c82; omega) | (have w3 := kc_nlt c82; omega))), by have w1 := hvlp3_2; omega⟩)⟩
                    · have h95 := (kc_nle c82)
                      have b96 : kb 0 y76 144 := kr_lt1 h95 b80 b15 (by decide)
                      have b97 : kb 1 y12 145 := kr_lt2 h95 b80 b15 (by decide)
                      refine lv_iload hx hb dX12_wordOf_64 (lv_at hl 1 rfl) ?_
                      refine lv_if_eq (tgt := 104) hx hb dX12_wordOf_66 (by decide) (fun c98 => ?_) (fun c98 => ?_)
                      · have b99 : kb 0 y77 0 := kb_eq c98 kc_0
                        refine lv_iload hx hb dX12_wordOf_104 (lv_at hl 1 rfl) ?_
                        refine lv_if_eq (tgt := 111) hx hb dX12_wordOf_106 (by decide) (fun c100 => ?_) (fun c100 => ?_)
                        · refine lv_iload hx hb dX12_wordOf_111 (lv_at hl 3 rfl) ?_
                          refine lv_iload hx hb dX12_wordOf_113 (lv_at hl 2 rfl) ?_
                          refine lv_iconst (v := 1) hx hb dX12_wordOf_115 (by decide) ?_
                          refine lv_iadd hx hb dX12_wordOf_116 ?_
                          refine lv_topi (fun t101 et101 => ?_)
                          have b102 : kb 2 t101 146 := kb_eq et101 (kb_add b97 kc_1 (by decide) (by decide))
                          have qt101 : t101.toInt = y12.toInt + 1 := by rw [et101]; exact kt_addc b97 kc_1 (by decide) (by decide)
                          refine lv_iadd hx hb dX12_wordOf_117 ?_
                          refine lv_topi (fun t103 et103 => ?_)
                          have b104 : kb 2 t103 291 := kb_eq et103 (kb_add b11 b102 (by decide) (by decide))
                          have qt103 : t103.toInt = y1.toInt + t101.toInt := by rw [et103]; exact kt_add b11 b102 (by decide) (by decide)
                          have hk5 : t103.toInt = ((ofR.getD (q + 1) 0 : Nat) : Int) := by have w1 := hvlp3_0; have w2 := hvlp13_0.1; omega
                          have b105 : kb 1 t103 146 := ⟨by omega, by omega⟩
                          refine lv_istore (lv' := [(4, .int t103), (7, .int y76), (6, .int y77), (5, .int y12), (3, .int y2), (0, .ref o), (1, .int x1), (2, .int x2)]) hx hb dX12_wordOf_118 hl (by decide) rfl (fun ls hl => ?_)
                          have b106 : kb 1 y2 28 := ⟨by have w1 := hvlp3_2; omega, by have w1 := hvlp3_2; omega⟩
                          obtain ⟨t107, et107⟩ : ∃ z : Int32, z = y2 + Int32.ofInt 1 := ⟨_, rfl⟩
                          have qt107 : t107.toInt = y2.toInt + 1 := by rw [et107]; exact km_inc b106 (by decide) (by decide)
                          have b108 : kb 2 t107 29 := kb_inc (k := 1) qt107 b106
                          refine lv_iinc (v := t107) (lv' := [(3, .int t107), (4, .int t103), (7, .int y76), (6, .int y77), (5, .int y12), (0, .ref o), (1, .int x1), (2, .int x2)]) hx hb dX12_wordOf_120 hl (k := 4) rfl et107.symm (by decide) rfl (fun ls hl => ?_)
                          refine lv_goto (tgt := 5) hx hb dX12_wordOf_123 (by decide) ?_
                          exact ihlp3 (q + 1) _ _ _ t103 t107 (by have w1 := hk5; have w2 := hvlp3_0; omega) (kb_w b105 (by decide) (by decide)) (kb_w b108 (by decide) (by decide)) (hk5) (hq28) (by have w1 := hvlp3_2; omega) (fun j hj => by by_cases w1 : j = q; (rw [w1]; exact hvlp78_2.2 c100); exact hvlp3_3 j (by omega)) hP hD hS (lv_sub hl [1, 0, 5, 6, 7] rfl)
                        · exact kb_nsame c100 b99 kc_0
                      · have b109 : kb 1 y77 1 := kr_nel c98 b81 kc_0 (by decide)
                        refine lv_aload_n hx hb dX12_wordOf_69 rfl (lv_at hl 5 rfl) ?_
                        refine va_get (D := D) (ci := 12) (v := .ref (r 7)) (C := RX12) (T := TX12) (N := 48) hx hb hg inC12 hown hK hP 0 rfl rfl 7 (by decide) (hg _ wt5_167) (fun _ h9 => h9) rfl dX12_wordOf_70 ?_
                        refine lv_iload hx hb dX12_wordOf_73 (lv_at hl 3 rfl) ?_
                        refine lv_iload hx hb dX12_wordOf_75 (lv_at hl 0 rfl) ?_
                        refine lv_iadd hx hb dX12_wordOf_77 ?_
                        refine lv_topi (fun t110 et110 => ?_)
                        have b111 : kb 0 t110 289 := kb_eq et110 (kb_add b11 b96 (by decide) (by decide))
                        have qt110 : t110.toInt = y1.toInt + y76.toInt := by rw [et110]; exact kt_add b11 b96 (by decide) (by decide)
                        have hil : ii < lnR q := by have w1 := hvlp78_0; have w2 := hvlp13_0.1; first | (have w3 := kc_nle c82; omega) | (have w3 := kc_lt c82; omega)
                        have hi1 : t110.toInt = ((ofR.getD q 0 + ii : Nat) : Int) := by have w1 := hvlp3_0; have w2 := hvlp78_0; have w3 := qt110; omega
                        have b112 : kb 0 t110 145 := ⟨by omega, by omega⟩
                        refine va_bald hx hb hK hP 6 1 rfl rfl (kb_in b112 (by decide) (by decide)) dX12_wordOf_78 ?_
                        refine lv_topi (fun t113 et113 => ?_)
                        have b114 : kb 32 t113 121 := kb_eq et113 (aI_ld hI.2.1 7 0 146 b112 (by decide) (by decide) (by decide +kernel))
                        have hw1 : t113 = wBR (ofR.getD q 0 + ii) := et113.trans (wv hI.2.1 hi1 (by omega))
                        refine lv_aload_n hx hb dX12_wordOf_79 rfl (lv_at hl 5 rfl) ?_
                        refine va_get (D := D) (ci := 12) (v := .ref (r 11)) (C := RX12) (T := TX12) (N := 48) hx hb hg inC12 hown hK hP 0 rfl rfl 11 (by decide) (hg _ wt5_171) (fun _ h9 => h9) rfl dX12_wordOf_80 ?_
                        refine lv_iload_n hx hb dX12_wordOf_83 rfl (lv_at hl 6 rfl) ?_
                        refine lv_iload hx hb dX12_wordOf_84 (lv_at hl 0 rfl) ?_
                        refine lv_iadd hx hb dX12_wordOf_86 ?_
                        refine lv_topi (fun t115 et115 => ?_)
                        have b116 : kb 0 t115 544 := kb_eq et115 (kb_add bx1 b96 (by decide) (by decide))
                        have qt115 : t115.toInt = x1.toInt + y76.toInt := by rw [et115]; exact kt_add bx1 b96 (by decide) (by decide)
                        have hi2 : t115.toInt = ((k1 + ii : Nat) : Int) := by have w1 := hp0; have w2 := hvlp78_0; have w3 := qt115; omega
                        have b117 : kb 0 t115 399 := ⟨by omega, by have w1 := (hvlp78_2.1 c98).1; have w2 := hp1; have w3 := bx2.2; have w4 := hp2; omega⟩
                        refine va_bald hx hb hK hP 7 1 rfl rfl (kb_in b117 (by decide) (by decide)) dX12_wordOf_87 ?_
                        refine lv_topi (fun t118 et118 => ?_)
                        have hw2 : t118 = a 11 (k1 + ii) := et118.trans (congrArg (a 11) (cl_nat hi2))
                        refine lv_icmp_ne (tgt := 95) hx hb dX12_wordOf_88 (by decide) (fun c119 => ?_) (fun c119 => ?_)
                        · refine lv_iconst (v := 0) hx hb dX12_wordOf_95 (by decide) ?_
                          refine lv_istore (lv' := [(6, .int 0), (7, .int y76), (5, .int y12), (4, .int y1), (3, .int y2), (0, .ref o), (1, .int x1), (2, .int x2)]) hx hb dX12_wordOf_96 hl (by decide) rfl (fun ls hl => ?_)
                          obtain ⟨t120, et120⟩ : ∃ z : Int32, z = y76 + Int32.ofInt 1 := ⟨_, rfl⟩
                          have qt120 : t120.toInt = y76.toInt + 1 := by rw [et120]; exact km_inc b96 (by decide) (by decide)
                          have b121 : kb 1 t120 145 := kb_inc (k := 1) qt120 b96
                          refine lv_iinc (v := t120) (lv' := [(7, .int t120), (6, .int 0), (5, .int y12), (4, .int y1), (3, .int y2), (0, .ref o), (1, .int x1), (2, .int x2)]) hx hb dX12_wordOf_98 hl (k := 1) rfl et120.symm (by decide) rfl (fun ls hl => ?_)
                          refine lv_goto (tgt := 57) hx hb dX12_wordOf_101 (by decide) ?_
                          exact ihlp78 (ii + 1) _ _ _ t120 0 (km_up hmlp78 qt120) (kb_w b121 (by decide) (by decide)) (kb_w kc_0 (by decide) (by decide)) (by have w1 := hvlp78_0; omega) (by omega) (⟨fun q9 => absurd rfl q9, fun _ e9 => by rw [dcR_A q hq28] at e9; exact c119 (hw1.trans ((sl_at e9 (by omega)).trans hw2.symm))⟩) hP hD hS (lv_sub hl [0, 1, 2, 3, 4, 5, 6, 7] rfl)
                        · have b122 : kb 32 t118 121 := kb_eq c119.symm b114
                          refine lv_iconst (v := 1) hx hb dX12_wordOf_91 (by decide) ?_
                          refine lv_goto (tgt := 96) hx hb dX12_wordOf_92 (by decide) ?_
                          refine lv_istore (lv' := [(6, .int 1), (7, .int y76), (5, .int y12), (4, .int y1), (3, .int y2), (0, .ref o), (1, .int x1), (2, .int x2)]) hx hb dX12_wordOf_96 hl (by decide) rfl (fun ls hl => ?_)
                          obtain ⟨t123, et123⟩ : ∃ z : Int32, z = y76 + Int32.ofInt 1 := ⟨_, rfl⟩
                          have qt123 : t123.toInt = y76.toInt + 1 := by rw [et123]; exact km_inc b96 (by decide) (by decide)
                          have b124 : kb 1 t123 145 := kb_inc (k := 1) qt123 b96
                          refine lv_iinc (v := t123) (lv' := [(7, .int t123), (6, .int 1), (5, .int y12), (4, .int y1), (3, .int y2), (0, .ref o), (1, .int x1), (2, .int x2)]) hx hb dX12_wordOf_98 hl (k := 1) rfl et123.symm (by decide) rfl (fun ls hl => ?_)
                          refine lv_goto (tgt := 57) hx hb dX12_wordOf_101 (by decide) ?_
                          exact ihlp78 (ii + 1) _ _ _ t123 1 (km_up hmlp78 qt123) (kb_w b124 (by decide) (by decide)) (kb_w kc_1 (by decide) (by decide)) (by have w1 := hvlp78_0; omega) (by omega) (⟨fun _ => ⟨(hvlp78_2.1 c98).1, fun j hj => by by_cases w1 : j = ii; (rw [w1]; exact hw1.symm.trans (c119.trans hw2)); exact (hvlp78_2.1 c98).2 j (by omega)⟩, fun q9 => absurd q9 (by decide +kernel)⟩) hP hD hS (lv_sub hl [0, 1, 2, 3, 4, 5, 6, 7] rfl)
                exact lp78 (146) 0 _ _ _ 0 1 (by decide +kernel) (kb_w kc_0 (by decide) (by decide)) (kb_w kc_1 (by decide) (by decide)) (by decide +kernel) (Nat.zero_le _) (⟨fun _ => ⟨by have w0 := congrArg Int32.toInt c25; have w1 := hvlp13_0.1; have w2 := qt23; have w3 := hp0; have w4 := hp1; have w5 := hp2; omega, fun j hj => absurd hj (Nat.not_lt_zero j)⟩, fun q9 => absurd q9 (by decide +kernel)⟩) hP hD hS (lv_sub hl [0, 1, 2, 3, 4, 5, 6, 7] rfl)
            · have b125 : kb 33 t19 121 := kr_nel c21 b20 kc_32 (by decide)
              have hnl : nn < lnR q := by
                by_cases w1 : nn = lnR q
                · exfalso; refine c21 (hyb.trans ?_); rw [w1]; exact wBR_e q hq28
                · have w2 := hvlp13_0.2; omega
              have b126 : kb 0 y12 144 := ⟨by have w1 := hvlp13_0.1; omega, by have w1 := hvlp13_0.1; omega⟩
              obtain ⟨t127, et127⟩ : ∃ z : Int32, z = y12 + Int32.ofInt 1 := ⟨_, rfl⟩
              have qt127 : t127.toInt = y12.toInt + 1 := by rw [et127]; exact km_inc b126 (by decide) (by decide)
              have b128 : kb 1 t127 145 := kb_inc (k := 1) qt127 b126
              refine lv_iinc (v := t127) (lv' := [(5, .int t127), (4, .int y1), (3, .int y2), (0, .ref o), (1, .int x1), (2, .int x2)]) hx hb dX12_wordOf_33 hl (k := 0) rfl et127.symm (by decide) rfl (fun ls hl => ?_)
              refine lv_goto (tgt := 18) hx hb dX12_wordOf_36 (by decide) ?_
              exact ihlp13 (nn + 1) _ _ _ t127 (km_up hmlp13 qt127) (kb_w b128 (by decide) (by decide)) (⟨by have w1 := hvlp13_0.1; omega, by omega⟩) hP hD hS (lv_sub hl [0, 1, 2, 3, 4, 5] rfl)
        exact lp13 (146) 0 _ _ _ 0 (by decide +kernel) (kb_w kc_0 (by decide) (by decide)) (⟨by decide +kernel, Nat.zero_le _⟩) hP hD hS (lv_sub hl [0, 1, 2, 3, 4, 5] rfl)
  exact lp3 (147) 0 _ _ _ 0 1 (by decide +kernel) (kb_w kc_0 (by decide) (by decide)) (kb_w kc_1 (by decide) (by decide)) (by decide +kernel) (by decide) (by decide +kernel) (fun j hj => absurd hj (Nat.not_lt_zero j)) hP hD hS (lv_sub hl [0, 1, 2, 3, 4] rfl)
set_option maxHeartbeats 4000000 in
set_option maxRecDepth 100000 in
theorem q_isSmall (l : Launch) (x : Int32)   : kN l yX12_isSmall (Cond.code yX12_isSmall cX12_isSmall 1 (some .boolean) :: kG) (rmD 1 0 0) [.int x] (fun v => kb 0 v 1 ∧ ((v = 1 ∧ isS x = true) ∨ (v = 0 ∧ isS x = false))) := by
  refine kN.of (cc := cX12_isSmall) (maxL := 1) (ret := (some .boolean)) (by decide) rfl (Nat.le_of_ble_eq_true rfl) ?_
  intro p e s m below meth c hx hb hr hml hown hts hlocks hS ls hl
  have hg : ∀ w ∈ kG, w.before _ s = true := fun w h => hts w (List.mem_cons_of_mem _ h)
  have hown : s.vm.findClass RX12 = some m.cls := hown
  have hl : lv_has ls 1 [(0, .int x)] := hl
  refine lv_iload_n hx hb dX12_isSmall_0 rfl (lv_at hl 0 rfl) ?_
  refine lv_bipush (v := 97) hx hb dX12_isSmall_1 (by decide) ?_
  refine lv_icmp_lt (tgt := 16) hx hb dX12_isSmall_3 (by decide) (fun c1 => ?_) (fun c1 => ?_)
  · have h2 := (kc_lt c1)
    have b3 : kb (-2147483648) x 96 := kr_lt1 h2 (kb_any x) kc_97 (by decide)
    refine lv_iconst (v := 0) hx hb dX12_isSmall_16 (by decide) ?_
    exact kN_ret (v := 0) hx hb hr hlocks (by decide +kernel) hS dX12_isSmall_17 (⟨(kb_w kc_0 (by decide) (by decide)), (Or.inr ⟨rfl, decide_eq_false (fun q => by have w1 := (b3).2; have w2 := q.1; omega)⟩)⟩)
  · have h4 := (kc_nlt c1)
    have b5 : kb 97 x 2147483647 := kr_le2 h4 kc_97 (kb_any x)
    refine lv_iload_n hx hb dX12_isSmall_6 rfl (lv_at hl 0 rfl) ?_
    refine lv_bipush (v := 122) hx hb dX12_isSmall_7 (by decide) ?_
    refine lv_icmp_gt (tgt := 16) hx hb dX12_isSmall_9 (by decide) (fun c6 => ?_) (fun c6 => ?_)
    · have h7 := (kc_lt c6)
      have b8 : kb 123 x 2147483647 := kr_lt2 h7 kc_122 b5 (by decide)
      refine lv_iconst (v := 0) hx hb dX12_isSmall_16 (by decide) ?_
      exact kN_ret (v := 0) hx hb hr hlocks (by decide +kernel) hS dX12_isSmall_17 (⟨(kb_w kc_0 (by decide) (by decide)), (Or.inr ⟨rfl, decide_eq_false (fun q => by have w1 := (b8).1; have w2 := q.2; omega)⟩)⟩)
    · have h9 := (kc_nlt c6)
      have b10 : kb 97 x 122 := kr_le1 h9 b5 kc_122
      refine lv_iconst (v := 1) hx hb dX12_isSmall_12 (by decide) ?_
      refine lv_goto (tgt := 17) hx hb dX12_isSmall_13 (by decide) ?_
      exact kN_ret (v := 1) hx hb hr hlocks (by decide +kernel) hS dX12_isSmall_17 (⟨(kb_w kc_1 (by decide) (by decide)), (Or.inl ⟨rfl, decide_eq_true b10⟩)⟩)
set_option maxHeartbeats 4000000 in
set_option maxRecDepth 100000 in
theorem q_isDigit (l : Launch) (x : Int32)   : kN l yX12_isDigit (Cond.code yX12_isDigit cX12_isDigit 1 (some .boolean) :: kG) (rmD 1 0 0) [.int x] (fun v => kb 0 v 1 ∧ ((v = 1 ∧ isD x = true) ∨ (v = 0 ∧ isD x = false))) := by
  refine kN.of (cc := cX12_isDigit) (maxL := 1) (ret := (some .boolean)) (by decide) rfl (Nat.le_of_ble_eq_true rfl) ?_
  intro p e s m below meth c hx hb hr hml hown hts hlocks hS ls hl
  have hg : ∀ w ∈ kG, w.before _ s = true := fun w h => hts w (List.mem_cons_of_mem _ h)
  have hown : s.vm.findClass RX12 = some m.cls := hown
  have hl : lv_has ls 1 [(0, .int x)] := hl
  refine lv_iload_n hx hb dX12_isDigit_0 rfl (lv_at hl 0 rfl) ?_
  refine lv_bipush (v := 48) hx hb dX12_isDigit_1 (by decide) ?_
  refine lv_icmp_lt (tgt := 16) hx hb dX12_isDigit_3 (by decide) (fun c1 => ?_) (fun c1 => ?_)
  · have h2 := (kc_lt c1)
    have b3 : kb (-2147483648) x 47 := kr_lt1 h2 (kb_any x) kc_48 (by decide)
    refine lv_iconst (v := 0) hx hb dX12_isDigit_16 (by decide) ?_
    exact kN_ret (v := 0) hx hb hr hlocks (by decide +kernel) hS dX12_isDigit_17 (⟨(kb_w kc_0 (by decide) (by decide)), (Or.inr ⟨rfl, decide_eq_false (fun q => by have w1 := (b3).2; have w2 := q.1; omega)⟩)⟩)
  · have h4 := (kc_nlt c1)
    have b5 : kb 48 x 2147483647 := kr_le2 h4 kc_48 (kb_any x)
    refine lv_iload_n hx hb dX12_isDigit_6 rfl (lv_at hl 0 rfl) ?_
    refine lv_bipush (v := 57) hx hb dX12_isDigit_7 (by decide) ?_
    refine lv_icmp_gt (tgt := 16) hx hb dX12_isDigit_9 (by decide) (fun c6 => ?_) (fun c6 => ?_)
    · have h7 := (kc_lt c6)
      have b8 : kb 58 x 2147483647 := kr_lt2 h7 kc_57 b5 (by decide)
      refine lv_iconst (v := 0) hx hb dX12_isDigit_16 (by decide) ?_
      exact kN_ret (v := 0) hx hb hr hlocks (by decide +kernel) hS dX12_isDigit_17 (⟨(kb_w kc_0 (by decide) (by decide)), (Or.inr ⟨rfl, decide_eq_false (fun q => by have w1 := (b8).1; have w2 := q.2; omega)⟩)⟩)
    · have h9 := (kc_nlt c6)
      have b10 : kb 48 x 57 := kr_le1 h9 b5 kc_57
      refine lv_iconst (v := 1) hx hb dX12_isDigit_12 (by decide) ?_
      refine lv_goto (tgt := 17) hx hb dX12_isDigit_13 (by decide) ?_
      exact kN_ret (v := 1) hx hb hr hlocks (by decide +kernel) hS dX12_isDigit_17 (⟨(kb_w kc_1 (by decide) (by decide)), (Or.inl ⟨rfl, decide_eq_true b10⟩)⟩)
set_option maxHeartbeats 4000000 in
set_option maxRecDepth 100000 in
theorem y_isLetter (l : Launch) (x : Int32)   : kN l yX4_isLetter (Cond.code yX4_isLetter cX4_isLetter 1 (some .boolean) :: kG) (rmD 1 0 0) [.int x] (fun v => kb 0 v 1 ∧ ((v = 1 ∧ isS x = true) ∨ (v = 0 ∧ isS x = false))) := by
  refine kN.of (cc := cX4_isLetter) (maxL := 1) (ret := (some .boolean)) (by decide) rfl (Nat.le_of_ble_eq_true rfl) ?_
  intro p e s m below meth c hx hb hr hml hown hts hlocks hS ls hl
  have hg : ∀ w ∈ kG, w.before _ s = true := fun w h => hts w (List.mem_cons_of_mem _ h)
  have hown : s.vm.findClass RX4 = some m.cls := hown
  have hl : lv_has ls 1 [(0, .int x)] := hl
  refine lv_iload_n hx hb dX4_isLetter_0 rfl (lv_at hl 0 rfl) ?_
  refine lv_bipush (v := 97) hx hb dX4_isLetter_1 (by decide) ?_
  refine lv_icmp_lt (tgt := 16) hx hb dX4_isLetter_3 (by decide) (fun c1 => ?_) (fun c1 => ?_)
  · have h2 := (kc_lt c1)
    have b3 : kb (-2147483648) x 96 := kr_lt1 h2 (kb_any x) kc_97 (by decide)
    refine lv_iconst (v := 0) hx hb dX4_isLetter_16 (by decide) ?_
    exact kN_ret (v := 0) hx hb hr hlocks (by decide +kernel) hS dX4_isLetter_17 (⟨(kb_w kc_0 (by decide) (by decide)), (Or.inr ⟨rfl, decide_eq_false (fun q => by have w1 := (b3).2; have w2 := q.1; omega)⟩)⟩)
  · have h4 := (kc_nlt c1)
    have b5 : kb 97 x 2147483647 := kr_le2 h4 kc_97 (kb_any x)
    refine lv_iload_n hx hb dX4_isLetter_6 rfl (lv_at hl 0 rfl) ?_
    refine lv_bipush (v := 122) hx hb dX4_isLetter_7 (by decide) ?_
    refine lv_icmp_gt (tgt := 16) hx hb dX4_isLetter_9 (by decide) (fun c6 => ?_) (fun c6 => ?_)
    · have h7 := (kc_lt c6)
      have b8 : kb 123 x 2147483647 := kr_lt2 h7 kc_122 b5 (by decide)
      refine lv_iconst (v := 0) hx hb dX4_isLetter_16 (by decide) ?_
      exact kN_ret (v := 0) hx hb hr hlocks (by decide +kernel) hS dX4_isLetter_17 (⟨(kb_w kc_0 (by decide) (by decide)), (Or.inr ⟨rfl, decide_eq_false (fun q => by have w1 := (b8).1; have w2 := q.2; omega)⟩)⟩)
    · have h9 := (kc_nlt c6)
      have b10 : kb 97 x 122 := kr_le1 h9 b5 kc_122
      refine lv_iconst (v := 1) hx hb dX4_isLetter_12 (by decide) ?_
      refine lv_goto (tgt := 17) hx hb dX4_isLetter_13 (by decide) ?_
      exact kN_ret (v := 1) hx hb hr hlocks (by decide +kernel) hS dX4_isLetter_17 (⟨(kb_w kc_1 (by decide) (by decide)), (Or.inl ⟨rfl, decide_eq_true b10⟩)⟩)
set_option maxHeartbeats 4000000 in
set_option maxRecDepth 100000 in
theorem y_isDigit (l : Launch) (x : Int32)   : kN l yX4_isDigit (Cond.code yX4_isDigit cX4_isDigit 1 (some .boolean) :: kG) (rmD 1 0 0) [.int x] (fun v => kb 0 v 1 ∧ ((v = 1 ∧ isD x = true) ∨ (v = 0 ∧ isD x = false))) := by
  refine kN.of (cc := cX4_isDigit) (maxL := 1) (ret := (some .boolean)) (by decide) rfl (Nat.le_of_ble_eq_true rfl) ?_
  intro p e s m below meth c hx hb hr hml hown hts hlocks hS ls hl
  have hg : ∀ w ∈ kG, w.before _ s = true := fun w h => hts w (List.mem_cons_of_mem _ h)
  have hown : s.vm.findClass RX4 = some m.cls := hown
  have hl : lv_has ls 1 [(0, .int x)] := hl
  refine lv_iload_n hx hb dX4_isDigit_0 rfl (lv_at hl 0 rfl) ?_
  refine lv_bipush (v := 48) hx hb dX4_isDigit_1 (by decide) ?_
  refine lv_icmp_lt (tgt := 16) hx hb dX4_isDigit_3 (by decide) (fun c1 => ?_) (fun c1 => ?_)
  · have h2 := (kc_lt c1)
    have b3 : kb (-2147483648) x 47 := kr_lt1 h2 (kb_any x) kc_48 (by decide)
    refine lv_iconst (v := 0) hx hb dX4_isDigit_16 (by decide) ?_
    exact kN_ret (v := 0) hx hb hr hlocks (by decide +kernel) hS dX4_isDigit_17 (⟨(kb_w kc_0 (by decide) (by decide)), (Or.inr ⟨rfl, decide_eq_false (fun q => by have w1 := (b3).2; have w2 := q.1; omega)⟩)⟩)
  · have h4 := (kc_nlt c1)
    have b5 : kb 48 x 2147483647 := kr_le2 h4 kc_48 (kb_any x)
    refine lv_iload_n hx hb dX4_isDigit_6 rfl (lv_at hl 0 rfl) ?_
    refine lv_bipush (v := 57) hx hb dX4_isDigit_7 (by decide) ?_
    refine lv_icmp_gt (tgt := 16) hx hb dX4_isDigit_9 (by decide) (fun c6 => ?_) (fun c6 => ?_)
    · have h7 := (kc_lt c6)
      have b8 : kb 58 x 2147483647 := kr_lt2 h7 kc_57 b5 (by decide)
      refine lv_iconst (v := 0) hx hb dX4_isDigit_16 (by decide) ?_
      exact kN_ret (v := 0) hx hb hr hlocks (by decide +kernel) hS dX4_isDigit_17 (⟨(kb_w kc_0 (by decide) (by decide)), (Or.inr ⟨rfl, decide_eq_false (fun q => by have w1 := (b8).1; have w2 := q.2; omega)⟩)⟩)
    · have h9 := (kc_nlt c6)
      have b10 : kb 48 x 57 := kr_le1 h9 b5 kc_57
      refine lv_iconst (v := 1) hx hb dX4_isDigit_12 (by decide) ?_
      refine lv_goto (tgt := 17) hx hb dX4_isDigit_13 (by decide) ?_
      exact kN_ret (v := 1) hx hb hr hlocks (by decide +kernel) hS dX4_isDigit_17 (⟨(kb_w kc_1 (by decide) (by decide)), (Or.inl ⟨rfl, decide_eq_true b10⟩)⟩)
set_option maxHeartbeats 4000000 in
set_option maxRecDepth 100000 in
theorem q_splits  (l : Launch) {D : va_G} {K : Nat → ClassId} (o : Nat) (r : Nat → Nat) (f : Nat → Int32) (a : Nat → Nat → Int32) (g : Nat → Int64) (hI : mI f a) (x : Int32) (bx : kb 0 x 400) (S : Nat) (hp0 : x.toInt = (S : Int)) : kV l yX12_splits (Cond.code yX12_splits cX12_splits 6 none :: kG) (rmD 2 0 0) D (tysK K) [.ref o, .int x] (mW K o r f a g) (fun (u : mS) => mI u.1 u.2.1 ∧ mE (XR []) f a u.1 u.2.1 ∧ fE [18] f u.1 ∧ (∃ N : Nat, (u.1 18).toInt = (N : Int) ∧ N ≤ 400 ∧ u.2.1 15 N = 0 ∧ spR (a 11) S N u.2.1) ∧ mZ [18] [15, 16, 17] f a u.1 u.2.1) (fun u => mW K o r u.1 u.2.1 u.2.2) 0 0 := by
  refine kV.of (cc := cX12_splits) (maxL := 6) (ret := none) (by decide) rfl (Nat.le_of_ble_eq_true rfl) ?_
  intro p e s m below meth c A hx hb hr hml hown hts hlocks hnm hK hP hD hS hA ls hl
  have hE : mE (XR []) f a f a := mE_rf
  have hZ : mZ [18] [15, 16, 17] f a f a := mZ_rf
  have hg : ∀ w ∈ kG, w.before _ s = true := fun w h => hts w (List.mem_cons_of_mem _ h)
  have hown : s.vm.findClass RX12 = some m.cls := hown
  have hl : lv_has ls 6 [(0, .ref o), (1, .int x)] := hl
  have hk0 : fE [18] f f := fE_rf
  refine lv_aload_n hx hb dX12_splits_0 rfl (lv_at hl 0 rfl) ?_
  refine lv_iconst (v := 0) hx hb dX12_splits_1 (by decide) ?_
  refine va_put (D := D) (ci := 12) (v := .int 0) (ty := .int) (C := RX12) (T := TX12) (N := 48) hx hb hg inC12 tyX12 tyX12_ok nmX12 hown hK hP hD hS 0 rfl rfl 18 (by decide) (hg _ wt5_178) (fun _ h9 => h9) rfl (by decide +kernel) rfl rfl (Nat.le_of_ble_eq_true rfl) dX12_splits_2 (fun H locs hP hD hS => ?_)
  have hP : va_P D vwCl (mW K o r (upd f 18 0) a g) H := hP
  have hD : va_D A (mW K o r (upd f 18 0) a g) := hD
  refine k_gen (P := fun z => va_P D vwCl (mW K o r z a g) H ∧ va_D A (mW K o r z a g) ∧ (mI z a) ∧ (mE (XR []) f a z a) ∧ (mZ [18] [15, 16, 17] f a z a) ∧ (fE [18] f z)) (upd f 18 0) ⟨hP, hD, (mI_f hI (fI_st hI.1 18 kc_0 (by decide) (by decide))), (mE_f hE (by decide)), (mZ_f hZ rfl), (fE_f hk0 (by decide))⟩ (fun f_1 ef_1 hq => ?_)
  obtain ⟨hP, hD, hI, hE, hZ, hk0⟩ := hq
  refine lv_iconst (v := 0) hx hb dX12_splits_5 (by decide) ?_
  refine lv_istore_n (lv' := [(2, .int 0), (0, .ref o), (1, .int x)]) hx hb dX12_splits_6 rfl hl (by decide) rfl (fun ls hl => ?_)
  have lp5 : ∀ (n6 : Nat) (kk : Nat) (ta : Nat) (F3 : Nat → Int32) (B4 : Nat → Nat → Int32) (H : Heap) (locs : List Loc) (ls : Array Slot) (y2 : Int32), ((400 : Int) < y2.toInt + (n6 : Int)) → (mI F3 B4) → (mE (XR []) f a F3 B4) → (mZ [18] [15, 16, 17] f a F3 B4) → (fE [18] f F3) → (kb 0 y2 400) → (y2.toInt = (kk : Int) ∧ kk ≤ S) → ((F3 18).toInt = (ta : Int) ∧ ta ≤ kk) → (plT (a 11) S ta = rn isB (a 11) S kk) → (sPre (a 11) S ta B4) → va_P D vwCl (mW K o r F3 B4 g) H → va_D A (mW K o r F3 B4 g) → va_S A s.heap H locs → lv_has ls 6 [(2, .int y2), (0, .ref o), (1, .int x)] → W p l e (rmD 2 0 0) s m ([.ref o, .int x] : List Value).toArray below meth c H locs 0 0 (kQv D (tysK K) (fun (u : mS) => mI u.1 u.2.1 ∧ mE (XR []) f a u.1 u.2.1 ∧ fE [18] f u.1 ∧ (∃ N : Nat, (u.1 18).toInt = (N : Int) ∧ N ≤ 400 ∧ u.2.1 15 N = 0 ∧ spR (a 11) S N u.2.1) ∧ mZ [18] [15, 16, 17] f a u.1 u.2.1) (fun u => mW K o r u.1 u.2.1 u.2.2) A below ([.ref o, .int x] : List Value).toArray s 0 0) (F0 m 7 ls []) := by
    intro n6
    induction n6 with
    | zero =>
      intro kk ta F3 B4  H locs ls y2 hmlp5 hI hE hZ hk0 b7 hvlp5_0 hvlp5_1 hvlp5_2 hvlp5_3 hP hD hS hl
      exact (by have w1 := hmlp5; have w2 := (b7).2; omega : False).elim
    | succ n6 ihlp5 =>
      intro kk ta F3 B4  H locs ls y2 hmlp5 hI hE hZ hk0 b7 hvlp5_0 hvlp5_1 hvlp5_2 hvlp5_3 hP hD hS hl
      obtain ⟨tk, etk⟩ : ∃ z : Int32, z = F3 18 := ⟨_, rfl⟩
      have b8 : kb 0 tk 400 := kb_eq etk (fI_at hI.1 18 (by decide) (by decide))
      have htk : tk.toInt = (ta : Int) := by rw [etk]; exact hvlp5_1.1
      have hkk := hvlp5_0.1
      refine lv_iload_n hx hb dX12_splits_7 rfl (lv_at hl 0 rfl) ?_
      refine lv_iload_n hx hb dX12_splits_8 rfl (lv_at hl 2 rfl) ?_
      refine lv_icmp_ge (tgt := 263) hx hb dX12_splits_9 (by decide) (fun c9 => ?_) (fun c9 => ?_)
      · have h10 := (kc_le c9)
        have hkS : kk = S := by have w1 := kc_le c9; have w2 := hp0; have w3 := hvlp5_0.2; omega
        have hplS : plT (a 11) S ta = S := by rw [hvlp5_2, hkS]; exact rn_S (Nat.le_refl S)
        have hk1 := hvlp5_3
        refine lv_aload_n hx hb dX12_splits_263 rfl (lv_at hl 1 rfl) ?_
        refine va_get (D := D) (ci := 12) (v := .ref (r 17)) (C := RX12) (T := TX12) (N := 48) hx hb hg inC12 hown hK hP 0 rfl rfl 17 (by decide) (hg _ wt5_177) (fun _ h9 => h9) rfl dX12_splits_264 ?_
        refine lv_aload_n hx hb dX12_splits_267 rfl (lv_at hl 1 rfl) ?_
        refine va_get (D := D) (ci := 12) (v := .int (F3 18)) (C := RX12) (T := TX12) (N := 48) hx hb hg inC12 hown hK hP 0 rfl rfl 18 (by decide) (hg _ wt5_178) (fun _ h9 => h9) rfl dX12_splits_268 ?_
        refine k_top (z := tk) etk.symm ?_
        refine lv_iload_n hx hb dX12_splits_271 rfl (lv_at hl 2 rfl) ?_
        refine va_iast hx hb hK hP hD hS 11 0 rfl rfl (kb_in b8 (by decide) (by decide)) dX12_splits_272 (fun H locs hP hD hS => ?_)
        have hP : va_P D vwCl (mW K o r F3 (va_up B4 17 (upd (B4 17) tk.toNatClampNeg x)) g) H := hP
        have hD : va_D A (mW K o r F3 (va_up B4 17 (upd (B4 17) tk.toNatClampNeg x)) g) := hD
        refine k_gen (P := fun z => va_P D vwCl (mW K o r F3 z g) H ∧ va_D A (mW K o r F3 z g) ∧ (mI F3 z) ∧ (mE (XR []) f a F3 z) ∧ (mZ [18] [15, 16, 17] f a F3 z) ∧ (fE [18] f F3) ∧ (sPre (a 11) S ta z)) (va_up B4 17 (upd (B4 17) tk.toNatClampNeg x)) ⟨hP, hD, (mI_s hI (aI_sx hI.2.1 17 0 401 b8 (by decide) (by decide) bx (by decide +kernel)) (by decide) (by decide)), (mE_s hE (by decide) (by decide) (by decide) (by decide)), (mZ_a hZ rfl), hk0, (sPre_st hk1 (by rw [cl_nat htk]; exact Nat.le_refl ta))⟩ (fun a_11 ea_11 hq => ?_)
        obtain ⟨hP, hD, hI, hE, hZ, hk0, hk1⟩ := hq
        refine lv_aload_n hx hb dX12_splits_273 rfl (lv_at hl 1 rfl) ?_
        refine va_get (D := D) (ci := 12) (v := .ref (r 15)) (C := RX12) (T := TX12) (N := 48) hx hb hg inC12 hown hK hP 0 rfl rfl 15 (by decide) (hg _ wt5_175) (fun _ h9 => h9) rfl dX12_splits_274 ?_
        refine lv_aload_n hx hb dX12_splits_277 rfl (lv_at hl 1 rfl) ?_
        refine va_get (D := D) (ci := 12) (v := .int (F3 18)) (C := RX12) (T := TX12) (N := 48) hx hb hg inC12 hown hK hP 0 rfl rfl 18 (by decide) (hg _ wt5_178) (fun _ h9 => h9) rfl dX12_splits_278 ?_
        refine k_top (z := tk) etk.symm ?_
        refine lv_iconst (v := 0) hx hb dX12_splits_281 (by decide) ?_
        refine va_iast hx hb hK hP hD hS 9 0 rfl rfl (kb_in b8 (by decide) (by decide)) dX12_splits_282 (fun H locs hP hD hS => ?_)
        have hP : va_P D vwCl (mW K o r F3 (va_up a_11 15 (upd (a_11 15) tk.toNatClampNeg 0)) g) H := hP
        have hD : va_D A (mW K o r F3 (va_up a_11 15 (upd (a_11 15) tk.toNatClampNeg 0)) g) := hD
        refine k_gen (P := fun z => va_P D vwCl (mW K o r F3 z g) H ∧ va_D A (mW K o r F3 z g) ∧ (mI F3 z) ∧ (mE (XR []) f a F3 z) ∧ (mZ [18] [15, 16, 17] f a F3 z) ∧ (fE [18] f F3) ∧ (sPre (a 11) S ta z)) (va_up a_11 15 (upd (a_11 15) tk.toNatClampNeg 0)) ⟨hP, hD, (mI_s hI (aI_free hI.2.1 15 _ (fun j => ⟨by show (mBa 15 j).1 ≤ _; exact Int.le_refl _, by show _ ≤ (mBa 15 j).2; exact Int.le_refl _⟩)) (by decide) (by decide)), (mE_s hE (by decide) (by decide) (by decide) (by decide)), (mZ_a hZ rfl), hk0, (sPre_st hk1 (by rw [cl_nat htk]; exact Nat.le_refl ta))⟩ (fun a_12 ea_12 hq => ?_)
        obtain ⟨hP, hD, hI, hE, hZ, hk0, hk1⟩ := hq
        refine lv_aload_n hx hb dX12_splits_283 rfl (lv_at hl 1 rfl) ?_
        refine va_get (D := D) (ci := 12) (v := .ref (r 16)) (C := RX12) (T := TX12) (N := 48) hx hb hg inC12 hown hK hP 0 rfl rfl 16 (by decide) (hg _ wt5_176) (fun _ h9 => h9) rfl dX12_splits_284 ?_
        refine lv_aload_n hx hb dX12_splits_287 rfl (lv_at hl 1 rfl) ?_
        refine va_get (D := D) (ci := 12) (v := .int (F3 18)) (C := RX12) (T := TX12) (N := 48) hx hb hg inC12 hown hK hP 0 rfl rfl 18 (by decide) (hg _ wt5_178) (fun _ h9 => h9) rfl dX12_splits_288 ?_
        refine k_top (z := tk) etk.symm ?_
        refine lv_iconst (v := 0) hx hb dX12_splits_291 (by decide) ?_
        refine va_iast hx hb hK hP hD hS 10 0 rfl rfl (kb_in b8 (by decide) (by decide)) dX12_splits_292 (fun H locs hP hD hS => ?_)
        have hP : va_P D vwCl (mW K o r F3 (va_up a_12 16 (upd (a_12 16) tk.toNatClampNeg 0)) g) H := hP
        have hD : va_D A (mW K o r F3 (va_up a_12 16 (upd (a_12 16) tk.toNatClampNeg 0)) g) := hD
        refine k_gen (P := fun z => va_P D vwCl (mW K o r F3 z g) H ∧ va_D A (mW K o r F3 z g) ∧ (mI F3 z) ∧ (mE (XR []) f a F3 z) ∧ (mZ [18] [15, 16, 17] f a F3 z) ∧ (fE [18] f F3) ∧ (sPre (a 11) S ta z)) (va_up a_12 16 (upd (a_12 16) tk.toNatClampNeg 0)) ⟨hP, hD, (mI_s hI (aI_free hI.2.1 16 _ (fun j => ⟨by show (mBa 16 j).1 ≤ _; exact Int.le_refl _, by show _ ≤ (mBa 16 j).2; exact Int.le_refl _⟩)) (by decide) (by decide)), (mE_s hE (by decide) (by decide) (by decide) (by decide)), (mZ_a hZ rfl), hk0, (sPre_st hk1 (by rw [cl_nat htk]; exact Nat.le_refl ta))⟩ (fun a_13 ea_13 hq => ?_)
        obtain ⟨hP, hD, hI, hE, hZ, hk0, hk1⟩ := hq
        exact kV_ret hx hb hr hlocks hK hS dX12_splits_293 (F3, a_13, g) hP hD ⟨hI, hE, hk0, ⟨ta, by show (F3 18).toInt = _; rw [etk.symm]; exact htk, by have w1 := hvlp5_1.2; have w2 := bx.2; have w3 := hp0; omega, by show a_13 15 ta = 0; rw [← cl_nat htk]; exact ((show a_13 15 tk.toNatClampNeg = a_12 15 tk.toNatClampNeg from by rw [← ea_13]; rfl).trans (show a_12 15 tk.toNatClampNeg = 0 from by rw [← ea_12]; exact (pk_us (f := a_11 15) (k := tk.toNatClampNeg) (x := 0)))), (show spR (a 11) S ta a_13 from ⟨hplS, hk1, by unfold pcT; rw [hplS, ← cl_nat htk]; exact (((show a_13 17 tk.toNatClampNeg = a_12 17 tk.toNatClampNeg from by rw [← ea_13]; rfl).trans ((show a_12 17 tk.toNatClampNeg = a_11 17 tk.toNatClampNeg from by rw [← ea_12]; rfl).trans (show a_11 17 tk.toNatClampNeg = x from by rw [← ea_11]; exact (pk_us (f := B4 17) (k := tk.toNatClampNeg) (x := x)))))).trans (pc_of hp0 (by have w2 := bx.2; have w3 := hp0; omega))⟩)⟩, hZ⟩
      · have h14 := (kc_nle c9)
        have b15 : kb 0 y2 399 := kr_lt1 h14 b7 bx (by decide)
        have b16 : kb 1 x 400 := kr_lt2 h14 b7 bx (by decide)
        have hkS : kk < S := by have w1 := kc_nle c9; have w2 := hp0; omega
        have b17 : kb 0 y2 399 := ⟨by omega, by have w1 := bx.2; have w2 := hp0; omega⟩
        refine lv_aload_n hx hb dX12_splits_12 rfl (lv_at hl 1 rfl) ?_
        refine va_get (D := D) (ci := 12) (v := .ref (r 11)) (C := RX12) (T := TX12) (N := 48) hx hb hg inC12 hown hK hP 0 rfl rfl 11 (by decide) (hg _ wt5_171) (fun _ h9 => h9) rfl dX12_splits_13 ?_
        refine lv_iload_n hx hb dX12_splits_16 rfl (lv_at hl 0 rfl) ?_
        refine va_bald hx hb hK hP 7 1 rfl rfl (kb_in b17 (by decide) (by decide)) dX12_splits_17 ?_
        refine lv_topi (fun t18 et18 => ?_)
        have hby : t18 = a 11 kk := et18.trans ((congrFun hE.2.1 _).trans (congrArg (a 11) (cl_nat hkk)))
        refine lv_istore_n (lv' := [(3, .int t18), (2, .int y2), (0, .ref o), (1, .int x)]) hx hb dX12_splits_18 rfl hl (by decide) rfl (fun ls hl => ?_)
        refine lv_iload_n hx hb dX12_splits_19 rfl (lv_at hl 0 rfl) ?_
        refine lv_bipush (v := 32) hx hb dX12_splits_20 (by decide) ?_
        refine lv_icmp_ne (tgt := 31) hx hb dX12_splits_22 (by decide) (fun c19 => ?_) (fun c19 => ?_)
        · have hpl : plT (a 11) S ta = kk := hvlp5_2.trans (rn_n hkS (fun q => c19 (hby.trans (of_decide_eq_true q))))
          have hk1 := hvlp5_3
          refine lv_iload_n hx hb dX12_splits_31 rfl (lv_at hl 1 rfl) ?_
          refine lv_iconst (v := 1) hx hb dX12_splits_32 (by decide) ?_
          refine lv_iadd hx hb dX12_splits_33 ?_
          refine lv_topi (fun t20 et20 => ?_)
          have b21 : kb 1 t20 400 := kb_eq et20 (kb_add b17 kc_1 (by decide) (by decide))
          have qt20 : t20.toInt = y2.toInt + 1 := by rw [et20]; exact kt_addc b17 kc_1 (by decide) (by decide)
          refine lv_istore (lv' := [(4, .int t20), (3, .int t18), (2, .int y2), (0, .ref o), (1, .int x)]) hx hb dX12_splits_34 hl (by decide) rfl (fun ls hl => ?_)
          refine lv_iload_n hx hb dX12_splits_36 rfl (lv_at hl 1 rfl) ?_
          refine kN.callS (As := [.int t18]) (rest := []) ⟨hx, hb, hml, hown, hg⟩ (q_isSmall l t18 ) (va_cwS 1 hg (kgS wt6_181 wt6_182 wt1_14 wt6_183) rfl rfl rfl (by decide +kernel) ⟨by decide, by decide⟩) hP hS rfl hl.1 rfl (Nat.le_of_ble_eq_true rfl) dX12_splits_37 ⟨Nat.le_refl _, Nat.le_refl _⟩ (fun v23 H locs hw22 hP hS => ?_)
          rcases hw22.2 with hkk25 | hkk25
          · refine k_top (z := 1) hkk25.1 ?_
            refine lv_if_eq (tgt := 68) hx hb dX12_splits_40 (by decide) (fun c26 => ?_) (fun c26 => ?_)
            · exact kb_dj c26 kc_1 kc_0 (by decide)
            · have lp28 : ∀ (n29 : Nat) (ee : Nat) (H : Heap) (locs : List Loc) (ls : Array Slot) (y27 : Int32), (400 < y27.toInt + (n29 : Int)) → (kb 1 y27 400) → (y27.toInt = (ee : Int) ∧ kk + 1 ≤ ee ∧ ee ≤ S ∧ rn isS (a 11) S (kk + 1) = rn isS (a 11) S ee ∧ ∀ j, kk + 1 ≤ j → j < ee → isS (a 11 j) = true) → va_P D vwCl (mW K o r F3 B4 g) H → va_D A (mW K o r F3 B4 g) → va_S A s.heap H locs → lv_has ls 6 [(4, .int y27), (3, .int t18), (2, .int y2), (0, .ref o), (1, .int x)] → W p l e (rmD 2 0 0) s m ([.ref o, .int x] : List Value).toArray below meth c H locs 0 0 (kQv D (tysK K) (fun (u : mS) => mI u.1 u.2.1 ∧ mE (XR []) f a u.1 u.2.1 ∧ fE [18] f u.1 ∧ (∃ N : Nat, (u.1 18).toInt = (N : Int) ∧ N ≤ 400 ∧ u.2.1 15 N = 0 ∧ spR (a 11) S N u.2.1) ∧ mZ [18] [15, 16, 17] f a u.1 u.2.1) (fun u => mW K o r u.1 u.2.1 u.2.2) A below ([.ref o, .int x] : List Value).toArray s 0 0) (F0 m 43 ls []) := by
                intro n29
                induction n29 with
                | zero =>
                  intro ee  H locs ls y27 hmlp28 b30 hvlp28_0 hP hD hS hl
                  exact (by have h1 := b30.2; have h2 := hmlp28; omega : False).elim
                | succ n29 ihlp28 =>
                  intro ee  H locs ls y27 hmlp28 b30 hvlp28_0 hP hD hS hl
                  refine lv_iload hx hb dX12_splits_43 (lv_at hl 0 rfl) ?_
                  refine lv_iload_n hx hb dX12_splits_45 rfl (lv_at hl 4 rfl) ?_
                  refine lv_icmp_ge (tgt := 68) hx hb dX12_splits_46 (by decide) (fun c31 => ?_) (fun c31 => ?_)
                  · have h32 := (kc_le c31)
                    have hen : rn isS (a 11) S (kk + 1) = ee := by have w1 := kc_le c31; have w2 := hp0; have w3 := hvlp28_0; have w4 : ee = S := (by omega); rw [w3.2.2.2.1, w4]; exact rn_S (Nat.le_refl S)
                    refine lv_iload_n hx hb dX12_splits_68 rfl (lv_at hl 1 rfl) ?_
                    refine kN.callS (As := [.int t18]) (rest := []) ⟨hx, hb, hml, hown, hg⟩ (q_isDigit l t18 ) (va_cwS 1 hg (kgS wt6_184 wt6_185 wt1_14 wt6_186) rfl rfl rfl (by decide +kernel) ⟨by decide, by decide⟩) hP hS rfl hl.1 rfl (Nat.le_of_ble_eq_true rfl) dX12_splits_69 ⟨Nat.le_refl _, Nat.le_refl _⟩ (fun v34 H locs hw33 hP hS => ?_)
                    refine k_top (z := 0) ((hw33.2).elim (fun q => absurd ((isD_f hkk25.2).symm.trans q.2) (by decide)) (fun q => q.1)) ?_
                    refine lv_if_eq (tgt := 100) hx hb dX12_splits_72 (by decide) (fun c37 => ?_) (fun c37 => ?_)
                    · have henT : enT (a 11) S kk = ee := by unfold enT; rw [if_pos (show isS (a 11 kk) = true from by rw [← hby]; exact hkk25.2)]; exact hen
                      have htoo : y27.toInt = ((ee : Nat) : Int) := by exact hvlp28_0.1
                      have hgl : kk < ee ∧ ee ≤ S := by have w1 := hvlp28_0; omega
                      refine lv_aload_n hx hb dX12_splits_100 rfl (lv_at hl 3 rfl) ?_
                      refine va_get (D := D) (ci := 12) (v := .ref (r 17)) (C := RX12) (T := TX12) (N := 48) hx hb hg inC12 hown hK hP 0 rfl rfl 17 (by decide) (hg _ wt5_177) (fun _ h9 => h9) rfl dX12_splits_101 ?_
                      refine lv_aload_n hx hb dX12_splits_104 rfl (lv_at hl 3 rfl) ?_
                      refine va_get (D := D) (ci := 12) (v := .int (F3 18)) (C := RX12) (T := TX12) (N := 48) hx hb hg inC12 hown hK hP 0 rfl rfl 18 (by decide) (hg _ wt5_178) (fun _ h9 => h9) rfl dX12_splits_105 ?_
                      refine k_top (z := tk) etk.symm ?_
                      refine lv_iload_n hx hb dX12_splits_108 rfl (lv_at hl 2 rfl) ?_
                      refine va_iast hx hb hK hP hD hS 11 0 rfl rfl (kb_in b8 (by decide) (by decide)) dX12_splits_109 (fun H locs hP hD hS => ?_)
                      have hP : va_P D vwCl (mW K o r F3 (va_up B4 17 (upd (B4 17) tk.toNatClampNeg y2)) g) H := hP
                      have hD : va_D A (mW K o r F3 (va_up B4 17 (upd (B4 17) tk.toNatClampNeg y2)) g) := hD
                      refine k_gen (P := fun z => va_P D vwCl (mW K o r F3 z g) H ∧ va_D A (mW K o r F3 z g) ∧ (mI F3 z) ∧ (mE (XR []) f a F3 z) ∧ (mZ [18] [15, 16, 17] f a F3 z) ∧ (fE [18] f F3) ∧ (sPre (a 11) S ta z)) (va_up B4 17 (upd (B4 17) tk.toNatClampNeg y2)) ⟨hP, hD, (mI_s hI (aI_sx hI.2.1 17 0 401 b8 (by decide) (by decide) b17 (by decide +kernel)) (by decide) (by decide)), (mE_s hE (by decide) (by decide) (by decide) (by decide)), (mZ_a hZ rfl), hk0, (sPre_st hk1 (by rw [cl_nat htk]; exact Nat.le_refl ta))⟩ (fun a_38 ea_38 hq => ?_)
                      obtain ⟨hP, hD, hI, hE, hZ, hk0, hk1⟩ := hq
                      refine lv_aload_n hx hb dX12_splits_110 rfl (lv_at hl 3 rfl) ?_
                      refine va_get (D := D) (ci := 12) (v := .ref (r 16)) (C := RX12) (T := TX12) (N := 48) hx hb hg inC12 hown hK hP 0 rfl rfl 16 (by decide) (hg _ wt5_176) (fun _ h9 => h9) rfl dX12_splits_111 ?_
                      refine lv_aload_n hx hb dX12_splits_114 rfl (lv_at hl 3 rfl) ?_
                      refine va_get (D := D) (ci := 12) (v := .int (F3 18)) (C := RX12) (T := TX12) (N := 48) hx hb hg inC12 hown hK hP 0 rfl rfl 18 (by decide) (hg _ wt5_178) (fun _ h9 => h9) rfl dX12_splits_115 ?_
                      refine k_top (z := tk) etk.symm ?_
                      refine lv_iconst (v := 0) hx hb dX12_splits_118 (by decide) ?_
                      refine va_iast hx hb hK hP hD hS 10 0 rfl rfl (kb_in b8 (by decide) (by decide)) dX12_splits_119 (fun H locs hP hD hS => ?_)
                      have hP : va_P D vwCl (mW K o r F3 (va_up a_38 16 (upd (a_38 16) tk.toNatClampNeg 0)) g) H := hP
                      have hD : va_D A (mW K o r F3 (va_up a_38 16 (upd (a_38 16) tk.toNatClampNeg 0)) g) := hD
                      refine k_gen (P := fun z => va_P D vwCl (mW K o r F3 z g) H ∧ va_D A (mW K o r F3 z g) ∧ (mI F3 z) ∧ (mE (XR []) f a F3 z) ∧ (mZ [18] [15, 16, 17] f a F3 z) ∧ (fE [18] f F3) ∧ (sPre (a 11) S ta z)) (va_up a_38 16 (upd (a_38 16) tk.toNatClampNeg 0)) ⟨hP, hD, (mI_s hI (aI_free hI.2.1 16 _ (fun j => ⟨by show (mBa 16 j).1 ≤ _; exact Int.le_refl _, by show _ ≤ (mBa 16 j).2; exact Int.le_refl _⟩)) (by decide) (by decide)), (mE_s hE (by decide) (by decide) (by decide) (by decide)), (mZ_a hZ rfl), hk0, (sPre_st hk1 (by rw [cl_nat htk]; exact Nat.le_refl ta))⟩ (fun a_39 ea_39 hq => ?_)
                      obtain ⟨hP, hD, hI, hE, hZ, hk0, hk1⟩ := hq
                      refine lv_aload_n hx hb dX12_splits_120 rfl (lv_at hl 3 rfl) ?_
                      refine va_get (D := D) (ci := 12) (v := .ref (r 15)) (C := RX12) (T := TX12) (N := 48) hx hb hg inC12 hown hK hP 0 rfl rfl 15 (by decide) (hg _ wt5_175) (fun _ h9 => h9) rfl dX12_splits_121 ?_
                      refine lv_aload_n hx hb dX12_splits_124 rfl (lv_at hl 3 rfl) ?_
                      refine va_get (D := D) (ci := 12) (v := .int (F3 18)) (C := RX12) (T := TX12) (N := 48) hx hb hg inC12 hown hK hP 0 rfl rfl 18 (by decide) (hg _ wt5_178) (fun _ h9 => h9) rfl dX12_splits_125 ?_
                      refine k_top (z := tk) etk.symm ?_
                      refine lv_iload_n hx hb dX12_splits_128 rfl (lv_at hl 1 rfl) ?_
                      refine kN.callS (As := [.int t18]) (rest := [.int tk, .ref (r 15)]) ⟨hx, hb, hml, hown, hg⟩ (q_isSmall l t18 ) (va_cwS 1 hg (kgS wt6_181 wt6_182 wt1_14 wt6_183) rfl rfl rfl (by decide +kernel) ⟨by decide, by decide⟩) hP hS rfl hl.1 rfl (Nat.le_of_ble_eq_true rfl) dX12_splits_129 ⟨Nat.le_refl _, Nat.le_refl _⟩ (fun v41 H locs hw40 hP hS => ?_)
                      refine k_top (z := 1) ((hw40.2).elim (fun q => q.1) (fun q => absurd (hkk25.2.symm.trans q.2) (by decide))) ?_
                      refine lv_if_eq (tgt := 145) hx hb dX12_splits_132 (by decide) (fun c44 => ?_) (fun c44 => ?_)
                      · exact kb_dj c44 kc_1 kc_0 (by decide)
                      · refine lv_aload_n hx hb dX12_splits_135 rfl (lv_at hl 3 rfl) ?_
                        refine lv_iload_n hx hb dX12_splits_136 rfl (lv_at hl 2 rfl) ?_
                        refine lv_iload hx hb dX12_splits_137 (lv_at hl 0 rfl) ?_
                        refine kI.callV (As := [.int y2, .int y27]) (rest := [.int tk, .ref (r 15)]) ⟨hx, hb, hml, hown, hg⟩ (q_wordOf l o r F3 a_39 g hI y2 y27 (kb_w b17 (by decide) (by decide)) (kb_w b30 (by decide) (by decide)) kk (ee) hkk htoo (by omega)) (cwV 2 hg (kgV wt6_187 wt6_189 wp4_3 wt1_14 wt6_190) rfl rfl rfl (by decide +kernel) ⟨by decide, by decide⟩) hK hP hD hS hA mIs [] rfl (wr := []) rfl rfl rfl (fun i h => by cases h) 0 12 rfl rfl rfl hl.1 rfl (Nat.le_of_ble_eq_true rfl) dX12_splits_139 ⟨Nat.le_refl _, Nat.le_refl _⟩ (fun v46 u47 H locs hw45 hP hD hS => ?_)
                        have hP : va_P D vwCl (mW K o r F3 a_39 g) H := hP
                        have hD : va_D A (mW K o r F3 a_39 g) := hD
                        have hwo : (∃ q, q < 28 ∧ dcR.getD q [] = slT (a 11) kk (ee) ∧ v46.toInt = (q : Int) + 1) ∨ (v46 = 0 ∧ ∀ q < 28, ¬ dcR.getD q [] = slT (a 11) kk (ee)) := by have w1 := hw45.2; rw [hE.2.1] at w1; exact w1
                        refine lv_goto (tgt := 165) hx hb dX12_splits_142 (by decide) ?_
                        refine va_iast hx hb hK hP hD hS 9 0 rfl rfl (kb_in b8 (by decide) (by decide)) dX12_splits_165 (fun H locs hP hD hS => ?_)
                        have hP : va_P D vwCl (mW K o r F3 (va_up a_39 15 (upd (a_39 15) tk.toNatClampNeg v46)) g) H := hP
                        have hD : va_D A (mW K o r F3 (va_up a_39 15 (upd (a_39 15) tk.toNatClampNeg v46)) g) := hD
                        refine k_gen (P := fun z => va_P D vwCl (mW K o r F3 z g) H ∧ va_D A (mW K o r F3 z g) ∧ (mI F3 z) ∧ (mE (XR []) f a F3 z) ∧ (mZ [18] [15, 16, 17] f a F3 z) ∧ (fE [18] f F3) ∧ (sPre (a 11) S ta z)) (va_up a_39 15 (upd (a_39 15) tk.toNatClampNeg v46)) ⟨hP, hD, (mI_s hI (aI_free hI.2.1 15 _ (fun j => ⟨by show (mBa 15 j).1 ≤ _; exact Int.le_refl _, by show _ ≤ (mBa 15 j).2; exact Int.le_refl _⟩)) (by decide) (by decide)), (mE_s hE (by decide) (by decide) (by decide) (by decide)), (mZ_a hZ rfl), hk0, (sPre_st hk1 (by rw [cl_nat htk]; exact Nat.le_refl ta))⟩ (fun a_48 ea_48 hq => ?_)
                        obtain ⟨hP, hD, hI, hE, hZ, hk0, hk1⟩ := hq
                        refine lv_iload_n hx hb dX12_splits_166 rfl (lv_at hl 2 rfl) ?_
                        refine lv_istore (lv' := [(5, .int y2), (4, .int y27), (3, .int t18), (2, .int y2), (0, .ref o), (1, .int x)]) hx hb dX12_splits_167 hl (by decide) rfl (fun ls hl => ?_)
                        have h15 : a_48 15 ta = v46 := by rw [← cl_nat htk]; exact (show a_48 15 tk.toNatClampNeg = v46 from by rw [← ea_48]; exact (pk_us (f := a_39 15) (k := tk.toNatClampNeg) (x := v46)))
                        have h16 : a_48 16 ta = 0 := by rw [← cl_nat htk]; exact ((show a_48 16 tk.toNatClampNeg = a_39 16 tk.toNatClampNeg from by rw [← ea_48]; rfl).trans (show a_39 16 tk.toNatClampNeg = 0 from by rw [← ea_39]; exact (pk_us (f := a_38 16) (k := tk.toNatClampNeg) (x := 0))))
                        have h17 : a_48 17 ta = y2 := by rw [← cl_nat htk]; exact ((show a_48 17 tk.toNatClampNeg = a_39 17 tk.toNatClampNeg from by rw [← ea_48]; rfl).trans ((show a_39 17 tk.toNatClampNeg = a_38 17 tk.toNatClampNeg from by rw [← ea_39]; rfl).trans (show a_38 17 tk.toNatClampNeg = y2 from by rw [← ea_38]; exact (pk_us (f := B4 17) (k := tk.toNatClampNeg) (x := y2)))))
                        have lp51 : ∀ (n52 : Nat) (ii : Nat) (B50 : Nat → Nat → Int32) (H : Heap) (locs : List Loc) (ls : Array Slot) (y49 : Int32), (400 < y49.toInt + (n52 : Int)) → (mI F3 B50) → (mE (XR []) f a F3 B50) → (mZ [18] [15, 16, 17] f a F3 B50) → (fE [18] f F3) → (sPre (a 11) S ta B50) → (kb 0 y49 400) → (B50 15 = a_48 15 ∧ B50 16 = a_48 16 ∧ B50 17 = a_48 17) → va_P D vwCl (mW K o r F3 B50 g) H → va_D A (mW K o r F3 B50 g) → va_S A s.heap H locs → lv_has ls 6 [(5, .int y49), (4, .int y27), (3, .int t18), (2, .int y2), (0, .ref o), (1, .int x)] → W p l e (rmD 2 0 0) s m ([.ref o, .int x] : List Value).toArray below meth c H locs 0 0 (kQv D (tysK K) (fun (u : mS) => mI u.1 u.2.1 ∧ mE (XR []) f a u.1 u.2.1 ∧ fE [18] f u.1 ∧ (∃ N : Nat, (u.1 18).toInt = (N : Int) ∧ N ≤ 400 ∧ u.2.1 15 N = 0 ∧ spR (a 11) S N u.2.1) ∧ mZ [18] [15, 16, 17] f a u.1 u.2.1) (fun u => mW K o r u.1 u.2.1 u.2.2) A below ([.ref o, .int x] : List Value).toArray s 0 0) (F0 m 169 ls []) := by
                          intro n52
                          induction n52 with
                          | zero =>
                            intro ii B50  H locs ls y49 hmlp51 hI hE hZ hk0 hk1 b53 hvlp51_0 hP hD hS hl
                            exact (by have h1 := b53.2; have h2 := hmlp51; omega : False).elim
                          | succ n52 ihlp51 =>
                            intro ii B50  H locs ls y49 hmlp51 hI hE hZ hk0 hk1 b53 hvlp51_0 hP hD hS hl
                            refine lv_iload hx hb dX12_splits_169 (lv_at hl 0 rfl) ?_
                            refine lv_iload hx hb dX12_splits_171 (lv_at hl 1 rfl) ?_
                            refine lv_icmp_ge (tgt := 247) hx hb dX12_splits_173 (by decide) (fun c54 => ?_) (fun c54 => ?_)
                            · have h55 := (kc_le c54)
                              have b56 : kb 1 y49 400 := kr_le2 h55 b30 b53
                              refine lv_aload_n hx hb dX12_splits_247 rfl (lv_at hl 4 rfl) ?_
                              refine lv_dup hx hb dX12_splits_248 rfl ?_
                              refine va_get (D := D) (ci := 12) (v := .int (F3 18)) (C := RX12) (T := TX12) (N := 48) hx hb hg inC12 hown hK hP 0 rfl rfl 18 (by decide) (hg _ wt5_178) (fun _ h9 => h9) rfl dX12_splits_249 ?_
                              refine k_top (z := tk) etk.symm ?_
                              have b57 : kb 0 tk 399 := ⟨(b8).1, by have w1 := htk; have w2 := hvlp5_1; have w3 := bx.2; have w4 := hp0; omega⟩
                              refine lv_iconst (v := 1) hx hb dX12_splits_252 (by decide) ?_
                              refine lv_iadd hx hb dX12_splits_253 ?_
                              refine lv_topi (fun t58 et58 => ?_)
                              have b59 : kb 1 t58 400 := kb_eq et58 (kb_add b57 kc_1 (by decide) (by decide))
                              have qt58 : t58.toInt = tk.toInt + 1 := by rw [et58]; exact kt_addc b57 kc_1 (by decide) (by decide)
                              refine va_put (D := D) (ci := 12) (v := .int t58) (ty := .int) (C := RX12) (T := TX12) (N := 48) hx hb hg inC12 tyX12 tyX12_ok nmX12 hown hK hP hD hS 0 rfl rfl 18 (by decide) (hg _ wt5_178) (fun _ h9 => h9) rfl (by decide +kernel) rfl rfl (Nat.le_of_ble_eq_true rfl) dX12_splits_254 (fun H locs hP hD hS => ?_)
                              have hP : va_P D vwCl (mW K o r (upd F3 18 t58) B50 g) H := hP
                              have hD : va_D A (mW K o r (upd F3 18 t58) B50 g) := hD
                              refine k_gen (P := fun z => va_P D vwCl (mW K o r z B50 g) H ∧ va_D A (mW K o r z B50 g) ∧ (mI z B50) ∧ (mE (XR []) f a z B50) ∧ (mZ [18] [15, 16, 17] f a z B50) ∧ (fE [18] f z) ∧ (sPre (a 11) S ta B50)) (upd F3 18 t58) ⟨hP, hD, (mI_f hI (fI_st hI.1 18 b59 (by decide) (by decide))), (mE_f hE (by decide)), (mZ_f hZ rfl), (fE_f hk0 (by decide)), hk1⟩ (fun f_60 ef_60 hq => ?_)
                              obtain ⟨hP, hD, hI, hE, hZ, hk0, hk1⟩ := hq
                              refine lv_iload hx hb dX12_splits_257 (lv_at hl 1 rfl) ?_
                              refine lv_istore_n (lv' := [(2, .int y27), (5, .int y49), (4, .int y27), (3, .int t18), (0, .ref o), (1, .int x)]) hx hb dX12_splits_259 rfl hl (by decide) rfl (fun ls hl => ?_)
                              refine lv_goto (tgt := 7) hx hb dX12_splits_260 (by decide) ?_
                              exact ihlp5 (ee) (ta + 1) f_60 B50 _ _ _ y27 (by omega) hI hE hZ hk0 (kb_w b30 (by decide) (by decide)) (⟨htoo, hgl.2⟩) (⟨by rw [(show f_60 18 = t58 from by rw [← ef_60]; rfl)]; have w1 := qt58; omega, by have w1 := hvlp5_1.2; omega⟩) ((plT_s (by rw [hpl]; exact hkS)).trans (by rw [hpl, henT])) (sPre_add hk1 (by rw [hpl]; exact hkS) (by rw [tkT_l (by rw [hpl]; exact hkS), hpl]; exact (by rw [(congrFun hvlp51_0.1 ta).trans h15]; exact tok_w (show isS (a 11 kk) = true from by rw [← hby]; exact hkk25.2) henT hwo)) (by unfold pcT; rw [hpl, (congrFun hvlp51_0.2.2 ta).trans h17]; exact pc_of hkk (by have w1 := bx.2; have w2 := hp0; omega))) hP hD hS (lv_sub hl [0, 4, 5] rfl)
                            · have h61 := (kc_nle c54)
                              have b62 : kb 0 y49 399 := kr_lt1 h61 b53 b30 (by decide)
                              refine lv_iload_n hx hb dX12_splits_176 rfl (lv_at hl 2 rfl) ?_
                              refine kN.callS (As := [.int t18]) (rest := []) ⟨hx, hb, hml, hown, hg⟩ (q_isDigit l t18 ) (va_cwS 1 hg (kgS wt6_184 wt6_185 wt1_14 wt6_186) rfl rfl rfl (by decide +kernel) ⟨by decide, by decide⟩) hP hS rfl hl.1 rfl (Nat.le_of_ble_eq_true rfl) dX12_splits_177 ⟨Nat.le_refl _, Nat.le_refl _⟩ (fun v64 H locs hw63 hP hS => ?_)
                              refine k_top (z := 0) ((hw63.2).elim (fun q => absurd ((isD_f hkk25.2).symm.trans q.2) (by decide)) (fun q => q.1)) ?_
                              refine lv_if_eq (tgt := 247) hx hb dX12_splits_180 (by decide) (fun c67 => ?_) (fun c67 => ?_)
                              · refine lv_aload_n hx hb dX12_splits_247 rfl (lv_at hl 4 rfl) ?_
                                refine lv_dup hx hb dX12_splits_248 rfl ?_
                                refine va_get (D := D) (ci := 12) (v := .int (F3 18)) (C := RX12) (T := TX12) (N := 48) hx hb hg inC12 hown hK hP 0 rfl rfl 18 (by decide) (hg _ wt5_178) (fun _ h9 => h9) rfl dX12_splits_249 ?_
                                refine k_top (z := tk) etk.symm ?_
                                have b68 : kb 0 tk 399 := ⟨(b8).1, by have w1 := htk; have w2 := hvlp5_1; have w3 := bx.2; have w4 := hp0; omega⟩
                                refine lv_iconst (v := 1) hx hb dX12_splits_252 (by decide) ?_
                                refine lv_iadd hx hb dX12_splits_253 ?_
                                refine lv_topi (fun t69 et69 => ?_)
                                have b70 : kb 1 t69 400 := kb_eq et69 (kb_add b68 kc_1 (by decide) (by decide))
                                have qt69 : t69.toInt = tk.toInt + 1 := by rw [et69]; exact kt_addc b68 kc_1 (by decide) (by decide)
                                refine va_put (D := D) (ci := 12) (v := .int t69) (ty := .int) (C := RX12) (T := TX12) (N := 48) hx hb hg inC12 tyX12 tyX12_ok nmX12 hown hK hP hD hS 0 rfl rfl 18 (by decide) (hg _ wt5_178) (fun _ h9 => h9) rfl (by decide +kernel) rfl rfl (Nat.le_of_ble_eq_true rfl) dX12_splits_254 (fun H locs hP hD hS => ?_)
                                have hP : va_P D vwCl (mW K o r (upd F3 18 t69) B50 g) H := hP
                                have hD : va_D A (mW K o r (upd F3 18 t69) B50 g) := hD
                                refine k_gen (P := fun z => va_P D vwCl (mW K o r z B50 g) H ∧ va_D A (mW K o r z B50 g) ∧ (mI z B50) ∧ (mE (XR []) f a z B50) ∧ (mZ [18] [15, 16, 17] f a z B50) ∧ (fE [18] f z) ∧ (sPre (a 11) S ta B50)) (upd F3 18 t69) ⟨hP, hD, (mI_f hI (fI_st hI.1 18 b70 (by decide) (by decide))), (mE_f hE (by decide)), (mZ_f hZ rfl), (fE_f hk0 (by decide)), hk1⟩ (fun f_71 ef_71 hq => ?_)
                                obtain ⟨hP, hD, hI, hE, hZ, hk0, hk1⟩ := hq
                                refine lv_iload hx hb dX12_splits_257 (lv_at hl 1 rfl) ?_
                                refine lv_istore_n (lv' := [(2, .int y27), (5, .int y49), (4, .int y27), (3, .int t18), (0, .ref o), (1, .int x)]) hx hb dX12_splits_259 rfl hl (by decide) rfl (fun ls hl => ?_)
                                refine lv_goto (tgt := 7) hx hb dX12_splits_260 (by decide) ?_
                                exact ihlp5 (ee) (ta + 1) f_71 B50 _ _ _ y27 (by omega) hI hE hZ hk0 (kb_w b30 (by decide) (by decide)) (⟨htoo, hgl.2⟩) (⟨by rw [(show f_71 18 = t69 from by rw [← ef_71]; rfl)]; have w1 := qt69; omega, by have w1 := hvlp5_1.2; omega⟩) ((plT_s (by rw [hpl]; exact hkS)).trans (by rw [hpl, henT])) (sPre_add hk1 (by rw [hpl]; exact hkS) (by rw [tkT_l (by rw [hpl]; exact hkS), hpl]; exact (by rw [(congrFun hvlp51_0.1 ta).trans h15]; exact tok_w (show isS (a 11 kk) = true from by rw [← hby]; exact hkk25.2) henT hwo)) (by unfold pcT; rw [hpl, (congrFun hvlp51_0.2.2 ta).trans h17]; exact pc_of hkk (by have w1 := bx.2; have w2 := hp0; omega))) hP hD hS (lv_sub hl [0, 4, 5] rfl)
                              · exact kb_nsame c67 kc_0 kc_0
                        exact lp51 (401) kk a_48 _ _ _ y2 (by have h1 := (b17); unfold kb at h1; omega) hI hE hZ hk0 hk1 (kb_w b17 (by decide) (by decide)) (⟨rfl, rfl, rfl⟩) hP hD hS (lv_sub hl [0, 1, 2, 3, 4, 5] rfl)
                    · exact kb_nsame c37 kc_0 kc_0
                  · have h72 := (kc_nle c31)
                    have b73 : kb 1 y27 399 := kr_lt1 h72 b30 b16 (by decide)
                    have b74 : kb 2 x 400 := kr_lt2 h72 b30 b16 (by decide)
                    have heS : ee < S := by have w1 := kc_nle c31; have w2 := hp0; have w3 := hvlp28_0.1; omega
                    have b75 : kb 1 y27 399 := ⟨by have w1 := hvlp28_0; omega, by have w1 := bx.2; have w2 := hp0; have w3 := hvlp28_0.1; omega⟩
                    refine lv_aload_n hx hb dX12_splits_49 rfl (lv_at hl 3 rfl) ?_
                    refine va_get (D := D) (ci := 12) (v := .ref (r 11)) (C := RX12) (T := TX12) (N := 48) hx hb hg inC12 hown hK hP 0 rfl rfl 11 (by decide) (hg _ wt5_171) (fun _ h9 => h9) rfl dX12_splits_50 ?_
                    refine lv_iload hx hb dX12_splits_53 (lv_at hl 0 rfl) ?_
                    refine va_bald hx hb hK hP 7 1 rfl rfl (kb_in b75 (by decide) (by decide)) dX12_splits_55 ?_
                    refine lv_topi (fun t76 et76 => ?_)
                    have he1 : t76 = a 11 ee := et76.trans ((congrFun hE.2.1 _).trans (congrArg (a 11) (cl_nat hvlp28_0.1)))
                    refine kN.callS (As := [.int t76]) (rest := []) ⟨hx, hb, hml, hown, hg⟩ (q_isSmall l t76 ) (va_cwS 1 hg (kgS wt6_181 wt6_182 wt1_14 wt6_183) rfl rfl rfl (by decide +kernel) ⟨by decide, by decide⟩) hP hS rfl hl.1 rfl (Nat.le_of_ble_eq_true rfl) dX12_splits_56 ⟨Nat.le_refl _, Nat.le_refl _⟩ (fun v78 H locs hw77 hP hS => ?_)
                    rcases hw77.2 with hkk80 | hkk80
                    · refine k_top (z := 1) hkk80.1 ?_
                      refine lv_if_eq (tgt := 68) hx hb dX12_splits_59 (by decide) (fun c81 => ?_) (fun c81 => ?_)
                      · exact kb_dj c81 kc_1 kc_0 (by decide)
                      · obtain ⟨t82, et82⟩ : ∃ z : Int32, z = y27 + Int32.ofInt 1 := ⟨_, rfl⟩
                        have qt82 : t82.toInt = y27.toInt + 1 := by rw [et82]; exact km_inc b75 (by decide) (by decide)
                        have b83 : kb 2 t82 400 := kb_inc (k := 1) qt82 b75
                        refine lv_iinc (v := t82) (lv' := [(4, .int t82), (3, .int t18), (2, .int y2), (0, .ref o), (1, .int x)]) hx hb dX12_splits_62 hl (k := 0) rfl et82.symm (by decide) rfl (fun ls hl => ?_)
                        refine lv_goto (tgt := 43) hx hb dX12_splits_65 (by decide) ?_
                        exact ihlp28 (ee + 1) _ _ _ t82 (km_up hmlp28 qt82) (kb_w b83 (by decide) (by decide)) (⟨by have w1 := hvlp28_0.1; omega, by have w1 := hvlp28_0.2.1; omega, heS, hvlp28_0.2.2.2.1.trans (rn_y heS (by rw [← he1]; exact hkk80.2)), fun j h1 h2 => by by_cases w1 : j = ee; (rw [w1, ← he1]; exact hkk80.2); exact hvlp28_0.2.2.2.2 j h1 (by omega)⟩) hP hD hS (lv_sub hl [0, 1, 2, 3, 4] rfl)
                    · refine k_top (z := 0) hkk80.1 ?_
                      refine lv_if_eq (tgt := 68) hx hb dX12_splits_59 (by decide) (fun c84 => ?_) (fun c84 => ?_)
                      · have hen : rn isS (a 11) S (kk + 1) = ee := hvlp28_0.2.2.2.1.trans (rn_n heS (by rw [← he1, hkk80.2]; decide))
                        refine lv_iload_n hx hb dX12_splits_68 rfl (lv_at hl 1 rfl) ?_
                        refine kN.callS (As := [.int t18]) (rest := []) ⟨hx, hb, hml, hown, hg⟩ (q_isDigit l t18 ) (va_cwS 1 hg (kgS wt6_184 wt6_185 wt1_14 wt6_186) rfl rfl rfl (by decide +kernel) ⟨by decide, by decide⟩) hP hS rfl hl.1 rfl (Nat.le_of_ble_eq_true rfl) dX12_splits_69 ⟨Nat.le_refl _, Nat.le_refl _⟩ (fun v86 H locs hw85 hP hS => ?_)
                        refine k_top (z := 0) ((hw85.2).elim (fun q => absurd ((isD_f hkk25.2).symm.trans q.2) (by decide)) (fun q => q.1)) ?_
                        refine lv_if_eq (tgt := 100) hx hb dX12_splits_72 (by decide) (fun c89 => ?_) (fun c89 => ?_)
                        · have henT : enT (a 11) S kk = ee := by unfold enT; rw [if_pos (show isS (a 11 kk) = true from by rw [← hby]; exact hkk25.2)]; exact hen
                          have htoo : y27.toInt = ((ee : Nat) : Int) := by exact hvlp28_0.1
                          have hgl : kk < ee ∧ ee ≤ S := by have w1 := hvlp28_0; omega
                          refine lv_aload_n hx hb dX12_splits_100 rfl (lv_at hl 3 rfl) ?_
                          refine va_get (D := D) (ci := 12) (v := .ref (r 17)) (C := RX12) (T := TX12) (N := 48) hx hb hg inC12 hown hK hP 0 rfl rfl 17 (by decide) (hg _ wt5_177) (fun _ h9 => h9) rfl dX12_splits_101 ?_
                          refine lv_aload_n hx hb dX12_splits_104 rfl (lv_at hl 3 rfl) ?_
                          refine va_get (D := D) (ci := 12) (v := .int (F3 18)) (C := RX12) (T := TX12) (N := 48) hx hb hg inC12 hown hK hP 0 rfl rfl 18 (by decide) (hg _ wt5_178) (fun _ h9 => h9) rfl dX12_splits_105 ?_
                          refine k_top (z := tk) etk.symm ?_
                          refine lv_iload_n hx hb dX12_splits_108 rfl (lv_at hl 2 rfl) ?_
                          refine va_iast hx hb hK hP hD hS 11 0 rfl rfl (kb_in b8 (by decide) (by decide)) dX12_splits_109 (fun H locs hP hD hS => ?_)
                          have hP : va_P D vwCl (mW K o r F3 (va_up B4 17 (upd (B4 17) tk.toNatClampNeg y2)) g) H := hP
                          have hD : va_D A (mW K o r F3 (va_up B4 17 (upd (B4 17) tk.toNatClampNeg y2)) g) := hD
                          refine k_gen (P := fun z => va_P D vwCl (mW K o r F3 z g) H ∧ va_D A (mW K o r F3 z g) ∧ (mI F3 z) ∧ (mE (XR []) f a F3 z) ∧ (mZ [18] [15, 16, 17] f a F3 z) ∧ (fE [18] f F3) ∧ (sPre (a 11) S ta z)) (va_up B4 17 (upd (B4 17) tk.toNatClampNeg y2)) ⟨hP, hD, (mI_s hI (aI_sx hI.2.1 17 0 401 b8 (by decide) (by decide) b17 (by decide +kernel)) (by decide) (by decide)), (mE_s hE (by decide) (by decide) (by decide) (by decide)), (mZ_a hZ rfl), hk0, (sPre_st hk1 (by rw [cl_nat htk]; exact Nat.le_refl ta))⟩ (fun a_90 ea_90 hq => ?_)
                          obtain ⟨hP, hD, hI, hE, hZ, hk0, hk1⟩ := hq
                          refine lv_aload_n hx hb dX12_splits_110 rfl (lv_at hl 3 rfl) ?_
                          refine va_get (D := D) (ci := 12) (v := .ref (r 16)) (C := RX12) (T := TX12) (N := 48) hx hb hg inC12 hown hK hP 0 rfl rfl 16 (by decide) (hg _ wt5_176) (fun _ h9 => h9) rfl dX12_splits_111 ?_
                          refine lv_aload_n hx hb dX12_splits_114 rfl (lv_at hl 3 rfl) ?_
                          refine va_get (D := D) (ci := 12) (v := .int (F3 18)) (C := RX12) (T := TX12) (N := 48) hx hb hg inC12 hown hK hP 0 rfl rfl 18 (by decide) (hg _ wt5_178) (fun _ h9 => h9) rfl dX12_splits_115 ?_
                          refine k_top (z := tk) etk.symm ?_
                          refine lv_iconst (v := 0) hx hb dX12_splits_118 (by decide) ?_
                          refine va_iast hx hb hK hP hD hS 10 0 rfl rfl (kb_in b8 (by decide) (by decide)) dX12_splits_119 (fun H locs hP hD hS => ?_)
                          have hP : va_P D vwCl (mW K o r F3 (va_up a_90 16 (upd (a_90 16) tk.toNatClampNeg 0)) g) H := hP
                          have hD : va_D A (mW K o r F3 (va_up a_90 16 (upd (a_90 16) tk.toNatClampNeg 0)) g) := hD
                          refine k_gen (P := fun z => va_P D vwCl (mW K o r F3 z g) H ∧ va_D A (mW K o r F3 z g) ∧ (mI F3 z) ∧ (mE (XR []) f a F3 z) ∧ (mZ [18] [15, 16, 17] f a F3 z) ∧ (fE [18] f F3) ∧ (sPre (a 11) S ta z)) (va_up a_90 16 (upd (a_90 16) tk.toNatClampNeg 0)) ⟨hP, hD, (mI_s hI (aI_free hI.2.1 16 _ (fun j => ⟨by show (mBa 16 j).1 ≤ _; exact Int.le_refl _, by show _ ≤ (mBa 16 j).2; exact Int.le_refl _⟩)) (by decide) (by decide)), (mE_s hE (by decide) (by decide) (by decide) (by decide)), (mZ_a hZ rfl), hk0, (sPre_st hk1 (by rw [cl_nat htk]; exact Nat.le_refl ta))⟩ (fun a_91 ea_91 hq => ?_)
                          obtain ⟨hP, hD, hI, hE, hZ, hk0, hk1⟩ := hq
                          refine lv_aload_n hx hb dX12_splits_120 rfl (lv_at hl 3 rfl) ?_
                          refine va_get (D := D) (ci := 12) (v := .ref (r 15)) (C := RX12) (T := TX12) (N := 48) hx hb hg inC12 hown hK hP 0 rfl rfl 15 (by decide) (hg _ wt5_175) (fun _ h9 => h9) rfl dX12_splits_121 ?_
                          refine lv_aload_n hx hb dX12_splits_124 rfl (lv_at hl 3 rfl) ?_
                          refine va_get (D := D) (ci := 12) (v := .int (F3 18)) (C := RX12) (T := TX12) (N := 48) hx hb hg inC12 hown hK hP 0 rfl rfl 18 (by decide) (hg _ wt5_178) (fun _ h9 => h9) rfl dX12_splits_125 ?_
                          refine k_top (z := tk) etk.symm ?_
                          refine lv_iload_n hx hb dX12_splits_128 rfl (lv_at hl 1 rfl) ?_
                          refine kN.callS (As := [.int t18]) (rest := [.int tk, .ref (r 15)]) ⟨hx, hb, hml, hown, hg⟩ (q_isSmall l t18 ) (va_cwS 1 hg (kgS wt6_181 wt6_182 wt1_14 wt6_183) rfl rfl rfl (by decide +kernel) ⟨by decide, by decide⟩) hP hS rfl hl.1 rfl (Nat.le_of_ble_eq_true rfl) dX12_splits_129 ⟨Nat.le_refl _, Nat.le_refl _⟩ (fun v93 H locs hw92 hP hS => ?_)
                          refine k_top (z := 1) ((hw92.2).elim (fun q => q.1) (fun q => absurd (hkk25.2.symm.trans q.2) (by decide))) ?_
                          refine lv_if_eq (tgt := 145) hx hb dX12_splits_132 (by decide) (fun c96 => ?_) (fun c96 => ?_)
                          · exact kb_dj c96 kc_1 kc_0 (by decide)
                          · refine lv_aload_n hx hb dX12_splits_135 rfl (lv_at hl 3 rfl) ?_
                            refine lv_iload_n hx hb dX12_splits_136 rfl (lv_at hl 2 rfl) ?_
                            refine lv_iload hx hb dX12_splits_137 (lv_at hl 0 rfl) ?_
                            refine kI.callV (As := [.int y2, .int y27]) (rest := [.int tk, .ref (r 15)]) ⟨hx, hb, hml, hown, hg⟩ (q_wordOf l o r F3 a_91 g hI y2 y27 (kb_w b17 (by decide) (by decide)) (kb_w b75 (by decide) (by decide)) kk (ee) hkk htoo (by omega)) (cwV 2 hg (kgV wt6_187 wt6_189 wp4_3 wt1_14 wt6_190) rfl rfl rfl (by decide +kernel) ⟨by decide, by decide⟩) hK hP hD hS hA mIs [] rfl (wr := []) rfl rfl rfl (fun i h => by cases h) 0 12 rfl rfl rfl hl.1 rfl (Nat.le_of_ble_eq_true rfl) dX12_splits_139 ⟨Nat.le_refl _, Nat.le_refl _⟩ (fun v98 u99 H locs hw97 hP hD hS => ?_)
                            have hP : va_P D vwCl (mW K o r F3 a_91 g) H := hP
                            have hD : va_D A (mW K o r F3 a_91 g) := hD
                            have hwo : (∃ q, q < 28 ∧ dcR.getD q [] = slT (a 11) kk (ee) ∧ v98.toInt = (q : Int) + 1) ∨ (v98 = 0 ∧ ∀ q < 28, ¬ dcR.getD q [] = slT (a 11) kk (ee)) := by have w1 := hw97.2; rw [hE.2.1] at w1; exact w1
                            refine lv_goto (tgt := 165) hx hb dX12_splits_142 (by decide) ?_
                            refine va_iast hx hb hK hP hD hS 9 0 rfl rfl (kb_in b8 (by decide) (by decide)) dX12_splits_165 (fun H locs hP hD hS => ?_)
                            have hP : va_P D vwCl (mW K o r F3 (va_up a_91 15 (upd (a_91 15) tk.toNatClampNeg v98)) g) H := hP
                            have hD : va_D A (mW K o r F3 (va_up a_91 15 (upd (a_91 15) tk.toNatClampNeg v98)) g) := hD
                            refine k_gen (P := fun z => va_P D vwCl (mW K o r F3 z g) H ∧ va_D A (mW K o r F3 z g) ∧ (mI F3 z) ∧ (mE (XR []) f a F3 z) ∧ (mZ [18] [15, 16, 17] f a F3 z) ∧ (fE [18] f F3) ∧ (sPre (a 11) S ta z)) (va_up a_91 15 (upd (a_91 15) tk.toNatClampNeg v98)) ⟨hP, hD, (mI_s hI (aI_free hI.2.1 15 _ (fun j => ⟨by show (mBa 15 j).1 ≤ _; exact Int.le_refl _, by show _ ≤ (mBa 15 j).2; exact Int.le_refl _⟩)) (by decide) (by decide)), (mE_s hE (by decide) (by decide) (by decide) (by decide)), (mZ_a hZ rfl), hk0, (sPre_st hk1 (by rw [cl_nat htk]; exact Nat.le_refl ta))⟩ (fun a_100 ea_100 hq => ?_)
                            obtain ⟨hP, hD, hI, hE, hZ, hk0, hk1⟩ := hq
                            refine lv_iload_n hx hb dX12_splits_166 rfl (lv_at hl 2 rfl) ?_
                            refine lv_istore (lv' := [(5, .int y2), (4, .int y27), (3, .int t18), (2, .int y2), (0, .ref o), (1, .int x)]) hx hb dX12_splits_167 hl (by decide) rfl (fun ls hl => ?_)
                            have h15 : a_100 15 ta = v98 := by rw [← cl_nat htk]; exact (show a_100 15 tk.toNatClampNeg = v98 from by rw [← ea_100]; exact (pk_us (f := a_91 15) (k := tk.toNatClampNeg) (x := v98)))
                            have h16 : a_100 16 ta = 0 := by rw [← cl_nat htk]; exact ((show a_100 16 tk.toNatClampNeg = a_91 16 tk.toNatClampNeg from by rw [← ea_100]; rfl).trans (show a_91 16 tk.toNatClampNeg = 0 from by rw [← ea_91]; exact (pk_us (f := a_90 16) (k := tk.toNatClampNeg) (x := 0))))
                            have h17 : a_100 17 ta = y2 := by rw [← cl_nat htk]; exact ((show a_100 17 tk.toNatClampNeg = a_91 17 tk.toNatClampNeg from by rw [← ea_100]; rfl).trans ((show a_91 17 tk.toNatClampNeg = a_90 17 tk.toNatClampNeg from by rw [← ea_91]; rfl).trans (show a_90 17 tk.toNatClampNeg = y2 from by rw [← ea_90]; exact (pk_us (f := B4 17) (k := tk.toNatClampNeg) (x := y2)))))
                            have lp103 : ∀ (n104 : Nat) (ii : Nat) (B102 : Nat → Nat → Int32) (H : Heap) (locs : List Loc) (ls : Array Slot) (y101 : Int32), (400 < y101.toInt + (n104 : Int)) → (mI F3 B102) → (mE (XR []) f a F3 B102) → (mZ [18] [15, 16, 17] f a F3 B102) → (fE [18] f F3) → (sPre (a 11) S ta B102) → (kb 0 y101 400) → (B102 15 = a_100 15 ∧ B102 16 = a_100 16 ∧ B102 17 = a_100 17) → va_P D vwCl (mW K o r F3 B102 g) H → va_D A (mW K o r F3 B102 g) → va_S A s.heap H locs → lv_has ls 6 [(5, .int y101), (4, .int y27), (3, .int t18), (2, .int y2), (0, .ref o), (1, .int x)] → W p l e (rmD 2 0 0) s m ([.ref o, .int x] : List Value).toArray below meth c H locs 0 0 (kQv D (tysK K) (fun (u : mS) => mI u.1 u.2.1 ∧ mE (XR []) f a u.1 u.2.1 ∧ fE [18] f u.1 ∧ (∃ N : Nat, (u.1 18).toInt = (N : Int) ∧ N ≤ 400 ∧ u.2.1 15 N = 0 ∧ spR (a 11) S N u.2.1) ∧ mZ [18] [15, 16, 17] f a u.1 u.2.1) (fun u => mW K o r u.1 u.2.1 u.2.2) A below ([.ref o, .int x] : List Value).toArray s 0 0) (F0 m 169 ls []) := by
                              intro n104
                              induction n104 with
                              | zero =>
                                intro ii B102  H locs ls y101 hmlp103 hI hE hZ hk0 hk1 b105 hvlp103_0 hP hD hS hl
                                exact (by have h1 := b105.2; have h2 := hmlp103; omega : False).elim
                              | succ n104 ihlp103 =>
                                intro ii B102  H locs ls y101 hmlp103 hI hE hZ hk0 hk1 b105 hvlp103_0 hP hD hS hl
                                refine lv_iload hx hb dX12_splits_169 (lv_at hl 0 rfl) ?_
                                refine lv_iload hx hb dX12_splits_171 (lv_at hl 1 rfl) ?_
                                refine lv_icmp_ge (tgt := 247) hx hb dX12_splits_173 (by decide) (fun c106 => ?_) (fun c106 => ?_)
                                · have h107 := (kc_le c106)
                                  have b108 : kb 1 y101 400 := kr_le2 h107 b75 b105
                                  refine lv_aload_n hx hb dX12_splits_247 rfl (lv_at hl 4 rfl) ?_
                                  refine lv_dup hx hb dX12_splits_248 rfl ?_
                                  refine va_get (D := D) (ci := 12) (v := .int (F3 18)) (C := RX12) (T := TX12) (N := 48) hx hb hg inC12 hown hK hP 0 rfl rfl 18 (by decide) (hg _ wt5_178) (fun _ h9 => h9) rfl dX12_splits_249 ?_
                                  refine k_top (z := tk) etk.symm ?_
                                  have b109 : kb 0 tk 399 := ⟨(b8).1, by have w1 := htk; have w2 := hvlp5_1; have w3 := bx.2; have w4 := hp0; omega⟩
                                  refine lv_iconst (v := 1) hx hb dX12_splits_252 (by decide) ?_
                                  refine lv_iadd hx hb dX12_splits_253 ?_
                                  refine lv_topi (fun t110 et110 => ?_)
                                  have b111 : kb 1 t110 400 := kb_eq et110 (kb_add b109 kc_1 (by decide) (by decide))
                                  have qt110 : t110.toInt = tk.toInt + 1 := by rw [et110]; exact kt_addc b109 kc_1 (by decide) (by decide)
                                  refine va_put (D := D) (ci := 12) (v := .int t110) (ty := .int) (C := RX12) (T := TX12) (N := 48) hx hb hg inC12 tyX12 tyX12_ok nmX12 hown hK hP hD hS 0 rfl rfl 18 (by decide) (hg _ wt5_178) (fun _ h9 => h9) rfl (by decide +kernel) rfl rfl (Nat.le_of_ble_eq_true rfl) dX12_splits_254 (fun H locs hP hD hS => ?_)
                                  have hP : va_P D vwCl (mW K o r (upd F3 18 t110) B102 g) H := hP
                                  have hD : va_D A (mW K o r (upd F3 18 t110) B102 g) := hD
                                  refine k_gen (P := fun z => va_P D vwCl (mW K o r z B102 g) H ∧ va_D A (mW K o r z B102 g) ∧ (mI z B102) ∧ (mE (XR []) f a z B102) ∧ (mZ [18] [15, 16, 17] f a z B102) ∧ (fE [18] f z) ∧ (sPre (a 11) S ta B102)) (upd F3 18 t110) ⟨hP, hD, (mI_f hI (fI_st hI.1 18 b111 (by decide) (by decide))), (mE_f hE (by decide)), (mZ_f hZ rfl), (fE_f hk0 (by decide)), hk1⟩ (fun f_112 ef_112 hq => ?_)
                                  obtain ⟨hP, hD, hI, hE, hZ, hk0, hk1⟩ := hq
                                  refine lv_iload hx hb dX12_splits_257 (lv_at hl 1 rfl) ?_
                                  refine lv_istore_n (lv' := [(2, .int y27), (5, .int y101), (4, .int y27), (3, .int t18), (0, .ref o), (1, .int x)]) hx hb dX12_splits_259 rfl hl (by decide) rfl (fun ls hl => ?_)
                                  refine lv_goto (tgt := 7) hx hb dX12_splits_260 (by decide) ?_
                                  exact ihlp5 (ee) (ta + 1) f_112 B102 _ _ _ y27 (by omega) hI hE hZ hk0 (kb_w b75 (by decide) (by decide)) (⟨htoo, hgl.2⟩) (⟨by rw [(show f_112 18 = t110 from by rw [← ef_112]; rfl)]; have w1 := qt110; omega, by have w1 := hvlp5_1.2; omega⟩) ((plT_s (by rw [hpl]; exact hkS)).trans (by rw [hpl, henT])) (sPre_add hk1 (by rw [hpl]; exact hkS) (by rw [tkT_l (by rw [hpl]; exact hkS), hpl]; exact (by rw [(congrFun hvlp103_0.1 ta).trans h15]; exact tok_w (show isS (a 11 kk) = true from by rw [← hby]; exact hkk25.2) henT hwo)) (by unfold pcT; rw [hpl, (congrFun hvlp103_0.2.2 ta).trans h17]; exact pc_of hkk (by have w1 := bx.2; have w2 := hp0; omega))) hP hD hS (lv_sub hl [0, 4, 5] rfl)
                                · have h113 := (kc_nle c106)
                                  have b114 : kb 0 y101 398 := kr_lt1 h113 b105 b75 (by decide)
                                  refine lv_iload_n hx hb dX12_splits_176 rfl (lv_at hl 2 rfl) ?_
                                  refine kN.callS (As := [.int t18]) (rest := []) ⟨hx, hb, hml, hown, hg⟩ (q_isDigit l t18 ) (va_cwS 1 hg (kgS wt6_184 wt6_185 wt1_14 wt6_186) rfl rfl rfl (by decide +kernel) ⟨by decide, by decide⟩) hP hS rfl hl.1 rfl (Nat.le_of_ble_eq_true rfl) dX12_splits_177 ⟨Nat.le_refl _, Nat.le_refl _⟩ (fun v116 H locs hw115 hP hS => ?_)
                                  refine k_top (z := 0) ((hw115.2).elim (fun q => absurd ((isD_f hkk25.2).symm.trans q.2) (by decide)) (fun q => q.1)) ?_
                                  refine lv_if_eq (tgt := 247) hx hb dX12_splits_180 (by decide) (fun c119 => ?_) (fun c119 => ?_)
                                  · refine lv_aload_n hx hb dX12_splits_247 rfl (lv_at hl 4 rfl) ?_
                                    refine lv_dup hx hb dX12_splits_248 rfl ?_
                                    refine va_get (D := D) (ci := 12) (v := .int (F3 18)) (C := RX12) (T := TX12) (N := 48) hx hb hg inC12 hown hK hP 0 rfl rfl 18 (by decide) (hg _ wt5_178) (fun _ h9 => h9) rfl dX12_splits_249 ?_
                                    refine k_top (z := tk) etk.symm ?_
                                    have b120 : kb 0 tk 399 := ⟨(b8).1, by have w1 := htk; have w2 := hvlp5_1; have w3 := bx.2; have w4 := hp0; omega⟩
                                    refine lv_iconst (v := 1) hx hb dX12_splits_252 (by decide) ?_
                                    refine lv_iadd hx hb dX12_splits_253 ?_
                                    refine lv_topi (fun t121 et121 => ?_)
                                    have b122 : kb 1 t121 400 := kb_eq et121 (kb_add b120 kc_1 (by decide) (by decide))
                                    have qt121 : t121.toInt = tk.toInt + 1 := by rw [et121]; exact kt_addc b120 kc_1 (by decide) (by decide)
                                    refine va_put (D := D) (ci := 12) (v := .int t121) (ty := .int) (C := RX12) (T := TX12) (N := 48) hx hb hg inC12 tyX12 tyX12_ok nmX12 hown hK hP hD hS 0 rfl rfl 18 (by decide) (hg _ wt5_178) (fun _ h9 => h9) rfl (by decide +kernel) rfl rfl (Nat.le_of_ble_eq_true rfl) dX12_splits_254 (fun H locs hP hD hS => ?_)
                                    have hP : va_P D vwCl (mW K o r (upd F3 18 t121) B102 g) H := hP
                                    have hD : va_D A (mW K o r (upd F3 18 t121) B102 g) := hD
                                    refine k_gen (P := fun z => va_P D vwCl (mW K o r z B102 g) H ∧ va_D A (mW K o r z B102 g) ∧ (mI z B102) ∧ (mE (XR []) f a z B102) ∧ (mZ [18] [15, 16, 17] f a z B102) ∧ (fE [18] f z) ∧ (sPre (a 11) S ta B102)) (upd F3 18 t121) ⟨hP, hD, (mI_f hI (fI_st hI.1 18 b122 (by decide) (by decide))), (mE_f hE (by decide)), (mZ_f hZ rfl), (fE_f hk0 (by decide)), hk1⟩ (fun f_123 ef_123 hq => ?_)
                                    obtain ⟨hP, hD, hI, hE, hZ, hk0, hk1⟩ := hq
                                    refine lv_iload hx hb dX12_splits_257 (lv_at hl 1 rfl) ?_
                                    refine lv_istore_n (lv' := [(2, .int y27), (5, .int y101), (4, .int y27), (3, .int t18), (0, .ref o), (1, .int x)]) hx hb dX12_splits_259 rfl hl (by decide) rfl (fun ls hl => ?_)
                                    refine lv_goto (tgt := 7) hx hb dX12_splits_260 (by decide) ?_
                                    exact ihlp5 (ee) (ta + 1) f_123 B102 _ _ _ y27 (by omega) hI hE hZ hk0 (kb_w b75 (by decide) (by decide)) (⟨htoo, hgl.2⟩) (⟨by rw [(show f_123 18 = t121 from by rw [← ef_123]; rfl)]; have w1 := qt121; omega, by have w1 := hvlp5_1.2; omega⟩) ((plT_s (by rw [hpl]; exact hkS)).trans (by rw [hpl, henT])) (sPre_add hk1 (by rw [hpl]; exact hkS) (by rw [tkT_l (by rw [hpl]; exact hkS), hpl]; exact (by rw [(congrFun hvlp103_0.1 ta).trans h15]; exact tok_w (show isS (a 11 kk) = true from by rw [← hby]; exact hkk25.2) henT hwo)) (by unfold pcT; rw [hpl, (congrFun hvlp103_0.2.2 ta).trans h17]; exact pc_of hkk (by have w1 := bx.2; have w2 := hp0; omega))) hP hD hS (lv_sub hl [0, 4, 5] rfl)
                                  · exact kb_nsame c119 kc_0 kc_0
                            exact lp103 (401) kk a_100 _ _ _ y2 (by have h1 := (b17); unfold kb at h1; omega) hI hE hZ hk0 hk1 (kb_w b17 (by decide) (by decide)) (⟨rfl, rfl, rfl⟩) hP hD hS (lv_sub hl [0, 1, 2, 3, 4, 5] rfl)
                        · exact kb_nsame c89 kc_0 kc_0
                      · exact kb_nsame c84 kc_0 kc_0
              exact lp28 (400) (kk + 1) _ _ _ t20 (by have h1 := (b21); unfold kb at h1; omega) b21 (⟨by have w1 := qt20; omega, Nat.le_refl _, hkS, rfl, fun j h1 h2 => absurd h1 (by omega)⟩) hP hD hS (lv_sub hl [0, 1, 2, 3, 4] rfl)
          · refine k_top (z := 0) hkk25.1 ?_
            refine lv_if_eq (tgt := 68) hx hb dX12_splits_40 (by decide) (fun c124 => ?_) (fun c124 => ?_)
            · refine lv_iload_n hx hb dX12_splits_68 rfl (lv_at hl 1 rfl) ?_
              refine kN.callS (As := [.int t18]) (rest := []) ⟨hx, hb, hml, hown, hg⟩ (q_isDigit l t18 ) (va_cwS 1 hg (kgS wt6_184 wt6_185 wt1_14 wt6_186) rfl rfl rfl (by decide +kernel) ⟨by decide, by decide⟩) hP hS rfl hl.1 rfl (Nat.le_of_ble_eq_true rfl) dX12_splits_69 ⟨Nat.le_refl _, Nat.le_refl _⟩ (fun v126 H locs hw125 hP hS => ?_)
              rcases hw125.2 with hkk128 | hkk128
              · refine k_top (z := 1) hkk128.1 ?_
                refine lv_if_eq (tgt := 100) hx hb dX12_splits_72 (by decide) (fun c129 => ?_) (fun c129 => ?_)
                · exact kb_dj c129 kc_1 kc_0 (by decide)
                · have lp131 : ∀ (n132 : Nat) (ee : Nat) (H : Heap) (locs : List Loc) (ls : Array Slot) (y130 : Int32), (400 < y130.toInt + (n132 : Int)) → (kb 1 y130 400) → (y130.toInt = (ee : Int) ∧ kk + 1 ≤ ee ∧ ee ≤ S ∧ rn isD (a 11) S (kk + 1) = rn isD (a 11) S ee ∧ ∀ j, kk + 1 ≤ j → j < ee → isD (a 11 j) = true) → va_P D vwCl (mW K o r F3 B4 g) H → va_D A (mW K o r F3 B4 g) → va_S A s.heap H locs → lv_has ls 6 [(4, .int y130), (3, .int t18), (2, .int y2), (0, .ref o), (1, .int x)] → W p l e (rmD 2 0 0) s m ([.ref o, .int x] : List Value).toArray below meth c H locs 0 0 (kQv D (tysK K) (fun (u : mS) => mI u.1 u.2.1 ∧ mE (XR []) f a u.1 u.2.1 ∧ fE [18] f u.1 ∧ (∃ N : Nat, (u.1 18).toInt = (N : Int) ∧ N ≤ 400 ∧ u.2.1 15 N = 0 ∧ spR (a 11) S N u.2.1) ∧ mZ [18] [15, 16, 17] f a u.1 u.2.1) (fun u => mW K o r u.1 u.2.1 u.2.2) A below ([.ref o, .int x] : List Value).toArray s 0 0) (F0 m 75 ls []) := by
                    intro n132
                    induction n132 with
                    | zero =>
                      intro ee  H locs ls y130 hmlp131 b133 hvlp131_0 hP hD hS hl
                      exact (by have h1 := b133.2; have h2 := hmlp131; omega : False).elim
                    | succ n132 ihlp131 =>
                      intro ee  H locs ls y130 hmlp131 b133 hvlp131_0 hP hD hS hl
                      refine lv_iload hx hb dX12_splits_75 (lv_at hl 0 rfl) ?_
                      refine lv_iload_n hx hb dX12_splits_77 rfl (lv_at hl 4 rfl) ?_
                      refine lv_icmp_ge (tgt := 100) hx hb dX12_splits_78 (by decide) (fun c134 => ?_) (fun c134 => ?_)
                      · have h135 := (kc_le c134)
                        have hen : rn isD (a 11) S (kk + 1) = ee := by have w1 := kc_le c134; have w2 := hp0; have w3 := hvlp131_0; have w4 : ee = S := (by omega); rw [w3.2.2.2.1, w4]; exact rn_S (Nat.le_refl S)
                        have henT : enT (a 11) S kk = ee := by unfold enT; rw [if_neg (bne_t (show isS (a 11 kk) = false from by rw [← hby]; exact hkk25.2)), if_pos (show isD (a 11 kk) = true from by rw [← hby]; exact hkk128.2)]; exact hen
                        have htoo : y130.toInt = ((ee : Nat) : Int) := by exact hvlp131_0.1
                        have hgl : kk < ee ∧ ee ≤ S := by have w1 := hvlp131_0; omega
                        refine lv_aload_n hx hb dX12_splits_100 rfl (lv_at hl 3 rfl) ?_
                        refine va_get (D := D) (ci := 12) (v := .ref (r 17)) (C := RX12) (T := TX12) (N := 48) hx hb hg inC12 hown hK hP 0 rfl rfl 17 (by decide) (hg _ wt5_177) (fun _ h9 => h9) rfl dX12_splits_101 ?_
                        refine lv_aload_n hx hb dX12_splits_104 rfl (lv_at hl 3 rfl) ?_
                        refine va_get (D := D) (ci := 12) (v := .int (F3 18)) (C := RX12) (T := TX12) (N := 48) hx hb hg inC12 hown hK hP 0 rfl rfl 18 (by decide) (hg _ wt5_178) (fun _ h9 => h9) rfl dX12_splits_105 ?_
                        refine k_top (z := tk) etk.symm ?_
                        refine lv_iload_n hx hb dX12_splits_108 rfl (lv_at hl 2 rfl) ?_
                        refine va_iast hx hb hK hP hD hS 11 0 rfl rfl (kb_in b8 (by decide) (by decide)) dX12_splits_109 (fun H locs hP hD hS => ?_)
                        have hP : va_P D vwCl (mW K o r F3 (va_up B4 17 (upd (B4 17) tk.toNatClampNeg y2)) g) H := hP
                        have hD : va_D A (mW K o r F3 (va_up B4 17 (upd (B4 17) tk.toNatClampNeg y2)) g) := hD
                        refine k_gen (P := fun z => va_P D vwCl (mW K o r F3 z g) H ∧ va_D A (mW K o r F3 z g) ∧ (mI F3 z) ∧ (mE (XR []) f a F3 z) ∧ (mZ [18] [15, 16, 17] f a F3 z) ∧ (fE [18] f F3) ∧ (sPre (a 11) S ta z)) (va_up B4 17 (upd (B4 17) tk.toNatClampNeg y2)) ⟨hP, hD, (mI_s hI (aI_sx hI.2.1 17 0 401 b8 (by decide) (by decide) b17 (by decide +kernel)) (by decide) (by decide)), (mE_s hE (by decide) (by decide) (by decide) (by decide)), (mZ_a hZ rfl), hk0, (sPre_st hk1 (by rw [cl_nat htk]; exact Nat.le_refl ta))⟩ (fun a_136 ea_136 hq => ?_)
                        obtain ⟨hP, hD, hI, hE, hZ, hk0, hk1⟩ := hq
                        refine lv_aload_n hx hb dX12_splits_110 rfl (lv_at hl 3 rfl) ?_
                        refine va_get (D := D) (ci := 12) (v := .ref (r 16)) (C := RX12) (T := TX12) (N := 48) hx hb hg inC12 hown hK hP 0 rfl rfl 16 (by decide) (hg _ wt5_176) (fun _ h9 => h9) rfl dX12_splits_111 ?_
                        refine lv_aload_n hx hb dX12_splits_114 rfl (lv_at hl 3 rfl) ?_
                        refine va_get (D := D) (ci := 12) (v := .int (F3 18)) (C := RX12) (T := TX12) (N := 48) hx hb hg inC12 hown hK hP 0 rfl rfl 18 (by decide) (hg _ wt5_178) (fun _ h9 => h9) rfl dX12_splits_115 ?_
                        refine k_top (z := tk) etk.symm ?_
                        refine lv_iconst (v := 0) hx hb dX12_splits_118 (by decide) ?_
                        refine va_iast hx hb hK hP hD hS 10 0 rfl rfl (kb_in b8 (by decide) (by decide)) dX12_splits_119 (fun H locs hP hD hS => ?_)
                        have hP : va_P D vwCl (mW K o r F3 (va_up a_136 16 (upd (a_136 16) tk.toNatClampNeg 0)) g) H := hP
                        have hD : va_D A (mW K o r F3 (va_up a_136 16 (upd (a_136 16) tk.toNatClampNeg 0)) g) := hD
                        refine k_gen (P := fun z => va_P D vwCl (mW K o r F3 z g) H ∧ va_D A (mW K o r F3 z g) ∧ (mI F3 z) ∧ (mE (XR []) f a F3 z) ∧ (mZ [18] [15, 16, 17] f a F3 z) ∧ (fE [18] f F3) ∧ (sPre (a 11) S ta z)) (va_up a_136 16 (upd (a_136 16) tk.toNatClampNeg 0)) ⟨hP, hD, (mI_s hI (aI_free hI.2.1 16 _ (fun j => ⟨by show (mBa 16 j).1 ≤ _; exact Int.le_refl _, by show _ ≤ (mBa 16 j).2; exact Int.le_refl _⟩)) (by decide) (by decide)), (mE_s hE (by decide) (by decide) (by decide) (by decide)), (mZ_a hZ rfl), hk0, (sPre_st hk1 (by rw [cl_nat htk]; exact Nat.le_refl ta))⟩ (fun a_137 ea_137 hq => ?_)
                        obtain ⟨hP, hD, hI, hE, hZ, hk0, hk1⟩ := hq
                        refine lv_aload_n hx hb dX12_splits_120 rfl (lv_at hl 3 rfl) ?_
                        refine va_get (D := D) (ci := 12) (v := .ref (r 15)) (C := RX12) (T := TX12) (N := 48) hx hb hg inC12 hown hK hP 0 rfl rfl 15 (by decide) (hg _ wt5_175) (fun _ h9 => h9) rfl dX12_splits_121 ?_
                        refine lv_aload_n hx hb dX12_splits_124 rfl (lv_at hl 3 rfl) ?_
                        refine va_get (D := D) (ci := 12) (v := .int (F3 18)) (C := RX12) (T := TX12) (N := 48) hx hb hg inC12 hown hK hP 0 rfl rfl 18 (by decide) (hg _ wt5_178) (fun _ h9 => h9) rfl dX12_splits_125 ?_
                        refine k_top (z := tk) etk.symm ?_
                        refine lv_iload_n hx hb dX12_splits_128 rfl (lv_at hl 1 rfl) ?_
                        refine kN.callS (As := [.int t18]) (rest := [.int tk, .ref (r 15)]) ⟨hx, hb, hml, hown, hg⟩ (q_isSmall l t18 ) (va_cwS 1 hg (kgS wt6_181 wt6_182 wt1_14 wt6_183) rfl rfl rfl (by decide +kernel) ⟨by decide, by decide⟩) hP hS rfl hl.1 rfl (Nat.le_of_ble_eq_true rfl) dX12_splits_129 ⟨Nat.le_refl _, Nat.le_refl _⟩ (fun v139 H locs hw138 hP hS => ?_)
                        refine k_top (z := 0) ((hw138.2).elim (fun q => absurd (hkk25.2.symm.trans q.2) (by decide)) (fun q => q.1)) ?_
                        refine lv_if_eq (tgt := 145) hx hb dX12_splits_132 (by decide) (fun c142 => ?_) (fun c142 => ?_)
                        · refine lv_iload_n hx hb dX12_splits_145 rfl (lv_at hl 1 rfl) ?_
                          refine kN.callS (As := [.int t18]) (rest := [.int tk, .ref (r 15)]) ⟨hx, hb, hml, hown, hg⟩ (q_isDigit l t18 ) (va_cwS 1 hg (kgS wt6_184 wt6_185 wt1_14 wt6_186) rfl rfl rfl (by decide +kernel) ⟨by decide, by decide⟩) hP hS rfl hl.1 rfl (Nat.le_of_ble_eq_true rfl) dX12_splits_146 ⟨Nat.le_refl _, Nat.le_refl _⟩ (fun v144 H locs hw143 hP hS => ?_)
                          refine k_top (z := 1) ((hw143.2).elim (fun q => q.1) (fun q => absurd (hkk128.2.symm.trans q.2) (by decide))) ?_
                          refine lv_if_eq (tgt := 157) hx hb dX12_splits_149 (by decide) (fun c147 => ?_) (fun c147 => ?_)
                          · exact kb_dj c147 kc_1 kc_0 (by decide)
                          · refine lv_bipush (v := 50) hx hb dX12_splits_152 (by decide) ?_
                            refine lv_goto (tgt := 165) hx hb dX12_splits_154 (by decide) ?_
                            refine va_iast hx hb hK hP hD hS 9 0 rfl rfl (kb_in b8 (by decide) (by decide)) dX12_splits_165 (fun H locs hP hD hS => ?_)
                            have hP : va_P D vwCl (mW K o r F3 (va_up a_137 15 (upd (a_137 15) tk.toNatClampNeg 50)) g) H := hP
                            have hD : va_D A (mW K o r F3 (va_up a_137 15 (upd (a_137 15) tk.toNatClampNeg 50)) g) := hD
                            refine k_gen (P := fun z => va_P D vwCl (mW K o r F3 z g) H ∧ va_D A (mW K o r F3 z g) ∧ (mI F3 z) ∧ (mE (XR []) f a F3 z) ∧ (mZ [18] [15, 16, 17] f a F3 z) ∧ (fE [18] f F3) ∧ (sPre (a 11) S ta z)) (va_up a_137 15 (upd (a_137 15) tk.toNatClampNeg 50)) ⟨hP, hD, (mI_s hI (aI_free hI.2.1 15 _ (fun j => ⟨by show (mBa 15 j).1 ≤ _; exact Int.le_refl _, by show _ ≤ (mBa 15 j).2; exact Int.le_refl _⟩)) (by decide) (by decide)), (mE_s hE (by decide) (by decide) (by decide) (by decide)), (mZ_a hZ rfl), hk0, (sPre_st hk1 (by rw [cl_nat htk]; exact Nat.le_refl ta))⟩ (fun a_148 ea_148 hq => ?_)
                            obtain ⟨hP, hD, hI, hE, hZ, hk0, hk1⟩ := hq
                            refine lv_iload_n hx hb dX12_splits_166 rfl (lv_at hl 2 rfl) ?_
                            refine lv_istore (lv' := [(5, .int y2), (4, .int y130), (3, .int t18), (2, .int y2), (0, .ref o), (1, .int x)]) hx hb dX12_splits_167 hl (by decide) rfl (fun ls hl => ?_)
                            have h15 : a_148 15 ta = 50 := by rw [← cl_nat htk]; exact (show a_148 15 tk.toNatClampNeg = 50 from by rw [← ea_148]; exact (pk_us (f := a_137 15) (k := tk.toNatClampNeg) (x := 50)))
                            have h16 : a_148 16 ta = 0 := by rw [← cl_nat htk]; exact ((show a_148 16 tk.toNatClampNeg = a_137 16 tk.toNatClampNeg from by rw [← ea_148]; rfl).trans (show a_137 16 tk.toNatClampNeg = 0 from by rw [← ea_137]; exact (pk_us (f := a_136 16) (k := tk.toNatClampNeg) (x := 0))))
                            have h17 : a_148 17 ta = y2 := by rw [← cl_nat htk]; exact ((show a_148 17 tk.toNatClampNeg = a_137 17 tk.toNatClampNeg from by rw [← ea_148]; rfl).trans ((show a_137 17 tk.toNatClampNeg = a_136 17 tk.toNatClampNeg from by rw [← ea_137]; rfl).trans (show a_136 17 tk.toNatClampNeg = y2 from by rw [← ea_136]; exact (pk_us (f := B4 17) (k := tk.toNatClampNeg) (x := y2)))))
                            have lp151 : ∀ (n152 : Nat) (ii : Nat) (B150 : Nat → Nat → Int32) (H : Heap) (locs : List Loc) (ls : Array Slot) (y149 : Int32), (400 < y149.toInt + (n152 : Int)) → (mI F3 B150) → (mE (XR []) f a F3 B150) → (mZ [18] [15, 16, 17] f a F3 B150) → (fE [18] f F3) → (sPre (a 11) S ta B150) → (kb 0 y149 400) → (B150 15 = a_148 15 ∧ B150 17 = a_148 17 ∧ (y149.toInt = (ii : Int) ∧ kk ≤ ii ∧ ii ≤ ee) ∧ vOk (B150 16 ta) (nvT (a 11) kk (ii - kk))) → va_P D vwCl (mW K o r F3 B150 g) H → va_D A (mW K o r F3 B150 g) → va_S A s.heap H locs → lv_has ls 6 [(5, .int y149), (4, .int y130), (3, .int t18), (2, .int y2), (0, .ref o), (1, .int x)] → W p l e (rmD 2 0 0) s m ([.ref o, .int x] : List Value).toArray below meth c H locs 0 0 (kQv D (tysK K) (fun (u : mS) => mI u.1 u.2.1 ∧ mE (XR []) f a u.1 u.2.1 ∧ fE [18] f u.1 ∧ (∃ N : Nat, (u.1 18).toInt = (N : Int) ∧ N ≤ 400 ∧ u.2.1 15 N = 0 ∧ spR (a 11) S N u.2.1) ∧ mZ [18] [15, 16, 17] f a u.1 u.2.1) (fun u => mW K o r u.1 u.2.1 u.2.2) A below ([.ref o, .int x] : List Value).toArray s 0 0) (F0 m 169 ls []) := by
                              intro n152
                              induction n152 with
                              | zero =>
                                intro ii B150  H locs ls y149 hmlp151 hI hE hZ hk0 hk1 b153 hvlp151_0 hP hD hS hl
                                exact (by have h1 := b153.2; have h2 := hmlp151; omega : False).elim
                              | succ n152 ihlp151 =>
                                intro ii B150  H locs ls y149 hmlp151 hI hE hZ hk0 hk1 b153 hvlp151_0 hP hD hS hl
                                refine lv_iload hx hb dX12_splits_169 (lv_at hl 0 rfl) ?_
                                refine lv_iload hx hb dX12_splits_171 (lv_at hl 1 rfl) ?_
                                refine lv_icmp_ge (tgt := 247) hx hb dX12_splits_173 (by decide) (fun c154 => ?_) (fun c154 => ?_)
                                · have h155 := (kc_le c154)
                                  have b156 : kb 1 y149 400 := kr_le2 h155 b133 b153
                                  have hie2 : ii = ee := by have w1 := hvlp151_0.2.2.1; have w2 := htoo; first | (have w3 := kc_le c154; omega) | omega
                                  have hnv9 : 0 ≤ nvT (a 11) kk (ee - kk) := nvT_0 _ (rn_d (fun j h1 h2 => by by_cases w1 : j = kk; (rw [w1]; exact (show isD (a 11 kk) = true from by rw [← hby]; exact hkk128.2)); exact hvlp131_0.2.2.2.2 j (by omega) (by omega)))
                                  have hvo9 : vOk (B150 16 ta) (nvT (a 11) kk (ee - kk)) := by rw [← hie2]; exact hvlp151_0.2.2.2
                                  refine lv_aload_n hx hb dX12_splits_247 rfl (lv_at hl 4 rfl) ?_
                                  refine lv_dup hx hb dX12_splits_248 rfl ?_
                                  refine va_get (D := D) (ci := 12) (v := .int (F3 18)) (C := RX12) (T := TX12) (N := 48) hx hb hg inC12 hown hK hP 0 rfl rfl 18 (by decide) (hg _ wt5_178) (fun _ h9 => h9) rfl dX12_splits_249 ?_
                                  refine k_top (z := tk) etk.symm ?_
                                  have b157 : kb 0 tk 399 := ⟨(b8).1, by have w1 := htk; have w2 := hvlp5_1; have w3 := bx.2; have w4 := hp0; omega⟩
                                  refine lv_iconst (v := 1) hx hb dX12_splits_252 (by decide) ?_
                                  refine lv_iadd hx hb dX12_splits_253 ?_
                                  refine lv_topi (fun t158 et158 => ?_)
                                  have b159 : kb 1 t158 400 := kb_eq et158 (kb_add b157 kc_1 (by decide) (by decide))
                                  have qt158 : t158.toInt = tk.toInt + 1 := by rw [et158]; exact kt_addc b157 kc_1 (by decide) (by decide)
                                  refine va_put (D := D) (ci := 12) (v := .int t158) (ty := .int) (C := RX12) (T := TX12) (N := 48) hx hb hg inC12 tyX12 tyX12_ok nmX12 hown hK hP hD hS 0 rfl rfl 18 (by decide) (hg _ wt5_178) (fun _ h9 => h9) rfl (by decide +kernel) rfl rfl (Nat.le_of_ble_eq_true rfl) dX12_splits_254 (fun H locs hP hD hS => ?_)
                                  have hP : va_P D vwCl (mW K o r (upd F3 18 t158) B150 g) H := hP
                                  have hD : va_D A (mW K o r (upd F3 18 t158) B150 g) := hD
                                  refine k_gen (P := fun z => va_P D vwCl (mW K o r z B150 g) H ∧ va_D A (mW K o r z B150 g) ∧ (mI z B150) ∧ (mE (XR []) f a z B150) ∧ (mZ [18] [15, 16, 17] f a z B150) ∧ (fE [18] f z) ∧ (sPre (a 11) S ta B150)) (upd F3 18 t158) ⟨hP, hD, (mI_f hI (fI_st hI.1 18 b159 (by decide) (by decide))), (mE_f hE (by decide)), (mZ_f hZ rfl), (fE_f hk0 (by decide)), hk1⟩ (fun f_160 ef_160 hq => ?_)
                                  obtain ⟨hP, hD, hI, hE, hZ, hk0, hk1⟩ := hq
                                  refine lv_iload hx hb dX12_splits_257 (lv_at hl 1 rfl) ?_
                                  refine lv_istore_n (lv' := [(2, .int y130), (5, .int y149), (4, .int y130), (3, .int t18), (0, .ref o), (1, .int x)]) hx hb dX12_splits_259 rfl hl (by decide) rfl (fun ls hl => ?_)
                                  refine lv_goto (tgt := 7) hx hb dX12_splits_260 (by decide) ?_
                                  exact ihlp5 (ee) (ta + 1) f_160 B150 _ _ _ y130 (by omega) hI hE hZ hk0 (kb_w b133 (by decide) (by decide)) (⟨htoo, hgl.2⟩) (⟨by rw [(show f_160 18 = t158 from by rw [← ef_160]; rfl)]; have w1 := qt158; omega, by have w1 := hvlp5_1.2; omega⟩) ((plT_s (by rw [hpl]; exact hkS)).trans (by rw [hpl, henT])) (sPre_add hk1 (by rw [hpl]; exact hkS) (by rw [tkT_l (by rw [hpl]; exact hkS), hpl]; exact (by rw [(congrFun hvlp151_0.1 ta).trans h15]; exact tok_d (bne_t (show isS (a 11 kk) = false from by rw [← hby]; exact hkk25.2)) (show isD (a 11 kk) = true from by rw [← hby]; exact hkk128.2) henT hnv9 hvo9)) (by unfold pcT; rw [hpl, (congrFun hvlp151_0.2.1 ta).trans h17]; exact pc_of hkk (by have w1 := bx.2; have w2 := hp0; omega))) hP hD hS (lv_sub hl [0, 4, 5] rfl)
                                · have h161 := (kc_nle c154)
                                  have b162 : kb 0 y149 399 := kr_lt1 h161 b153 b133 (by decide)
                                  have hie : ii + 1 ≤ ee := by have w1 := kc_nle c154; have w2 := hvlp151_0.2.2.1; have w3 := htoo; omega
                                  refine lv_iload_n hx hb dX12_splits_176 rfl (lv_at hl 2 rfl) ?_
                                  refine kN.callS (As := [.int t18]) (rest := []) ⟨hx, hb, hml, hown, hg⟩ (q_isDigit l t18 ) (va_cwS 1 hg (kgS wt6_184 wt6_185 wt1_14 wt6_186) rfl rfl rfl (by decide +kernel) ⟨by decide, by decide⟩) hP hS rfl hl.1 rfl (Nat.le_of_ble_eq_true rfl) dX12_splits_177 ⟨Nat.le_refl _, Nat.le_refl _⟩ (fun v164 H locs hw163 hP hS => ?_)
                                  refine k_top (z := 1) ((hw163.2).elim (fun q => q.1) (fun q => absurd (hkk128.2.symm.trans q.2) (by decide))) ?_
                                  refine lv_if_eq (tgt := 247) hx hb dX12_splits_180 (by decide) (fun c167 => ?_) (fun c167 => ?_)
                                  · exact kb_dj c167 kc_1 kc_0 (by decide)
                                  · have hnv0 : 0 ≤ nvT (a 11) kk (ii - kk) := nvT_0 _ (rn_d (fun j h1 h2 => by by_cases w1 : j = kk; (rw [w1]; exact (show isD (a 11 kk) = true from by rw [← hby]; exact hkk128.2)); exact hvlp131_0.2.2.2.2 j (by omega) (by omega)))
                                    obtain ⟨vv, evv⟩ : ∃ z : Int32, z = B150 16 tk.toNatClampNeg := ⟨_, rfl⟩
                                    have hvv : vOk vv (nvT (a 11) kk (ii - kk)) := by rw [evv, cl_nat htk]; exact hvlp151_0.2.2.2
                                    have b168 : kb 0 vv 10000009 := vOk_b hvv hnv0
                                    have hdi : isD (a 11 ii) = true := ((fun j h1 h2 => by by_cases w1 : j = kk; (rw [w1]; exact (show isD (a 11 kk) = true from by rw [← hby]; exact hkk128.2)); exact hvlp131_0.2.2.2.2 j (by omega) (by omega)) : ∀ j, kk ≤ j → j < ee → isD (a 11 j) = true) ii hvlp151_0.2.2.1.2.1 (by omega)
                                    have hdb := isD_b hdi
                                    refine lv_aload_n hx hb dX12_splits_183 rfl (lv_at hl 4 rfl) ?_
                                    refine va_get (D := D) (ci := 12) (v := .ref (r 16)) (C := RX12) (T := TX12) (N := 48) hx hb hg inC12 hown hK hP 0 rfl rfl 16 (by decide) (hg _ wt5_176) (fun _ h9 => h9) rfl dX12_splits_184 ?_
                                    refine lv_aload_n hx hb dX12_splits_187 rfl (lv_at hl 4 rfl) ?_
                                    refine va_get (D := D) (ci := 12) (v := .int (F3 18)) (C := RX12) (T := TX12) (N := 48) hx hb hg inC12 hown hK hP 0 rfl rfl 18 (by decide) (hg _ wt5_178) (fun _ h9 => h9) rfl dX12_splits_188 ?_
                                    refine k_top (z := tk) etk.symm ?_
                                    refine lv_aload_n hx hb dX12_splits_191 rfl (lv_at hl 4 rfl) ?_
                                    refine va_get (D := D) (ci := 12) (v := .ref (r 16)) (C := RX12) (T := TX12) (N := 48) hx hb hg inC12 hown hK hP 0 rfl rfl 16 (by decide) (hg _ wt5_176) (fun _ h9 => h9) rfl dX12_splits_192 ?_
                                    refine lv_aload_n hx hb dX12_splits_195 rfl (lv_at hl 4 rfl) ?_
                                    refine va_get (D := D) (ci := 12) (v := .int (F3 18)) (C := RX12) (T := TX12) (N := 48) hx hb hg inC12 hown hK hP 0 rfl rfl 18 (by decide) (hg _ wt5_178) (fun _ h9 => h9) rfl dX12_splits_196 ?_
                                    refine k_top (z := tk) etk.symm ?_
                                    refine va_iald hx hb hK hP 10 0 rfl rfl (kb_in b8 (by decide) (by decide)) dX12_splits_199 ?_
                                    refine k_top (z := vv) evv.symm ?_
                                    refine lv_ldc (v := (1000000)) hx hb hown (hg _ wt6_191) dX12_splits_200 ?_
                                    refine lv_icmp_le (tgt := 217) hx hb dX12_splits_202 (by decide) (fun c169 => ?_) (fun c169 => ?_)
                                    · have h170 := (kc_le c169)
                                      have b171 : kb 0 vv 1000000 := kr_le1 h170 b168 kc_1000000
                                      refine lv_bipush (v := 10) hx hb dX12_splits_217 (by decide) ?_
                                      refine lv_aload_n hx hb dX12_splits_219 rfl (lv_at hl 4 rfl) ?_
                                      refine va_get (D := D) (ci := 12) (v := .ref (r 16)) (C := RX12) (T := TX12) (N := 48) hx hb hg inC12 hown hK hP 0 rfl rfl 16 (by decide) (hg _ wt5_176) (fun _ h9 => h9) rfl dX12_splits_220 ?_
                                      refine lv_aload_n hx hb dX12_splits_223 rfl (lv_at hl 4 rfl) ?_
                                      refine va_get (D := D) (ci := 12) (v := .int (F3 18)) (C := RX12) (T := TX12) (N := 48) hx hb hg inC12 hown hK hP 0 rfl rfl 18 (by decide) (hg _ wt5_178) (fun _ h9 => h9) rfl dX12_splits_224 ?_
                                      refine k_top (z := tk) etk.symm ?_
                                      refine va_iald hx hb hK hP 10 0 rfl rfl (kb_in b8 (by decide) (by decide)) dX12_splits_227 ?_
                                      refine k_top (z := vv) evv.symm ?_
                                      refine lv_imul hx hb dX12_splits_228 ?_
                                      refine lv_topi (fun t172 et172 => ?_)
                                      have b173 : kb 0 t172 10000000 := kb_eq et172 (kb_mul kc_10 b171 (by decide) (by decide) (by decide))
                                      have qt172 : t172.toInt = 10 * vv.toInt := by rw [et172]; exact kt_cmul kc_10 b171 (by decide) (by decide) (by decide)
                                      refine lv_aload_n hx hb dX12_splits_229 rfl (lv_at hl 4 rfl) ?_
                                      refine va_get (D := D) (ci := 12) (v := .ref (r 11)) (C := RX12) (T := TX12) (N := 48) hx hb hg inC12 hown hK hP 0 rfl rfl 11 (by decide) (hg _ wt5_171) (fun _ h9 => h9) rfl dX12_splits_230 ?_
                                      have b174 : kb 0 y149 399 := ⟨by have w1 := hvlp151_0.2.2.1; omega, by have w1 := hvlp151_0.2.2.1; have w2 := bx.2; have w3 := hp0; omega⟩
                                      refine lv_iload hx hb dX12_splits_233 (lv_at hl 0 rfl) ?_
                                      refine va_bald hx hb hK hP 7 1 rfl rfl (kb_in b174 (by decide) (by decide)) dX12_splits_235 ?_
                                      refine lv_topi (fun t175 et175 => ?_)
                                      have hb2 : t175 = a 11 ii := et175.trans ((congrFun hE.2.1 _).trans (congrArg (a 11) (cl_nat hvlp151_0.2.2.1.1)))
                                      have b176 : kb 48 t175 57 := kb_eq hb2 hdb
                                      refine lv_iadd hx hb dX12_splits_236 ?_
                                      refine lv_topi (fun t177 et177 => ?_)
                                      have b178 : kb 48 t177 10000057 := kb_eq et177 (kb_add b173 b176 (by decide) (by decide))
                                      have qt177 : t177.toInt = t172.toInt + t175.toInt := by rw [et177]; exact kt_add b173 b176 (by decide) (by decide)
                                      refine lv_bipush (v := 48) hx hb dX12_splits_237 (by decide) ?_
                                      refine lv_isub hx hb dX12_splits_239 ?_
                                      refine lv_topi (fun t179 et179 => ?_)
                                      have b180 : kb 0 t179 10000009 := kb_eq et179 (kb_sub b178 kc_48 (by decide) (by decide))
                                      have qt179 : t179.toInt = t177.toInt - 48 := by rw [et179]; exact kt_subc b178 kc_48 (by decide) (by decide)
                                      refine va_iast hx hb hK hP hD hS 10 0 rfl rfl (kb_in b8 (by decide) (by decide)) dX12_splits_240 (fun H locs hP hD hS => ?_)
                                      have hP : va_P D vwCl (mW K o r F3 (va_up B150 16 (upd (B150 16) tk.toNatClampNeg t179)) g) H := hP
                                      have hD : va_D A (mW K o r F3 (va_up B150 16 (upd (B150 16) tk.toNatClampNeg t179)) g) := hD
                                      refine k_gen (P := fun z => va_P D vwCl (mW K o r F3 z g) H ∧ va_D A (mW K o r F3 z g) ∧ (mI F3 z) ∧ (mE (XR []) f a F3 z) ∧ (mZ [18] [15, 16, 17] f a F3 z) ∧ (fE [18] f F3) ∧ (sPre (a 11) S ta z)) (va_up B150 16 (upd (B150 16) tk.toNatClampNeg t179)) ⟨hP, hD, (mI_s hI (aI_free hI.2.1 16 _ (fun j => ⟨by show (mBa 16 j).1 ≤ _; exact Int.le_refl _, by show _ ≤ (mBa 16 j).2; exact Int.le_refl _⟩)) (by decide) (by decide)), (mE_s hE (by decide) (by decide) (by decide) (by decide)), (mZ_a hZ rfl), hk0, (sPre_st hk1 (by rw [cl_nat htk]; exact Nat.le_refl ta))⟩ (fun a_181 ea_181 hq => ?_)
                                      obtain ⟨hP, hD, hI, hE, hZ, hk0, hk1⟩ := hq
                                      obtain ⟨t182, et182⟩ : ∃ z : Int32, z = y149 + Int32.ofInt 1 := ⟨_, rfl⟩
                                      have qt182 : t182.toInt = y149.toInt + 1 := by rw [et182]; exact km_inc b174 (by decide) (by decide)
                                      have b183 : kb 1 t182 400 := kb_inc (k := 1) qt182 b174
                                      refine lv_iinc (v := t182) (lv' := [(5, .int t182), (4, .int y130), (3, .int t18), (2, .int y2), (0, .ref o), (1, .int x)]) hx hb dX12_splits_241 hl (k := 0) rfl et182.symm (by decide) rfl (fun ls hl => ?_)
                                      refine lv_goto (tgt := 169) hx hb dX12_splits_244 (by decide) ?_
                                      exact ihlp151 (ii + 1) a_181 _ _ _ t182 (km_up hmlp151 qt182) hI hE hZ hk0 hk1 (kb_w b183 (by decide) (by decide)) (⟨(show a_181 15 = B150 15 from by rw [← ea_181]; rfl).trans hvlp151_0.1, (show a_181 17 = B150 17 from by rw [← ea_181]; rfl).trans hvlp151_0.2.1, ⟨by have w1 := hvlp151_0.2.2.1; omega, by have w1 := hvlp151_0.2.2.1; omega, hie⟩, (by rw [nv_s hvlp151_0.2.2.1.2.1]; have w9 : a_181 16 ta = t179 := (by rw [← cl_nat htk]; exact (show a_181 16 tk.toNatClampNeg = t179 from by rw [← ea_181]; exact (pk_us (f := B150 16) (k := tk.toNatClampNeg) (x := t179)))); rw [w9]; rw [← hb2]; exact vOk_y hvv (by have w1 := (b171).2; omega) hnv0 ⟨by rw [hb2]; have w1 := hdb.1; omega, by rw [hb2]; have w1 := hdb.2; omega⟩ (by have w1 := qt179; omega))⟩) hP hD hS (lv_sub hl [0, 1, 2, 3, 4, 5] rfl)
                                    · have h184 := (kc_nle c169)
                                      have b185 : kb 1000001 vv 10000009 := kr_lt2 h184 kc_1000000 b168 (by decide)
                                      refine lv_aload_n hx hb dX12_splits_205 rfl (lv_at hl 4 rfl) ?_
                                      refine va_get (D := D) (ci := 12) (v := .ref (r 16)) (C := RX12) (T := TX12) (N := 48) hx hb hg inC12 hown hK hP 0 rfl rfl 16 (by decide) (hg _ wt5_176) (fun _ h9 => h9) rfl dX12_splits_206 ?_
                                      refine lv_aload_n hx hb dX12_splits_209 rfl (lv_at hl 4 rfl) ?_
                                      refine va_get (D := D) (ci := 12) (v := .int (F3 18)) (C := RX12) (T := TX12) (N := 48) hx hb hg inC12 hown hK hP 0 rfl rfl 18 (by decide) (hg _ wt5_178) (fun _ h9 => h9) rfl dX12_splits_210 ?_
                                      refine k_top (z := tk) etk.symm ?_
                                      refine va_iald hx hb hK hP 10 0 rfl rfl (kb_in b8 (by decide) (by decide)) dX12_splits_213 ?_
                                      refine k_top (z := vv) evv.symm ?_
                                      refine lv_goto (tgt := 240) hx hb dX12_splits_214 (by decide) ?_
                                      refine va_iast hx hb hK hP hD hS 10 0 rfl rfl (kb_in b8 (by decide) (by decide)) dX12_splits_240 (fun H locs hP hD hS => ?_)
                                      have hP : va_P D vwCl (mW K o r F3 (va_up B150 16 (upd (B150 16) tk.toNatClampNeg vv)) g) H := hP
                                      have hD : va_D A (mW K o r F3 (va_up B150 16 (upd (B150 16) tk.toNatClampNeg vv)) g) := hD
                                      refine k_gen (P := fun z => va_P D vwCl (mW K o r F3 z g) H ∧ va_D A (mW K o r F3 z g) ∧ (mI F3 z) ∧ (mE (XR []) f a F3 z) ∧ (mZ [18] [15, 16, 17] f a F3 z) ∧ (fE [18] f F3) ∧ (sPre (a 11) S ta z)) (va_up B150 16 (upd (B150 16) tk.toNatClampNeg vv)) ⟨hP, hD, (mI_s hI (aI_free hI.2.1 16 _ (fun j => ⟨by show (mBa 16 j).1 ≤ _; exact Int.le_refl _, by show _ ≤ (mBa 16 j).2; exact Int.le_refl _⟩)) (by decide) (by decide)), (mE_s hE (by decide) (by decide) (by decide) (by decide)), (mZ_a hZ rfl), hk0, (sPre_st hk1 (by rw [cl_nat htk]; exact Nat.le_refl ta))⟩ (fun a_186 ea_186 hq => ?_)
                                      obtain ⟨hP, hD, hI, hE, hZ, hk0, hk1⟩ := hq
                                      obtain ⟨t187, et187⟩ : ∃ z : Int32, z = y149 + Int32.ofInt 1 := ⟨_, rfl⟩
                                      have qt187 : t187.toInt = y149.toInt + 1 := by rw [et187]; exact km_inc b162 (by decide) (by decide)
                                      have b188 : kb 1 t187 400 := kb_inc (k := 1) qt187 b162
                                      refine lv_iinc (v := t187) (lv' := [(5, .int t187), (4, .int y130), (3, .int t18), (2, .int y2), (0, .ref o), (1, .int x)]) hx hb dX12_splits_241 hl (k := 0) rfl et187.symm (by decide) rfl (fun ls hl => ?_)
                                      refine lv_goto (tgt := 169) hx hb dX12_splits_244 (by decide) ?_
                                      exact ihlp151 (ii + 1) a_186 _ _ _ t187 (km_up hmlp151 qt187) hI hE hZ hk0 hk1 (kb_w b188 (by decide) (by decide)) (⟨(show a_186 15 = B150 15 from by rw [← ea_186]; rfl).trans hvlp151_0.1, (show a_186 17 = B150 17 from by rw [← ea_186]; rfl).trans hvlp151_0.2.1, ⟨by have w1 := hvlp151_0.2.2.1; omega, by have w1 := hvlp151_0.2.2.1; omega, hie⟩, (by rw [nv_s hvlp151_0.2.2.1.2.1]; have w9 : a_186 16 ta = vv := (by rw [← cl_nat htk]; exact (show a_186 16 tk.toNatClampNeg = vv from by rw [← ea_186]; exact (pk_us (f := B150 16) (k := tk.toNatClampNeg) (x := vv)))); rw [w9]; exact vOk_n hvv (by have w1 := (b185).1; omega) hnv0 ⟨by have w1 := hdb.1; omega, by have w1 := hdb.2; omega⟩)⟩) hP hD hS (lv_sub hl [0, 1, 2, 3, 4, 5] rfl)
                            exact lp151 (401) kk a_148 _ _ _ y2 (by have h1 := (b17); unfold kb at h1; omega) hI hE hZ hk0 hk1 (kb_w b17 (by decide) (by decide)) (⟨rfl, rfl, ⟨hkk, Nat.le_refl _, by omega⟩, by rw [h16, Nat.sub_self]; exact Or.inl ⟨by show (0 : Int) ≤ 1000000; decide, by show (0 : Int32).toInt = 0; decide +kernel⟩⟩) hP hD hS (lv_sub hl [0, 1, 2, 3, 4, 5] rfl)
                        · exact kb_nsame c142 kc_0 kc_0
                      · have h189 := (kc_nle c134)
                        have b190 : kb 1 y130 399 := kr_lt1 h189 b133 b16 (by decide)
                        have b191 : kb 2 x 400 := kr_lt2 h189 b133 b16 (by decide)
                        have heS : ee < S := by have w1 := kc_nle c134; have w2 := hp0; have w3 := hvlp131_0.1; omega
                        have b192 : kb 1 y130 399 := ⟨by have w1 := hvlp131_0; omega, by have w1 := bx.2; have w2 := hp0; have w3 := hvlp131_0.1; omega⟩
                        refine lv_aload_n hx hb dX12_splits_81 rfl (lv_at hl 3 rfl) ?_
                        refine va_get (D := D) (ci := 12) (v := .ref (r 11)) (C := RX12) (T := TX12) (N := 48) hx hb hg inC12 hown hK hP 0 rfl rfl 11 (by decide) (hg _ wt5_171) (fun _ h9 => h9) rfl dX12_splits_82 ?_
                        refine lv_iload hx hb dX12_splits_85 (lv_at hl 0 rfl) ?_
                        refine va_bald hx hb hK hP 7 1 rfl rfl (kb_in b192 (by decide) (by decide)) dX12_splits_87 ?_
                        refine lv_topi (fun t193 et193 => ?_)
                        have he1 : t193 = a 11 ee := et193.trans ((congrFun hE.2.1 _).trans (congrArg (a 11) (cl_nat hvlp131_0.1)))
                        refine kN.callS (As := [.int t193]) (rest := []) ⟨hx, hb, hml, hown, hg⟩ (q_isDigit l t193 ) (va_cwS 1 hg (kgS wt6_184 wt6_185 wt1_14 wt6_186) rfl rfl rfl (by decide +kernel) ⟨by decide, by decide⟩) hP hS rfl hl.1 rfl (Nat.le_of_ble_eq_true rfl) dX12_splits_88 ⟨Nat.le_refl _, Nat.le_refl _⟩ (fun v195 H locs hw194 hP hS => ?_)
                        rcases hw194.2 with hkk197 | hkk197
                        · refine k_top (z := 1) hkk197.1 ?_
                          refine lv_if_eq (tgt := 100) hx hb dX12_splits_91 (by decide) (fun c198 => ?_) (fun c198 => ?_)
                          · exact kb_dj c198 kc_1 kc_0 (by decide)
                          · obtain ⟨t199, et199⟩ : ∃ z : Int32, z = y130 + Int32.ofInt 1 := ⟨_, rfl⟩
                            have qt199 : t199.toInt = y130.toInt + 1 := by rw [et199]; exact km_inc b192 (by decide) (by decide)
                            have b200 : kb 2 t199 400 := kb_inc (k := 1) qt199 b192
                            refine lv_iinc (v := t199) (lv' := [(4, .int t199), (3, .int t18), (2, .int y2), (0, .ref o), (1, .int x)]) hx hb dX12_splits_94 hl (k := 0) rfl et199.symm (by decide) rfl (fun ls hl => ?_)
                            refine lv_goto (tgt := 75) hx hb dX12_splits_97 (by decide) ?_
                            exact ihlp131 (ee + 1) _ _ _ t199 (km_up hmlp131 qt199) (kb_w b200 (by decide) (by decide)) (⟨by have w1 := hvlp131_0.1; omega, by have w1 := hvlp131_0.2.1; omega, heS, hvlp131_0.2.2.2.1.trans (rn_y heS (by rw [← he1]; exact hkk197.2)), fun j h1 h2 => by by_cases w1 : j = ee; (rw [w1, ← he1]; exact hkk197.2); exact hvlp131_0.2.2.2.2 j h1 (by omega)⟩) hP hD hS (lv_sub hl [0, 1, 2, 3, 4] rfl)
                        · refine k_top (z := 0) hkk197.1 ?_
                          refine lv_if_eq (tgt := 100) hx hb dX12_splits_91 (by decide) (fun c201 => ?_) (fun c201 => ?_)
                          · have hen : rn isD (a 11) S (kk + 1) = ee := hvlp131_0.2.2.2.1.trans (rn_n heS (by rw [← he1, hkk197.2]; decide))
                            have henT : enT (a 11) S kk = ee := by unfold enT; rw [if_neg (bne_t (show isS (a 11 kk) = false from by rw [← hby]; exact hkk25.2)), if_pos (show isD (a 11 kk) = true from by rw [← hby]; exact hkk128.2)]; exact hen
                            have htoo : y130.toInt = ((ee : Nat) : Int) := by exact hvlp131_0.1
                            have hgl : kk < ee ∧ ee ≤ S := by have w1 := hvlp131_0; omega
                            refine lv_aload_n hx hb dX12_splits_100 rfl (lv_at hl 3 rfl) ?_
                            refine va_get (D := D) (ci := 12) (v := .ref (r 17)) (C := RX12) (T := TX12) (N := 48) hx hb hg inC12 hown hK hP 0 rfl rfl 17 (by decide) (hg _ wt5_177) (fun _ h9 => h9) rfl dX12_splits_101 ?_
                            refine lv_aload_n hx hb dX12_splits_104 rfl (lv_at hl 3 rfl) ?_
                            refine va_get (D := D) (ci := 12) (v := .int (F3 18)) (C := RX12) (T := TX12) (N := 48) hx hb hg inC12 hown hK hP 0 rfl rfl 18 (by decide) (hg _ wt5_178) (fun _ h9 => h9) rfl dX12_splits_105 ?_
                            refine k_top (z := tk) etk.symm ?_
                            refine lv_iload_n hx hb dX12_splits_108 rfl (lv_at hl 2 rfl) ?_
                            refine va_iast hx hb hK hP hD hS 11 0 rfl rfl (kb_in b8 (by decide) (by decide)) dX12_splits_109 (fun H locs hP hD hS => ?_)
                            have hP : va_P D vwCl (mW K o r F3 (va_up B4 17 (upd (B4 17) tk.toNatClampNeg y2)) g) H := hP
                            have hD : va_D A (mW K o r F3 (va_up B4 17 (upd (B4 17) tk.toNatClampNeg y2)) g) := hD
                            refine k_gen (P := fun z => va_P D vwCl (mW K o r F3 z g) H ∧ va_D A (mW K o r F3 z g) ∧ (mI F3 z) ∧ (mE (XR []) f a F3 z) ∧ (mZ [18] [15, 16, 17] f a F3 z) ∧ (fE [18] f F3) ∧ (sPre (a 11) S ta z)) (va_up B4 17 (upd (B4 17) tk.toNatClampNeg y2)) ⟨hP, hD, (mI_s hI (aI_sx hI.2.1 17 0 401 b8 (by decide) (by decide) b17 (by decide +kernel)) (by decide) (by decide)), (mE_s hE (by decide) (by decide) (by decide) (by decide)), (mZ_a hZ rfl), hk0, (sPre_st hk1 (by rw [cl_nat htk]; exact Nat.le_refl ta))⟩ (fun a_202 ea_202 hq => ?_)
                            obtain ⟨hP, hD, hI, hE, hZ, hk0, hk1⟩ := hq
                            refine lv_aload_n hx hb dX12_splits_110 rfl (lv_at hl 3 rfl) ?_
                            refine va_get (D := D) (ci := 12) (v := .ref (r 16)) (C := RX12) (T := TX12) (N := 48) hx hb hg inC12 hown hK hP 0 rfl rfl 16 (by decide) (hg _ wt5_176) (fun _ h9 => h9) rfl dX12_splits_111 ?_
                            refine lv_aload_n hx hb dX12_splits_114 rfl (lv_at hl 3 rfl) ?_
                            refine va_get (D := D) (ci := 12) (v := .int (F3 18)) (C := RX12) (T := TX12) (N := 48) hx hb hg inC12 hown hK hP 0 rfl rfl 18 (by decide) (hg _ wt5_178) (fun _ h9 => h9) rfl dX12_splits_115 ?_
                            refine k_top (z := tk) etk.symm ?_
                            refine lv_iconst (v := 0) hx hb dX12_splits_118 (by decide) ?_
                            refine va_iast hx hb hK hP hD hS 10 0 rfl rfl (kb_in b8 (by decide) (by decide)) dX12_splits_119 (fun H locs hP hD hS => ?_)
                            have hP : va_P D vwCl (mW K o r F3 (va_up a_202 16 (upd (a_202 16) tk.toNatClampNeg 0)) g) H := hP
                            have hD : va_D A (mW K o r F3 (va_up a_202 16 (upd (a_202 16) tk.toNatClampNeg 0)) g) := hD
                            refine k_gen (P := fun z => va_P D vwCl (mW K o r F3 z g) H ∧ va_D A (mW K o r F3 z g) ∧ (mI F3 z) ∧ (mE (XR []) f a F3 z) ∧ (mZ [18] [15, 16, 17] f a F3 z) ∧ (fE [18] f F3) ∧ (sPre (a 11) S ta z)) (va_up a_202 16 (upd (a_202 16) tk.toNatClampNeg 0)) ⟨hP, hD, (mI_s hI (aI_free hI.2.1 16 _ (fun j => ⟨by show (mBa 16 j).1 ≤ _; exact Int.le_refl _, by show _ ≤ (mBa 16 j).2; exact Int.le_refl _⟩)) (by decide) (by decide)), (mE_s hE (by decide) (by decide) (by decide) (by decide)), (mZ_a hZ rfl), hk0, (sPre_st hk1 (by rw [cl_nat htk]; exact Nat.le_refl ta))⟩ (fun a_203 ea_203 hq => ?_)
                            obtain ⟨hP, hD, hI, hE, hZ, hk0, hk1⟩ := hq
                            refine lv_aload_n hx hb dX12_splits_120 rfl (lv_at hl 3 rfl) ?_
                            refine va_get (D := D) (ci := 12) (v := .ref (r 15)) (C := RX12) (T := TX12) (N := 48) hx hb hg inC12 hown hK hP 0 rfl rfl 15 (by decide) (hg _ wt5_175) (fun _ h9 => h9) rfl dX12_splits_121 ?_
                            refine lv_aload_n hx hb dX12_splits_124 rfl (lv_at hl 3 rfl) ?_
                            refine va_get (D := D) (ci := 12) (v := .int (F3 18)) (C := RX12) (T := TX12) (N := 48) hx hb hg inC12 hown hK hP 0 rfl rfl 18 (by decide) (hg _ wt5_178) (fun _ h9 => h9) rfl dX12_splits_125 ?_
                            refine k_top (z := tk) etk.symm ?_
                            refine lv_iload_n hx hb dX12_splits_128 rfl (lv_at hl 1 rfl) ?_
                            refine kN.callS (As := [.int t18]) (rest := [.int tk, .ref (r 15)]) ⟨hx, hb, hml, hown, hg⟩ (q_isSmall l t18 ) (va_cwS 1 hg (kgS wt6_181 wt6_182 wt1_14 wt6_183) rfl rfl rfl (by decide +kernel) ⟨by decide, by decide⟩) hP hS rfl hl.1 rfl (Nat.le_of_ble_eq_true rfl) dX12_splits_129 ⟨Nat.le_refl _, Nat.le_refl _⟩ (fun v205 H locs hw204 hP hS => ?_)
                            refine k_top (z := 0) ((hw204.2).elim (fun q => absurd (hkk25.2.symm.trans q.2) (by decide)) (fun q => q.1)) ?_
                            refine lv_if_eq (tgt := 145) hx hb dX12_splits_132 (by decide) (fun c208 => ?_) (fun c208 => ?_)
                            · refine lv_iload_n hx hb dX12_splits_145 rfl (lv_at hl 1 rfl) ?_
                              refine kN.callS (As := [.int t18]) (rest := [.int tk, .ref (r 15)]) ⟨hx, hb, hml, hown, hg⟩ (q_isDigit l t18 ) (va_cwS 1 hg (kgS wt6_184 wt6_185 wt1_14 wt6_186) rfl rfl rfl (by decide +kernel) ⟨by decide, by decide⟩) hP hS rfl hl.1 rfl (Nat.le_of_ble_eq_true rfl) dX12_splits_146 ⟨Nat.le_refl _, Nat.le_refl _⟩ (fun v210 H locs hw209 hP hS => ?_)
                              refine k_top (z := 1) ((hw209.2).elim (fun q => q.1) (fun q => absurd (hkk128.2.symm.trans q.2) (by decide))) ?_
                              refine lv_if_eq (tgt := 157) hx hb dX12_splits_149 (by decide) (fun c213 => ?_) (fun c213 => ?_)
                              · exact kb_dj c213 kc_1 kc_0 (by decide)
                              · refine lv_bipush (v := 50) hx hb dX12_splits_152 (by decide) ?_
                                refine lv_goto (tgt := 165) hx hb dX12_splits_154 (by decide) ?_
                                refine va_iast hx hb hK hP hD hS 9 0 rfl rfl (kb_in b8 (by decide) (by decide)) dX12_splits_165 (fun H locs hP hD hS => ?_)
                                have hP : va_P D vwCl (mW K o r F3 (va_up a_203 15 (upd (a_203 15) tk.toNatClampNeg 50)) g) H := hP
                                have hD : va_D A (mW K o r F3 (va_up a_203 15 (upd (a_203 15) tk.toNatClampNeg 50)) g) := hD
                                refine k_gen (P := fun z => va_P D vwCl (mW K o r F3 z g) H ∧ va_D A (mW K o r F3 z g) ∧ (mI F3 z) ∧ (mE (XR []) f a F3 z) ∧ (mZ [18] [15, 16, 17] f a F3 z) ∧ (fE [18] f F3) ∧ (sPre (a 11) S ta z)) (va_up a_203 15 (upd (a_203 15) tk.toNatClampNeg 50)) ⟨hP, hD, (mI_s hI (aI_free hI.2.1 15 _ (fun j => ⟨by show (mBa 15 j).1 ≤ _; exact Int.le_refl _, by show _ ≤ (mBa 15 j).2; exact Int.le_refl _⟩)) (by decide) (by decide)), (mE_s hE (by decide) (by decide) (by decide) (by decide)), (mZ_a hZ rfl), hk0, (sPre_st hk1 (by rw [cl_nat htk]; exact Nat.le_refl ta))⟩ (fun a_214 ea_214 hq => ?_)
                                obtain ⟨hP, hD, hI, hE, hZ, hk0, hk1⟩ := hq
                                refine lv_iload_n hx hb dX12_splits_166 rfl (lv_at hl 2 rfl) ?_
                                refine lv_istore (lv' := [(5, .int y2), (4, .int y130), (3, .int t18), (2, .int y2), (0, .ref o), (1, .int x)]) hx hb dX12_splits_167 hl (by decide) rfl (fun ls hl => ?_)
                                have h15 : a_214 15 ta = 50 := by rw [← cl_nat htk]; exact (show a_214 15 tk.toNatClampNeg = 50 from by rw [← ea_214]; exact (pk_us (f := a_203 15) (k := tk.toNatClampNeg) (x := 50)))
                                have h16 : a_214 16 ta = 0 := by rw [← cl_nat htk]; exact ((show a_214 16 tk.toNatClampNeg = a_203 16 tk.toNatClampNeg from by rw [← ea_214]; rfl).trans (show a_203 16 tk.toNatClampNeg = 0 from by rw [← ea_203]; exact (pk_us (f := a_202 16) (k := tk.toNatClampNeg) (x := 0))))
                                have h17 : a_214 17 ta = y2 := by rw [← cl_nat htk]; exact ((show a_214 17 tk.toNatClampNeg = a_203 17 tk.toNatClampNeg from by rw [← ea_214]; rfl).trans ((show a_203 17 tk.toNatClampNeg = a_202 17 tk.toNatClampNeg from by rw [← ea_203]; rfl).trans (show a_202 17 tk.toNatClampNeg = y2 from by rw [← ea_202]; exact (pk_us (f := B4 17) (k := tk.toNatClampNeg) (x := y2)))))
                                have lp217 : ∀ (n218 : Nat) (ii : Nat) (B216 : Nat → Nat → Int32) (H : Heap) (locs : List Loc) (ls : Array Slot) (y215 : Int32), (400 < y215.toInt + (n218 : Int)) → (mI F3 B216) → (mE (XR []) f a F3 B216) → (mZ [18] [15, 16, 17] f a F3 B216) → (fE [18] f F3) → (sPre (a 11) S ta B216) → (kb 0 y215 400) → (B216 15 = a_214 15 ∧ B216 17 = a_214 17 ∧ (y215.toInt = (ii : Int) ∧ kk ≤ ii ∧ ii ≤ ee) ∧ vOk (B216 16 ta) (nvT (a 11) kk (ii - kk))) → va_P D vwCl (mW K o r F3 B216 g) H → va_D A (mW K o r F3 B216 g) → va_S A s.heap H locs → lv_has ls 6 [(5, .int y215), (4, .int y130), (3, .int t18), (2, .int y2), (0, .ref o), (1, .int x)] → W p l e (rmD 2 0 0) s m ([.ref o, .int x] : List Value).toArray below meth c H locs 0 0 (kQv D (tysK K) (fun (u : mS) => mI u.1 u.2.1 ∧ mE (XR []) f a u.1 u.2.1 ∧ fE [18] f u.1 ∧ (∃ N : Nat, (u.1 18).toInt = (N : Int) ∧ N ≤ 400 ∧ u.2.1 15 N = 0 ∧ spR (a 11) S N u.2.1) ∧ mZ [18] [15, 16, 17] f a u.1 u.2.1) (fun u => mW K o r u.1 u.2.1 u.2.2) A below ([.ref o, .int x] : List Value).toArray s 0 0) (F0 m 169 ls []) := by
                                  intro n218
                                  induction n218 with
                                  | zero =>
                                    intro ii B216  H locs ls y215 hmlp217 hI hE hZ hk0 hk1 b219 hvlp217_0 hP hD hS hl
                                    exact (by have h1 := b219.2; have h2 := hmlp217; omega : False).elim
                                  | succ n218 ihlp217 =>
                                    intro ii B216  H locs ls y215 hmlp217 hI hE hZ hk0 hk1 b219 hvlp217_0 hP hD hS hl
                                    refine lv_iload hx hb dX12_splits_169 (lv_at hl 0 rfl) ?_
                                    refine lv_iload hx hb dX12_splits_171 (lv_at hl 1 rfl) ?_
                                    refine lv_icmp_ge (tgt := 247) hx hb dX12_splits_173 (by decide) (fun c220 => ?_) (fun c220 => ?_)
                                    · have h221 := (kc_le c220)
                                      have b222 : kb 1 y215 400 := kr_le2 h221 b192 b219
                                      have hie2 : ii = ee := by have w1 := hvlp217_0.2.2.1; have w2 := htoo; first | (have w3 := kc_le c220; omega) | omega
                                      have hnv9 : 0 ≤ nvT (a 11) kk (ee - kk) := nvT_0 _ (rn_d (fun j h1 h2 => by by_cases w1 : j = kk; (rw [w1]; exact (show isD (a 11 kk) = true from by rw [← hby]; exact hkk128.2)); exact hvlp131_0.2.2.2.2 j (by omega) (by omega)))
                                      have hvo9 : vOk (B216 16 ta) (nvT (a 11) kk (ee - kk)) := by rw [← hie2]; exact hvlp217_0.2.2.2
                                      refine lv_aload_n hx hb dX12_splits_247 rfl (lv_at hl 4 rfl) ?_
                                      refine lv_dup hx hb dX12_splits_248 rfl ?_
                                      refine va_get (D := D) (ci := 12) (v := .int (F3 18)) (C := RX12) (T := TX12) (N := 48) hx hb hg inC12 hown hK hP 0 rfl rfl 18 (by decide) (hg _ wt5_178) (fun _ h9 => h9) rfl dX12_splits_249 ?_
                                      refine k_top (z := tk) etk.symm ?_
                                      have b223 : kb 0 tk 399 := ⟨(b8).1, by have w1 := htk; have w2 := hvlp5_1; have w3 := bx.2; have w4 := hp0; omega⟩
                                      refine lv_iconst (v := 1) hx hb dX12_splits_252 (by decide) ?_
                                      refine lv_iadd hx hb dX12_splits_253 ?_
                                      refine lv_topi (fun t224 et224 => ?_)
                                      have b225 : kb 1 t224 400 := kb_eq et224 (kb_add b223 kc_1 (by decide) (by decide))
                                      have qt224 : t224.toInt = tk.toInt + 1 := by rw [et224]; exact kt_addc b223 kc_1 (by decide) (by decide)
                                      refine va_put (D := D) (ci := 12) (v := .int t224) (ty := .int) (C := RX12) (T := TX12) (N := 48) hx hb hg inC12 tyX12 tyX12_ok nmX12 hown hK hP hD hS 0 rfl rfl 18 (by decide) (hg _ wt5_178) (fun _ h9 => h9) rfl (by decide +kernel) rfl rfl (Nat.le_of_ble_eq_true rfl) dX12_splits_254 (fun H locs hP hD hS => ?_)
                                      have hP : va_P D vwCl (mW K o r (upd F3 18 t224) B216 g) H := hP
                                      have hD : va_D A (mW K o r (upd F3 18 t224) B216 g) := hD
                                      refine k_gen (P := fun z => va_P D vwCl (mW K o r z B216 g) H ∧ va_D A (mW K o r z B216 g) ∧ (mI z B216) ∧ (mE (XR []) f a z B216) ∧ (mZ [18] [15, 16, 17] f a z B216) ∧ (fE [18] f z) ∧ (sPre (a 11) S ta B216)) (upd F3 18 t224) ⟨hP, hD, (mI_f hI (fI_st hI.1 18 b225 (by decide) (by decide))), (mE_f hE (by decide)), (mZ_f hZ rfl), (fE_f hk0 (by decide)), hk1⟩ (fun f_226 ef_226 hq => ?_)
                                      obtain ⟨hP, hD, hI, hE, hZ, hk0, hk1⟩ := hq
                                      refine lv_iload hx hb dX12_splits_257 (lv_at hl 1 rfl) ?_
                                      refine lv_istore_n (lv' := [(2, .int y130), (5, .int y215), (4, .int y130), (3, .int t18), (0, .ref o), (1, .int x)]) hx hb dX12_splits_259 rfl hl (by decide) rfl (fun ls hl => ?_)
                                      refine lv_goto (tgt := 7) hx hb dX12_splits_260 (by decide) ?_
                                      exact ihlp5 (ee) (ta + 1) f_226 B216 _ _ _ y130 (by omega) hI hE hZ hk0 (kb_w b192 (by decide) (by decide)) (⟨htoo, hgl.2⟩) (⟨by rw [(show f_226 18 = t224 from by rw [← ef_226]; rfl)]; have w1 := qt224; omega, by have w1 := hvlp5_1.2; omega⟩) ((plT_s (by rw [hpl]; exact hkS)).trans (by rw [hpl, henT])) (sPre_add hk1 (by rw [hpl]; exact hkS) (by rw [tkT_l (by rw [hpl]; exact hkS), hpl]; exact (by rw [(congrFun hvlp217_0.1 ta).trans h15]; exact tok_d (bne_t (show isS (a 11 kk) = false from by rw [← hby]; exact hkk25.2)) (show isD (a 11 kk) = true from by rw [← hby]; exact hkk128.2) henT hnv9 hvo9)) (by unfold pcT; rw [hpl, (congrFun hvlp217_0.2.1 ta).trans h17]; exact pc_of hkk (by have w1 := bx.2; have w2 := hp0; omega))) hP hD hS (lv_sub hl [0, 4, 5] rfl)
                                    · have h227 := (kc_nle c220)
                                      have b228 : kb 0 y215 398 := kr_lt1 h227 b219 b192 (by decide)
                                      have hie : ii + 1 ≤ ee := by have w1 := kc_nle c220; have w2 := hvlp217_0.2.2.1; have w3 := htoo; omega
                                      refine lv_iload_n hx hb dX12_splits_176 rfl (lv_at hl 2 rfl) ?_
                                      refine kN.callS (As := [.int t18]) (rest := []) ⟨hx, hb, hml, hown, hg⟩ (q_isDigit l t18 ) (va_cwS 1 hg (kgS wt6_184 wt6_185 wt1_14 wt6_186) rfl rfl rfl (by decide +kernel) ⟨by decide, by decide⟩) hP hS rfl hl.1 rfl (Nat.le_of_ble_eq_true rfl) dX12_splits_177 ⟨Nat.le_refl _, Nat.le_refl _⟩ (fun v230 H locs hw229 hP hS => ?_)
                                      refine k_top (z := 1) ((hw229.2).elim (fun q => q.1) (fun q => absurd (hkk128.2.symm.trans q.2) (by decide))) ?_
                                      refine lv_if_eq (tgt := 247) hx hb dX12_splits_180 (by decide) (fun c233 => ?_) (fun c233 => ?_)
                                      · exact kb_dj c233 kc_1 kc_0 (by decide)
                                      · have hnv0 : 0 ≤ nvT (a 11) kk (ii - kk) := nvT_0 _ (rn_d (fun j h1 h2 => by by_cases w1 : j = kk; (rw [w1]; exact (show isD (a 11 kk) = true from by rw [← hby]; exact hkk128.2)); exact hvlp131_0.2.2.2.2 j (by omega) (by omega)))
                                        obtain ⟨vv, evv⟩ : ∃ z : Int32, z = B216 16 tk.toNatClampNeg := ⟨_, rfl⟩
                                        have hvv : vOk vv (nvT (a 11) kk (ii - kk)) := by rw [evv, cl_nat htk]; exact hvlp217_0.2.2.2
                                        have b234 : kb 0 vv 10000009 := vOk_b hvv hnv0
                                        have hdi : isD (a 11 ii) = true := ((fun j h1 h2 => by by_cases w1 : j = kk; (rw [w1]; exact (show isD (a 11 kk) = true from by rw [← hby]; exact hkk128.2)); exact hvlp131_0.2.2.2.2 j (by omega) (by omega)) : ∀ j, kk ≤ j → j < ee → isD (a 11 j) = true) ii hvlp217_0.2.2.1.2.1 (by omega)
                                        have hdb := isD_b hdi
                                        refine lv_aload_n hx hb dX12_splits_183 rfl (lv_at hl 4 rfl) ?_
                                        refine va_get (D := D) (ci := 12) (v := .ref (r 16)) (C := RX12) (T := TX12) (N := 48) hx hb hg inC12 hown hK hP 0 rfl rfl 16 (by decide) (hg _ wt5_176) (fun _ h9 => h9) rfl dX12_splits_184 ?_
                                        refine lv_aload_n hx hb dX12_splits_187 rfl (lv_at hl 4 rfl) ?_
                                        refine va_get (D := D) (ci := 12) (v := .int (F3 18)) (C := RX12) (T := TX12) (N := 48) hx hb hg inC12 hown hK hP 0 rfl rfl 18 (by decide) (hg _ wt5_178) (fun _ h9 => h9) rfl dX12_splits_188 ?_
                                        refine k_top (z := tk) etk.symm ?_
                                        refine lv_aload_n hx hb dX12_splits_191 rfl (lv_at hl 4 rfl) ?_
                                        refine va_get (D := D) (ci := 12) (v := .ref (r 16)) (C := RX12) (T := TX12) (N := 48) hx hb hg inC12 hown hK hP 0 rfl rfl 16 (by decide) (hg _ wt5_176) (fun _ h9 => h9) rfl dX12_splits_192 ?_
                                        refine lv_aload_n hx hb dX12_splits_195 rfl (lv_at hl 4 rfl) ?_
                                        refine va_get (D := D) (ci := 12) (v := .int (F3 18)) (C := RX12) (T := TX12) (N := 48) hx hb hg inC12 hown hK hP 0 rfl rfl 18 (by decide) (hg _ wt5_178) (fun _ h9 => h9) rfl dX12_splits_196 ?_
                                        refine k_top (z := tk) etk.symm ?_
                                        refine va_iald hx hb hK hP 10 0 rfl rfl (kb_in b8 (by decide) (by decide)) dX12_splits_199 ?_
                                        refine k_top (z := vv) evv.symm ?_
                                        refine lv_ldc (v := (1000000)) hx hb hown (hg _ wt6_191) dX12_splits_200 ?_
                                        refine lv_icmp_le (tgt := 217) hx hb dX12_splits_202 (by decide) (fun c235 => ?_) (fun c235 => ?_)
                                        · have h236 := (kc_le c235)
                                          have b237 : kb 0 vv 1000000 := kr_le1 h236 b234 kc_1000000
                                          refine lv_bipush (v := 10) hx hb dX12_splits_217 (by decide) ?_
                                          refine lv_aload_n hx hb dX12_splits_219 rfl (lv_at hl 4 rfl) ?_
                                          refine va_get (D := D) (ci := 12) (v := .ref (r 16)) (C := RX12) (T := TX12) (N := 48) hx hb hg inC12 hown hK hP 0 rfl rfl 16 (by decide) (hg _ wt5_176) (fun _ h9 => h9) rfl dX12_splits_220 ?_
                                          refine lv_aload_n hx hb dX12_splits_223 rfl (lv_at hl 4 rfl) ?_
                                          refine va_get (D := D) (ci := 12) (v := .int (F3 18)) (C := RX12) (T := TX12) (N := 48) hx hb hg inC12 hown hK hP 0 rfl rfl 18 (by decide) (hg _ wt5_178) (fun _ h9 => h9) rfl dX12_splits_224 ?_
                                          refine k_top (z := tk) etk.symm ?_
                                          refine va_iald hx hb hK hP 10 0 rfl rfl (kb_in b8 (by decide) (by decide)) dX12_splits_227 ?_
                                          refine k_top (z := vv) evv.symm ?_
                                          refine lv_imul hx hb dX12_splits_228 ?_
                                          refine lv_topi (fun t238 et238 => ?_)
                                          have b239 : kb 0 t238 10000000 := kb_eq et238 (kb_mul kc_10 b237 (by decide) (by decide) (by decide))
                                          have qt238 : t238.toInt = 10 * vv.toInt := by rw [et238]; exact kt_cmul kc_10 b237 (by decide) (by decide) (by decide)
                                          refine lv_aload_n hx hb dX12_splits_229 rfl (lv_at hl 4 rfl) ?_
                                          refine va_get (D := D) (ci := 12) (v := .ref (r 11)) (C := RX12) (T := TX12) (N := 48) hx hb hg inC12 hown hK hP 0 rfl rfl 11 (by decide) (hg _ wt5_171) (fun _ h9 => h9) rfl dX12_splits_230 ?_
                                          have b240 : kb 0 y215 399 := ⟨by have w1 := hvlp217_0.2.2.1; omega, by have w1 := hvlp217_0.2.2.1; have w2 := bx.2; have w3 := hp0; omega⟩
                                          refine lv_iload hx hb dX12_splits_233 (lv_at hl 0 rfl) ?_
                                          refine va_bald hx hb hK hP 7 1 rfl rfl (kb_in b240 (by decide) (by decide)) dX12_splits_235 ?_
                                          refine lv_topi (fun t241 et241 => ?_)
                                          have hb2 : t241 = a 11 ii := et241.trans ((congrFun hE.2.1 _).trans (congrArg (a 11) (cl_nat hvlp217_0.2.2.1.1)))
                                          have b242 : kb 48 t241 57 := kb_eq hb2 hdb
                                          refine lv_iadd hx hb dX12_splits_236 ?_
                                          refine lv_topi (fun t243 et243 => ?_)
                                          have b244 : kb 48 t243 10000057 := kb_eq et243 (kb_add b239 b242 (by decide) (by decide))
                                          have qt243 : t243.toInt = t238.toInt + t241.toInt := by rw [et243]; exact kt_add b239 b242 (by decide) (by decide)
                                          refine lv_bipush (v := 48) hx hb dX12_splits_237 (by decide) ?_
                                          refine lv_isub hx hb dX12_splits_239 ?_
                                          refine lv_topi (fun t245 et245 => ?_)
                                          have b246 : kb 0 t245 10000009 := kb_eq et245 (kb_sub b244 kc_48 (by decide) (by decide))
                                          have qt245 : t245.toInt = t243.toInt - 48 := by rw [et245]; exact kt_subc b244 kc_48 (by decide) (by decide)
                                          refine va_iast hx hb hK hP hD hS 10 0 rfl rfl (kb_in b8 (by decide) (by decide)) dX12_splits_240 (fun H locs hP hD hS => ?_)
                                          have hP : va_P D vwCl (mW K o r F3 (va_up B216 16 (upd (B216 16) tk.toNatClampNeg t245)) g) H := hP
                                          have hD : va_D A (mW K o r F3 (va_up B216 16 (upd (B216 16) tk.toNatClampNeg t245)) g) := hD
                                          refine k_gen (P := fun z => va_P D vwCl (mW K o r F3 z g) H ∧ va_D A (mW K o r F3 z g) ∧ (mI F3 z) ∧ (mE (XR []) f a F3 z) ∧ (mZ [18] [15, 16, 17] f a F3 z) ∧ (fE [18] f F3) ∧ (sPre (a 11) S ta z)) (va_up B216 16 (upd (B216 16) tk.toNatClampNeg t245)) ⟨hP, hD, (mI_s hI (aI_free hI.2.1 16 _ (fun j => ⟨by show (mBa 16 j).1 ≤ _; exact Int.le_refl _, by show _ ≤ (mBa 16 j).2; exact Int.le_refl _⟩)) (by decide) (by decide)), (mE_s hE (by decide) (by decide) (by decide) (by decide)), (mZ_a hZ rfl), hk0, (sPre_st hk1 (by rw [cl_nat htk]; exact Nat.le_refl ta))⟩ (fun a_247 ea_247 hq => ?_)
                                          obtain ⟨hP, hD, hI, hE, hZ, hk0, hk1⟩ := hq
                                          obtain ⟨t248, et248⟩ : ∃ z : Int32, z = y215 + Int32.ofInt 1 := ⟨_, rfl⟩
                                          have qt248 : t248.toInt = y215.toInt + 1 := by rw [et248]; exact km_inc b240 (by decide) (by decide)
                                          have b249 : kb 1 t248 400 := kb_inc (k := 1) qt248 b240
                                          refine lv_iinc (v := t248) (lv' := [(5, .int t248), (4, .int y130), (3, .int t18), (2, .int y2), (0, .ref o), (1, .int x)]) hx hb dX12_splits_241 hl (k := 0) rfl et248.symm (by decide) rfl (fun ls hl => ?_)
                                          refine lv_goto (tgt := 169) hx hb dX12_splits_244 (by decide) ?_
                                          exact ihlp217 (ii + 1) a_247 _ _ _ t248 (km_up hmlp217 qt248) hI hE hZ hk0 hk1 (kb_w b249 (by decide) (by decide)) (⟨(show a_247 15 = B216 15 from by rw [← ea_247]; rfl).trans hvlp217_0.1, (show a_247 17 = B216 17 from by rw [← ea_247]; rfl).trans hvlp217_0.2.1, ⟨by have w1 := hvlp217_0.2.2.1; omega, by have w1 := hvlp217_0.2.2.1; omega, hie⟩, (by rw [nv_s hvlp217_0.2.2.1.2.1]; have w9 : a_247 16 ta = t245 := (by rw [← cl_nat htk]; exact (show a_247 16 tk.toNatClampNeg = t245 from by rw [← ea_247]; exact (pk_us (f := B216 16) (k := tk.toNatClampNeg) (x := t245)))); rw [w9]; rw [← hb2]; exact vOk_y hvv (by have w1 := (b237).2; omega) hnv0 ⟨by rw [hb2]; have w1 := hdb.1; omega, by rw [hb2]; have w1 := hdb.2; omega⟩ (by have w1 := qt245; omega))⟩) hP hD hS (lv_sub hl [0, 1, 2, 3, 4, 5] rfl)
                                        · have h250 := (kc_nle c235)
                                          have b251 : kb 1000001 vv 10000009 := kr_lt2 h250 kc_1000000 b234 (by decide)
                                          refine lv_aload_n hx hb dX12_splits_205 rfl (lv_at hl 4 rfl) ?_
                                          refine va_get (D := D) (ci := 12) (v := .ref (r 16)) (C := RX12) (T := TX12) (N := 48) hx hb hg inC12 hown hK hP 0 rfl rfl 16 (by decide) (hg _ wt5_176) (fun _ h9 => h9) rfl dX12_splits_206 ?_
                                          refine lv_aload_n hx hb dX12_splits_209 rfl (lv_at hl 4 rfl) ?_
                                          refine va_get (D := D) (ci := 12) (v := .int (F3 18)) (C := RX12) (T := TX12) (N := 48) hx hb hg inC12 hown hK hP 0 rfl rfl 18 (by decide) (hg _ wt5_178) (fun _ h9 => h9) rfl dX12_splits_210 ?_
                                          refine k_top (z := tk) etk.symm ?_
                                          refine va_iald hx hb hK hP 10 0 rfl rfl (kb_in b8 (by decide) (by decide)) dX12_splits_213 ?_
                                          refine k_top (z := vv) evv.symm ?_
                                          refine lv_goto (tgt := 240) hx hb dX12_splits_214 (by decide) ?_
                                          refine va_iast hx hb hK hP hD hS 10 0 rfl rfl (kb_in b8 (by decide) (by decide)) dX12_splits_240 (fun H locs hP hD hS => ?_)
                                          have hP : va_P D vwCl (mW K o r F3 (va_up B216 16 (upd (B216 16) tk.toNatClampNeg vv)) g) H := hP
                                          have hD : va_D A (mW K o r F3 (va_up B216 16 (upd (B216 16) tk.toNatClampNeg vv)) g) := hD
                                          refine k_gen (P := fun z => va_P D vwCl (mW K o r F3 z g) H ∧ va_D A (mW K o r F3 z g) ∧ (mI F3 z) ∧ (mE (XR []) f a F3 z) ∧ (mZ [18] [15, 16, 17] f a F3 z) ∧ (fE [18] f F3) ∧ (sPre (a 11) S ta z)) (va_up B216 16 (upd (B216 16) tk.toNatClampNeg vv)) ⟨hP, hD, (mI_s hI (aI_free hI.2.1 16 _ (fun j => ⟨by show (mBa 16 j).1 ≤ _; exact Int.le_refl _, by show _ ≤ (mBa 16 j).2; exact Int.le_refl _⟩)) (by decide) (by decide)), (mE_s hE (by decide) (by decide) (by decide) (by decide)), (mZ_a hZ rfl), hk0, (sPre_st hk1 (by rw [cl_nat htk]; exact Nat.le_refl ta))⟩ (fun a_252 ea_252 hq => ?_)
                                          obtain ⟨hP, hD, hI, hE, hZ, hk0, hk1⟩ := hq
                                          obtain ⟨t253, et253⟩ : ∃ z : Int32, z = y215 + Int32.ofInt 1 := ⟨_, rfl⟩
                                          have qt253 : t253.toInt = y215.toInt + 1 := by rw [et253]; exact km_inc b228 (by decide) (by decide)
                                          have b254 : kb 1 t253 399 := kb_inc (k := 1) qt253 b228
                                          refine lv_iinc (v := t253) (lv' := [(5, .int t253), (4, .int y130), (3, .int t18), (2, .int y2), (0, .ref o), (1, .int x)]) hx hb dX12_splits_241 hl (k := 0) rfl et253.symm (by decide) rfl (fun ls hl => ?_)
                                          refine lv_goto (tgt := 169) hx hb dX12_splits_244 (by decide) ?_
                                          exact ihlp217 (ii + 1) a_252 _ _ _ t253 (km_up hmlp217 qt253) hI hE hZ hk0 hk1 (kb_w b254 (by decide) (by decide)) (⟨(show a_252 15 = B216 15 from by rw [← ea_252]; rfl).trans hvlp217_0.1, (show a_252 17 = B216 17 from by rw [← ea_252]; rfl).trans hvlp217_0.2.1, ⟨by have w1 := hvlp217_0.2.2.1; omega, by have w1 := hvlp217_0.2.2.1; omega, hie⟩, (by rw [nv_s hvlp217_0.2.2.1.2.1]; have w9 : a_252 16 ta = vv := (by rw [← cl_nat htk]; exact (show a_252 16 tk.toNatClampNeg = vv from by rw [← ea_252]; exact (pk_us (f := B216 16) (k := tk.toNatClampNeg) (x := vv)))); rw [w9]; exact vOk_n hvv (by have w1 := (b251).1; omega) hnv0 ⟨by have w1 := hdb.1; omega, by have w1 := hdb.2; omega⟩)⟩) hP hD hS (lv_sub hl [0, 1, 2, 3, 4, 5] rfl)
                                exact lp217 (401) kk a_214 _ _ _ y2 (by have h1 := (b17); unfold kb at h1; omega) hI hE hZ hk0 hk1 (kb_w b17 (by decide) (by decide)) (⟨rfl, rfl, ⟨hkk, Nat.le_refl _, by omega⟩, by rw [h16, Nat.sub_self]; exact Or.inl ⟨by show (0 : Int) ≤ 1000000; decide, by show (0 : Int32).toInt = 0; decide +kernel⟩⟩) hP hD hS (lv_sub hl [0, 1, 2, 3, 4, 5] rfl)
                            · exact kb_nsame c208 kc_0 kc_0
                          · exact kb_nsame c201 kc_0 kc_0
                  exact lp131 (400) (kk + 1) _ _ _ t20 (by have h1 := (b21); unfold kb at h1; omega) b21 (⟨by have w1 := qt20; omega, Nat.le_refl _, hkS, rfl, fun j h1 h2 => absurd h1 (by omega)⟩) hP hD hS (lv_sub hl [0, 1, 2, 3, 4] rfl)
              · refine k_top (z := 0) hkk128.1 ?_
                refine lv_if_eq (tgt := 100) hx hb dX12_splits_72 (by decide) (fun c255 => ?_) (fun c255 => ?_)
                · have henT : enT (a 11) S kk = kk + 1 := by unfold enT; rw [if_neg (bne_t (show isS (a 11 kk) = false from by rw [← hby]; exact hkk25.2)), if_neg (bne_t (show isD (a 11 kk) = false from by rw [← hby]; exact hkk128.2))]
                  have htoo : t20.toInt = ((kk + 1 : Nat) : Int) := by have w1 := qt20; omega
                  have hgl : kk < kk + 1 ∧ kk + 1 ≤ S := by omega
                  refine lv_aload_n hx hb dX12_splits_100 rfl (lv_at hl 3 rfl) ?_
                  refine va_get (D := D) (ci := 12) (v := .ref (r 17)) (C := RX12) (T := TX12) (N := 48) hx hb hg inC12 hown hK hP 0 rfl rfl 17 (by decide) (hg _ wt5_177) (fun _ h9 => h9) rfl dX12_splits_101 ?_
                  refine lv_aload_n hx hb dX12_splits_104 rfl (lv_at hl 3 rfl) ?_
                  refine va_get (D := D) (ci := 12) (v := .int (F3 18)) (C := RX12) (T := TX12) (N := 48) hx hb hg inC12 hown hK hP 0 rfl rfl 18 (by decide) (hg _ wt5_178) (fun _ h9 => h9) rfl dX12_splits_105 ?_
                  refine k_top (z := tk) etk.symm ?_
                  refine lv_iload_n hx hb dX12_splits_108 rfl (lv_at hl 2 rfl) ?_
                  refine va_iast hx hb hK hP hD hS 11 0 rfl rfl (kb_in b8 (by decide) (by decide)) dX12_splits_109 (fun H locs hP hD hS => ?_)
                  have hP : va_P D vwCl (mW K o r F3 (va_up B4 17 (upd (B4 17) tk.toNatClampNeg y2)) g) H := hP
                  have hD : va_D A (mW K o r F3 (va_up B4 17 (upd (B4 17) tk.toNatClampNeg y2)) g) := hD
                  refine k_gen (P := fun z => va_P D vwCl (mW K o r F3 z g) H ∧ va_D A (mW K o r F3 z g) ∧ (mI F3 z) ∧ (mE (XR []) f a F3 z) ∧ (mZ [18] [15, 16, 17] f a F3 z) ∧ (fE [18] f F3) ∧ (sPre (a 11) S ta z)) (va_up B4 17 (upd (B4 17) tk.toNatClampNeg y2)) ⟨hP, hD, (mI_s hI (aI_sx hI.2.1 17 0 401 b8 (by decide) (by decide) b17 (by decide +kernel)) (by decide) (by decide)), (mE_s hE (by decide) (by decide) (by decide) (by decide)), (mZ_a hZ rfl), hk0, (sPre_st hk1 (by rw [cl_nat htk]; exact Nat.le_refl ta))⟩ (fun a_256 ea_256 hq => ?_)
                  obtain ⟨hP, hD, hI, hE, hZ, hk0, hk1⟩ := hq
                  refine lv_aload_n hx hb dX12_splits_110 rfl (lv_at hl 3 rfl) ?_
                  refine va_get (D := D) (ci := 12) (v := .ref (r 16)) (C := RX12) (T := TX12) (N := 48) hx hb hg inC12 hown hK hP 0 rfl rfl 16 (by decide) (hg _ wt5_176) (fun _ h9 => h9) rfl dX12_splits_111 ?_
                  refine lv_aload_n hx hb dX12_splits_114 rfl (lv_at hl 3 rfl) ?_
                  refine va_get (D := D) (ci := 12) (v := .int (F3 18)) (C := RX12) (T := TX12) (N := 48) hx hb hg inC12 hown hK hP 0 rfl rfl 18 (by decide) (hg _ wt5_178) (fun _ h9 => h9) rfl dX12_splits_115 ?_
                  refine k_top (z := tk) etk.symm ?_
                  refine lv_iconst (v := 0) hx hb dX12_splits_118 (by decide) ?_
                  refine va_iast hx hb hK hP hD hS 10 0 rfl rfl (kb_in b8 (by decide) (by decide)) dX12_splits_119 (fun H locs hP hD hS => ?_)
                  have hP : va_P D vwCl (mW K o r F3 (va_up a_256 16 (upd (a_256 16) tk.toNatClampNeg 0)) g) H := hP
                  have hD : va_D A (mW K o r F3 (va_up a_256 16 (upd (a_256 16) tk.toNatClampNeg 0)) g) := hD
                  refine k_gen (P := fun z => va_P D vwCl (mW K o r F3 z g) H ∧ va_D A (mW K o r F3 z g) ∧ (mI F3 z) ∧ (mE (XR []) f a F3 z) ∧ (mZ [18] [15, 16, 17] f a F3 z) ∧ (fE [18] f F3) ∧ (sPre (a 11) S ta z)) (va_up a_256 16 (upd (a_256 16) tk.toNatClampNeg 0)) ⟨hP, hD, (mI_s hI (aI_free hI.2.1 16 _ (fun j => ⟨by show (mBa 16 j).1 ≤ _; exact Int.le_refl _, by show _ ≤ (mBa 16 j).2; exact Int.le_refl _⟩)) (by decide) (by decide)), (mE_s hE (by decide) (by decide) (by decide) (by decide)), (mZ_a hZ rfl), hk0, (sPre_st hk1 (by rw [cl_nat htk]; exact Nat.le_refl ta))⟩ (fun a_257 ea_257 hq => ?_)
                  obtain ⟨hP, hD, hI, hE, hZ, hk0, hk1⟩ := hq
                  refine lv_aload_n hx hb dX12_splits_120 rfl (lv_at hl 3 rfl) ?_
                  refine va_get (D := D) (ci := 12) (v := .ref (r 15)) (C := RX12) (T := TX12) (N := 48) hx hb hg inC12 hown hK hP 0 rfl rfl 15 (by decide) (hg _ wt5_175) (fun _ h9 => h9) rfl dX12_splits_121 ?_
                  refine lv_aload_n hx hb dX12_splits_124 rfl (lv_at hl 3 rfl) ?_
                  refine va_get (D := D) (ci := 12) (v := .int (F3 18)) (C := RX12) (T := TX12) (N := 48) hx hb hg inC12 hown hK hP 0 rfl rfl 18 (by decide) (hg _ wt5_178) (fun _ h9 => h9) rfl dX12_splits_125 ?_
                  refine k_top (z := tk) etk.symm ?_
                  refine lv_iload_n hx hb dX12_splits_128 rfl (lv_at hl 1 rfl) ?_
                  refine kN.callS (As := [.int t18]) (rest := [.int tk, .ref (r 15)]) ⟨hx, hb, hml, hown, hg⟩ (q_isSmall l t18 ) (va_cwS 1 hg (kgS wt6_181 wt6_182 wt1_14 wt6_183) rfl rfl rfl (by decide +kernel) ⟨by decide, by decide⟩) hP hS rfl hl.1 rfl (Nat.le_of_ble_eq_true rfl) dX12_splits_129 ⟨Nat.le_refl _, Nat.le_refl _⟩ (fun v259 H locs hw258 hP hS => ?_)
                  refine k_top (z := 0) ((hw258.2).elim (fun q => absurd (hkk25.2.symm.trans q.2) (by decide)) (fun q => q.1)) ?_
                  refine lv_if_eq (tgt := 145) hx hb dX12_splits_132 (by decide) (fun c262 => ?_) (fun c262 => ?_)
                  · refine lv_iload_n hx hb dX12_splits_145 rfl (lv_at hl 1 rfl) ?_
                    refine kN.callS (As := [.int t18]) (rest := [.int tk, .ref (r 15)]) ⟨hx, hb, hml, hown, hg⟩ (q_isDigit l t18 ) (va_cwS 1 hg (kgS wt6_184 wt6_185 wt1_14 wt6_186) rfl rfl rfl (by decide +kernel) ⟨by decide, by decide⟩) hP hS rfl hl.1 rfl (Nat.le_of_ble_eq_true rfl) dX12_splits_146 ⟨Nat.le_refl _, Nat.le_refl _⟩ (fun v264 H locs hw263 hP hS => ?_)
                    refine k_top (z := 0) ((hw263.2).elim (fun q => absurd (hkk128.2.symm.trans q.2) (by decide)) (fun q => q.1)) ?_
                    refine lv_if_eq (tgt := 157) hx hb dX12_splits_149 (by decide) (fun c267 => ?_) (fun c267 => ?_)
                    · refine lv_bipush (v := 100) hx hb dX12_splits_157 (by decide) ?_
                      refine lv_iload_n hx hb dX12_splits_159 rfl (lv_at hl 1 rfl) ?_
                      refine lv_sipush (v := 255) hx hb dX12_splits_160 (by decide) ?_
                      refine lv_iand hx hb dX12_splits_163 ?_
                      refine lv_topi (fun t268 et268 => ?_)
                      have b269 : kb 0 t268 255 := kb_eq et268 (kb_and 8 (by decide) (by decide))
                      refine lv_iadd hx hb dX12_splits_164 ?_
                      refine lv_topi (fun t270 et270 => ?_)
                      have b271 : kb 100 t270 355 := kb_eq et270 (kb_add kc_100 b269 (by decide) (by decide))
                      have qt270 : t270.toInt = 100 + t268.toInt := by rw [et270]; exact kt_cadd kc_100 b269 (by decide) (by decide)
                      refine va_iast hx hb hK hP hD hS 9 0 rfl rfl (kb_in b8 (by decide) (by decide)) dX12_splits_165 (fun H locs hP hD hS => ?_)
                      have hP : va_P D vwCl (mW K o r F3 (va_up a_257 15 (upd (a_257 15) tk.toNatClampNeg t270)) g) H := hP
                      have hD : va_D A (mW K o r F3 (va_up a_257 15 (upd (a_257 15) tk.toNatClampNeg t270)) g) := hD
                      refine k_gen (P := fun z => va_P D vwCl (mW K o r F3 z g) H ∧ va_D A (mW K o r F3 z g) ∧ (mI F3 z) ∧ (mE (XR []) f a F3 z) ∧ (mZ [18] [15, 16, 17] f a F3 z) ∧ (fE [18] f F3) ∧ (sPre (a 11) S ta z)) (va_up a_257 15 (upd (a_257 15) tk.toNatClampNeg t270)) ⟨hP, hD, (mI_s hI (aI_free hI.2.1 15 _ (fun j => ⟨by show (mBa 15 j).1 ≤ _; exact Int.le_refl _, by show _ ≤ (mBa 15 j).2; exact Int.le_refl _⟩)) (by decide) (by decide)), (mE_s hE (by decide) (by decide) (by decide) (by decide)), (mZ_a hZ rfl), hk0, (sPre_st hk1 (by rw [cl_nat htk]; exact Nat.le_refl ta))⟩ (fun a_272 ea_272 hq => ?_)
                      obtain ⟨hP, hD, hI, hE, hZ, hk0, hk1⟩ := hq
                      refine lv_iload_n hx hb dX12_splits_166 rfl (lv_at hl 2 rfl) ?_
                      refine lv_istore (lv' := [(5, .int y2), (4, .int t20), (3, .int t18), (2, .int y2), (0, .ref o), (1, .int x)]) hx hb dX12_splits_167 hl (by decide) rfl (fun ls hl => ?_)
                      have h15 : a_272 15 ta = t270 := by rw [← cl_nat htk]; exact (show a_272 15 tk.toNatClampNeg = t270 from by rw [← ea_272]; exact (pk_us (f := a_257 15) (k := tk.toNatClampNeg) (x := t270)))
                      have h16 : a_272 16 ta = 0 := by rw [← cl_nat htk]; exact ((show a_272 16 tk.toNatClampNeg = a_257 16 tk.toNatClampNeg from by rw [← ea_272]; rfl).trans (show a_257 16 tk.toNatClampNeg = 0 from by rw [← ea_257]; exact (pk_us (f := a_256 16) (k := tk.toNatClampNeg) (x := 0))))
                      have h17 : a_272 17 ta = y2 := by rw [← cl_nat htk]; exact ((show a_272 17 tk.toNatClampNeg = a_257 17 tk.toNatClampNeg from by rw [← ea_272]; rfl).trans ((show a_257 17 tk.toNatClampNeg = a_256 17 tk.toNatClampNeg from by rw [← ea_257]; rfl).trans (show a_256 17 tk.toNatClampNeg = y2 from by rw [← ea_256]; exact (pk_us (f := B4 17) (k := tk.toNatClampNeg) (x := y2)))))
                      have lp275 : ∀ (n276 : Nat) (ii : Nat) (B274 : Nat → Nat → Int32) (H : Heap) (locs : List Loc) (ls : Array Slot) (y273 : Int32), (400 < y273.toInt + (n276 : Int)) → (mI F3 B274) → (mE (XR []) f a F3 B274) → (mZ [18] [15, 16, 17] f a F3 B274) → (fE [18] f F3) → (sPre (a 11) S ta B274) → (kb 0 y273 400) → (B274 15 = a_272 15 ∧ B274 16 = a_272 16 ∧ B274 17 = a_272 17) → va_P D vwCl (mW K o r F3 B274 g) H → va_D A (mW K o r F3 B274 g) → va_S A s.heap H locs → lv_has ls 6 [(5, .int y273), (4, .int t20), (3, .int t18), (2, .int y2), (0, .ref o), (1, .int x)] → W p l e (rmD 2 0 0) s m ([.ref o, .int x] : List Value).toArray below meth c H locs 0 0 (kQv D (tysK K) (fun (u : mS) => mI u.1 u.2.1 ∧ mE (XR []) f a u.1 u.2.1 ∧ fE [18] f u.1 ∧ (∃ N : Nat, (u.1 18).toInt = (N : Int) ∧ N ≤ 400 ∧ u.2.1 15 N = 0 ∧ spR (a 11) S N u.2.1) ∧ mZ [18] [15, 16, 17] f a u.1 u.2.1) (fun u => mW K o r u.1 u.2.1 u.2.2) A below ([.ref o, .int x] : List Value).toArray s 0 0) (F0 m 169 ls []) := by
                        intro n276
                        induction n276 with
                        | zero =>
                          intro ii B274  H locs ls y273 hmlp275 hI hE hZ hk0 hk1 b277 hvlp275_0 hP hD hS hl
                          exact (by have h1 := b277.2; have h2 := hmlp275; omega : False).elim
                        | succ n276 ihlp275 =>
                          intro ii B274  H locs ls y273 hmlp275 hI hE hZ hk0 hk1 b277 hvlp275_0 hP hD hS hl
                          refine lv_iload hx hb dX12_splits_169 (lv_at hl 0 rfl) ?_
                          refine lv_iload hx hb dX12_splits_171 (lv_at hl 1 rfl) ?_
                          refine lv_icmp_ge (tgt := 247) hx hb dX12_splits_173 (by decide) (fun c278 => ?_) (fun c278 => ?_)
                          · have h279 := (kc_le c278)
                            have b280 : kb 1 y273 400 := kr_le2 h279 b21 b277
                            refine lv_aload_n hx hb dX12_splits_247 rfl (lv_at hl 4 rfl) ?_
                            refine lv_dup hx hb dX12_splits_248 rfl ?_
                            refine va_get (D := D) (ci := 12) (v := .int (F3 18)) (C := RX12) (T := TX12) (N := 48) hx hb hg inC12 hown hK hP 0 rfl rfl 18 (by decide) (hg _ wt5_178) (fun _ h9 => h9) rfl dX12_splits_249 ?_
                            refine k_top (z := tk) etk.symm ?_
                            have b281 : kb 0 tk 399 := ⟨(b8).1, by have w1 := htk; have w2 := hvlp5_1; have w3 := bx.2; have w4 := hp0; omega⟩
                            refine lv_iconst (v := 1) hx hb dX12_splits_252 (by decide) ?_
                            refine lv_iadd hx hb dX12_splits_253 ?_
                            refine lv_topi (fun t282 et282 => ?_)
                            have b283 : kb 1 t282 400 := kb_eq et282 (kb_add b281 kc_1 (by decide) (by decide))
                            have qt282 : t282.toInt = tk.toInt + 1 := by rw [et282]; exact kt_addc b281 kc_1 (by decide) (by decide)
                            refine va_put (D := D) (ci := 12) (v := .int t282) (ty := .int) (C := RX12) (T := TX12) (N := 48) hx hb hg inC12 tyX12 tyX12_ok nmX12 hown hK hP hD hS 0 rfl rfl 18 (by decide) (hg _ wt5_178) (fun _ h9 => h9) rfl (by decide +kernel) rfl rfl (Nat.le_of_ble_eq_true rfl) dX12_splits_254 (fun H locs hP hD hS => ?_)
                            have hP : va_P D vwCl (mW K o r (upd F3 18 t282) B274 g) H := hP
                            have hD : va_D A (mW K o r (upd F3 18 t282) B274 g) := hD
                            refine k_gen (P := fun z => va_P D vwCl (mW K o r z B274 g) H ∧ va_D A (mW K o r z B274 g) ∧ (mI z B274) ∧ (mE (XR []) f a z B274) ∧ (mZ [18] [15, 16, 17] f a z B274) ∧ (fE [18] f z) ∧ (sPre (a 11) S ta B274)) (upd F3 18 t282) ⟨hP, hD, (mI_f hI (fI_st hI.1 18 b283 (by decide) (by decide))), (mE_f hE (by decide)), (mZ_f hZ rfl), (fE_f hk0 (by decide)), hk1⟩ (fun f_284 ef_284 hq => ?_)
                            obtain ⟨hP, hD, hI, hE, hZ, hk0, hk1⟩ := hq
                            refine lv_iload hx hb dX12_splits_257 (lv_at hl 1 rfl) ?_
                            refine lv_istore_n (lv' := [(2, .int t20), (5, .int y273), (4, .int t20), (3, .int t18), (0, .ref o), (1, .int x)]) hx hb dX12_splits_259 rfl hl (by decide) rfl (fun ls hl => ?_)
                            refine lv_goto (tgt := 7) hx hb dX12_splits_260 (by decide) ?_
                            exact ihlp5 (kk + 1) (ta + 1) f_284 B274 _ _ _ t20 (by omega) hI hE hZ hk0 (kb_w b21 (by decide) (by decide)) (⟨htoo, hgl.2⟩) (⟨by rw [(show f_284 18 = t282 from by rw [← ef_284]; rfl)]; have w1 := qt282; omega, by have w1 := hvlp5_1.2; omega⟩) ((plT_s (by rw [hpl]; exact hkS)).trans (by rw [hpl, henT])) (sPre_add hk1 (by rw [hpl]; exact hkS) (by rw [tkT_l (by rw [hpl]; exact hkS), hpl]; exact (by rw [(congrFun hvlp275_0.1 ta).trans h15]; exact tok_s (bne_t (show isS (a 11 kk) = false from by rw [← hby]; exact hkk25.2)) (bne_t (show isD (a 11 kk) = false from by rw [← hby]; exact hkk128.2)) hby et268 b269 (by have w1 := qt270; omega))) (by unfold pcT; rw [hpl, (congrFun hvlp275_0.2.2 ta).trans h17]; exact pc_of hkk (by have w1 := bx.2; have w2 := hp0; omega))) hP hD hS (lv_sub hl [0, 4, 5] rfl)
                          · have h285 := (kc_nle c278)
                            have b286 : kb 0 y273 399 := kr_lt1 h285 b277 b21 (by decide)
                            refine lv_iload_n hx hb dX12_splits_176 rfl (lv_at hl 2 rfl) ?_
                            refine kN.callS (As := [.int t18]) (rest := []) ⟨hx, hb, hml, hown, hg⟩ (q_isDigit l t18 ) (va_cwS 1 hg (kgS wt6_184 wt6_185 wt1_14 wt6_186) rfl rfl rfl (by decide +kernel) ⟨by decide, by decide⟩) hP hS rfl hl.1 rfl (Nat.le_of_ble_eq_true rfl) dX12_splits_177 ⟨Nat.le_refl _, Nat.le_refl _⟩ (fun v288 H locs hw287 hP hS => ?_)
                            refine k_top (z := 0) ((hw287.2).elim (fun q => absurd (hkk128.2.symm.trans q.2) (by decide)) (fun q => q.1)) ?_
                            refine lv_if_eq (tgt := 247) hx hb dX12_splits_180 (by decide) (fun c291 => ?_) (fun c291 => ?_)
                            · refine lv_aload_n hx hb dX12_splits_247 rfl (lv_at hl 4 rfl) ?_
                              refine lv_dup hx hb dX12_splits_248 rfl ?_
                              refine va_get (D := D) (ci := 12) (v := .int (F3 18)) (C := RX12) (T := TX12) (N := 48) hx hb hg inC12 hown hK hP 0 rfl rfl 18 (by decide) (hg _ wt5_178) (fun _ h9 => h9) rfl dX12_splits_249 ?_
                              refine k_top (z := tk) etk.symm ?_
                              have b292 : kb 0 tk 399 := ⟨(b8).1, by have w1 := htk; have w2 := hvlp5_1; have w3 := bx.2; have w4 := hp0; omega⟩
                              refine lv_iconst (v := 1) hx hb dX12_splits_252 (by decide) ?_
                              refine lv_iadd hx hb dX12_splits_253 ?_
                              refine lv_topi (fun t293 et293 => ?_)
                              have b294 : kb 1 t293 400 := kb_eq et293 (kb_add b292 kc_1 (by decide) (by decide))
                              have qt293 : t293.toInt = tk.toInt + 1 := by rw [et293]; exact kt_addc b292 kc_1 (by decide) (by decide)
                              refine va_put (D := D) (ci := 12) (v := .int t293) (ty := .int) (C := RX12) (T := TX12) (N := 48) hx hb hg inC12 tyX12 tyX12_ok nmX12 hown hK hP hD hS 0 rfl rfl 18 (by decide) (hg _ wt5_178) (fun _ h9 => h9) rfl (by decide +kernel) rfl rfl (Nat.le_of_ble_eq_true rfl) dX12_splits_254 (fun H locs hP hD hS => ?_)
                              have hP : va_P D vwCl (mW K o r (upd F3 18 t293) B274 g) H := hP
                              have hD : va_D A (mW K o r (upd F3 18 t293) B274 g) := hD
                              refine k_gen (P := fun z => va_P D vwCl (mW K o r z B274 g) H ∧ va_D A (mW K o r z B274 g) ∧ (mI z B274) ∧ (mE (XR []) f a z B274) ∧ (mZ [18] [15, 16, 17] f a z B274) ∧ (fE [18] f z) ∧ (sPre (a 11) S ta B274)) (upd F3 18 t293) ⟨hP, hD, (mI_f hI (fI_st hI.1 18 b294 (by decide) (by decide))), (mE_f hE (by decide)), (mZ_f hZ rfl), (fE_f hk0 (by decide)), hk1⟩ (fun f_295 ef_295 hq => ?_)
                              obtain ⟨hP, hD, hI, hE, hZ, hk0, hk1⟩ := hq
                              refine lv_iload hx hb dX12_splits_257 (lv_at hl 1 rfl) ?_
                              refine lv_istore_n (lv' := [(2, .int t20), (5, .int y273), (4, .int t20), (3, .int t18), (0, .ref o), (1, .int x)]) hx hb dX12_splits_259 rfl hl (by decide) rfl (fun ls hl => ?_)
                              refine lv_goto (tgt := 7) hx hb dX12_splits_260 (by decide) ?_
                              exact ihlp5 (kk + 1) (ta + 1) f_295 B274 _ _ _ t20 (by omega) hI hE hZ hk0 (kb_w b21 (by decide) (by decide)) (⟨htoo, hgl.2⟩) (⟨by rw [(show f_295 18 = t293 from by rw [← ef_295]; rfl)]; have w1 := qt293; omega, by have w1 := hvlp5_1.2; omega⟩) ((plT_s (by rw [hpl]; exact hkS)).trans (by rw [hpl, henT])) (sPre_add hk1 (by rw [hpl]; exact hkS) (by rw [tkT_l (by rw [hpl]; exact hkS), hpl]; exact (by rw [(congrFun hvlp275_0.1 ta).trans h15]; exact tok_s (bne_t (show isS (a 11 kk) = false from by rw [← hby]; exact hkk25.2)) (bne_t (show isD (a 11 kk) = false from by rw [← hby]; exact hkk128.2)) hby et268 b269 (by have w1 := qt270; omega))) (by unfold pcT; rw [hpl, (congrFun hvlp275_0.2.2 ta).trans h17]; exact pc_of hkk (by have w1 := bx.2; have w2 := hp0; omega))) hP hD hS (lv_sub hl [0, 4, 5] rfl)
                            · exact kb_nsame c291 kc_0 kc_0
                      exact lp275 (401) kk a_272 _ _ _ y2 (by have h1 := (b17); unfold kb at h1; omega) hI hE hZ hk0 hk1 (kb_w b17 (by decide) (by decide)) (⟨rfl, rfl, rfl⟩) hP hD hS (lv_sub hl [0, 1, 2, 3, 4, 5] rfl)
                    · exact kb_nsame c267 kc_0 kc_0
                  · exact kb_nsame c262 kc_0 kc_0
                · exact kb_nsame c255 kc_0 kc_0
            · exact kb_nsame c124 kc_0 kc_0
        · have b296 : kb 32 t18 32 := kb_eq c19 kc_32
          have hB : isB (a 11 kk) = true := decide_eq_true (hby.symm.trans c19)
          obtain ⟨t297, et297⟩ : ∃ z : Int32, z = y2 + Int32.ofInt 1 := ⟨_, rfl⟩
          have qt297 : t297.toInt = y2.toInt + 1 := by rw [et297]; exact km_inc b17 (by decide) (by decide)
          have b298 : kb 1 t297 400 := kb_inc (k := 1) qt297 b17
          refine lv_iinc (v := t297) (lv' := [(2, .int t297), (3, .int t18), (0, .ref o), (1, .int x)]) hx hb dX12_splits_25 hl (k := 1) rfl et297.symm (by decide) rfl (fun ls hl => ?_)
          refine lv_goto (tgt := 7) hx hb dX12_splits_28 (by decide) ?_
          exact ihlp5 (kk + 1) ta F3 B4 _ _ _ t297 (by omega) hI hE hZ hk0 (kb_w b298 (by decide) (by decide)) (⟨by omega, hkS⟩) (⟨hvlp5_1.1, by have w1 := hvlp5_1.2; omega⟩) (hvlp5_2.trans (rn_y hkS hB)) (hvlp5_3) hP hD hS (lv_sub hl [0, 2, 3] rfl)
  exact lp5 (401) 0 0 f_1 a _ _ _ 0 (by decide +kernel) hI hE hZ hk0 (kb_w kc_0 (by decide) (by decide)) (⟨by decide +kernel, Nat.zero_le S⟩) (⟨by rw [(show f_1 18 = 0 from by rw [← ef_1]; rfl)]; decide +kernel, Nat.le_refl 0⟩) (rfl) (fun i hi => absurd hi (Nat.not_lt_zero i)) hP hD hS (lv_sub hl [0, 1, 2] rfl)
