theorem dcX_A : ∀ q < 28, dcX.getD q [] = wdA wBy (ofX.getD q 0) (lnX q) := by decide +kernel
theorem wBX_n : ∀ q < 28, ∀ j < lnX q, ¬ wBy (ofX.getD q 0 + j) = 32 := by decide +kernel
theorem wBX_e : ∀ q < 28, wBy (ofX.getD q 0 + lnX q) = 32 := by decide +kernel
/-! the class's tokens -/
theorem wx_1 {q : Nat} {v : Int32} {s : List Int32} (hq : q < 28) (e : dcX.getD q [] = s) (h : v.toInt = 2000 + (q : Int)) : v = wdT s := by
  have w : ∀ q < 28, (Int32.ofNat (2000 + q)).toInt = 2000 + (q : Int) := by decide +kernel
  rw [← e, wdX q hq]
  exact Int32.toInt_inj.mp (by rw [h, w q hq])
theorem ofX_lt {q j : Nat} (h : q ≤ 28) (h1 : ((ofX.getD q 0 + j : Nat) : Int) < 146) : q < 28 := by
  by_cases e : q = 28
  · rw [e, ofX_28] at h1; omega
  · omega
theorem tok_w2 {t : Nat → Int32} {S k e : Nat} {v : Int32} (hS : isS (t k) = true) (he : enT t S k = e) (h : v = wdT (slT t k e)) : v = toT t S k := by
  unfold toT
  rw [if_pos hS, he]; exact h
theorem tok_d2 {t : Nat → Int32} {S k e : Nat} {v : Int32} (hS : ¬ isS (t k) = true) (hD : isD (t k) = true) (he : enT t S k = e) (h : v = (if nvT t k (e - k) ≤ 1000 then Int32.ofInt (nvT t k (e - k)) else 1001)) : v = toT t S k := by
  unfold toT
  rw [if_neg hS, if_pos hD, he]; exact h
theorem tok_s2 {t : Nat → Int32} {S k : Nat} {v b x : Int32} (hS : ¬ isS (t k) = true) (hD : ¬ isD (t k) = true) (hb : b = t k) (hx : x = b &&& 255) (hk : kb 0 x 255) (h : v.toInt = 3000 + x.toInt) : v = toT t S k := by
  unfold toT
  rw [if_neg hS, if_neg hD, ← hb, ← hx]
  have b1 : kb 3000 3000 3000 := ⟨by decide +kernel, by decide +kernel⟩
  have e := kt_add b1 hk (by decide) (by decide)
  have e2 : (3000 : Int32).toInt = 3000 := by decide +kernel
  exact Int32.toInt_inj.mp (by rw [h, e, e2])
def xPre (t : Nat → Int32) (S ta : Nat) (A : Nat → Nat → Int32) : Prop := ∀ i, i < ta → plT t S i < S ∧ A 56 i = tkT t S i ∧ A 57 i = pcT t S i
theorem xPre_add {t : Nat → Int32} {S ta : Nat} {A B : Nat → Nat → Int32} {x y : Int32} (h : xPre t S ta A) (e1 : B 56 = upd (A 56) ta x) (e2 : B 57 = upd (A 57) ta y) (h1 : plT t S ta < S) (h2 : x = tkT t S ta) (h3 : y = pcT t S ta) : xPre t S (ta + 1) B := by
  intro i hi
  rw [e1, e2]
  by_cases e : i = ta
  · rw [e, pk_us, pk_us]; exact ⟨h1, h2, h3⟩
  · rw [pk_un e, pk_un e]; exact h i (by omega)
/-- the tape's tokens stand in the rows 56, 57 -/
def spX (t : Nat → Int32) (S N : Nat) (A : Nat → Nat → Int32) : Prop := plT t S N = S ∧ (∀ i, i < N → plT t S i < S) ∧ (∀ i, i ≤ N → A 56 i = tkT t S i) ∧ ∀ i, i ≤ N → A 57 i = pcT t S i
theorem spX_of {t : Nat → Int32} {S N : Nat} {A B : Nat → Nat → Int32} {x y : Int32} (h : xPre t S N A) (h1 : plT t S N = S) (e1 : B 56 = upd (A 56) N x) (e2 : B 57 = upd (A 57) N y) (h2 : x = 4000) (h3 : y = Int32.ofNat S) : spX t S N B := by
  refine ⟨h1, fun i hi => (h i hi).1, fun i hi => ?_, fun i hi => ?_⟩
  · rw [e1]
    by_cases e : i = N
    · rw [e, pk_us, h2, tkT_e h1 (Nat.le_refl N)]
    · rw [pk_un e]; exact (h i (by omega)).2.1
  · rw [e2]
    by_cases e : i = N
    · rw [e, pk_us, h3]; unfold pcT; rw [h1]
    · rw [pk_un e]; exact (h i (by omega)).2.2
theorem b255b (x : Int32) : kb 0 (x &&& 255) 255 := kb_and (x := x) (m := 255) 8 (by decide +kernel) (by decide)
theorem toT_b {t : Nat → Int32} {S k : Nat} (hk : k < S) : kb 0 (toT t S k) 3999 := by
  unfold toT
  split
  · exact wdT_b _
  · split
    · split
      · rename_i h1 h2 h3
        have h0 : 0 ≤ nvT t k (enT t S k - k) := by
          refine nvT_0 _ (fun j hj => ?_)
          have he : enT t S k = rn isD t S (k + 1) := by unfold enT; rw [if_neg h1, if_pos h2]
          rw [he] at hj
          by_cases e : j = 0
          · rw [e]; exact h2
          · exact rn_all (S := S) (k + 1) (k + j) (by omega) (by omega)
        exact ⟨by rw [i_of ⟨h0, h3⟩]; exact h0, by rw [i_of ⟨h0, h3⟩]; omega⟩
      · exact ⟨by decide +kernel, by decide +kernel⟩
    · have b1 : kb 3000 3000 3000 := ⟨by decide +kernel, by decide +kernel⟩
      have b2 := b255b (t k)
      have e := kt_add b1 b2 (by decide) (by decide)
      have e2 : (3000 : Int32).toInt = 3000 := by decide +kernel
      have h1 := b2.1
      have h2 := b2.2
      exact ⟨by rw [e, e2]; omega, by rw [e, e2]; omega⟩
theorem tkT_b {t : Nat → Int32} {S : Nat} (i : Nat) : kb 0 (tkT t S i) 4000 := by
  unfold tkT
  split
  · rename_i h
    exact ⟨(toT_b (t := t) h).1, by have w1 := (toT_b (t := t) h).2; omega⟩
  · exact ⟨by decide +kernel, by decide +kernel⟩
theorem dX4_split_0 : decode cX4_split 0 = .ok (.aload_n 0, 1) := by decide +kernel
theorem dX4_split_1 : decode cX4_split 1 = .ok (.iconst 0, 1) := by decide +kernel
theorem dX4_split_2 : decode cX4_split 2 = .ok (.putfield 27, 3) := by decide +kernel
theorem dX4_split_5 : decode cX4_split 5 = .ok (.iconst 0, 1) := by decide +kernel
theorem dX4_split_6 : decode cX4_split 6 = .ok (.istore_n 3, 1) := by decide +kernel
theorem dX4_split_7 : decode cX4_split 7 = .ok (.iconst 0, 1) := by decide +kernel
theorem dX4_split_8 : decode cX4_split 8 = .ok (.istore 4, 2) := by decide +kernel
theorem dX4_split_10 : decode cX4_split 10 = .ok (.iload 4, 2) := by decide +kernel
theorem dX4_split_12 : decode cX4_split 12 = .ok (.iload_n 2, 1) := by decide +kernel
theorem dX4_split_13 : decode cX4_split 13 = .ok (.if_icmp .ge 150, 3) := by decide +kernel
theorem dX4_split_16 : decode cX4_split 16 = .ok (.iload 4, 2) := by decide +kernel
theorem dX4_split_18 : decode cX4_split 18 = .ok (.iload_n 3, 1) := by decide +kernel
theorem dX4_split_19 : decode cX4_split 19 = .ok (.if_icmp .lt 138, 3) := by decide +kernel
theorem dX4_split_22 : decode cX4_split 22 = .ok (.aload_n 1, 1) := by decide +kernel
theorem dX4_split_23 : decode cX4_split 23 = .ok (.iload 4, 2) := by decide +kernel
theorem dX4_split_25 : decode cX4_split 25 = .ok (.baload, 1) := by decide +kernel
theorem dX4_split_26 : decode cX4_split 26 = .ok (.bipush 32, 2) := by decide +kernel
theorem dX4_split_28 : decode cX4_split 28 = .ok (.if_icmp .ne 6, 3) := by decide +kernel
theorem dX4_split_31 : decode cX4_split 31 = .ok (.goto 126, 3) := by decide +kernel
theorem dX4_split_34 : decode cX4_split 34 = .ok (.iload 4, 2) := by decide +kernel
theorem dX4_split_36 : decode cX4_split 36 = .ok (.iconst 1, 1) := by decide +kernel
theorem dX4_split_37 : decode cX4_split 37 = .ok (.iadd, 1) := by decide +kernel
theorem dX4_split_38 : decode cX4_split 38 = .ok (.istore_n 3, 1) := by decide +kernel
theorem dX4_split_39 : decode cX4_split 39 = .ok (.aload_n 1, 1) := by decide +kernel
theorem dX4_split_40 : decode cX4_split 40 = .ok (.iload 4, 2) := by decide +kernel
theorem dX4_split_42 : decode cX4_split 42 = .ok (.baload, 1) := by decide +kernel
theorem dX4_split_43 : decode cX4_split 43 = .ok (.invokestatic 75, 3) := by decide +kernel
theorem dX4_split_46 : decode cX4_split 46 = .ok (.istore 5, 2) := by decide +kernel
theorem dX4_split_48 : decode cX4_split 48 = .ok (.iload 5, 2) := by decide +kernel
theorem dX4_split_50 : decode cX4_split 50 = .ok (.ifCond .ne 13, 3) := by decide +kernel
theorem dX4_split_53 : decode cX4_split 53 = .ok (.aload_n 1, 1) := by decide +kernel
theorem dX4_split_54 : decode cX4_split 54 = .ok (.iload 4, 2) := by decide +kernel
theorem dX4_split_56 : decode cX4_split 56 = .ok (.baload, 1) := by decide +kernel
theorem dX4_split_57 : decode cX4_split 57 = .ok (.invokestatic 79, 3) := by decide +kernel
theorem dX4_split_60 : decode cX4_split 60 = .ok (.ifCond .eq 40, 3) := by decide +kernel
theorem dX4_split_63 : decode cX4_split 63 = .ok (.iload_n 3, 1) := by decide +kernel
theorem dX4_split_64 : decode cX4_split 64 = .ok (.iload_n 2, 1) := by decide +kernel
theorem dX4_split_65 : decode cX4_split 65 = .ok (.if_icmp .ge 35, 3) := by decide +kernel
theorem dX4_split_68 : decode cX4_split 68 = .ok (.iload 5, 2) := by decide +kernel
theorem dX4_split_70 : decode cX4_split 70 = .ok (.ifCond .eq 15, 3) := by decide +kernel
theorem dX4_split_73 : decode cX4_split 73 = .ok (.aload_n 1, 1) := by decide +kernel
theorem dX4_split_74 : decode cX4_split 74 = .ok (.iload_n 3, 1) := by decide +kernel
theorem dX4_split_75 : decode cX4_split 75 = .ok (.baload, 1) := by decide +kernel
theorem dX4_split_76 : decode cX4_split 76 = .ok (.invokestatic 75, 3) := by decide +kernel
theorem dX4_split_79 : decode cX4_split 79 = .ok (.ifCond .eq 21, 3) := by decide +kernel
theorem dX4_split_82 : decode cX4_split 82 = .ok (.goto 12, 3) := by decide +kernel
theorem dX4_split_85 : decode cX4_split 85 = .ok (.aload_n 1, 1) := by decide +kernel
theorem dX4_split_86 : decode cX4_split 86 = .ok (.iload_n 3, 1) := by decide +kernel
theorem dX4_split_87 : decode cX4_split 87 = .ok (.baload, 1) := by decide +kernel
theorem dX4_split_88 : decode cX4_split 88 = .ok (.invokestatic 79, 3) := by decide +kernel
theorem dX4_split_91 : decode cX4_split 91 = .ok (.ifCond .eq 9, 3) := by decide +kernel
theorem dX4_split_94 : decode cX4_split 94 = .ok (.iinc 3 1, 3) := by decide +kernel
theorem dX4_split_97 : decode cX4_split 97 = .ok (.goto (-34), 3) := by decide +kernel
theorem dX4_split_100 : decode cX4_split 100 = .ok (.iload 5, 2) := by decide +kernel
theorem dX4_split_102 : decode cX4_split 102 = .ok (.ifCond .eq 13, 3) := by decide +kernel
theorem dX4_split_105 : decode cX4_split 105 = .ok (.aload_n 1, 1) := by decide +kernel
theorem dX4_split_106 : decode cX4_split 106 = .ok (.iload 4, 2) := by decide +kernel
theorem dX4_split_108 : decode cX4_split 108 = .ok (.iload_n 3, 1) := by decide +kernel
theorem dX4_split_109 : decode cX4_split 109 = .ok (.invokestatic 82, 3) := by decide +kernel
theorem dX4_split_112 : decode cX4_split 112 = .ok (.goto 35, 3) := by decide +kernel
theorem dX4_split_115 : decode cX4_split 115 = .ok (.aload_n 1, 1) := by decide +kernel
theorem dX4_split_116 : decode cX4_split 116 = .ok (.iload 4, 2) := by decide +kernel
theorem dX4_split_118 : decode cX4_split 118 = .ok (.baload, 1) := by decide +kernel
theorem dX4_split_119 : decode cX4_split 119 = .ok (.invokestatic 79, 3) := by decide +kernel
theorem dX4_split_122 : decode cX4_split 122 = .ok (.ifCond .eq 13, 3) := by decide +kernel
theorem dX4_split_125 : decode cX4_split 125 = .ok (.aload_n 1, 1) := by decide +kernel
theorem dX4_split_126 : decode cX4_split 126 = .ok (.iload 4, 2) := by decide +kernel
theorem dX4_split_128 : decode cX4_split 128 = .ok (.iload_n 3, 1) := by decide +kernel
theorem dX4_split_129 : decode cX4_split 129 = .ok (.invokestatic 86, 3) := by decide +kernel
theorem dX4_split_132 : decode cX4_split 132 = .ok (.goto 15, 3) := by decide +kernel
theorem dX4_split_135 : decode cX4_split 135 = .ok (.sipush 3000, 3) := by decide +kernel
theorem dX4_split_138 : decode cX4_split 138 = .ok (.aload_n 1, 1) := by decide +kernel
theorem dX4_split_139 : decode cX4_split 139 = .ok (.iload 4, 2) := by decide +kernel
theorem dX4_split_141 : decode cX4_split 141 = .ok (.baload, 1) := by decide +kernel
theorem dX4_split_142 : decode cX4_split 142 = .ok (.sipush 255, 3) := by decide +kernel
theorem dX4_split_145 : decode cX4_split 145 = .ok (.iand, 1) := by decide +kernel
theorem dX4_split_146 : decode cX4_split 146 = .ok (.iadd, 1) := by decide +kernel
theorem dX4_split_147 : decode cX4_split 147 = .ok (.istore 6, 2) := by decide +kernel
theorem dX4_split_149 : decode cX4_split 149 = .ok (.aload_n 0, 1) := by decide +kernel
theorem dX4_split_150 : decode cX4_split 150 = .ok (.iload 6, 2) := by decide +kernel
theorem dX4_split_152 : decode cX4_split 152 = .ok (.iload 4, 2) := by decide +kernel
theorem dX4_split_154 : decode cX4_split 154 = .ok (.invokevirtual 89, 3) := by decide +kernel
theorem dX4_split_157 : decode cX4_split 157 = .ok (.iinc 4 1, 3) := by decide +kernel
theorem dX4_split_160 : decode cX4_split 160 = .ok (.goto (-150), 3) := by decide +kernel
theorem dX4_split_163 : decode cX4_split 163 = .ok (.aload_n 0, 1) := by decide +kernel
theorem dX4_split_164 : decode cX4_split 164 = .ok (.sipush 4000, 3) := by decide +kernel
theorem dX4_split_167 : decode cX4_split 167 = .ok (.iload_n 2, 1) := by decide +kernel
theorem dX4_split_168 : decode cX4_split 168 = .ok (.invokevirtual 89, 3) := by decide +kernel
theorem dX4_split_171 : decode cX4_split 171 = .ok (.return_, 1) := by decide +kernel
theorem dX4_addToken_0 : decode cX4_addToken 0 = .ok (.aload_n 0, 1) := by decide +kernel
theorem dX4_addToken_1 : decode cX4_addToken 1 = .ok (.getfield 27, 3) := by decide +kernel
theorem dX4_addToken_4 : decode cX4_addToken 4 = .ok (.ifCond .lt 45, 3) := by decide +kernel
theorem dX4_addToken_7 : decode cX4_addToken 7 = .ok (.aload_n 0, 1) := by decide +kernel
theorem dX4_addToken_8 : decode cX4_addToken 8 = .ok (.getfield 27, 3) := by decide +kernel
theorem dX4_addToken_11 : decode cX4_addToken 11 = .ok (.aload_n 0, 1) := by decide +kernel
theorem dX4_addToken_12 : decode cX4_addToken 12 = .ok (.getfield 20, 3) := by decide +kernel
theorem dX4_addToken_15 : decode cX4_addToken 15 = .ok (.arraylength, 1) := by decide +kernel
theorem dX4_addToken_16 : decode cX4_addToken 16 = .ok (.if_icmp .ge 33, 3) := by decide +kernel
theorem dX4_addToken_19 : decode cX4_addToken 19 = .ok (.aload_n 0, 1) := by decide +kernel
theorem dX4_addToken_20 : decode cX4_addToken 20 = .ok (.getfield 20, 3) := by decide +kernel
theorem dX4_addToken_23 : decode cX4_addToken 23 = .ok (.aload_n 0, 1) := by decide +kernel
theorem dX4_addToken_24 : decode cX4_addToken 24 = .ok (.getfield 27, 3) := by decide +kernel
theorem dX4_addToken_27 : decode cX4_addToken 27 = .ok (.iload_n 1, 1) := by decide +kernel
theorem dX4_addToken_28 : decode cX4_addToken 28 = .ok (.iastore, 1) := by decide +kernel
theorem dX4_addToken_29 : decode cX4_addToken 29 = .ok (.aload_n 0, 1) := by decide +kernel
theorem dX4_addToken_30 : decode cX4_addToken 30 = .ok (.getfield 24, 3) := by decide +kernel
theorem dX4_addToken_33 : decode cX4_addToken 33 = .ok (.aload_n 0, 1) := by decide +kernel
theorem dX4_addToken_34 : decode cX4_addToken 34 = .ok (.getfield 27, 3) := by decide +kernel
theorem dX4_addToken_37 : decode cX4_addToken 37 = .ok (.iload_n 2, 1) := by decide +kernel
theorem dX4_addToken_38 : decode cX4_addToken 38 = .ok (.iastore, 1) := by decide +kernel
theorem dX4_addToken_39 : decode cX4_addToken 39 = .ok (.aload_n 0, 1) := by decide +kernel
theorem dX4_addToken_40 : decode cX4_addToken 40 = .ok (.dup, 1) := by decide +kernel
theorem dX4_addToken_41 : decode cX4_addToken 41 = .ok (.getfield 27, 3) := by decide +kernel
theorem dX4_addToken_44 : decode cX4_addToken 44 = .ok (.iconst 1, 1) := by decide +kernel
theorem dX4_addToken_45 : decode cX4_addToken 45 = .ok (.iadd, 1) := by decide +kernel
theorem dX4_addToken_46 : decode cX4_addToken 46 = .ok (.putfield 27, 3) := by decide +kernel
theorem dX4_addToken_49 : decode cX4_addToken 49 = .ok (.return_, 1) := by decide +kernel
theorem dX4_numberToken_0 : decode cX4_numberToken 0 = .ok (.iconst 0, 1) := by decide +kernel
theorem dX4_numberToken_1 : decode cX4_numberToken 1 = .ok (.istore_n 3, 1) := by decide +kernel
theorem dX4_numberToken_2 : decode cX4_numberToken 2 = .ok (.iload_n 1, 1) := by decide +kernel
theorem dX4_numberToken_3 : decode cX4_numberToken 3 = .ok (.istore 4, 2) := by decide +kernel
theorem dX4_numberToken_5 : decode cX4_numberToken 5 = .ok (.iload 4, 2) := by decide +kernel
theorem dX4_numberToken_7 : decode cX4_numberToken 7 = .ok (.iload_n 2, 1) := by decide +kernel
theorem dX4_numberToken_8 : decode cX4_numberToken 8 = .ok (.if_icmp .ge 29, 3) := by decide +kernel
theorem dX4_numberToken_11 : decode cX4_numberToken 11 = .ok (.iload_n 3, 1) := by decide +kernel
theorem dX4_numberToken_12 : decode cX4_numberToken 12 = .ok (.sipush 1000, 3) := by decide +kernel
theorem dX4_numberToken_15 : decode cX4_numberToken 15 = .ok (.if_icmp .gt 22, 3) := by decide +kernel
theorem dX4_numberToken_18 : decode cX4_numberToken 18 = .ok (.iload_n 3, 1) := by decide +kernel
theorem dX4_numberToken_19 : decode cX4_numberToken 19 = .ok (.bipush 10, 2) := by decide +kernel
theorem dX4_numberToken_21 : decode cX4_numberToken 21 = .ok (.imul, 1) := by decide +kernel
theorem dX4_numberToken_22 : decode cX4_numberToken 22 = .ok (.aload_n 0, 1) := by decide +kernel
theorem dX4_numberToken_23 : decode cX4_numberToken 23 = .ok (.iload 4, 2) := by decide +kernel
theorem dX4_numberToken_25 : decode cX4_numberToken 25 = .ok (.baload, 1) := by decide +kernel
theorem dX4_numberToken_26 : decode cX4_numberToken 26 = .ok (.iadd, 1) := by decide +kernel
theorem dX4_numberToken_27 : decode cX4_numberToken 27 = .ok (.bipush 48, 2) := by decide +kernel
theorem dX4_numberToken_29 : decode cX4_numberToken 29 = .ok (.isub, 1) := by decide +kernel
theorem dX4_numberToken_30 : decode cX4_numberToken 30 = .ok (.istore_n 3, 1) := by decide +kernel
theorem dX4_numberToken_31 : decode cX4_numberToken 31 = .ok (.iinc 4 1, 3) := by decide +kernel
theorem dX4_numberToken_34 : decode cX4_numberToken 34 = .ok (.goto (-29), 3) := by decide +kernel
theorem dX4_numberToken_37 : decode cX4_numberToken 37 = .ok (.iload_n 3, 1) := by decide +kernel
theorem dX4_numberToken_38 : decode cX4_numberToken 38 = .ok (.sipush 1000, 3) := by decide +kernel
theorem dX4_numberToken_41 : decode cX4_numberToken 41 = .ok (.if_icmp .le 9, 3) := by decide +kernel
theorem dX4_numberToken_44 : decode cX4_numberToken 44 = .ok (.sipush 1001, 3) := by decide +kernel
theorem dX4_numberToken_47 : decode cX4_numberToken 47 = .ok (.goto 4, 3) := by decide +kernel
theorem dX4_numberToken_50 : decode cX4_numberToken 50 = .ok (.iload_n 3, 1) := by decide +kernel
theorem dX4_numberToken_51 : decode cX4_numberToken 51 = .ok (.ireturn, 1) := by decide +kernel
theorem dX4_wordToken_0 : decode cX4_wordToken 0 = .ok (.sipush 2000, 3) := by decide +kernel
theorem dX4_wordToken_3 : decode cX4_wordToken 3 = .ok (.istore_n 3, 1) := by decide +kernel
theorem dX4_wordToken_4 : decode cX4_wordToken 4 = .ok (.iload_n 1, 1) := by decide +kernel
theorem dX4_wordToken_5 : decode cX4_wordToken 5 = .ok (.istore 4, 2) := by decide +kernel
theorem dX4_wordToken_7 : decode cX4_wordToken 7 = .ok (.iconst 1, 1) := by decide +kernel
theorem dX4_wordToken_8 : decode cX4_wordToken 8 = .ok (.istore 5, 2) := by decide +kernel
theorem dX4_wordToken_10 : decode cX4_wordToken 10 = .ok (.iconst 0, 1) := by decide +kernel
theorem dX4_wordToken_11 : decode cX4_wordToken 11 = .ok (.istore 6, 2) := by decide +kernel
theorem dX4_wordToken_13 : decode cX4_wordToken 13 = .ok (.iload 6, 2) := by decide +kernel
theorem dX4_wordToken_15 : decode cX4_wordToken 15 = .ok (.ldc 93, 2) := by decide +kernel
theorem dX4_wordToken_17 : decode cX4_wordToken 17 = .ok (.invokevirtual 95, 3) := by decide +kernel
theorem dX4_wordToken_20 : decode cX4_wordToken 20 = .ok (.if_icmp .ge 80, 3) := by decide +kernel
theorem dX4_wordToken_23 : decode cX4_wordToken 23 = .ok (.ldc 93, 2) := by decide +kernel
theorem dX4_wordToken_25 : decode cX4_wordToken 25 = .ok (.iload 6, 2) := by decide +kernel
theorem dX4_wordToken_27 : decode cX4_wordToken 27 = .ok (.invokevirtual 100, 3) := by decide +kernel
theorem dX4_wordToken_30 : decode cX4_wordToken 30 = .ok (.istore 7, 2) := by decide +kernel
theorem dX4_wordToken_32 : decode cX4_wordToken 32 = .ok (.iload 7, 2) := by decide +kernel
theorem dX4_wordToken_34 : decode cX4_wordToken 34 = .ok (.bipush 32, 2) := by decide +kernel
theorem dX4_wordToken_36 : decode cX4_wordToken 36 = .ok (.if_icmp .eq 36, 3) := by decide +kernel
theorem dX4_wordToken_39 : decode cX4_wordToken 39 = .ok (.iload 5, 2) := by decide +kernel
theorem dX4_wordToken_41 : decode cX4_wordToken 41 = .ok (.ifCond .eq 22, 3) := by decide +kernel
theorem dX4_wordToken_44 : decode cX4_wordToken 44 = .ok (.iload 4, 2) := by decide +kernel
theorem dX4_wordToken_46 : decode cX4_wordToken 46 = .ok (.iload_n 2, 1) := by decide +kernel
theorem dX4_wordToken_47 : decode cX4_wordToken 47 = .ok (.if_icmp .ge 16, 3) := by decide +kernel
theorem dX4_wordToken_50 : decode cX4_wordToken 50 = .ok (.aload_n 0, 1) := by decide +kernel
theorem dX4_wordToken_51 : decode cX4_wordToken 51 = .ok (.iload 4, 2) := by decide +kernel
theorem dX4_wordToken_53 : decode cX4_wordToken 53 = .ok (.baload, 1) := by decide +kernel
theorem dX4_wordToken_54 : decode cX4_wordToken 54 = .ok (.iload 7, 2) := by decide +kernel
theorem dX4_wordToken_56 : decode cX4_wordToken 56 = .ok (.if_icmp .ne 7, 3) := by decide +kernel
theorem dX4_wordToken_59 : decode cX4_wordToken 59 = .ok (.iconst 1, 1) := by decide +kernel
theorem dX4_wordToken_60 : decode cX4_wordToken 60 = .ok (.goto 4, 3) := by decide +kernel
theorem dX4_wordToken_63 : decode cX4_wordToken 63 = .ok (.iconst 0, 1) := by decide +kernel
theorem dX4_wordToken_64 : decode cX4_wordToken 64 = .ok (.istore 5, 2) := by decide +kernel
theorem dX4_wordToken_66 : decode cX4_wordToken 66 = .ok (.iinc 4 1, 3) := by decide +kernel
theorem dX4_wordToken_69 : decode cX4_wordToken 69 = .ok (.goto 25, 3) := by decide +kernel
theorem dX4_wordToken_72 : decode cX4_wordToken 72 = .ok (.iload 5, 2) := by decide +kernel
theorem dX4_wordToken_74 : decode cX4_wordToken 74 = .ok (.ifCond .eq 11, 3) := by decide +kernel
theorem dX4_wordToken_77 : decode cX4_wordToken 77 = .ok (.iload 4, 2) := by decide +kernel
theorem dX4_wordToken_79 : decode cX4_wordToken 79 = .ok (.iload_n 2, 1) := by decide +kernel
theorem dX4_wordToken_80 : decode cX4_wordToken 80 = .ok (.if_icmp .ne 5, 3) := by decide +kernel
theorem dX4_wordToken_83 : decode cX4_wordToken 83 = .ok (.iload_n 3, 1) := by decide +kernel
theorem dX4_wordToken_84 : decode cX4_wordToken 84 = .ok (.ireturn, 1) := by decide +kernel
theorem dX4_wordToken_85 : decode cX4_wordToken 85 = .ok (.iinc 3 1, 3) := by decide +kernel
theorem dX4_wordToken_88 : decode cX4_wordToken 88 = .ok (.iload_n 1, 1) := by decide +kernel
theorem dX4_wordToken_89 : decode cX4_wordToken 89 = .ok (.istore 4, 2) := by decide +kernel
theorem dX4_wordToken_91 : decode cX4_wordToken 91 = .ok (.iconst 1, 1) := by decide +kernel
theorem dX4_wordToken_92 : decode cX4_wordToken 92 = .ok (.istore 5, 2) := by decide +kernel
theorem dX4_wordToken_94 : decode cX4_wordToken 94 = .ok (.iinc 6 1, 3) := by decide +kernel
theorem dX4_wordToken_97 : decode cX4_wordToken 97 = .ok (.goto (-84), 3) := by decide +kernel
theorem dX4_wordToken_100 : decode cX4_wordToken 100 = .ok (.sipush 1002, 3) := by decide +kernel
theorem dX4_wordToken_103 : decode cX4_wordToken 103 = .ok (.ireturn, 1) := by decide +kernel
theorem wt3_175 : Cond.code yJ0_length_8abf5 cJ0_length_8abf5 1 (some .int) ∈ kG := kt3 175 rfl rfl
theorem wt3_185 : Cond.code yJ0_charAt_5068e cJ0_charAt_5068e 2 (some .char) ∈ kG := kt3 185 rfl rfl
theorem wt3_172 : Cond.methodLink RX4 95 yJ0_length_8abf5 ∈ kG := kt3 172 rfl rfl
theorem wt3_173 : Cond.instanceMethod yJ0_length_8abf5 ∈ kG := kt3 173 rfl rfl
theorem wt3_174 : Cond.selects RJ0 yJ0_length_8abf5 yJ0_length_8abf5 ∈ kG := kt3 174 rfl rfl
theorem wt3_182 : Cond.methodLink RX4 100 yJ0_charAt_5068e ∈ kG := kt3 182 rfl rfl
theorem wt3_183 : Cond.instanceMethod yJ0_charAt_5068e ∈ kG := kt3 183 rfl rfl
theorem wt3_184 : Cond.selects RJ0 yJ0_charAt_5068e yJ0_charAt_5068e ∈ kG := kt3 184 rfl rfl
theorem wt3_170 : Cond.code yX4_wordToken cX4_wordToken 8 (some .int) ∈ kG := kt3 170 rfl rfl
theorem wt3_226 : Cond.code yX4_addToken cX4_addToken 3 none ∈ kG := kt3 226 rfl rfl
theorem wt3_222 : Cond.code yX4_numberToken cX4_numberToken 5 (some .int) ∈ kG := kt3 222 rfl rfl
theorem wt3_223 : Cond.methodLink RX4 89 yX4_addToken ∈ kG := kt3 223 rfl rfl
theorem wt3_225 : Cond.instanceMethod yX4_addToken ∈ kG := kt3 225 rfl rfl
theorem wp1_10 : Cond.selects RX4 yX4_addToken yX4_addToken ∈ kG := kp1 10 rfl rfl
theorem wt3_162 : Cond.methodLink RX4 75 yX4_isLetter ∈ kG := kt3 162 rfl rfl
theorem wt3_163 : Cond.static yX4_isLetter ∈ kG := kt3 163 rfl rfl
theorem wt3_164 : Cond.code yX4_isLetter cX4_isLetter 1 (some .boolean) ∈ kG := kt3 164 rfl rfl
theorem wt3_168 : Cond.methodLink RX4 82 yX4_wordToken ∈ kG := kt3 168 rfl rfl
theorem wt3_169 : Cond.static yX4_wordToken ∈ kG := kt3 169 rfl rfl
theorem wt3_165 : Cond.methodLink RX4 79 yX4_isDigit ∈ kG := kt3 165 rfl rfl
theorem wt3_166 : Cond.static yX4_isDigit ∈ kG := kt3 166 rfl rfl
theorem wt3_167 : Cond.code yX4_isDigit cX4_isDigit 1 (some .boolean) ∈ kG := kt3 167 rfl rfl
theorem wt3_220 : Cond.methodLink RX4 86 yX4_numberToken ∈ kG := kt3 220 rfl rfl
theorem wt3_221 : Cond.static yX4_numberToken ∈ kG := kt3 221 rfl rfl
theorem kc_1001 : kb 1001 1001 1001 := ⟨by decide +kernel, by decide +kernel⟩
theorem kc_1002 : kb 1002 1002 1002 := ⟨by decide +kernel, by decide +kernel⟩
theorem kc_3000 : kb 3000 3000 3000 := ⟨by decide +kernel, by decide +kernel⟩
set_option maxHeartbeats 4000000 in
set_option maxRecDepth 100000 in
theorem y_addToken  (l : Launch) {D : va_G} {K : Nat → ClassId} (r : Nat → Nat) (f : Nat → Int32) (a : Nat → Nat → Int32) (g : xG) (tx tt : va_W) (hT : ∀ c ∈ tt, c ∈ tx) (hI : xI f a) (hG : gOK K g.2 tt) (x : Int32) (y : Int32)  (ta : Nat) (hp0 : (f 1603).toInt = (ta : Int)) (hp1 : ta ≤ 400) : kVG l yX4_addToken (Cond.code yX4_addToken cX4_addToken 3 none :: kG) (rmD 1 0 0) D K [.ref (r 50), .int x, .int y] (xX K r f a g tx) (fun (u : xS) => xI u.1 u.2.1 ∧ gOK K u.2.2.2 tt ∧ xEk ([1603], [56, 57], []) f a g u.1 u.2.1 u.2.2 ∧ (u.1 1603).toInt = ((ta + 1 : Nat) : Int) ∧ u.2.1 56 = upd (a 56) ta x ∧ u.2.1 57 = upd (a 57) ta y) (fun u => xX K r u.1 u.2.1 u.2.2 tx) 0 0 := by
  refine kVG.of (cc := cX4_addToken) (maxL := 3) (ret := none) (by decide) rfl (Nat.le_of_ble_eq_true rfl) ?_
  intro p e s m below meth c A hx hb hr hml hown hts hlocks hnm hK hP hD hS hA hV ls hl
  have hE : xEk ([1603], [56, 57], []) f a g f a g := xEk_rf
  have hg : ∀ w ∈ kG, w.before _ s = true := fun w h => hts w (List.mem_cons_of_mem _ h)
  have hown : s.vm.findClass RX4 = some m.cls := hown
  have hl : lv_has ls 3 [(0, .ref (r 50)), (1, .int x), (2, .int y)] := hl
  obtain ⟨cz3, ecz3⟩ : ∃ z : Int32, z = f 1603 := ⟨_, rfl⟩
  have hcz3 : cz3.toInt = (ta : Int) := by rw [ecz3]; exact hp0
  have b1 : kb 0 cz3 400 := ⟨by omega, by have w1 := hp1; omega⟩
  refine lv_aload_n hx hb dX4_addToken_0 rfl (lv_at hl 0 rfl) ?_
  refine va_get (D := D) (ci := 4) (v := .int (f 1603)) (C := RX4) (T := TX4) (N := 7) hx hb hg inC4 hown hK hP 50 rfl rfl 3 (by decide) (hg _ wt2_68) (fun _ h9 => h9) rfl dX4_addToken_1 ?_
  refine k_top (z := cz3) ecz3.symm ?_
  refine lv_if_lt (tgt := 49) hx hb dX4_addToken_4 (by decide) (fun c2 => ?_) (fun c2 => ?_)
  · have h3 := (kc_lt c2)
    exact kb_no (kr_lt1 h3 b1 kc_0 (H := (-1)) (by decide)) (by decide)
  · have h4 := (kc_nlt c2)
    refine lv_aload_n hx hb dX4_addToken_7 rfl (lv_at hl 0 rfl) ?_
    refine va_get (D := D) (ci := 4) (v := .int (f 1603)) (C := RX4) (T := TX4) (N := 7) hx hb hg inC4 hown hK hP 50 rfl rfl 3 (by decide) (hg _ wt2_68) (fun _ h9 => h9) rfl dX4_addToken_8 ?_
    refine k_top (z := cz3) ecz3.symm ?_
    refine lv_aload_n hx hb dX4_addToken_11 rfl (lv_at hl 0 rfl) ?_
    refine va_get (D := D) (ci := 4) (v := .ref (r 56)) (C := RX4) (T := TX4) (N := 7) hx hb hg inC4 hown hK hP 50 rfl rfl 1 (by decide) (hg _ wt2_66) (fun _ h9 => h9) rfl dX4_addToken_12 ?_
    refine va_alen (v := 401) hx hb hK hP 56 0 rfl rfl rfl dX4_addToken_15 ?_
    refine lv_icmp_ge (tgt := 49) hx hb dX4_addToken_16 (by decide) (fun c5 => ?_) (fun c5 => ?_)
    · have h6 := (kc_le c5)
      exact kb_no (kr_le1 h6 kc_401 b1) (by decide)
    · have h7 := (kc_nle c5)
      refine lv_aload_n hx hb dX4_addToken_19 rfl (lv_at hl 0 rfl) ?_
      refine va_get (D := D) (ci := 4) (v := .ref (r 56)) (C := RX4) (T := TX4) (N := 7) hx hb hg inC4 hown hK hP 50 rfl rfl 1 (by decide) (hg _ wt2_66) (fun _ h9 => h9) rfl dX4_addToken_20 ?_
      refine lv_aload_n hx hb dX4_addToken_23 rfl (lv_at hl 0 rfl) ?_
      refine va_get (D := D) (ci := 4) (v := .int (f 1603)) (C := RX4) (T := TX4) (N := 7) hx hb hg inC4 hown hK hP 50 rfl rfl 3 (by decide) (hg _ wt2_68) (fun _ h9 => h9) rfl dX4_addToken_24 ?_
      refine k_top (z := cz3) ecz3.symm ?_
      refine lv_iload_n hx hb dX4_addToken_27 rfl (lv_at hl 1 rfl) ?_
      refine va_iast hx hb hK hP hD hS 56 0 rfl rfl (kb_in b1 (by decide) (by decide)) dX4_addToken_28 (fun H locs hP hD hS => ?_)
      have hP : va_P D vwCl (xX K r f (va_up a 56 (upd (a 56) cz3.toNatClampNeg x)) g tx) H := hP
      have hD : va_D A (xX K r f (va_up a 56 (upd (a 56) cz3.toNatClampNeg x)) g tx) := hD
      refine k_gen (P := fun z => va_P D vwCl (xX K r f z g tx) H ∧ va_D A (xX K r f z g tx) ∧ (xI f z) ∧ (gOK K g.2 tt) ∧ (xEk ([1603], [56, 57], []) f a g f z g)) (va_up a 56 (upd (a 56) cz3.toNatClampNeg x)) ⟨hP, hD, (xI_a hI (by decide)), hG, (xEk_a hE rfl)⟩ (fun a_8 ea_8 hq => ?_)
      obtain ⟨hP, hD, hI, hG, hE⟩ := hq
      refine lv_aload_n hx hb dX4_addToken_29 rfl (lv_at hl 0 rfl) ?_
      refine va_get (D := D) (ci := 4) (v := .ref (r 57)) (C := RX4) (T := TX4) (N := 7) hx hb hg inC4 hown hK hP 50 rfl rfl 2 (by decide) (hg _ wt2_67) (fun _ h9 => h9) rfl dX4_addToken_30 ?_
      refine lv_aload_n hx hb dX4_addToken_33 rfl (lv_at hl 0 rfl) ?_
      refine va_get (D := D) (ci := 4) (v := .int (f 1603)) (C := RX4) (T := TX4) (N := 7) hx hb hg inC4 hown hK hP 50 rfl rfl 3 (by decide) (hg _ wt2_68) (fun _ h9 => h9) rfl dX4_addToken_34 ?_
      refine k_top (z := cz3) ecz3.symm ?_
      refine lv_iload_n hx hb dX4_addToken_37 rfl (lv_at hl 2 rfl) ?_
      refine va_iast hx hb hK hP hD hS 57 0 rfl rfl (kb_in b1 (by decide) (by decide)) dX4_addToken_38 (fun H locs hP hD hS => ?_)
      have hP : va_P D vwCl (xX K r f (va_up a_8 57 (upd (a_8 57) cz3.toNatClampNeg y)) g tx) H := hP
      have hD : va_D A (xX K r f (va_up a_8 57 (upd (a_8 57) cz3.toNatClampNeg y)) g tx) := hD
      refine k_gen (P := fun z => va_P D vwCl (xX K r f z g tx) H ∧ va_D A (xX K r f z g tx) ∧ (xI f z) ∧ (gOK K g.2 tt) ∧ (xEk ([1603], [56, 57], []) f a g f z g)) (va_up a_8 57 (upd (a_8 57) cz3.toNatClampNeg y)) ⟨hP, hD, (xI_a hI (by decide)), hG, (xEk_a hE rfl)⟩ (fun a_9 ea_9 hq => ?_)
      obtain ⟨hP, hD, hI, hG, hE⟩ := hq
      refine lv_aload_n hx hb dX4_addToken_39 rfl (lv_at hl 0 rfl) ?_
      refine lv_dup hx hb dX4_addToken_40 rfl ?_
      refine va_get (D := D) (ci := 4) (v := .int (f 1603)) (C := RX4) (T := TX4) (N := 7) hx hb hg inC4 hown hK hP 50 rfl rfl 3 (by decide) (hg _ wt2_68) (fun _ h9 => h9) rfl dX4_addToken_41 ?_
      refine k_top (z := cz3) ecz3.symm ?_
      refine lv_iconst (v := 1) hx hb dX4_addToken_44 (by decide) ?_
      refine lv_iadd hx hb dX4_addToken_45 ?_
      refine lv_topi (fun t10 et10 => ?_)
      have b11 : kb 1 t10 401 := kb_eq et10 (kb_add b1 kc_1 (by decide) (by decide))
      have qt10 : t10.toInt = cz3.toInt + 1 := by rw [et10]; exact kt_addc b1 kc_1 (by decide) (by decide)
      refine va_put (D := D) (ci := 4) (v := .int t10) (ty := .int) (C := RX4) (T := TX4) (N := 7) hx hb hg inC4 tyX4 tyX4_ok nmX4 hown hK hP hD hS 50 rfl rfl 3 (by decide) (hg _ wt2_68) (fun _ h9 => h9) rfl (by decide +kernel) rfl rfl (Nat.le_of_ble_eq_true rfl) dX4_addToken_46 (fun H locs hP hD hS => ?_)
      have hP : va_P D vwCl (xX K r (upd f 1603 t10) a_9 g tx) H := hP
      have hD : va_D A (xX K r (upd f 1603 t10) a_9 g tx) := hD
      refine k_gen (P := fun z => va_P D vwCl (xX K r z a_9 g tx) H ∧ va_D A (xX K r z a_9 g tx) ∧ (xI z a_9) ∧ (gOK K g.2 tt) ∧ (xEk ([1603], [56, 57], []) f a g z a_9 g)) (upd f 1603 t10) ⟨hP, hD, (xI_f hI (fI_st hI.1 1603 (kb_any _) (by decide) (by decide))), hG, (xEk_f hE rfl)⟩ (fun f_12 ef_12 hq => ?_)
      obtain ⟨hP, hD, hI, hG, hE⟩ := hq
      exact kV_ret hx hb hr hlocks hK hS dX4_addToken_49 (f_12, a_9, g) hP hD ⟨hI, hG, hE, (by show (f_12 1603).toInt = ((ta + 1 : Nat) : Int); rw [(show f_12 1603 = t10 from by rw [← ef_12]; rfl)]; have w1 := qt10; omega), (by show a_9 56 = upd (a 56) ta x; rw [← cl_nat hcz3]; rw [← ea_9, ← ea_8]; rfl), (by show a_9 57 = upd (a 57) ta y; rw [← cl_nat hcz3]; rw [← ea_9, ← ea_8]; rfl)⟩
set_option maxHeartbeats 4000000 in
set_option maxRecDepth 100000 in
theorem y_numberToken  (l : Launch) {D : va_G} {K : Nat → ClassId} (r : Nat → Nat) (f : Nat → Int32) (a : Nat → Nat → Int32) (g : xG) (tx tt : va_W) (hT : ∀ c ∈ tt, c ∈ tx) (hI : xI f a) (hG : gOK K g.2 tt) (fr : Int32) (to : Int32) (bfr : kb 0 fr 400) (bto : kb 0 to 400) (k1 k2 : Nat) (hp0 : fr.toInt = (k1 : Int)) (hp1 : to.toInt = (k2 : Int)) (hp2 : k1 ≤ k2) (hp3 : ∀ j, k1 ≤ j → j < k2 → isD (a 93 j) = true) : kIG l yX4_numberToken (Cond.code yX4_numberToken cX4_numberToken 5 (some .int) :: kG) (rmD 1 0 0) D K [.ref (r 93), .int fr, .int to] (xX K r f a g tx) (fun v (_ : Unit) => kb (-2147483648) v 2147483647 ∧ v = (if nvT (a 93) k1 (k2 - k1) ≤ 1000 then Int32.ofInt (nvT (a 93) k1 (k2 - k1)) else 1001)) (fun _ => xX K r f a g tx) 0 0 := by
  refine kIE.of (cc := cX4_numberToken) (maxL := 5) (ret := (some .int)) (by decide) rfl (Nat.le_of_ble_eq_true rfl) ?_
  intro p e s m below meth c A hx hb hr hml hown hts hlocks hnm hK hP hD hS hA hV ls hl
  have hg : ∀ w ∈ kG, w.before _ s = true := fun w h => hts w (List.mem_cons_of_mem _ h)
  have hown : s.vm.findClass RX4 = some m.cls := hown
  have hl : lv_has ls 5 [(0, .ref (r 93)), (1, .int fr), (2, .int to)] := hl
  refine lv_iconst (v := 0) hx hb dX4_numberToken_0 (by decide) ?_
  refine lv_istore_n (lv' := [(3, .int 0), (0, .ref (r 93)), (1, .int fr), (2, .int to)]) hx hb dX4_numberToken_1 rfl hl (by decide) rfl (fun ls hl => ?_)
  refine lv_iload_n hx hb dX4_numberToken_2 rfl (lv_at hl 2 rfl) ?_
  refine lv_istore (lv' := [(4, .int fr), (3, .int 0), (0, .ref (r 93)), (1, .int fr), (2, .int to)]) hx hb dX4_numberToken_3 hl (by decide) rfl (fun ls hl => ?_)
  have lp3 : ∀ (n4 : Nat) (ik : Nat) (H : Heap) (locs : List Loc) (ls : Array Slot) (y1 : Int32) (y2 : Int32), (400 < y1.toInt + (n4 : Int)) → (kb 0 y1 400) → (kb 0 y2 10009) → (y1.toInt = (ik : Int) ∧ k1 ≤ ik ∧ ik ≤ k2) → (y2.toInt = nvT (a 93) k1 (ik - k1)) → va_P D vwCl (xX K r f a g tx) H → va_D A (xX K r f a g tx) → va_S A s.heap H locs → lv_has ls 5 [(4, .int y1), (3, .int y2), (0, .ref (r 93)), (1, .int fr), (2, .int to)] → W p l e (rmD 1 0 0) s m ([.ref (r 93), .int fr, .int to] : List Value).toArray below meth c H locs 0 0 (kQi D (tysK K) (fun v (_ : Unit) => kb (-2147483648) v 2147483647 ∧ v = (if nvT (a 93) k1 (k2 - k1) ≤ 1000 then Int32.ofInt (nvT (a 93) k1 (k2 - k1)) else 1001)) (fun _ => xX K r f a g tx) A below ([.ref (r 93), .int fr, .int to] : List Value).toArray s 0 0) (F0 m 5 ls []) := by
    intro n4
    induction n4 with
    | zero =>
      intro ik  H locs ls y1 y2 hmlp3 b5 b6 hvlp3_0 hvlp3_1 hP hD hS hl
      exact (by have h1 := b5.2; have h2 := hmlp3; omega : False).elim
    | succ n4 ihlp3 =>
      intro ik  H locs ls y1 y2 hmlp3 b5 b6 hvlp3_0 hvlp3_1 hP hD hS hl
      refine lv_iload hx hb dX4_numberToken_5 (lv_at hl 0 rfl) ?_
      refine lv_iload_n hx hb dX4_numberToken_7 rfl (lv_at hl 4 rfl) ?_
      refine lv_icmp_ge (tgt := 37) hx hb dX4_numberToken_8 (by decide) (fun c7 => ?_) (fun c7 => ?_)
      · have h8 := (kc_le c7)
        refine lv_iload_n hx hb dX4_numberToken_37 rfl (lv_at hl 1 rfl) ?_
        refine lv_sipush (v := 1000) hx hb dX4_numberToken_38 (by decide) ?_
        refine lv_icmp_le (tgt := 50) hx hb dX4_numberToken_41 (by decide) (fun c9 => ?_) (fun c9 => ?_)
        · have h10 := (kc_le c9)
          have b11 : kb 0 y2 1000 := kr_le1 h10 b6 kc_1000
          refine lv_iload_n hx hb dX4_numberToken_50 rfl (lv_at hl 1 rfl) ?_
          exact kI_ret (v := y2) hx hb hr hlocks rfl hK hS dX4_numberToken_51 () hP hD ⟨(kb_w b11 (by decide) (by decide)), (by have w1 := hvlp3_0; have w2 := hvlp3_1; have w3 : ik = k2 := (by have w4 := hp1; first | (have w5 := kc_le c7; omega) | (have w5 := kc_nlt c7; omega)); rw [w3] at w2; rw [if_pos (by have w6 := (b11).2; omega)]; exact Int32.toInt_inj.mp (by rw [i_of ⟨by have w6 := (b11).1; omega, by have w6 := (b11).2; omega⟩]; exact w2))⟩
        · have h12 := (kc_nle c9)
          have b13 : kb 1001 y2 10009 := kr_lt2 h12 kc_1000 b6 (by decide)
          refine lv_sipush (v := 1001) hx hb dX4_numberToken_44 (by decide) ?_
          refine lv_goto (tgt := 51) hx hb dX4_numberToken_47 (by decide) ?_
          exact kI_ret (v := 1001) hx hb hr hlocks rfl hK hS dX4_numberToken_51 () hP hD ⟨(kb_w kc_1001 (by decide) (by decide)), (by rw [if_neg (by have w1 := (b13).1; have w2 := hvlp3_0; have w3 := hvlp3_1; have w4 := nvT_m (k2 - ik) (ik - k1) (fun j hj => (rn_d (kk := k1) (ii := k2) hp3) j (by omega)); rw [show ik - k1 + (k2 - ik) = k2 - k1 by omega] at w4; omega)])⟩
      · have h14 := (kc_nle c7)
        have b15 : kb 0 y1 399 := kr_lt1 h14 b5 bto (by decide)
        have b16 : kb 1 to 400 := kr_lt2 h14 b5 bto (by decide)
        refine lv_iload_n hx hb dX4_numberToken_11 rfl (lv_at hl 1 rfl) ?_
        refine lv_sipush (v := 1000) hx hb dX4_numberToken_12 (by decide) ?_
        refine lv_icmp_gt (tgt := 37) hx hb dX4_numberToken_15 (by decide) (fun c17 => ?_) (fun c17 => ?_)
        · have h18 := (kc_lt c17)
          have b19 : kb 1001 y2 10009 := kr_lt2 h18 kc_1000 b6 (by decide)
          refine lv_iload_n hx hb dX4_numberToken_37 rfl (lv_at hl 1 rfl) ?_
          refine lv_sipush (v := 1000) hx hb dX4_numberToken_38 (by decide) ?_
          refine lv_icmp_le (tgt := 50) hx hb dX4_numberToken_41 (by decide) (fun c20 => ?_) (fun c20 => ?_)
          · have h21 := (kc_le c20)
            exact kb_no (kr_le1 h21 b19 kc_1000) (by decide)
          · have h22 := (kc_nle c20)
            refine lv_sipush (v := 1001) hx hb dX4_numberToken_44 (by decide) ?_
            refine lv_goto (tgt := 51) hx hb dX4_numberToken_47 (by decide) ?_
            exact kI_ret (v := 1001) hx hb hr hlocks rfl hK hS dX4_numberToken_51 () hP hD ⟨(kb_w kc_1001 (by decide) (by decide)), (by rw [if_neg (by have w1 := (b19).1; have w2 := hvlp3_0; have w3 := hvlp3_1; have w4 := nvT_m (k2 - ik) (ik - k1) (fun j hj => (rn_d (kk := k1) (ii := k2) hp3) j (by omega)); rw [show ik - k1 + (k2 - ik) = k2 - k1 by omega] at w4; omega)])⟩
        · have h23 := (kc_nlt c17)
          have b24 : kb 0 y2 1000 := kr_le1 h23 b6 kc_1000
          refine lv_iload_n hx hb dX4_numberToken_18 rfl (lv_at hl 1 rfl) ?_
          refine lv_bipush (v := 10) hx hb dX4_numberToken_19 (by decide) ?_
          refine lv_imul hx hb dX4_numberToken_21 ?_
          refine lv_topi (fun t25 et25 => ?_)
          have b26 : kb 0 t25 10000 := kb_eq et25 (kb_mul b24 kc_10 (by decide) (by decide) (by decide))
          have qt25 : t25.toInt = y2.toInt * 10 := by rw [et25]; exact kt_mulc b24 kc_10 (by decide) (by decide) (by decide)
          refine lv_aload_n hx hb dX4_numberToken_22 rfl (lv_at hl 2 rfl) ?_
          have hik : ik < k2 := by have w1 := hvlp3_0; have w2 := hp1; first | (have w3 := kc_nle c7; omega) | (have w3 := kc_lt c7; omega)
          have b27 : kb 0 y1 399 := ⟨by have w1 := hvlp3_0; omega, by have w1 := hvlp3_0; have w2 := hp1; have w3 := bto.2; omega⟩
          refine lv_iload hx hb dX4_numberToken_23 (lv_at hl 0 rfl) ?_
          refine va_bald hx hb hK hP 93 1 rfl rfl (kb_in b27 (by decide) (by decide)) dX4_numberToken_25 ?_
          refine lv_topi (fun t28 et28 => ?_)
          have hb2 : t28 = a 93 ik := et28.trans (congrArg (a 93) (cl_nat hvlp3_0.1))
          have b29 : kb 48 t28 57 := kb_eq hb2 (isD_b (hp3 ik (by have w1 := hvlp3_0; omega) hik))
          refine lv_iadd hx hb dX4_numberToken_26 ?_
          refine lv_topi (fun t30 et30 => ?_)
          have b31 : kb 48 t30 10057 := kb_eq et30 (kb_add b26 b29 (by decide) (by decide))
          have qt30 : t30.toInt = t25.toInt + t28.toInt := by rw [et30]; exact kt_add b26 b29 (by decide) (by decide)
          refine lv_bipush (v := 48) hx hb dX4_numberToken_27 (by decide) ?_
          refine lv_isub hx hb dX4_numberToken_29 ?_
          refine lv_topi (fun t32 et32 => ?_)
          have b33 : kb 0 t32 10009 := kb_eq et32 (kb_sub b31 kc_48 (by decide) (by decide))
          have qt32 : t32.toInt = t30.toInt - 48 := by rw [et32]; exact kt_subc b31 kc_48 (by decide) (by decide)
          refine lv_istore_n (lv' := [(3, .int t32), (4, .int y1), (0, .ref (r 93)), (1, .int fr), (2, .int to)]) hx hb dX4_numberToken_30 rfl hl (by decide) rfl (fun ls hl => ?_)
          obtain ⟨t34, et34⟩ : ∃ z : Int32, z = y1 + Int32.ofInt 1 := ⟨_, rfl⟩
          have qt34 : t34.toInt = y1.toInt + 1 := by rw [et34]; exact km_inc b27 (by decide) (by decide)
          have b35 : kb 1 t34 400 := kb_inc (k := 1) qt34 b27
          refine lv_iinc (v := t34) (lv' := [(4, .int t34), (3, .int t32), (0, .ref (r 93)), (1, .int fr), (2, .int to)]) hx hb dX4_numberToken_31 hl (k := 1) rfl et34.symm (by decide) rfl (fun ls hl => ?_)
          refine lv_goto (tgt := 5) hx hb dX4_numberToken_34 (by decide) ?_
          exact ihlp3 (ik + 1) _ _ _ t34 t32 (km_up hmlp3 qt34) (kb_w b35 (by decide) (by decide)) b33 (⟨by have w1 := hvlp3_0.1; omega, by have w1 := hvlp3_0; omega, hik⟩) (by rw [nv_s hvlp3_0.2.1, ← hb2]; have w1 := qt32; have w2 := hvlp3_1; omega) hP hD hS (lv_sub hl [0, 1, 2, 3, 4] rfl)
  exact lp3 (401) k1 _ _ _ fr 0 (by have h1 := (bfr); unfold kb at h1; omega) bfr (kb_w kc_0 (by decide) (by decide)) (⟨hp0, Nat.le_refl _, hp2⟩) (by rw [Nat.sub_self]; show (0 : Int32).toInt = 0; decide +kernel) hP hD hS (lv_sub hl [0, 1, 2, 3, 4] rfl)
set_option maxHeartbeats 4000000 in
set_option maxRecDepth 100000 in
theorem y_wordToken  (l : Launch) {D : va_G} {K : Nat → ClassId} (r : Nat → Nat) (f : Nat → Int32) (a : Nat → Nat → Int32) (g : xG) (tx tt : va_W) (hT : ∀ c ∈ tt, c ∈ tx) (hI : xI f a) (hG : gOK K g.2 tt) (fr : Int32) (to : Int32) (bfr : kb 0 fr 400) (bto : kb 0 to 400) (k1 k2 : Nat) (hp0 : fr.toInt = (k1 : Int)) (hp1 : to.toInt = (k2 : Int)) (hp2 : k1 ≤ k2) : kIG l yX4_wordToken (Cond.code yX4_wordToken cX4_wordToken 8 (some .int) :: kG) (rmD 5 0 0) D K [.ref (r 93), .int fr, .int to] (xX K r f a g tx) (fun v (_ : Unit) => kb (-2147483648) v 2147483647 ∧ v = wdT (slT (a 93) k1 k2)) (fun _ => xX K r f a g tx) 0 0 := by
  refine kIE.of (cc := cX4_wordToken) (maxL := 8) (ret := (some .int)) (by decide) rfl (Nat.le_of_ble_eq_true rfl) ?_
  intro p e s m below meth c A hx hb hr hml hown hts hlocks hnm hK hP hD hS hA hV ls hl
  have hg : ∀ w ∈ kG, w.before _ s = true := fun w h => hts w (List.mem_cons_of_mem _ h)
  have hown : s.vm.findClass RX4 = some m.cls := hown
  have hl : lv_has ls 8 [(0, .ref (r 93)), (1, .int fr), (2, .int to)] := hl
  obtain ⟨qS, vS, zS, hR4, hStr⟩ := hV.2.2.2
  refine lv_sipush (v := 2000) hx hb dX4_wordToken_0 (by decide) ?_
  refine lv_istore_n (lv' := [(3, .int 2000), (0, .ref (r 93)), (1, .int fr), (2, .int to)]) hx hb dX4_wordToken_3 rfl hl (by decide) rfl (fun ls hl => ?_)
  refine lv_iload_n hx hb dX4_wordToken_4 rfl (lv_at hl 2 rfl) ?_
  refine lv_istore (lv' := [(4, .int fr), (3, .int 2000), (0, .ref (r 93)), (1, .int fr), (2, .int to)]) hx hb dX4_wordToken_5 hl (by decide) rfl (fun ls hl => ?_)
  refine lv_iconst (v := 1) hx hb dX4_wordToken_7 (by decide) ?_
  refine lv_istore (lv' := [(5, .int 1), (4, .int fr), (3, .int 2000), (0, .ref (r 93)), (1, .int fr), (2, .int to)]) hx hb dX4_wordToken_8 hl (by decide) rfl (fun ls hl => ?_)
  refine lv_iconst (v := 0) hx hb dX4_wordToken_10 (by decide) ?_
  refine lv_istore (lv' := [(6, .int 0), (5, .int 1), (4, .int fr), (3, .int 2000), (0, .ref (r 93)), (1, .int fr), (2, .int to)]) hx hb dX4_wordToken_11 hl (by decide) rfl (fun ls hl => ?_)
  have lp5 : ∀ (n6 : Nat) (q : Nat) (jj : Nat) (H : Heap) (locs : List Loc) (ls : Array Slot) (y1 : Int32) (y2 : Int32) (y3 : Int32) (y4 : Int32), (146 < y1.toInt + (n6 : Int)) → (kb 0 y1 146) → (kb 0 y2 1) → (kb 0 y3 546) → (kb 2000 y4 2028) → (y1.toInt = ((ofX.getD q 0 + jj : Nat) : Int) ∧ q ≤ 28 ∧ (q < 28 → jj ≤ lnX q)) → (y3.toInt = ((k1 + jj : Nat) : Int)) → (y4.toInt = 2000 + (q : Int)) → ((¬ y2 = 0 → ∀ j, j < jj → k1 + j < k2 ∧ wBy (ofX.getD q 0 + j) = a 93 (k1 + j)) ∧ (y2 = 0 → ¬ dcX.getD q [] = slT (a 93) k1 k2)) → (∀ j < q, ¬ dcX.getD j [] = slT (a 93) k1 k2) → va_P D vwCl (xX K r f a g tx) H → va_D A (xX K r f a g tx) → va_S A s.heap H locs → lv_has ls 8 [(6, .int y1), (5, .int y2), (4, .int y3), (3, .int y4), (0, .ref (r 93)), (1, .int fr), (2, .int to)] → W p l e (rmD 5 0 0) s m ([.ref (r 93), .int fr, .int to] : List Value).toArray below meth c H locs 0 0 (kQi D (tysK K) (fun v (_ : Unit) => kb (-2147483648) v 2147483647 ∧ v = wdT (slT (a 93) k1 k2)) (fun _ => xX K r f a g tx) A below ([.ref (r 93), .int fr, .int to] : List Value).toArray s 0 0) (F0 m 13 ls []) := by
    intro n6
    induction n6 with
    | zero =>
      intro q jj  H locs ls y1 y2 y3 y4 hmlp5 b7 b8 b9 b10 hvlp5_0 hvlp5_1 hvlp5_2 hvlp5_3 hvlp5_4 hP hD hS hl
      exact (by have h1 := b7.2; have h2 := hmlp5; omega : False).elim
    | succ n6 ihlp5 =>
      intro q jj  H locs ls y1 y2 y3 y4 hmlp5 b7 b8 b9 b10 hvlp5_0 hvlp5_1 hvlp5_2 hvlp5_3 hvlp5_4 hP hD hS hl
      refine lv_iload hx hb dX4_wordToken_13 (lv_at hl 0 rfl) ?_
      refine va_ldcS hx hb hown hR4 dX4_wordToken_15 ?_
      refine kSE.callV (As := []) (rest := [.int y1]) ⟨hx, hb, hml, hown, hg⟩ (s_length l qS vS zS) (cwV 0 hg (kgV wt3_172 wt3_173 wt3_174 wt1_15 wt3_175) rfl rfl rfl (by decide +kernel) ⟨by decide, by decide⟩) hStr hP hS rfl hl.1 rfl (Nat.le_of_ble_eq_true rfl) dX4_wordToken_17 ⟨Nat.le_refl _, Nat.le_refl _⟩ (fun v11 H locs hw12 hP hS => ?_)
      have hP : va_P D vwCl (xX K r f a g tx) H := hP
      refine k_top (z := 146) hw12 ?_
      refine lv_icmp_ge (tgt := 100) hx hb dX4_wordToken_20 (by decide) (fun c13 => ?_) (fun c13 => ?_)
      · have h14 := (kc_le c13)
        have b15 : kb 146 y1 146 := kr_le2 h14 kc_146 b7
        refine lv_sipush (v := 1002) hx hb dX4_wordToken_100 (by decide) ?_
        exact kI_ret (v := 1002) hx hb hr hlocks rfl hK hS dX4_wordToken_103 () hP hD ⟨(kb_w kc_1002 (by decide) (by decide)), (wd_X0 (fun j hj => hvlp5_4 j (by have w1 := hvlp5_0; have w2 : ¬ q < 28 := (fun z => by have w3 := ofX_l q z; have w4 := w1.2.2 z; have w6 : (146 : Int32).toInt = 146 := (by decide +kernel); have w7 := w1.1; first | (have w5 := kc_le c13; omega) | (have w5 := kc_nlt c13; omega)); omega))).symm⟩
      · have h16 := (kc_nle c13)
        have b17 : kb 0 y1 145 := kr_lt1 h16 b7 kc_146 (by decide)
        have hq28 : q < 28 := ofX_lt (j := jj) hvlp5_0.2.1 (by have w1 := hvlp5_0.1; have w3 : (146 : Int32).toInt = 146 := (by decide +kernel); first | (have w2 := kc_nle c13; omega) | (have w2 := kc_lt c13; omega))
        have hol := ofX_l q hq28
        have hjl : jj ≤ lnX q := hvlp5_0.2.2 hq28
        refine va_ldcS hx hb hown hR4 dX4_wordToken_23 ?_
        refine lv_iload hx hb dX4_wordToken_25 (lv_at hl 0 rfl) ?_
        refine kSE.callV (As := [.int y1]) (rest := []) ⟨hx, hb, hml, hown, hg⟩ (s_charAt l qS vS zS y1 (b17).1 (by have w1 := (b17).2; omega)) (cwV 1 hg (kgV wt3_182 wt3_183 wt3_184 wt1_15 wt3_185) rfl rfl rfl (by decide +kernel) ⟨by decide, by decide⟩) hStr hP hS rfl hl.1 rfl (Nat.le_of_ble_eq_true rfl) dX4_wordToken_27 ⟨Nat.le_refl _, Nat.le_refl _⟩ (fun v18 H locs hw19 hP hS => ?_)
        have hP : va_P D vwCl (xX K r f a g tx) H := hP
        have hch : v18 = wBy (ofX.getD q 0 + jj) := by rw [hw19, cl_nat hvlp5_0.1]
        refine lv_istore (lv' := [(7, .int v18), (6, .int y1), (5, .int y2), (4, .int y3), (3, .int y4), (0, .ref (r 93)), (1, .int fr), (2, .int to)]) hx hb dX4_wordToken_30 hl (by decide) rfl (fun ls hl => ?_)
        refine lv_iload hx hb dX4_wordToken_32 (lv_at hl 0 rfl) ?_
        refine lv_bipush (v := 32) hx hb dX4_wordToken_34 (by decide) ?_
        refine lv_icmp_eq (tgt := 72) hx hb dX4_wordToken_36 (by decide) (fun c20 => ?_) (fun c20 => ?_)
        · have b21 : kb 32 v18 32 := kb_eq c20 kc_32
          have hje : jj = lnX q := by
            by_cases w1 : jj < lnX q
            · exact absurd (hch.symm.trans c20) (wBX_n q hq28 jj w1)
            · omega
          refine lv_iload hx hb dX4_wordToken_72 (lv_at hl 2 rfl) ?_
          refine lv_if_eq (tgt := 85) hx hb dX4_wordToken_74 (by decide) (fun c22 => ?_) (fun c22 => ?_)
          · have b23 : kb 0 y2 0 := kb_eq c22 kc_0
            have b24 : kb 2000 y4 2027 := ⟨by have w1 := hvlp5_2; omega, by have w1 := hvlp5_2; omega⟩
            obtain ⟨t25, et25⟩ : ∃ z : Int32, z = y4 + Int32.ofInt 1 := ⟨_, rfl⟩
            have qt25 : t25.toInt = y4.toInt + 1 := by rw [et25]; exact km_inc b24 (by decide) (by decide)
            have b26 : kb 2001 t25 2028 := kb_inc (k := 1) qt25 b24
            refine lv_iinc (v := t25) (lv' := [(3, .int t25), (7, .int v18), (6, .int y1), (5, .int y2), (4, .int y3), (0, .ref (r 93)), (1, .int fr), (2, .int to)]) hx hb dX4_wordToken_85 hl (k := 4) rfl et25.symm (by decide) rfl (fun ls hl => ?_)
            refine lv_iload_n hx hb dX4_wordToken_88 rfl (lv_at hl 6 rfl) ?_
            refine lv_istore (lv' := [(4, .int fr), (3, .int t25), (7, .int v18), (6, .int y1), (5, .int y2), (0, .ref (r 93)), (1, .int fr), (2, .int to)]) hx hb dX4_wordToken_89 hl (by decide) rfl (fun ls hl => ?_)
            refine lv_iconst (v := 1) hx hb dX4_wordToken_91 (by decide) ?_
            refine lv_istore (lv' := [(5, .int 1), (4, .int fr), (3, .int t25), (7, .int v18), (6, .int y1), (0, .ref (r 93)), (1, .int fr), (2, .int to)]) hx hb dX4_wordToken_92 hl (by decide) rfl (fun ls hl => ?_)
            obtain ⟨t27, et27⟩ : ∃ z : Int32, z = y1 + Int32.ofInt 1 := ⟨_, rfl⟩
            have qt27 : t27.toInt = y1.toInt + 1 := by rw [et27]; exact km_inc b17 (by decide) (by decide)
            have b28 : kb 1 t27 146 := kb_inc (k := 1) qt27 b17
            refine lv_iinc (v := t27) (lv' := [(6, .int t27), (5, .int 1), (4, .int fr), (3, .int t25), (7, .int v18), (0, .ref (r 93)), (1, .int fr), (2, .int to)]) hx hb dX4_wordToken_94 hl (k := 4) rfl et27.symm (by decide) rfl (fun ls hl => ?_)
            refine lv_goto (tgt := 13) hx hb dX4_wordToken_97 (by decide) ?_
            exact ihlp5 (q + 1) 0 _ _ _ t27 1 fr t25 (km_up hmlp5 qt27) (kb_w b28 (by decide) (by decide)) (kb_w kc_1 (by decide) (by decide)) (kb_w bfr (by decide) (by decide)) (kb_w b26 (by decide) (by decide)) (⟨by have w1 := hvlp5_0.1; omega, hq28, fun _ => Nat.zero_le _⟩) (by have w1 := hp0; omega) (by have w1 := hvlp5_2; omega) (⟨fun _ j hj => absurd hj (Nat.not_lt_zero j), fun q9 => absurd q9 (by decide +kernel)⟩) (fun j hj => by by_cases w1 : j = q; (rw [w1]; exact hvlp5_3.2 c22); exact hvlp5_4 j (by omega)) hP hD hS (lv_sub hl [0, 1, 2, 3, 5, 6, 7] rfl)
          · have b29 : kb 1 y2 1 := kr_nel c22 b8 kc_0 (by decide)
            refine lv_iload hx hb dX4_wordToken_77 (lv_at hl 3 rfl) ?_
            refine lv_iload_n hx hb dX4_wordToken_79 rfl (lv_at hl 7 rfl) ?_
            refine lv_icmp_ne (tgt := 85) hx hb dX4_wordToken_80 (by decide) (fun c30 => ?_) (fun c30 => ?_)
            · have b31 : kb 2000 y4 2027 := ⟨by have w1 := hvlp5_2; omega, by have w1 := hvlp5_2; omega⟩
              obtain ⟨t32, et32⟩ : ∃ z : Int32, z = y4 + Int32.ofInt 1 := ⟨_, rfl⟩
              have qt32 : t32.toInt = y4.toInt + 1 := by rw [et32]; exact km_inc b31 (by decide) (by decide)
              have b33 : kb 2001 t32 2028 := kb_inc (k := 1) qt32 b31
              refine lv_iinc (v := t32) (lv' := [(3, .int t32), (7, .int v18), (6, .int y1), (5, .int y2), (4, .int y3), (0, .ref (r 93)), (1, .int fr), (2, .int to)]) hx hb dX4_wordToken_85 hl (k := 4) rfl et32.symm (by decide) rfl (fun ls hl => ?_)
              refine lv_iload_n hx hb dX4_wordToken_88 rfl (lv_at hl 6 rfl) ?_
              refine lv_istore (lv' := [(4, .int fr), (3, .int t32), (7, .int v18), (6, .int y1), (5, .int y2), (0, .ref (r 93)), (1, .int fr), (2, .int to)]) hx hb dX4_wordToken_89 hl (by decide) rfl (fun ls hl => ?_)
              refine lv_iconst (v := 1) hx hb dX4_wordToken_91 (by decide) ?_
              refine lv_istore (lv' := [(5, .int 1), (4, .int fr), (3, .int t32), (7, .int v18), (6, .int y1), (0, .ref (r 93)), (1, .int fr), (2, .int to)]) hx hb dX4_wordToken_92 hl (by decide) rfl (fun ls hl => ?_)
              obtain ⟨t34, et34⟩ : ∃ z : Int32, z = y1 + Int32.ofInt 1 := ⟨_, rfl⟩
              have qt34 : t34.toInt = y1.toInt + 1 := by rw [et34]; exact km_inc b17 (by decide) (by decide)
              have b35 : kb 1 t34 146 := kb_inc (k := 1) qt34 b17
              refine lv_iinc (v := t34) (lv' := [(6, .int t34), (5, .int 1), (4, .int fr), (3, .int t32), (7, .int v18), (0, .ref (r 93)), (1, .int fr), (2, .int to)]) hx hb dX4_wordToken_94 hl (k := 4) rfl et34.symm (by decide) rfl (fun ls hl => ?_)
              refine lv_goto (tgt := 13) hx hb dX4_wordToken_97 (by decide) ?_
              exact ihlp5 (q + 1) 0 _ _ _ t34 1 fr t32 (km_up hmlp5 qt34) (kb_w b35 (by decide) (by decide)) (kb_w kc_1 (by decide) (by decide)) (kb_w bfr (by decide) (by decide)) (kb_w b33 (by decide) (by decide)) (⟨by have w1 := hvlp5_0.1; omega, hq28, fun _ => Nat.zero_le _⟩) (by have w1 := hp0; omega) (by have w1 := hvlp5_2; omega) (⟨fun _ j hj => absurd hj (Nat.not_lt_zero j), fun q9 => absurd q9 (by decide +kernel)⟩) (fun j hj => by by_cases w1 : j = q; (rw [w1]; exact (fun e9 => by rw [dcX_A q hq28] at e9; have w1 := sl_len e9; have w2 := hvlp5_1; have w3 := hp1; exact c30 (Int32.toInt_inj.mp (by omega)))); exact hvlp5_4 j (by omega)) hP hD hS (lv_sub hl [0, 1, 2, 3, 5, 6, 7] rfl)
            · have b36 : kb 0 y3 400 := kb_eq c30 bto
              refine lv_iload_n hx hb dX4_wordToken_83 rfl (lv_at hl 4 rfl) ?_
              exact kI_ret (v := y4) hx hb hr hlocks rfl hK hS dX4_wordToken_84 () hP hD ⟨(kb_w b10 (by decide) (by decide)), (wx_1 hq28 (by rw [dcX_A q hq28]; exact sl_eq (by have w1 := congrArg Int32.toInt c30; have w2 := hvlp5_1; have w3 := hp1; omega) (fun j hj => (hvlp5_3.1 c22 j (by omega)).2)) (by have w1 := hvlp5_2; omega))⟩
        · have hjn : jj < lnX q := by
            by_cases w1 : jj = lnX q
            · exfalso; refine c20 (hch.trans ?_); rw [w1]; exact wBX_e q hq28
            · omega
          have b37 : kb 0 y3 545 := ⟨by have w1 := hvlp5_1; omega, by have w1 := hvlp5_1; have w2 := hp0; have w3 := bfr.2; omega⟩
          refine lv_iload hx hb dX4_wordToken_39 (lv_at hl 2 rfl) ?_
          refine lv_if_eq (tgt := 63) hx hb dX4_wordToken_41 (by decide) (fun c38 => ?_) (fun c38 => ?_)
          · have b39 : kb 0 y2 0 := kb_eq c38 kc_0
            refine lv_iconst (v := 0) hx hb dX4_wordToken_63 (by decide) ?_
            refine lv_istore (lv' := [(5, .int 0), (7, .int v18), (6, .int y1), (4, .int y3), (3, .int y4), (0, .ref (r 93)), (1, .int fr), (2, .int to)]) hx hb dX4_wordToken_64 hl (by decide) rfl (fun ls hl => ?_)
            obtain ⟨t40, et40⟩ : ∃ z : Int32, z = y3 + Int32.ofInt 1 := ⟨_, rfl⟩
            have qt40 : t40.toInt = y3.toInt + 1 := by rw [et40]; exact km_inc b37 (by decide) (by decide)
            have b41 : kb 1 t40 546 := kb_inc (k := 1) qt40 b37
            refine lv_iinc (v := t40) (lv' := [(4, .int t40), (5, .int 0), (7, .int v18), (6, .int y1), (3, .int y4), (0, .ref (r 93)), (1, .int fr), (2, .int to)]) hx hb dX4_wordToken_66 hl (k := 3) rfl et40.symm (by decide) rfl (fun ls hl => ?_)
            refine lv_goto (tgt := 94) hx hb dX4_wordToken_69 (by decide) ?_
            obtain ⟨t42, et42⟩ : ∃ z : Int32, z = y1 + Int32.ofInt 1 := ⟨_, rfl⟩
            have qt42 : t42.toInt = y1.toInt + 1 := by rw [et42]; exact km_inc b17 (by decide) (by decide)
            have b43 : kb 1 t42 146 := kb_inc (k := 1) qt42 b17
            refine lv_iinc (v := t42) (lv' := [(6, .int t42), (4, .int t40), (5, .int 0), (7, .int v18), (3, .int y4), (0, .ref (r 93)), (1, .int fr), (2, .int to)]) hx hb dX4_wordToken_94 hl (k := 3) rfl et42.symm (by decide) rfl (fun ls hl => ?_)
            refine lv_goto (tgt := 13) hx hb dX4_wordToken_97 (by decide) ?_
            exact ihlp5 q (jj + 1) _ _ _ t42 0 t40 y4 (km_up hmlp5 qt42) (kb_w b43 (by decide) (by decide)) (kb_w kc_0 (by decide) (by decide)) (kb_w b41 (by decide) (by decide)) b10 (⟨by have w1 := hvlp5_0.1; omega, by omega, fun _ => hjn⟩) (by have w1 := hvlp5_1; omega) (hvlp5_2) (⟨fun q9 => absurd rfl q9, fun _ => hvlp5_3.2 c38⟩) (hvlp5_4) hP hD hS (lv_sub hl [0, 2, 1, 4, 5, 6, 7] rfl)
          · have b44 : kb 1 y2 1 := kr_nel c38 b8 kc_0 (by decide)
            refine lv_iload hx hb dX4_wordToken_44 (lv_at hl 3 rfl) ?_
            refine lv_iload_n hx hb dX4_wordToken_46 rfl (lv_at hl 7 rfl) ?_
            refine lv_icmp_ge (tgt := 63) hx hb dX4_wordToken_47 (by decide) (fun c45 => ?_) (fun c45 => ?_)
            · have h46 := (kc_le c45)
              refine lv_iconst (v := 0) hx hb dX4_wordToken_63 (by decide) ?_
              refine lv_istore (lv' := [(5, .int 0), (7, .int v18), (6, .int y1), (4, .int y3), (3, .int y4), (0, .ref (r 93)), (1, .int fr), (2, .int to)]) hx hb dX4_wordToken_64 hl (by decide) rfl (fun ls hl => ?_)
              obtain ⟨t47, et47⟩ : ∃ z : Int32, z = y3 + Int32.ofInt 1 := ⟨_, rfl⟩
              have qt47 : t47.toInt = y3.toInt + 1 := by rw [et47]; exact km_inc b37 (by decide) (by decide)
              have b48 : kb 1 t47 546 := kb_inc (k := 1) qt47 b37
              refine lv_iinc (v := t47) (lv' := [(4, .int t47), (5, .int 0), (7, .int v18), (6, .int y1), (3, .int y4), (0, .ref (r 93)), (1, .int fr), (2, .int to)]) hx hb dX4_wordToken_66 hl (k := 3) rfl et47.symm (by decide) rfl (fun ls hl => ?_)
              refine lv_goto (tgt := 94) hx hb dX4_wordToken_69 (by decide) ?_
              obtain ⟨t49, et49⟩ : ∃ z : Int32, z = y1 + Int32.ofInt 1 := ⟨_, rfl⟩
              have qt49 : t49.toInt = y1.toInt + 1 := by rw [et49]; exact km_inc b17 (by decide) (by decide)
              have b50 : kb 1 t49 146 := kb_inc (k := 1) qt49 b17
              refine lv_iinc (v := t49) (lv' := [(6, .int t49), (4, .int t47), (5, .int 0), (7, .int v18), (3, .int y4), (0, .ref (r 93)), (1, .int fr), (2, .int to)]) hx hb dX4_wordToken_94 hl (k := 3) rfl et49.symm (by decide) rfl (fun ls hl => ?_)
              refine lv_goto (tgt := 13) hx hb dX4_wordToken_97 (by decide) ?_
              exact ihlp5 q (jj + 1) _ _ _ t49 0 t47 y4 (km_up hmlp5 qt49) (kb_w b50 (by decide) (by decide)) (kb_w kc_0 (by decide) (by decide)) (kb_w b48 (by decide) (by decide)) b10 (⟨by have w1 := hvlp5_0.1; omega, by omega, fun _ => hjn⟩) (by have w1 := hvlp5_1; omega) (hvlp5_2) (⟨fun q9 => absurd rfl q9, fun _ => fun e9 => by rw [dcX_A q hq28] at e9; have w1 := sl_len e9; have w2 := hvlp5_1; have w3 := hp1; first | (have w4 := kc_le c45; omega) | (have w4 := kc_nlt c45; omega)⟩) (hvlp5_4) hP hD hS (lv_sub hl [0, 2, 1, 4, 5, 6, 7] rfl)
            · have h51 := (kc_nle c45)
              have b52 : kb 0 y3 399 := kr_lt1 h51 b37 bto (by decide)
              have b53 : kb 1 to 400 := kr_lt2 h51 b37 bto (by decide)
              have hat : k1 + jj < k2 := by have w1 := hvlp5_1; have w2 := hp1; first | (have w3 := kc_nle c45; omega) | (have w3 := kc_lt c45; omega)
              have b54 : kb 0 y3 399 := ⟨by have w1 := hvlp5_1; omega, by have w1 := hvlp5_1; have w2 := hp1; have w3 := bto.2; omega⟩
              refine lv_aload_n hx hb dX4_wordToken_50 rfl (lv_at hl 5 rfl) ?_
              refine lv_iload hx hb dX4_wordToken_51 (lv_at hl 3 rfl) ?_
              refine va_bald hx hb hK hP 93 1 rfl rfl (kb_in b54 (by decide) (by decide)) dX4_wordToken_53 ?_
              refine lv_topi (fun t55 et55 => ?_)
              have hty : t55 = a 93 (k1 + jj) := et55.trans (congrArg (a 93) (cl_nat hvlp5_1))
              refine lv_iload hx hb dX4_wordToken_54 (lv_at hl 0 rfl) ?_
              refine lv_icmp_ne (tgt := 63) hx hb dX4_wordToken_56 (by decide) (fun c56 => ?_) (fun c56 => ?_)
              · refine lv_iconst (v := 0) hx hb dX4_wordToken_63 (by decide) ?_
                refine lv_istore (lv' := [(5, .int 0), (7, .int v18), (6, .int y1), (4, .int y3), (3, .int y4), (0, .ref (r 93)), (1, .int fr), (2, .int to)]) hx hb dX4_wordToken_64 hl (by decide) rfl (fun ls hl => ?_)
                obtain ⟨t57, et57⟩ : ∃ z : Int32, z = y3 + Int32.ofInt 1 := ⟨_, rfl⟩
                have qt57 : t57.toInt = y3.toInt + 1 := by rw [et57]; exact km_inc b54 (by decide) (by decide)
                have b58 : kb 1 t57 400 := kb_inc (k := 1) qt57 b54
                refine lv_iinc (v := t57) (lv' := [(4, .int t57), (5, .int 0), (7, .int v18), (6, .int y1), (3, .int y4), (0, .ref (r 93)), (1, .int fr), (2, .int to)]) hx hb dX4_wordToken_66 hl (k := 3) rfl et57.symm (by decide) rfl (fun ls hl => ?_)
                refine lv_goto (tgt := 94) hx hb dX4_wordToken_69 (by decide) ?_
                obtain ⟨t59, et59⟩ : ∃ z : Int32, z = y1 + Int32.ofInt 1 := ⟨_, rfl⟩
                have qt59 : t59.toInt = y1.toInt + 1 := by rw [et59]; exact km_inc b17 (by decide) (by decide)
                have b60 : kb 1 t59 146 := kb_inc (k := 1) qt59 b17
                refine lv_iinc (v := t59) (lv' := [(6, .int t59), (4, .int t57), (5, .int 0), (7, .int v18), (3, .int y4), (0, .ref (r 93)), (1, .int fr), (2, .int to)]) hx hb dX4_wordToken_94 hl (k := 3) rfl et59.symm (by decide) rfl (fun ls hl => ?_)
                refine lv_goto (tgt := 13) hx hb dX4_wordToken_97 (by decide) ?_
                exact ihlp5 q (jj + 1) _ _ _ t59 0 t57 y4 (km_up hmlp5 qt59) (kb_w b60 (by decide) (by decide)) (kb_w kc_0 (by decide) (by decide)) (kb_w b58 (by decide) (by decide)) b10 (⟨by have w1 := hvlp5_0.1; omega, by omega, fun _ => hjn⟩) (by have w1 := hvlp5_1; omega) (hvlp5_2) (⟨fun q9 => absurd rfl q9, fun _ => fun e9 => by rw [dcX_A q hq28] at e9; exact c56 (hty.trans ((sl_at e9 hjn).symm.trans hch.symm))⟩) (hvlp5_4) hP hD hS (lv_sub hl [0, 2, 1, 4, 5, 6, 7] rfl)
              · refine lv_iconst (v := 1) hx hb dX4_wordToken_59 (by decide) ?_
                refine lv_goto (tgt := 64) hx hb dX4_wordToken_60 (by decide) ?_
                refine lv_istore (lv' := [(5, .int 1), (7, .int v18), (6, .int y1), (4, .int y3), (3, .int y4), (0, .ref (r 93)), (1, .int fr), (2, .int to)]) hx hb dX4_wordToken_64 hl (by decide) rfl (fun ls hl => ?_)
                obtain ⟨t61, et61⟩ : ∃ z : Int32, z = y3 + Int32.ofInt 1 := ⟨_, rfl⟩
                have qt61 : t61.toInt = y3.toInt + 1 := by rw [et61]; exact km_inc b54 (by decide) (by decide)
                have b62 : kb 1 t61 400 := kb_inc (k := 1) qt61 b54
                refine lv_iinc (v := t61) (lv' := [(4, .int t61), (5, .int 1), (7, .int v18), (6, .int y1), (3, .int y4), (0, .ref (r 93)), (1, .int fr), (2, .int to)]) hx hb dX4_wordToken_66 hl (k := 3) rfl et61.symm (by decide) rfl (fun ls hl => ?_)
                refine lv_goto (tgt := 94) hx hb dX4_wordToken_69 (by decide) ?_
                obtain ⟨t63, et63⟩ : ∃ z : Int32, z = y1 + Int32.ofInt 1 := ⟨_, rfl⟩
                have qt63 : t63.toInt = y1.toInt + 1 := by rw [et63]; exact km_inc b17 (by decide) (by decide)
                have b64 : kb 1 t63 146 := kb_inc (k := 1) qt63 b17
                refine lv_iinc (v := t63) (lv' := [(6, .int t63), (4, .int t61), (5, .int 1), (7, .int v18), (3, .int y4), (0, .ref (r 93)), (1, .int fr), (2, .int to)]) hx hb dX4_wordToken_94 hl (k := 3) rfl et63.symm (by decide) rfl (fun ls hl => ?_)
                refine lv_goto (tgt := 13) hx hb dX4_wordToken_97 (by decide) ?_
                exact ihlp5 q (jj + 1) _ _ _ t63 1 t61 y4 (km_up hmlp5 qt63) (kb_w b64 (by decide) (by decide)) (kb_w kc_1 (by decide) (by decide)) (kb_w b62 (by decide) (by decide)) b10 (⟨by have w1 := hvlp5_0.1; omega, by omega, fun _ => hjn⟩) (by have w1 := hvlp5_1; omega) (hvlp5_2) (⟨fun _ j hj => by by_cases w1 : j = jj; (rw [w1]; exact ⟨hat, hch.symm.trans (c56.symm.trans hty)⟩); exact hvlp5_3.1 c38 j (by omega), fun q9 => absurd q9 (by decide +kernel)⟩) (hvlp5_4) hP hD hS (lv_sub hl [0, 2, 1, 4, 5, 6, 7] rfl)
  exact lp5 (147) 0 0 _ _ _ 0 1 fr 2000 (by decide +kernel) (kb_w kc_0 (by decide) (by decide)) (kb_w kc_1 (by decide) (by decide)) (kb_w bfr (by decide) (by decide)) (kb_w kc_2000 (by decide) (by decide)) (⟨by decide +kernel, by decide, fun _ => Nat.zero_le _⟩) (by have w1 := hp0; omega) (by decide +kernel) (⟨fun _ j hj => absurd hj (Nat.not_lt_zero j), fun q9 => absurd q9 (by decide +kernel)⟩) (fun j hj => absurd hj (Nat.not_lt_zero j)) hP hD hS (lv_sub hl [0, 1, 2, 3, 4, 5, 6] rfl)
set_option maxHeartbeats 4000000 in
set_option maxRecDepth 100000 in
theorem y_split  (l : Launch) {D : va_G} {K : Nat → ClassId} (r : Nat → Nat) (f : Nat → Int32) (a : Nat → Nat → Int32) (g : xG) (tx tt : va_W) (hT : ∀ c ∈ tt, c ∈ tx) (hI : xI f a) (hG : gOK K g.2 tt) (len_ : Int32) (blen_ : kb 0 len_ 400) (S : Nat) (hp0 : len_.toInt = (S : Int)) : kVG l yX4_split (Cond.code yX4_split cX4_split 7 none :: kG) (rmD 6 0 0) D K [.ref (r 50), .ref (r 93), .int len_] (xX K r f a g tx) (fun (u : xS) => xI u.1 u.2.1 ∧ gOK K u.2.2.2 tt ∧ xEk ([1603], [56, 57], []) f a g u.1 u.2.1 u.2.2 ∧ (∃ N : Nat, (u.1 1603).toInt = (N : Int) + 1 ∧ N ≤ 400 ∧ spX (a 93) S N u.2.1)) (fun u => xX K r u.1 u.2.1 u.2.2 tx) 0 0 := by
  refine kVG.of (cc := cX4_split) (maxL := 7) (ret := none) (by decide) rfl (Nat.le_of_ble_eq_true rfl) ?_
  intro p e s m below meth c A hx hb hr hml hown hts hlocks hnm hK hP hD hS hA hV ls hl
  have hE : xEk ([1603], [56, 57], []) f a g f a g := xEk_rf
  have hg : ∀ w ∈ kG, w.before _ s = true := fun w h => hts w (List.mem_cons_of_mem _ h)
  have hown : s.vm.findClass RX4 = some m.cls := hown
  have hl : lv_has ls 7 [(0, .ref (r 50)), (1, .ref (r 93)), (2, .int len_)] := hl
  refine lv_aload_n hx hb dX4_split_0 rfl (lv_at hl 0 rfl) ?_
  refine lv_iconst (v := 0) hx hb dX4_split_1 (by decide) ?_
  refine va_put (D := D) (ci := 4) (v := .int 0) (ty := .int) (C := RX4) (T := TX4) (N := 7) hx hb hg inC4 tyX4 tyX4_ok nmX4 hown hK hP hD hS 50 rfl rfl 3 (by decide) (hg _ wt2_68) (fun _ h9 => h9) rfl (by decide +kernel) rfl rfl (Nat.le_of_ble_eq_true rfl) dX4_split_2 (fun H locs hP hD hS => ?_)
  have hP : va_P D vwCl (xX K r (upd f 1603 0) a g tx) H := hP
  have hD : va_D A (xX K r (upd f 1603 0) a g tx) := hD
  refine k_gen (P := fun z => va_P D vwCl (xX K r z a g tx) H ∧ va_D A (xX K r z a g tx) ∧ (xI z a) ∧ (gOK K g.2 tt) ∧ (xEk ([1603], [56, 57], []) f a g z a g)) (upd f 1603 0) ⟨hP, hD, (xI_f hI (fI_st hI.1 1603 (kb_any _) (by decide) (by decide))), hG, (xEk_f hE rfl)⟩ (fun f_1 ef_1 hq => ?_)
  obtain ⟨hP, hD, hI, hG, hE⟩ := hq
  refine lv_iconst (v := 0) hx hb dX4_split_5 (by decide) ?_
  refine lv_istore_n (lv' := [(3, .int 0), (0, .ref (r 50)), (1, .ref (r 93)), (2, .int len_)]) hx hb dX4_split_6 rfl hl (by decide) rfl (fun ls hl => ?_)
  refine lv_iconst (v := 0) hx hb dX4_split_7 (by decide) ?_
  refine lv_istore (lv' := [(4, .int 0), (3, .int 0), (0, .ref (r 50)), (1, .ref (r 93)), (2, .int len_)]) hx hb dX4_split_8 hl (by decide) rfl (fun ls hl => ?_)
  have lp7 : ∀ (n8 : Nat) (kk : Nat) (nx : Nat) (ta : Nat) (F4 : Nat → Int32) (B5 : Nat → Nat → Int32) (G6 : xG) (H : Heap) (locs : List Loc) (ls : Array Slot) (y2 : Int32) (y3 : Int32), (400 < y2.toInt + (n8 : Int)) → (xI F4 B5) → (gOK K G6.2 tt) → (xEk ([1603], [56, 57], []) f a g F4 B5 G6) → (kb 0 y2 400) → (kb 0 y3 400) → (y2.toInt = (kk : Int) ∧ kk ≤ S) → (y3.toInt = (nx : Int) ∧ nx ≤ S) → ((F4 1603).toInt = (ta : Int) ∧ ta ≤ kk) → (plT (a 93) S ta = rn isB (a 93) S (max kk nx)) → (xPre (a 93) S ta B5) → va_P D vwCl (xX K r F4 B5 G6 tx) H → va_D A (xX K r F4 B5 G6 tx) → va_S A s.heap H locs → lv_has ls 7 [(4, .int y2), (3, .int y3), (0, .ref (r 50)), (1, .ref (r 93)), (2, .int len_)] → W p l e (rmD 6 0 0) s m ([.ref (r 50), .ref (r 93), .int len_] : List Value).toArray below meth c H locs 0 0 (kQv D (tysK K) (fun (u : xS) => xI u.1 u.2.1 ∧ gOK K u.2.2.2 tt ∧ xEk ([1603], [56, 57], []) f a g u.1 u.2.1 u.2.2 ∧ (∃ N : Nat, (u.1 1603).toInt = (N : Int) + 1 ∧ N ≤ 400 ∧ spX (a 93) S N u.2.1)) (fun u => xX K r u.1 u.2.1 u.2.2 tx) A below ([.ref (r 50), .ref (r 93), .int len_] : List Value).toArray s 0 0) (F0 m 10 ls []) := by
    intro n8
    induction n8 with
    | zero =>
      intro kk nx ta F4 B5 G6  H locs ls y2 y3 hmlp7 hI hG hE b9 b10 hvlp7_0 hvlp7_1 hvlp7_2 hvlp7_3 hvlp7_4 hP hD hS hl
      exact (by have h1 := b9.2; have h2 := hmlp7; omega : False).elim
    | succ n8 ihlp7 =>
      intro kk nx ta F4 B5 G6  H locs ls y2 y3 hmlp7 hI hG hE b9 b10 hvlp7_0 hvlp7_1 hvlp7_2 hvlp7_3 hvlp7_4 hP hD hS hl
      obtain ⟨cz3, ecz3⟩ : ∃ z : Int32, z = F4 1603 := ⟨_, rfl⟩
      have hcz3 : cz3.toInt = (ta : Int) := by rw [ecz3]; exact hvlp7_2.1
      have hkk := hvlp7_0.1
      refine lv_iload hx hb dX4_split_10 (lv_at hl 0 rfl) ?_
      refine lv_iload_n hx hb dX4_split_12 rfl (lv_at hl 4 rfl) ?_
      refine lv_icmp_ge (tgt := 163) hx hb dX4_split_13 (by decide) (fun c11 => ?_) (fun c11 => ?_)
      · have h12 := (kc_le c11)
        have hkS : kk = S := by have w2 := hp0; have w3 := hvlp7_0.2; first | (have w1 := kc_le c11; omega) | (have w1 := kc_nlt c11; omega)
        refine lv_aload_n hx hb dX4_split_163 rfl (lv_at hl 2 rfl) ?_
        refine lv_sipush (v := 4000) hx hb dX4_split_164 (by decide) ?_
        refine lv_iload_n hx hb dX4_split_167 rfl (lv_at hl 4 rfl) ?_
        refine kVG.callW (As := [.int 4000, .int len_]) (rest := []) ⟨hx, hb, hml, hown, hg⟩ (y_addToken l r F4 B5 G6 tx tt hT hI hG 4000 len_  ta (by rw [ecz3.symm]; exact hcz3) (by have w1 := hvlp7_2.2; have w2 := hvlp7_0.2; have w3 := blen_.2; have w4 := hp0; omega)) (cwV 2 hg (kgV wt3_223 wt3_225 wp1_10 wt1_7 wt3_226) rfl rfl rfl (by decide +kernel) ⟨by decide, by decide⟩) hV hK hP hD hS hA (50) 4 rfl rfl rfl hl.1 rfl (Nat.le_of_ble_eq_true rfl) dX4_split_168 ⟨Nat.le_refl _, Nat.le_refl _⟩ (fun u15 H locs hw13 hP hD hS => ?_)
        obtain ⟨f16, a17, g18⟩ := u15
        have hP : va_P D vwCl (xX K r f16 a17 g18 tx) H := hP
        have hD : va_D A (xX K r f16 a17 g18 tx) := hD
        have hI : xI f16 a17 := hw13.1
        have hG : gOK K g18.2 tt := hw13.2.1
        have eE19 : xEk ([1603], [56, 57], []) F4 B5 G6 f16 a17 g18 := hw13.2.2.1
        have hE : xEk ([1603], [56, 57], []) f a g f16 a17 g18 := xEk_tr hE eE19
        obtain ⟨z20, ez20⟩ : ∃ z : Int32, z = f16 1603 := ⟨_, rfl⟩
        have hzz20 : z20.toInt = ((ta + 1 : Nat) : Int) := by rw [ez20]; exact hw13.2.2.2.1
        exact kV_ret hx hb hr hlocks hK hS dX4_split_171 (f16, a17, g18) hP hD ⟨hI, hG, hE, ⟨ta, (by show (f16 1603).toInt = (ta : Int) + 1; rw [ez20.symm]; have w1 := hzz20; omega), by have w1 := hvlp7_2.2; have w2 := hvlp7_0.2; have w3 := blen_.2; have w4 := hp0; omega, (show spX (a 93) S ta a17 from spX_of hvlp7_4 (hvlp7_3.trans (by rw [hkS, Nat.max_eq_left hvlp7_1.2]; exact rn_S (Nat.le_refl S))) hw13.2.2.2.2.1 hw13.2.2.2.2.2 rfl (pc_of hp0 (by have w2 := blen_.2; have w3 := hp0; omega)))⟩⟩
      · have h21 := (kc_nle c11)
        have b22 : kb 0 y2 399 := kr_lt1 h21 b9 blen_ (by decide)
        have b23 : kb 1 len_ 400 := kr_lt2 h21 b9 blen_ (by decide)
        have hkS : kk < S := by have w2 := hp0; first | (have w1 := kc_nle c11; omega) | (have w1 := kc_lt c11; omega)
        have b24 : kb 0 y2 399 := ⟨by omega, by have w1 := blen_.2; have w2 := hp0; omega⟩
        refine lv_iload hx hb dX4_split_16 (lv_at hl 0 rfl) ?_
        refine lv_iload_n hx hb dX4_split_18 rfl (lv_at hl 1 rfl) ?_
        refine lv_icmp_lt (tgt := 157) hx hb dX4_split_19 (by decide) (fun c25 => ?_) (fun c25 => ?_)
        · have h26 := (kc_lt c25)
          have b27 : kb 1 y3 400 := kr_lt2 h26 b24 b10 (by decide)
          have hgn : kk < nx := by have w1 := hvlp7_1.1; first | (have w2 := kc_lt c25; omega) | (have w2 := kc_nle c25; omega)
          obtain ⟨t28, et28⟩ : ∃ z : Int32, z = y2 + Int32.ofInt 1 := ⟨_, rfl⟩
          have qt28 : t28.toInt = y2.toInt + 1 := by rw [et28]; exact km_inc b24 (by decide) (by decide)
          have b29 : kb 1 t28 400 := kb_inc (k := 1) qt28 b24
          refine lv_iinc (v := t28) (lv' := [(4, .int t28), (3, .int y3), (0, .ref (r 50)), (1, .ref (r 93)), (2, .int len_)]) hx hb dX4_split_157 hl (k := 0) rfl et28.symm (by decide) rfl (fun ls hl => ?_)
          refine lv_goto (tgt := 10) hx hb dX4_split_160 (by decide) ?_
          exact ihlp7 (kk + 1) nx ta F4 B5 G6 _ _ _ t28 y3 (km_up hmlp7 qt28) hI hG hE (kb_w b29 (by decide) (by decide)) (kb_w b27 (by decide) (by decide)) (⟨by have w1 := hkk; omega, hkS⟩) (hvlp7_1) (⟨hvlp7_2.1, by have w1 := hvlp7_2.2; omega⟩) (hvlp7_3.trans (by rw [Nat.max_eq_right (by omega), Nat.max_eq_right (by omega)])) (hvlp7_4) hP hD hS (lv_sub hl [0, 1, 2, 3, 4] rfl)
        · have h30 := (kc_nlt c25)
          have b31 : kb 0 y3 399 := kr_le1 h30 b10 b24
          have hge : nx ≤ kk := by have w1 := hvlp7_1.1; first | (have w2 := kc_nlt c25; omega) | (have w2 := kc_le c25; omega)
          refine lv_aload_n hx hb dX4_split_22 rfl (lv_at hl 3 rfl) ?_
          refine lv_iload hx hb dX4_split_23 (lv_at hl 0 rfl) ?_
          refine va_bald hx hb hK hP 93 1 rfl rfl (kb_in b24 (by decide) (by decide)) dX4_split_25 ?_
          refine lv_topi (fun t32 et32 => ?_)
          have hby : t32 = a 93 kk := et32.trans ((congrFun (hE.2.1 93 rfl) _).trans (congrArg (a 93) (cl_nat hkk)))
          refine lv_bipush (v := 32) hx hb dX4_split_26 (by decide) ?_
          refine lv_icmp_ne (tgt := 34) hx hb dX4_split_28 (by decide) (fun c33 => ?_) (fun c33 => ?_)
          · have hpl : plT (a 93) S ta = kk := (hvlp7_3.trans (by rw [Nat.max_eq_left hge])).trans (rn_n hkS (fun q => c33 (hby.trans (of_decide_eq_true q))))
            refine lv_iload hx hb dX4_split_34 (lv_at hl 0 rfl) ?_
            refine lv_iconst (v := 1) hx hb dX4_split_36 (by decide) ?_
            refine lv_iadd hx hb dX4_split_37 ?_
            refine lv_topi (fun t34 et34 => ?_)
            have b35 : kb 1 t34 400 := kb_eq et34 (kb_add b24 kc_1 (by decide) (by decide))
            have qt34 : t34.toInt = y2.toInt + 1 := by rw [et34]; exact kt_addc b24 kc_1 (by decide) (by decide)
            refine lv_istore_n (lv' := [(3, .int t34), (4, .int y2), (0, .ref (r 50)), (1, .ref (r 93)), (2, .int len_)]) hx hb dX4_split_38 rfl hl (by decide) rfl (fun ls hl => ?_)
            refine lv_aload_n hx hb dX4_split_39 rfl (lv_at hl 3 rfl) ?_
            refine lv_iload hx hb dX4_split_40 (lv_at hl 1 rfl) ?_
            refine va_bald hx hb hK hP 93 1 rfl rfl (kb_in b24 (by decide) (by decide)) dX4_split_42 ?_
            refine k_top (z := t32) et32.symm ?_
            refine kN.callS (As := [.int t32]) (rest := []) ⟨hx, hb, hml, hown, hg⟩ (y_isLetter l t32 ) (va_cwS 1 hg (kgS wt3_162 wt3_163 wt1_7 wt3_164) rfl rfl rfl (by decide +kernel) ⟨by decide, by decide⟩) hP hS rfl hl.1 rfl (Nat.le_of_ble_eq_true rfl) dX4_split_43 ⟨Nat.le_refl _, Nat.le_refl _⟩ (fun v37 H locs hw36 hP hS => ?_)
            have hP : va_P D vwCl (xX K r F4 B5 G6 tx) H := hP
            rcases hw36.2 with hkk38 | hkk38
            · refine k_top (z := 1) hkk38.1 ?_
              refine lv_istore (lv' := [(5, .int 1), (3, .int t34), (4, .int y2), (0, .ref (r 50)), (1, .ref (r 93)), (2, .int len_)]) hx hb dX4_split_46 hl (by decide) rfl (fun ls hl => ?_)
              refine lv_iload hx hb dX4_split_48 (lv_at hl 0 rfl) ?_
              refine lv_if_ne (tgt := 63) hx hb dX4_split_50 (by decide) (fun c39 => ?_) (fun c39 => ?_)
              · have lp41 : ∀ (n42 : Nat) (ee : Nat) (H : Heap) (locs : List Loc) (ls : Array Slot) (y40 : Int32), (400 < y40.toInt + (n42 : Int)) → (kb 1 y40 400) → (y40.toInt = (ee : Int) ∧ kk + 1 ≤ ee ∧ ee ≤ S ∧ rn isS (a 93) S (kk + 1) = rn isS (a 93) S ee ∧ ∀ j, kk + 1 ≤ j → j < ee → isS (a 93 j) = true) → va_P D vwCl (xX K r F4 B5 G6 tx) H → va_D A (xX K r F4 B5 G6 tx) → va_S A s.heap H locs → lv_has ls 7 [(5, .int 1), (3, .int y40), (4, .int y2), (0, .ref (r 50)), (1, .ref (r 93)), (2, .int len_)] → W p l e (rmD 6 0 0) s m ([.ref (r 50), .ref (r 93), .int len_] : List Value).toArray below meth c H locs 0 0 (kQv D (tysK K) (fun (u : xS) => xI u.1 u.2.1 ∧ gOK K u.2.2.2 tt ∧ xEk ([1603], [56, 57], []) f a g u.1 u.2.1 u.2.2 ∧ (∃ N : Nat, (u.1 1603).toInt = (N : Int) + 1 ∧ N ≤ 400 ∧ spX (a 93) S N u.2.1)) (fun u => xX K r u.1 u.2.1 u.2.2 tx) A below ([.ref (r 50), .ref (r 93), .int len_] : List Value).toArray s 0 0) (F0 m 63 ls []) := by
                  intro n42
                  induction n42 with
                  | zero =>
                    intro ee  H locs ls y40 hmlp41 b43 hvlp41_0 hP hD hS hl
                    exact (by have h1 := b43.2; have h2 := hmlp41; omega : False).elim
                  | succ n42 ihlp41 =>
                    intro ee  H locs ls y40 hmlp41 b43 hvlp41_0 hP hD hS hl
                    refine lv_iload_n hx hb dX4_split_63 rfl (lv_at hl 1 rfl) ?_
                    refine lv_iload_n hx hb dX4_split_64 rfl (lv_at hl 5 rfl) ?_
                    refine lv_icmp_ge (tgt := 100) hx hb dX4_split_65 (by decide) (fun c44 => ?_) (fun c44 => ?_)
                    · have h45 := (kc_le c44)
                      have hen : rn isS (a 93) S (kk + 1) = ee := by have w2 := hp0; have w3 := hvlp41_0; have w4 : ee = S := (by first | (have w1 := kc_le c44; omega) | (have w1 := kc_nlt c44; omega)); rw [w3.2.2.2.1, w4]; exact rn_S (Nat.le_refl S)
                      have henT : enT (a 93) S kk = ee := by unfold enT; rw [if_pos (show isS (a 93 kk) = true from by rw [← hby]; exact hkk38.2)]; exact hen
                      have htoo : y40.toInt = (ee : Int) := hvlp41_0.1
                      have hgl : kk < ee ∧ ee ≤ S := by have w1 := hvlp41_0; omega
                      refine lv_iload hx hb dX4_split_100 (lv_at hl 0 rfl) ?_
                      refine lv_if_eq (tgt := 115) hx hb dX4_split_102 (by decide) (fun c46 => ?_) (fun c46 => ?_)
                      · exact kb_dj c46 kc_1 kc_0 (by decide)
                      · refine lv_aload_n hx hb dX4_split_105 rfl (lv_at hl 4 rfl) ?_
                        refine lv_iload hx hb dX4_split_106 (lv_at hl 2 rfl) ?_
                        refine lv_iload_n hx hb dX4_split_108 rfl (lv_at hl 1 rfl) ?_
                        refine kIG.callS (As := [.ref (r 93), .int y2, .int y40]) (rest := []) ⟨hx, hb, hml, hown, hg⟩ (y_wordToken l r F4 B5 G6 tx tt hT hI hG y2 y40 (kb_w b24 (by decide) (by decide)) (kb_w b43 (by decide) (by decide)) kk ee hkk htoo (by omega)) (va_cwS 3 hg (kgS wt3_168 wt3_169 wt1_7 wt3_170) rfl rfl rfl (by decide +kernel) ⟨by decide, by decide⟩) hV hK hP hD hS hA rfl hl.1 rfl (Nat.le_of_ble_eq_true rfl) dX4_split_109 ⟨Nat.le_refl _, Nat.le_refl _⟩ (fun v48 u49 H locs hw47 hP hD hS => ?_)
                        have hP : va_P D vwCl (xX K r F4 B5 G6 tx) H := hP
                        have hD : va_D A (xX K r F4 B5 G6 tx) := hD
                        refine lv_goto (tgt := 147) hx hb dX4_split_112 (by decide) ?_
                        refine lv_istore (lv' := [(6, .int v48), (5, .int 1), (3, .int y40), (4, .int y2), (0, .ref (r 50)), (1, .ref (r 93)), (2, .int len_)]) hx hb dX4_split_147 hl (by decide) rfl (fun ls hl => ?_)
                        have htk : v48 = toT (a 93) S kk := tok_w2 (show isS (a 93 kk) = true from by rw [← hby]; exact hkk38.2) henT (by have w1 := hw47.2; rw [hE.2.1 93 rfl] at w1; exact w1)
                        refine lv_aload_n hx hb dX4_split_149 rfl (lv_at hl 4 rfl) ?_
                        refine lv_iload hx hb dX4_split_150 (lv_at hl 0 rfl) ?_
                        refine lv_iload hx hb dX4_split_152 (lv_at hl 3 rfl) ?_
                        refine kVG.callW (As := [.int v48, .int y2]) (rest := []) ⟨hx, hb, hml, hown, hg⟩ (y_addToken l r F4 B5 G6 tx tt hT hI hG v48 y2  ta (by rw [ecz3.symm]; exact hcz3) (by have w1 := hvlp7_2.2; have w2 := hvlp7_0.2; have w3 := blen_.2; have w4 := hp0; omega)) (cwV 2 hg (kgV wt3_223 wt3_225 wp1_10 wt1_7 wt3_226) rfl rfl rfl (by decide +kernel) ⟨by decide, by decide⟩) hV hK hP hD hS hA (50) 4 rfl rfl rfl hl.1 rfl (Nat.le_of_ble_eq_true rfl) dX4_split_154 ⟨Nat.le_refl _, Nat.le_refl _⟩ (fun u52 H locs hw50 hP hD hS => ?_)
                        obtain ⟨f53, a54, g55⟩ := u52
                        have hP : va_P D vwCl (xX K r f53 a54 g55 tx) H := hP
                        have hD : va_D A (xX K r f53 a54 g55 tx) := hD
                        have hI : xI f53 a54 := hw50.1
                        have hG : gOK K g55.2 tt := hw50.2.1
                        have eE56 : xEk ([1603], [56, 57], []) F4 B5 G6 f53 a54 g55 := hw50.2.2.1
                        have hE : xEk ([1603], [56, 57], []) f a g f53 a54 g55 := xEk_tr hE eE56
                        obtain ⟨z57, ez57⟩ : ∃ z : Int32, z = f53 1603 := ⟨_, rfl⟩
                        have hzz57 : z57.toInt = ((ta + 1 : Nat) : Int) := by rw [ez57]; exact hw50.2.2.2.1
                        obtain ⟨t58, et58⟩ : ∃ z : Int32, z = y2 + Int32.ofInt 1 := ⟨_, rfl⟩
                        have qt58 : t58.toInt = y2.toInt + 1 := by rw [et58]; exact km_inc b24 (by decide) (by decide)
                        have b59 : kb 1 t58 400 := kb_inc (k := 1) qt58 b24
                        refine lv_iinc (v := t58) (lv' := [(4, .int t58), (6, .int v48), (5, .int 1), (3, .int y40), (0, .ref (r 50)), (1, .ref (r 93)), (2, .int len_)]) hx hb dX4_split_157 hl (k := 3) rfl et58.symm (by decide) rfl (fun ls hl => ?_)
                        refine lv_goto (tgt := 10) hx hb dX4_split_160 (by decide) ?_
                        exact ihlp7 (kk + 1) (ee) (ta + 1) f53 a54 g55 _ _ _ t58 y40 (km_up hmlp7 qt58) hI hG hE (kb_w b59 (by decide) (by decide)) (kb_w b43 (by decide) (by decide)) (⟨by have w1 := hkk; omega, hkS⟩) (⟨htoo, hgl.2⟩) (⟨by rw [ez57.symm]; exact hzz57, by have w1 := hvlp7_2.2; omega⟩) ((plT_s (by rw [hpl]; exact hkS)).trans (by rw [hpl, henT, Nat.max_eq_right (by omega)])) (xPre_add hvlp7_4 hw50.2.2.2.2.1 hw50.2.2.2.2.2 (by rw [hpl]; exact hkS) (by rw [tkT_l (by rw [hpl]; exact hkS), hpl]; exact htk) (by unfold pcT; rw [hpl]; exact pc_of hkk (by have w1 := blen_.2; have w2 := hp0; omega))) hP hD hS (lv_sub hl [0, 3, 4, 5, 6] rfl)
                    · have h60 := (kc_nle c44)
                      have b61 : kb 1 y40 399 := kr_lt1 h60 b43 b23 (by decide)
                      have b62 : kb 2 len_ 400 := kr_lt2 h60 b43 b23 (by decide)
                      have heS : ee < S := by have w2 := hp0; have w3 := hvlp41_0.1; first | (have w1 := kc_nle c44; omega) | (have w1 := kc_lt c44; omega)
                      have b63 : kb 1 y40 399 := ⟨by have w1 := hvlp41_0; omega, by have w1 := blen_.2; have w2 := hp0; have w3 := hvlp41_0.1; omega⟩
                      refine lv_iload hx hb dX4_split_68 (lv_at hl 0 rfl) ?_
                      refine lv_if_eq (tgt := 85) hx hb dX4_split_70 (by decide) (fun c64 => ?_) (fun c64 => ?_)
                      · exact kb_dj c64 kc_1 kc_0 (by decide)
                      · refine lv_aload_n hx hb dX4_split_73 rfl (lv_at hl 4 rfl) ?_
                        refine lv_iload_n hx hb dX4_split_74 rfl (lv_at hl 1 rfl) ?_
                        refine va_bald hx hb hK hP 93 1 rfl rfl (kb_in b63 (by decide) (by decide)) dX4_split_75 ?_
                        refine lv_topi (fun t65 et65 => ?_)
                        have he1 : t65 = a 93 ee := et65.trans ((congrFun (hE.2.1 93 rfl) _).trans (congrArg (a 93) (cl_nat hvlp41_0.1)))
                        refine kN.callS (As := [.int t65]) (rest := []) ⟨hx, hb, hml, hown, hg⟩ (y_isLetter l t65 ) (va_cwS 1 hg (kgS wt3_162 wt3_163 wt1_7 wt3_164) rfl rfl rfl (by decide +kernel) ⟨by decide, by decide⟩) hP hS rfl hl.1 rfl (Nat.le_of_ble_eq_true rfl) dX4_split_76 ⟨Nat.le_refl _, Nat.le_refl _⟩ (fun v67 H locs hw66 hP hS => ?_)
                        have hP : va_P D vwCl (xX K r F4 B5 G6 tx) H := hP
                        rcases hw66.2 with hkk68 | hkk68
                        · refine k_top (z := 1) hkk68.1 ?_
                          refine lv_if_eq (tgt := 100) hx hb dX4_split_79 (by decide) (fun c69 => ?_) (fun c69 => ?_)
                          · exact kb_dj c69 kc_1 kc_0 (by decide)
                          · refine lv_goto (tgt := 94) hx hb dX4_split_82 (by decide) ?_
                            obtain ⟨t70, et70⟩ : ∃ z : Int32, z = y40 + Int32.ofInt 1 := ⟨_, rfl⟩
                            have qt70 : t70.toInt = y40.toInt + 1 := by rw [et70]; exact km_inc b63 (by decide) (by decide)
                            have b71 : kb 2 t70 400 := kb_inc (k := 1) qt70 b63
                            refine lv_iinc (v := t70) (lv' := [(3, .int t70), (5, .int 1), (4, .int y2), (0, .ref (r 50)), (1, .ref (r 93)), (2, .int len_)]) hx hb dX4_split_94 hl (k := 1) rfl et70.symm (by decide) rfl (fun ls hl => ?_)
                            refine lv_goto (tgt := 63) hx hb dX4_split_97 (by decide) ?_
                            exact ihlp41 (ee + 1) _ _ _ t70 (km_up hmlp41 qt70) (kb_w b71 (by decide) (by decide)) (⟨by have w1 := hvlp41_0.1; omega, by have w1 := hvlp41_0.2.1; omega, heS, hvlp41_0.2.2.2.1.trans (rn_y heS (by rw [← he1]; exact hkk68.2)), fun j h1 h2 => by by_cases w1 : j = ee; (rw [w1, ← he1]; exact hkk68.2); exact hvlp41_0.2.2.2.2 j h1 (by omega)⟩) hP hD hS (lv_sub hl [1, 0, 2, 3, 4, 5] rfl)
                        · refine k_top (z := 0) hkk68.1 ?_
                          refine lv_if_eq (tgt := 100) hx hb dX4_split_79 (by decide) (fun c72 => ?_) (fun c72 => ?_)
                          · have hen : rn isS (a 93) S (kk + 1) = ee := hvlp41_0.2.2.2.1.trans (rn_n heS (by rw [← he1, hkk68.2]; decide))
                            have henT : enT (a 93) S kk = ee := by unfold enT; rw [if_pos (show isS (a 93 kk) = true from by rw [← hby]; exact hkk38.2)]; exact hen
                            have htoo : y40.toInt = (ee : Int) := hvlp41_0.1
                            have hgl : kk < ee ∧ ee ≤ S := by have w1 := hvlp41_0; omega
                            refine lv_iload hx hb dX4_split_100 (lv_at hl 0 rfl) ?_
                            refine lv_if_eq (tgt := 115) hx hb dX4_split_102 (by decide) (fun c73 => ?_) (fun c73 => ?_)
                            · exact kb_dj c73 kc_1 kc_0 (by decide)
                            · refine lv_aload_n hx hb dX4_split_105 rfl (lv_at hl 4 rfl) ?_
                              refine lv_iload hx hb dX4_split_106 (lv_at hl 2 rfl) ?_
                              refine lv_iload_n hx hb dX4_split_108 rfl (lv_at hl 1 rfl) ?_
                              refine kIG.callS (As := [.ref (r 93), .int y2, .int y40]) (rest := []) ⟨hx, hb, hml, hown, hg⟩ (y_wordToken l r F4 B5 G6 tx tt hT hI hG y2 y40 (kb_w b24 (by decide) (by decide)) (kb_w b63 (by decide) (by decide)) kk ee hkk htoo (by omega)) (va_cwS 3 hg (kgS wt3_168 wt3_169 wt1_7 wt3_170) rfl rfl rfl (by decide +kernel) ⟨by decide, by decide⟩) hV hK hP hD hS hA rfl hl.1 rfl (Nat.le_of_ble_eq_true rfl) dX4_split_109 ⟨Nat.le_refl _, Nat.le_refl _⟩ (fun v75 u76 H locs hw74 hP hD hS => ?_)
                              have hP : va_P D vwCl (xX K r F4 B5 G6 tx) H := hP
                              have hD : va_D A (xX K r F4 B5 G6 tx) := hD
                              refine lv_goto (tgt := 147) hx hb dX4_split_112 (by decide) ?_
                              refine lv_istore (lv' := [(6, .int v75), (5, .int 1), (3, .int y40), (4, .int y2), (0, .ref (r 50)), (1, .ref (r 93)), (2, .int len_)]) hx hb dX4_split_147 hl (by decide) rfl (fun ls hl => ?_)
                              have htk : v75 = toT (a 93) S kk := tok_w2 (show isS (a 93 kk) = true from by rw [← hby]; exact hkk38.2) henT (by have w1 := hw74.2; rw [hE.2.1 93 rfl] at w1; exact w1)
                              refine lv_aload_n hx hb dX4_split_149 rfl (lv_at hl 4 rfl) ?_
                              refine lv_iload hx hb dX4_split_150 (lv_at hl 0 rfl) ?_
                              refine lv_iload hx hb dX4_split_152 (lv_at hl 3 rfl) ?_
                              refine kVG.callW (As := [.int v75, .int y2]) (rest := []) ⟨hx, hb, hml, hown, hg⟩ (y_addToken l r F4 B5 G6 tx tt hT hI hG v75 y2  ta (by rw [ecz3.symm]; exact hcz3) (by have w1 := hvlp7_2.2; have w2 := hvlp7_0.2; have w3 := blen_.2; have w4 := hp0; omega)) (cwV 2 hg (kgV wt3_223 wt3_225 wp1_10 wt1_7 wt3_226) rfl rfl rfl (by decide +kernel) ⟨by decide, by decide⟩) hV hK hP hD hS hA (50) 4 rfl rfl rfl hl.1 rfl (Nat.le_of_ble_eq_true rfl) dX4_split_154 ⟨Nat.le_refl _, Nat.le_refl _⟩ (fun u79 H locs hw77 hP hD hS => ?_)
                              obtain ⟨f80, a81, g82⟩ := u79
                              have hP : va_P D vwCl (xX K r f80 a81 g82 tx) H := hP
                              have hD : va_D A (xX K r f80 a81 g82 tx) := hD
                              have hI : xI f80 a81 := hw77.1
                              have hG : gOK K g82.2 tt := hw77.2.1
                              have eE83 : xEk ([1603], [56, 57], []) F4 B5 G6 f80 a81 g82 := hw77.2.2.1
                              have hE : xEk ([1603], [56, 57], []) f a g f80 a81 g82 := xEk_tr hE eE83
                              obtain ⟨z84, ez84⟩ : ∃ z : Int32, z = f80 1603 := ⟨_, rfl⟩
                              have hzz84 : z84.toInt = ((ta + 1 : Nat) : Int) := by rw [ez84]; exact hw77.2.2.2.1
                              obtain ⟨t85, et85⟩ : ∃ z : Int32, z = y2 + Int32.ofInt 1 := ⟨_, rfl⟩
                              have qt85 : t85.toInt = y2.toInt + 1 := by rw [et85]; exact km_inc b24 (by decide) (by decide)
                              have b86 : kb 1 t85 400 := kb_inc (k := 1) qt85 b24
                              refine lv_iinc (v := t85) (lv' := [(4, .int t85), (6, .int v75), (5, .int 1), (3, .int y40), (0, .ref (r 50)), (1, .ref (r 93)), (2, .int len_)]) hx hb dX4_split_157 hl (k := 3) rfl et85.symm (by decide) rfl (fun ls hl => ?_)
                              refine lv_goto (tgt := 10) hx hb dX4_split_160 (by decide) ?_
                              exact ihlp7 (kk + 1) (ee) (ta + 1) f80 a81 g82 _ _ _ t85 y40 (km_up hmlp7 qt85) hI hG hE (kb_w b86 (by decide) (by decide)) (kb_w b63 (by decide) (by decide)) (⟨by have w1 := hkk; omega, hkS⟩) (⟨htoo, hgl.2⟩) (⟨by rw [ez84.symm]; exact hzz84, by have w1 := hvlp7_2.2; omega⟩) ((plT_s (by rw [hpl]; exact hkS)).trans (by rw [hpl, henT, Nat.max_eq_right (by omega)])) (xPre_add hvlp7_4 hw77.2.2.2.2.1 hw77.2.2.2.2.2 (by rw [hpl]; exact hkS) (by rw [tkT_l (by rw [hpl]; exact hkS), hpl]; exact htk) (by unfold pcT; rw [hpl]; exact pc_of hkk (by have w1 := blen_.2; have w2 := hp0; omega))) hP hD hS (lv_sub hl [0, 3, 4, 5, 6] rfl)
                          · exact kb_nsame c72 kc_0 kc_0
                exact lp41 (400) (kk + 1) _ _ _ t34 (by have h1 := (b35); unfold kb at h1; omega) b35 (⟨by have w1 := qt34; omega, Nat.le_refl _, hkS, rfl, fun j h1 h2 => absurd h1 (by omega)⟩) hP hD hS (lv_sub hl [0, 1, 2, 3, 4, 5] rfl)
              · exact kb_dj c39 kc_1 kc_0 (by decide)
            · refine k_top (z := 0) hkk38.1 ?_
              refine lv_istore (lv' := [(5, .int 0), (3, .int t34), (4, .int y2), (0, .ref (r 50)), (1, .ref (r 93)), (2, .int len_)]) hx hb dX4_split_46 hl (by decide) rfl (fun ls hl => ?_)
              refine lv_iload hx hb dX4_split_48 (lv_at hl 0 rfl) ?_
              refine lv_if_ne (tgt := 63) hx hb dX4_split_50 (by decide) (fun c87 => ?_) (fun c87 => ?_)
              · exact kb_nsame c87 kc_0 kc_0
              · refine lv_aload_n hx hb dX4_split_53 rfl (lv_at hl 4 rfl) ?_
                refine lv_iload hx hb dX4_split_54 (lv_at hl 2 rfl) ?_
                refine va_bald hx hb hK hP 93 1 rfl rfl (kb_in b24 (by decide) (by decide)) dX4_split_56 ?_
                refine k_top (z := t32) et32.symm ?_
                refine kN.callS (As := [.int t32]) (rest := []) ⟨hx, hb, hml, hown, hg⟩ (y_isDigit l t32 ) (va_cwS 1 hg (kgS wt3_165 wt3_166 wt1_7 wt3_167) rfl rfl rfl (by decide +kernel) ⟨by decide, by decide⟩) hP hS rfl hl.1 rfl (Nat.le_of_ble_eq_true rfl) dX4_split_57 ⟨Nat.le_refl _, Nat.le_refl _⟩ (fun v89 H locs hw88 hP hS => ?_)
                have hP : va_P D vwCl (xX K r F4 B5 G6 tx) H := hP
                rcases hw88.2 with hkk90 | hkk90
                · refine k_top (z := 1) hkk90.1 ?_
                  refine lv_if_eq (tgt := 100) hx hb dX4_split_60 (by decide) (fun c91 => ?_) (fun c91 => ?_)
                  · exact kb_dj c91 kc_1 kc_0 (by decide)
                  · have lp93 : ∀ (n94 : Nat) (ee : Nat) (H : Heap) (locs : List Loc) (ls : Array Slot) (y92 : Int32), (400 < y92.toInt + (n94 : Int)) → (kb 1 y92 400) → (y92.toInt = (ee : Int) ∧ kk + 1 ≤ ee ∧ ee ≤ S ∧ rn isD (a 93) S (kk + 1) = rn isD (a 93) S ee ∧ ∀ j, kk + 1 ≤ j → j < ee → isD (a 93 j) = true) → va_P D vwCl (xX K r F4 B5 G6 tx) H → va_D A (xX K r F4 B5 G6 tx) → va_S A s.heap H locs → lv_has ls 7 [(5, .int 0), (3, .int y92), (4, .int y2), (0, .ref (r 50)), (1, .ref (r 93)), (2, .int len_)] → W p l e (rmD 6 0 0) s m ([.ref (r 50), .ref (r 93), .int len_] : List Value).toArray below meth c H locs 0 0 (kQv D (tysK K) (fun (u : xS) => xI u.1 u.2.1 ∧ gOK K u.2.2.2 tt ∧ xEk ([1603], [56, 57], []) f a g u.1 u.2.1 u.2.2 ∧ (∃ N : Nat, (u.1 1603).toInt = (N : Int) + 1 ∧ N ≤ 400 ∧ spX (a 93) S N u.2.1)) (fun u => xX K r u.1 u.2.1 u.2.2 tx) A below ([.ref (r 50), .ref (r 93), .int len_] : List Value).toArray s 0 0) (F0 m 63 ls []) := by
                      intro n94
                      induction n94 with
                      | zero =>
                        intro ee  H locs ls y92 hmlp93 b95 hvlp93_0 hP hD hS hl
                        exact (by have h1 := b95.2; have h2 := hmlp93; omega : False).elim
                      | succ n94 ihlp93 =>
                        intro ee  H locs ls y92 hmlp93 b95 hvlp93_0 hP hD hS hl
                        refine lv_iload_n hx hb dX4_split_63 rfl (lv_at hl 1 rfl) ?_
                        refine lv_iload_n hx hb dX4_split_64 rfl (lv_at hl 5 rfl) ?_
                        refine lv_icmp_ge (tgt := 100) hx hb dX4_split_65 (by decide) (fun c96 => ?_) (fun c96 => ?_)
                        · have h97 := (kc_le c96)
                          have hen : rn isD (a 93) S (kk + 1) = ee := by have w2 := hp0; have w3 := hvlp93_0; have w4 : ee = S := (by first | (have w1 := kc_le c96; omega) | (have w1 := kc_nlt c96; omega)); rw [w3.2.2.2.1, w4]; exact rn_S (Nat.le_refl S)
                          have henT : enT (a 93) S kk = ee := by unfold enT; rw [if_neg (bne_t (show isS (a 93 kk) = false from by rw [← hby]; exact hkk38.2)), if_pos (show isD (a 93 kk) = true from by rw [← hby]; exact hkk90.2)]; exact hen
                          have htoo : y92.toInt = (ee : Int) := hvlp93_0.1
                          have hgl : kk < ee ∧ ee ≤ S := by have w1 := hvlp93_0; omega
                          refine lv_iload hx hb dX4_split_100 (lv_at hl 0 rfl) ?_
                          refine lv_if_eq (tgt := 115) hx hb dX4_split_102 (by decide) (fun c98 => ?_) (fun c98 => ?_)
                          · refine lv_aload_n hx hb dX4_split_115 rfl (lv_at hl 4 rfl) ?_
                            refine lv_iload hx hb dX4_split_116 (lv_at hl 2 rfl) ?_
                            refine va_bald hx hb hK hP 93 1 rfl rfl (kb_in b24 (by decide) (by decide)) dX4_split_118 ?_
                            refine k_top (z := t32) et32.symm ?_
                            refine kN.callS (As := [.int t32]) (rest := []) ⟨hx, hb, hml, hown, hg⟩ (y_isDigit l t32 ) (va_cwS 1 hg (kgS wt3_165 wt3_166 wt1_7 wt3_167) rfl rfl rfl (by decide +kernel) ⟨by decide, by decide⟩) hP hS rfl hl.1 rfl (Nat.le_of_ble_eq_true rfl) dX4_split_119 ⟨Nat.le_refl _, Nat.le_refl _⟩ (fun v100 H locs hw99 hP hS => ?_)
                            have hP : va_P D vwCl (xX K r F4 B5 G6 tx) H := hP
                            refine k_top (z := 1) ((hw99.2).elim (fun q => q.1) (fun q => absurd (hkk90.2.symm.trans q.2) (by decide))) ?_
                            refine lv_if_eq (tgt := 135) hx hb dX4_split_122 (by decide) (fun c102 => ?_) (fun c102 => ?_)
                            · exact kb_dj c102 kc_1 kc_0 (by decide)
                            · refine lv_aload_n hx hb dX4_split_125 rfl (lv_at hl 4 rfl) ?_
                              refine lv_iload hx hb dX4_split_126 (lv_at hl 2 rfl) ?_
                              refine lv_iload_n hx hb dX4_split_128 rfl (lv_at hl 1 rfl) ?_
                              refine kIG.callS (As := [.ref (r 93), .int y2, .int y92]) (rest := []) ⟨hx, hb, hml, hown, hg⟩ (y_numberToken l r F4 B5 G6 tx tt hT hI hG y2 y92 (kb_w b24 (by decide) (by decide)) (kb_w b95 (by decide) (by decide)) kk ee hkk htoo (by omega) (fun j h1 h2 => by rw [hE.2.1 93 rfl]; by_cases w1 : j = kk; (rw [w1]; exact (show isD (a 93 kk) = true from by rw [← hby]; exact hkk90.2)); exact hvlp93_0.2.2.2.2 j (by omega) h2)) (va_cwS 3 hg (kgS wt3_220 wt3_221 wt1_7 wt3_222) rfl rfl rfl (by decide +kernel) ⟨by decide, by decide⟩) hV hK hP hD hS hA rfl hl.1 rfl (Nat.le_of_ble_eq_true rfl) dX4_split_129 ⟨Nat.le_refl _, Nat.le_refl _⟩ (fun v104 u105 H locs hw103 hP hD hS => ?_)
                              have hP : va_P D vwCl (xX K r F4 B5 G6 tx) H := hP
                              have hD : va_D A (xX K r F4 B5 G6 tx) := hD
                              refine lv_goto (tgt := 147) hx hb dX4_split_132 (by decide) ?_
                              refine lv_istore (lv' := [(6, .int v104), (5, .int 0), (3, .int y92), (4, .int y2), (0, .ref (r 50)), (1, .ref (r 93)), (2, .int len_)]) hx hb dX4_split_147 hl (by decide) rfl (fun ls hl => ?_)
                              have htk : v104 = toT (a 93) S kk := tok_d2 (bne_t (show isS (a 93 kk) = false from by rw [← hby]; exact hkk38.2)) (show isD (a 93 kk) = true from by rw [← hby]; exact hkk90.2) henT (by have w1 := hw103.2; rw [hE.2.1 93 rfl] at w1; exact w1)
                              refine lv_aload_n hx hb dX4_split_149 rfl (lv_at hl 4 rfl) ?_
                              refine lv_iload hx hb dX4_split_150 (lv_at hl 0 rfl) ?_
                              refine lv_iload hx hb dX4_split_152 (lv_at hl 3 rfl) ?_
                              refine kVG.callW (As := [.int v104, .int y2]) (rest := []) ⟨hx, hb, hml, hown, hg⟩ (y_addToken l r F4 B5 G6 tx tt hT hI hG v104 y2  ta (by rw [ecz3.symm]; exact hcz3) (by have w1 := hvlp7_2.2; have w2 := hvlp7_0.2; have w3 := blen_.2; have w4 := hp0; omega)) (cwV 2 hg (kgV wt3_223 wt3_225 wp1_10 wt1_7 wt3_226) rfl rfl rfl (by decide +kernel) ⟨by decide, by decide⟩) hV hK hP hD hS hA (50) 4 rfl rfl rfl hl.1 rfl (Nat.le_of_ble_eq_true rfl) dX4_split_154 ⟨Nat.le_refl _, Nat.le_refl _⟩ (fun u108 H locs hw106 hP hD hS => ?_)
                              obtain ⟨f109, a110, g111⟩ := u108
                              have hP : va_P D vwCl (xX K r f109 a110 g111 tx) H := hP
                              have hD : va_D A (xX K r f109 a110 g111 tx) := hD
                              have hI : xI f109 a110 := hw106.1
                              have hG : gOK K g111.2 tt := hw106.2.1
                              have eE112 : xEk ([1603], [56, 57], []) F4 B5 G6 f109 a110 g111 := hw106.2.2.1
                              have hE : xEk ([1603], [56, 57], []) f a g f109 a110 g111 := xEk_tr hE eE112
                              obtain ⟨z113, ez113⟩ : ∃ z : Int32, z = f109 1603 := ⟨_, rfl⟩
                              have hzz113 : z113.toInt = ((ta + 1 : Nat) : Int) := by rw [ez113]; exact hw106.2.2.2.1
                              obtain ⟨t114, et114⟩ : ∃ z : Int32, z = y2 + Int32.ofInt 1 := ⟨_, rfl⟩
                              have qt114 : t114.toInt = y2.toInt + 1 := by rw [et114]; exact km_inc b24 (by decide) (by decide)
                              have b115 : kb 1 t114 400 := kb_inc (k := 1) qt114 b24
                              refine lv_iinc (v := t114) (lv' := [(4, .int t114), (6, .int v104), (5, .int 0), (3, .int y92), (0, .ref (r 50)), (1, .ref (r 93)), (2, .int len_)]) hx hb dX4_split_157 hl (k := 3) rfl et114.symm (by decide) rfl (fun ls hl => ?_)
                              refine lv_goto (tgt := 10) hx hb dX4_split_160 (by decide) ?_
                              exact ihlp7 (kk + 1) (ee) (ta + 1) f109 a110 g111 _ _ _ t114 y92 (km_up hmlp7 qt114) hI hG hE (kb_w b115 (by decide) (by decide)) (kb_w b95 (by decide) (by decide)) (⟨by have w1 := hkk; omega, hkS⟩) (⟨htoo, hgl.2⟩) (⟨by rw [ez113.symm]; exact hzz113, by have w1 := hvlp7_2.2; omega⟩) ((plT_s (by rw [hpl]; exact hkS)).trans (by rw [hpl, henT, Nat.max_eq_right (by omega)])) (xPre_add hvlp7_4 hw106.2.2.2.2.1 hw106.2.2.2.2.2 (by rw [hpl]; exact hkS) (by rw [tkT_l (by rw [hpl]; exact hkS), hpl]; exact htk) (by unfold pcT; rw [hpl]; exact pc_of hkk (by have w1 := blen_.2; have w2 := hp0; omega))) hP hD hS (lv_sub hl [0, 3, 4, 5, 6] rfl)
                          · exact kb_nsame c98 kc_0 kc_0
                        · have h116 := (kc_nle c96)
                          have b117 : kb 1 y92 399 := kr_lt1 h116 b95 b23 (by decide)
                          have b118 : kb 2 len_ 400 := kr_lt2 h116 b95 b23 (by decide)
                          have heS : ee < S := by have w2 := hp0; have w3 := hvlp93_0.1; first | (have w1 := kc_nle c96; omega) | (have w1 := kc_lt c96; omega)
                          have b119 : kb 1 y92 399 := ⟨by have w1 := hvlp93_0; omega, by have w1 := blen_.2; have w2 := hp0; have w3 := hvlp93_0.1; omega⟩
                          refine lv_iload hx hb dX4_split_68 (lv_at hl 0 rfl) ?_
                          refine lv_if_eq (tgt := 85) hx hb dX4_split_70 (by decide) (fun c120 => ?_) (fun c120 => ?_)
                          · refine lv_aload_n hx hb dX4_split_85 rfl (lv_at hl 4 rfl) ?_
                            refine lv_iload_n hx hb dX4_split_86 rfl (lv_at hl 1 rfl) ?_
                            refine va_bald hx hb hK hP 93 1 rfl rfl (kb_in b119 (by decide) (by decide)) dX4_split_87 ?_
                            refine lv_topi (fun t121 et121 => ?_)
                            have he1 : t121 = a 93 ee := et121.trans ((congrFun (hE.2.1 93 rfl) _).trans (congrArg (a 93) (cl_nat hvlp93_0.1)))
                            refine kN.callS (As := [.int t121]) (rest := []) ⟨hx, hb, hml, hown, hg⟩ (y_isDigit l t121 ) (va_cwS 1 hg (kgS wt3_165 wt3_166 wt1_7 wt3_167) rfl rfl rfl (by decide +kernel) ⟨by decide, by decide⟩) hP hS rfl hl.1 rfl (Nat.le_of_ble_eq_true rfl) dX4_split_88 ⟨Nat.le_refl _, Nat.le_refl _⟩ (fun v123 H locs hw122 hP hS => ?_)
                            have hP : va_P D vwCl (xX K r F4 B5 G6 tx) H := hP
                            rcases hw122.2 with hkk124 | hkk124
                            · refine k_top (z := 1) hkk124.1 ?_
                              refine lv_if_eq (tgt := 100) hx hb dX4_split_91 (by decide) (fun c125 => ?_) (fun c125 => ?_)
                              · exact kb_dj c125 kc_1 kc_0 (by decide)
                              · obtain ⟨t126, et126⟩ : ∃ z : Int32, z = y92 + Int32.ofInt 1 := ⟨_, rfl⟩
                                have qt126 : t126.toInt = y92.toInt + 1 := by rw [et126]; exact km_inc b119 (by decide) (by decide)
                                have b127 : kb 2 t126 400 := kb_inc (k := 1) qt126 b119
                                refine lv_iinc (v := t126) (lv' := [(3, .int t126), (5, .int 0), (4, .int y2), (0, .ref (r 50)), (1, .ref (r 93)), (2, .int len_)]) hx hb dX4_split_94 hl (k := 1) rfl et126.symm (by decide) rfl (fun ls hl => ?_)
                                refine lv_goto (tgt := 63) hx hb dX4_split_97 (by decide) ?_
                                exact ihlp93 (ee + 1) _ _ _ t126 (km_up hmlp93 qt126) (kb_w b127 (by decide) (by decide)) (⟨by have w1 := hvlp93_0.1; omega, by have w1 := hvlp93_0.2.1; omega, heS, hvlp93_0.2.2.2.1.trans (rn_y heS (by rw [← he1]; exact hkk124.2)), fun j h1 h2 => by by_cases w1 : j = ee; (rw [w1, ← he1]; exact hkk124.2); exact hvlp93_0.2.2.2.2 j h1 (by omega)⟩) hP hD hS (lv_sub hl [1, 0, 2, 3, 4, 5] rfl)
                            · refine k_top (z := 0) hkk124.1 ?_
                              refine lv_if_eq (tgt := 100) hx hb dX4_split_91 (by decide) (fun c128 => ?_) (fun c128 => ?_)
                              · have hen : rn isD (a 93) S (kk + 1) = ee := hvlp93_0.2.2.2.1.trans (rn_n heS (by rw [← he1, hkk124.2]; decide))
                                have henT : enT (a 93) S kk = ee := by unfold enT; rw [if_neg (bne_t (show isS (a 93 kk) = false from by rw [← hby]; exact hkk38.2)), if_pos (show isD (a 93 kk) = true from by rw [← hby]; exact hkk90.2)]; exact hen
                                have htoo : y92.toInt = (ee : Int) := hvlp93_0.1
                                have hgl : kk < ee ∧ ee ≤ S := by have w1 := hvlp93_0; omega
                                refine lv_iload hx hb dX4_split_100 (lv_at hl 0 rfl) ?_
                                refine lv_if_eq (tgt := 115) hx hb dX4_split_102 (by decide) (fun c129 => ?_) (fun c129 => ?_)
                                · refine lv_aload_n hx hb dX4_split_115 rfl (lv_at hl 4 rfl) ?_
                                  refine lv_iload hx hb dX4_split_116 (lv_at hl 2 rfl) ?_
                                  refine va_bald hx hb hK hP 93 1 rfl rfl (kb_in b24 (by decide) (by decide)) dX4_split_118 ?_
                                  refine k_top (z := t32) et32.symm ?_
                                  refine kN.callS (As := [.int t32]) (rest := []) ⟨hx, hb, hml, hown, hg⟩ (y_isDigit l t32 ) (va_cwS 1 hg (kgS wt3_165 wt3_166 wt1_7 wt3_167) rfl rfl rfl (by decide +kernel) ⟨by decide, by decide⟩) hP hS rfl hl.1 rfl (Nat.le_of_ble_eq_true rfl) dX4_split_119 ⟨Nat.le_refl _, Nat.le_refl _⟩ (fun v131 H locs hw130 hP hS => ?_)
                                  have hP : va_P D vwCl (xX K r F4 B5 G6 tx) H := hP
                                  refine k_top (z := 1) ((hw130.2).elim (fun q => q.1) (fun q => absurd (hkk90.2.symm.trans q.2) (by decide))) ?_
                                  refine lv_if_eq (tgt := 135) hx hb dX4_split_122 (by decide) (fun c133 => ?_) (fun c133 => ?_)
                                  · exact kb_dj c133 kc_1 kc_0 (by decide)
                                  · refine lv_aload_n hx hb dX4_split_125 rfl (lv_at hl 4 rfl) ?_
                                    refine lv_iload hx hb dX4_split_126 (lv_at hl 2 rfl) ?_
                                    refine lv_iload_n hx hb dX4_split_128 rfl (lv_at hl 1 rfl) ?_
                                    refine kIG.callS (As := [.ref (r 93), .int y2, .int y92]) (rest := []) ⟨hx, hb, hml, hown, hg⟩ (y_numberToken l r F4 B5 G6 tx tt hT hI hG y2 y92 (kb_w b24 (by decide) (by decide)) (kb_w b119 (by decide) (by decide)) kk ee hkk htoo (by omega) (fun j h1 h2 => by rw [hE.2.1 93 rfl]; by_cases w1 : j = kk; (rw [w1]; exact (show isD (a 93 kk) = true from by rw [← hby]; exact hkk90.2)); exact hvlp93_0.2.2.2.2 j (by omega) h2)) (va_cwS 3 hg (kgS wt3_220 wt3_221 wt1_7 wt3_222) rfl rfl rfl (by decide +kernel) ⟨by decide, by decide⟩) hV hK hP hD hS hA rfl hl.1 rfl (Nat.le_of_ble_eq_true rfl) dX4_split_129 ⟨Nat.le_refl _, Nat.le_refl _⟩ (fun v135 u136 H locs hw134 hP hD hS => ?_)
                                    have hP : va_P D vwCl (xX K r F4 B5 G6 tx) H := hP
                                    have hD : va_D A (xX K r F4 B5 G6 tx) := hD
                                    refine lv_goto (tgt := 147) hx hb dX4_split_132 (by decide) ?_
                                    refine lv_istore (lv' := [(6, .int v135), (5, .int 0), (3, .int y92), (4, .int y2), (0, .ref (r 50)), (1, .ref (r 93)), (2, .int len_)]) hx hb dX4_split_147 hl (by decide) rfl (fun ls hl => ?_)
                                    have htk : v135 = toT (a 93) S kk := tok_d2 (bne_t (show isS (a 93 kk) = false from by rw [← hby]; exact hkk38.2)) (show isD (a 93 kk) = true from by rw [← hby]; exact hkk90.2) henT (by have w1 := hw134.2; rw [hE.2.1 93 rfl] at w1; exact w1)
                                    refine lv_aload_n hx hb dX4_split_149 rfl (lv_at hl 4 rfl) ?_
                                    refine lv_iload hx hb dX4_split_150 (lv_at hl 0 rfl) ?_
                                    refine lv_iload hx hb dX4_split_152 (lv_at hl 3 rfl) ?_
                                    refine kVG.callW (As := [.int v135, .int y2]) (rest := []) ⟨hx, hb, hml, hown, hg⟩ (y_addToken l r F4 B5 G6 tx tt hT hI hG v135 y2  ta (by rw [ecz3.symm]; exact hcz3) (by have w1 := hvlp7_2.2; have w2 := hvlp7_0.2; have w3 := blen_.2; have w4 := hp0; omega)) (cwV 2 hg (kgV wt3_223 wt3_225 wp1_10 wt1_7 wt3_226) rfl rfl rfl (by decide +kernel) ⟨by decide, by decide⟩) hV hK hP hD hS hA (50) 4 rfl rfl rfl hl.1 rfl (Nat.le_of_ble_eq_true rfl) dX4_split_154 ⟨Nat.le_refl _, Nat.le_refl _⟩ (fun u139 H locs hw137 hP hD hS => ?_)
                                    obtain ⟨f140, a141, g142⟩ := u139
                                    have hP : va_P D vwCl (xX K r f140 a141 g142 tx) H := hP
                                    have hD : va_D A (xX K r f140 a141 g142 tx) := hD
                                    have hI : xI f140 a141 := hw137.1
                                    have hG : gOK K g142.2 tt := hw137.2.1
                                    have eE143 : xEk ([1603], [56, 57], []) F4 B5 G6 f140 a141 g142 := hw137.2.2.1
                                    have hE : xEk ([1603], [56, 57], []) f a g f140 a141 g142 := xEk_tr hE eE143
                                    obtain ⟨z144, ez144⟩ : ∃ z : Int32, z = f140 1603 := ⟨_, rfl⟩
                                    have hzz144 : z144.toInt = ((ta + 1 : Nat) : Int) := by rw [ez144]; exact hw137.2.2.2.1
                                    obtain ⟨t145, et145⟩ : ∃ z : Int32, z = y2 + Int32.ofInt 1 := ⟨_, rfl⟩
                                    have qt145 : t145.toInt = y2.toInt + 1 := by rw [et145]; exact km_inc b24 (by decide) (by decide)
                                    have b146 : kb 1 t145 400 := kb_inc (k := 1) qt145 b24
                                    refine lv_iinc (v := t145) (lv' := [(4, .int t145), (6, .int v135), (5, .int 0), (3, .int y92), (0, .ref (r 50)), (1, .ref (r 93)), (2, .int len_)]) hx hb dX4_split_157 hl (k := 3) rfl et145.symm (by decide) rfl (fun ls hl => ?_)
                                    refine lv_goto (tgt := 10) hx hb dX4_split_160 (by decide) ?_
                                    exact ihlp7 (kk + 1) (ee) (ta + 1) f140 a141 g142 _ _ _ t145 y92 (km_up hmlp7 qt145) hI hG hE (kb_w b146 (by decide) (by decide)) (kb_w b119 (by decide) (by decide)) (⟨by have w1 := hkk; omega, hkS⟩) (⟨htoo, hgl.2⟩) (⟨by rw [ez144.symm]; exact hzz144, by have w1 := hvlp7_2.2; omega⟩) ((plT_s (by rw [hpl]; exact hkS)).trans (by rw [hpl, henT, Nat.max_eq_right (by omega)])) (xPre_add hvlp7_4 hw137.2.2.2.2.1 hw137.2.2.2.2.2 (by rw [hpl]; exact hkS) (by rw [tkT_l (by rw [hpl]; exact hkS), hpl]; exact htk) (by unfold pcT; rw [hpl]; exact pc_of hkk (by have w1 := blen_.2; have w2 := hp0; omega))) hP hD hS (lv_sub hl [0, 3, 4, 5, 6] rfl)
                                · exact kb_nsame c129 kc_0 kc_0
                              · exact kb_nsame c128 kc_0 kc_0
                          · exact kb_nsame c120 kc_0 kc_0
                    exact lp93 (400) (kk + 1) _ _ _ t34 (by have h1 := (b35); unfold kb at h1; omega) b35 (⟨by have w1 := qt34; omega, Nat.le_refl _, hkS, rfl, fun j h1 h2 => absurd h1 (by omega)⟩) hP hD hS (lv_sub hl [0, 1, 2, 3, 4, 5] rfl)
                · refine k_top (z := 0) hkk90.1 ?_
                  refine lv_if_eq (tgt := 100) hx hb dX4_split_60 (by decide) (fun c147 => ?_) (fun c147 => ?_)
                  · have henT : enT (a 93) S kk = kk + 1 := by unfold enT; rw [if_neg (bne_t (show isS (a 93 kk) = false from by rw [← hby]; exact hkk38.2)), if_neg (bne_t (show isD (a 93 kk) = false from by rw [← hby]; exact hkk90.2))]
                    have htoo : t34.toInt = ((kk + 1 : Nat) : Int) := by have w1 := qt34; omega
                    have hgl : kk < kk + 1 ∧ kk + 1 ≤ S := by omega
                    refine lv_iload hx hb dX4_split_100 (lv_at hl 0 rfl) ?_
                    refine lv_if_eq (tgt := 115) hx hb dX4_split_102 (by decide) (fun c148 => ?_) (fun c148 => ?_)
                    · refine lv_aload_n hx hb dX4_split_115 rfl (lv_at hl 4 rfl) ?_
                      refine lv_iload hx hb dX4_split_116 (lv_at hl 2 rfl) ?_
                      refine va_bald hx hb hK hP 93 1 rfl rfl (kb_in b24 (by decide) (by decide)) dX4_split_118 ?_
                      refine k_top (z := t32) et32.symm ?_
                      refine kN.callS (As := [.int t32]) (rest := []) ⟨hx, hb, hml, hown, hg⟩ (y_isDigit l t32 ) (va_cwS 1 hg (kgS wt3_165 wt3_166 wt1_7 wt3_167) rfl rfl rfl (by decide +kernel) ⟨by decide, by decide⟩) hP hS rfl hl.1 rfl (Nat.le_of_ble_eq_true rfl) dX4_split_119 ⟨Nat.le_refl _, Nat.le_refl _⟩ (fun v150 H locs hw149 hP hS => ?_)
                      have hP : va_P D vwCl (xX K r F4 B5 G6 tx) H := hP
                      refine k_top (z := 0) ((hw149.2).elim (fun q => absurd (hkk90.2.symm.trans q.2) (by decide)) (fun q => q.1)) ?_
                      refine lv_if_eq (tgt := 135) hx hb dX4_split_122 (by decide) (fun c152 => ?_) (fun c152 => ?_)
                      · refine lv_sipush (v := 3000) hx hb dX4_split_135 (by decide) ?_
                        refine lv_aload_n hx hb dX4_split_138 rfl (lv_at hl 4 rfl) ?_
                        refine lv_iload hx hb dX4_split_139 (lv_at hl 2 rfl) ?_
                        refine va_bald hx hb hK hP 93 1 rfl rfl (kb_in b24 (by decide) (by decide)) dX4_split_141 ?_
                        refine k_top (z := t32) et32.symm ?_
                        refine lv_sipush (v := 255) hx hb dX4_split_142 (by decide) ?_
                        refine lv_iand hx hb dX4_split_145 ?_
                        refine lv_topi (fun t153 et153 => ?_)
                        have b154 : kb 0 t153 255 := kb_eq et153 (kb_and 8 (by decide) (by decide))
                        refine lv_iadd hx hb dX4_split_146 ?_
                        refine lv_topi (fun t155 et155 => ?_)
                        have b156 : kb 3000 t155 3255 := kb_eq et155 (kb_add kc_3000 b154 (by decide) (by decide))
                        have qt155 : t155.toInt = 3000 + t153.toInt := by rw [et155]; exact kt_cadd kc_3000 b154 (by decide) (by decide)
                        refine lv_istore (lv' := [(6, .int t155), (5, .int 0), (3, .int t34), (4, .int y2), (0, .ref (r 50)), (1, .ref (r 93)), (2, .int len_)]) hx hb dX4_split_147 hl (by decide) rfl (fun ls hl => ?_)
                        have htk : t155 = toT (a 93) S kk := tok_s2 (bne_t (show isS (a 93 kk) = false from by rw [← hby]; exact hkk38.2)) (bne_t (show isD (a 93 kk) = false from by rw [← hby]; exact hkk90.2)) hby et153 b154 (by have w1 := qt155; omega)
                        refine lv_aload_n hx hb dX4_split_149 rfl (lv_at hl 4 rfl) ?_
                        refine lv_iload hx hb dX4_split_150 (lv_at hl 0 rfl) ?_
                        refine lv_iload hx hb dX4_split_152 (lv_at hl 3 rfl) ?_
                        refine kVG.callW (As := [.int t155, .int y2]) (rest := []) ⟨hx, hb, hml, hown, hg⟩ (y_addToken l r F4 B5 G6 tx tt hT hI hG t155 y2  ta (by rw [ecz3.symm]; exact hcz3) (by have w1 := hvlp7_2.2; have w2 := hvlp7_0.2; have w3 := blen_.2; have w4 := hp0; omega)) (cwV 2 hg (kgV wt3_223 wt3_225 wp1_10 wt1_7 wt3_226) rfl rfl rfl (by decide +kernel) ⟨by decide, by decide⟩) hV hK hP hD hS hA (50) 4 rfl rfl rfl hl.1 rfl (Nat.le_of_ble_eq_true rfl) dX4_split_154 ⟨Nat.le_refl _, Nat.le_refl _⟩ (fun u159 H locs hw157 hP hD hS => ?_)
                        obtain ⟨f160, a161, g162⟩ := u159
                        have hP : va_P D vwCl (xX K r f160 a161 g162 tx) H := hP
                        have hD : va_D A (xX K r f160 a161 g162 tx) := hD
                        have hI : xI f160 a161 := hw157.1
                        have hG : gOK K g162.2 tt := hw157.2.1
                        have eE163 : xEk ([1603], [56, 57], []) F4 B5 G6 f160 a161 g162 := hw157.2.2.1
                        have hE : xEk ([1603], [56, 57], []) f a g f160 a161 g162 := xEk_tr hE eE163
                        obtain ⟨z164, ez164⟩ : ∃ z : Int32, z = f160 1603 := ⟨_, rfl⟩
                        have hzz164 : z164.toInt = ((ta + 1 : Nat) : Int) := by rw [ez164]; exact hw157.2.2.2.1
                        obtain ⟨t165, et165⟩ : ∃ z : Int32, z = y2 + Int32.ofInt 1 := ⟨_, rfl⟩
                        have qt165 : t165.toInt = y2.toInt + 1 := by rw [et165]; exact km_inc b24 (by decide) (by decide)
                        have b166 : kb 1 t165 400 := kb_inc (k := 1) qt165 b24
                        refine lv_iinc (v := t165) (lv' := [(4, .int t165), (6, .int t155), (5, .int 0), (3, .int t34), (0, .ref (r 50)), (1, .ref (r 93)), (2, .int len_)]) hx hb dX4_split_157 hl (k := 3) rfl et165.symm (by decide) rfl (fun ls hl => ?_)
                        refine lv_goto (tgt := 10) hx hb dX4_split_160 (by decide) ?_
                        exact ihlp7 (kk + 1) (kk + 1) (ta + 1) f160 a161 g162 _ _ _ t165 t34 (km_up hmlp7 qt165) hI hG hE (kb_w b166 (by decide) (by decide)) (kb_w b35 (by decide) (by decide)) (⟨by have w1 := hkk; omega, hkS⟩) (⟨htoo, hgl.2⟩) (⟨by rw [ez164.symm]; exact hzz164, by have w1 := hvlp7_2.2; omega⟩) ((plT_s (by rw [hpl]; exact hkS)).trans (by rw [hpl, henT, Nat.max_eq_right (by omega)])) (xPre_add hvlp7_4 hw157.2.2.2.2.1 hw157.2.2.2.2.2 (by rw [hpl]; exact hkS) (by rw [tkT_l (by rw [hpl]; exact hkS), hpl]; exact htk) (by unfold pcT; rw [hpl]; exact pc_of hkk (by have w1 := blen_.2; have w2 := hp0; omega))) hP hD hS (lv_sub hl [0, 3, 4, 5, 6] rfl)
                      · exact kb_nsame c152 kc_0 kc_0
                    · exact kb_nsame c148 kc_0 kc_0
                  · exact kb_nsame c147 kc_0 kc_0
          · have b167 : kb 32 t32 32 := kb_eq c33 kc_32
            have hB : isB (a 93 kk) = true := decide_eq_true (hby.symm.trans c33)
            refine lv_goto (tgt := 157) hx hb dX4_split_31 (by decide) ?_
            obtain ⟨t168, et168⟩ : ∃ z : Int32, z = y2 + Int32.ofInt 1 := ⟨_, rfl⟩
            have qt168 : t168.toInt = y2.toInt + 1 := by rw [et168]; exact km_inc b24 (by decide) (by decide)
            have b169 : kb 1 t168 400 := kb_inc (k := 1) qt168 b24
            refine lv_iinc (v := t168) (lv' := [(4, .int t168), (3, .int y3), (0, .ref (r 50)), (1, .ref (r 93)), (2, .int len_)]) hx hb dX4_split_157 hl (k := 0) rfl et168.symm (by decide) rfl (fun ls hl => ?_)
            refine lv_goto (tgt := 10) hx hb dX4_split_160 (by decide) ?_
            exact ihlp7 (kk + 1) nx ta F4 B5 G6 _ _ _ t168 y3 (km_up hmlp7 qt168) hI hG hE (kb_w b169 (by decide) (by decide)) (kb_w b31 (by decide) (by decide)) (⟨by have w1 := hkk; omega, hkS⟩) (hvlp7_1) (⟨hvlp7_2.1, by have w1 := hvlp7_2.2; omega⟩) (hvlp7_3.trans (by rw [Nat.max_eq_left hge, Nat.max_eq_left (by omega)]; exact rn_y hkS hB)) (hvlp7_4) hP hD hS (lv_sub hl [0, 1, 2, 3, 4] rfl)
  exact lp7 (401) 0 0 0 f_1 a g _ _ _ 0 0 (by decide +kernel) hI hG hE (kb_w kc_0 (by decide) (by decide)) (kb_w kc_0 (by decide) (by decide)) (⟨by decide +kernel, Nat.zero_le S⟩) (⟨by decide +kernel, Nat.zero_le S⟩) (⟨by rw [(show f_1 1603 = 0 from by rw [← ef_1]; rfl)]; decide +kernel, Nat.le_refl 0⟩) (rfl) (fun i hi => absurd hi (Nat.not_lt_zero i)) hP hD hS (lv_sub hl [0, 1, 2, 3, 4] rfl)
