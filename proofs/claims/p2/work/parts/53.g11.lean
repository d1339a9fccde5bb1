/-! a world whose kept row may be on the way from one text to the next -/
def mJ (f : Nat → Int32) (a : Nat → Nat → Int32) : Prop := fI mBf f ∧ aI mBa a ∧ mT (a 3) ∧ mT (fun i => a 3 (i + 5714))
theorem mJ_of {f : Nat → Int32} {a : Nat → Nat → Int32} (h : mI f a) : mJ f a := ⟨h.1, h.2.1, h.2.2.2⟩
theorem mJ_f {f f' : Nat → Int32} {a : Nat → Nat → Int32} (h : mJ f a) (q : fI mBf f') : mJ f' a := ⟨q, h.2⟩
theorem mJ_s {f : Nat → Int32} {a : Nat → Nat → Int32} (h : mJ f a) {s : Nat} {u : Nat → Int32} (q : aI mBa (va_up a s u)) (n3 : s ≠ 3) : mJ f (va_up a s u) := by
  have e3 : va_up a s u 3 = a 3 := by unfold va_up; rw [if_neg (Ne.symm n3)]
  exact ⟨h.1, q, by rw [e3]; exact h.2.2.1, by rw [e3]; exact h.2.2.2⟩
theorem mB_hi {k : Nat} (h : 114 ≤ k) : mBa 2 k = kAny := by
  show mB2 k = kAny
  unfold mB2
  repeat rw [if_neg (by omega)]
theorem kq_hi {x : Int32} {l h : Int} (b : kb l x h) (q : 114 ≤ l) : mBa 2 x.toNatClampNeg = kAny := mB_hi (by have := b.1; have := kb_cl b (by omega); omega)
/-- the kept row when k tokens of text t are laid -/
def mLay (k0 cd vl : Nat → Int32) (t k : Nat) (tok : Int32) (i : Nat) : Int32 := if i = 107 + t then tok else if 114 + 400 * t ≤ i ∧ i < 114 + 400 * t + k then cd (i - (114 + 400 * t)) else if 2914 + 400 * t ≤ i ∧ i < 2914 + 400 * t + k then vl (i - (2914 + 400 * t)) else k0 i
theorem mLay_0 {k0 cd vl : Nat → Int32} {t : Nat} {tok : Int32} : upd k0 (107 + t) tok = mLay k0 cd vl t 0 tok := by
  funext i
  unfold mLay
  by_cases e : i = 107 + t
  · rw [if_pos e, e, pk_us]
  · rw [if_neg e, pk_un e, if_neg (by omega), if_neg (by omega)]
theorem mLay_s {k0 cd vl : Nat → Int32} {t k : Nat} {tok : Int32} (ht : t ≤ 6) (hk : k < 400) : upd (upd (mLay k0 cd vl t k tok) (114 + 400 * t + k) (cd k)) (2914 + 400 * t + k) (vl k) = mLay k0 cd vl t (k + 1) tok := by
  funext i
  by_cases e2 : i = 2914 + 400 * t + k
  · rw [e2, pk_us]
    unfold mLay
    rw [if_neg (by omega), if_neg (by omega), if_pos (by omega)]
    congr 1; omega
  · rw [pk_un e2]
    by_cases e1 : i = 114 + 400 * t + k
    · rw [e1, pk_us]
      unfold mLay
      rw [if_neg (by omega), if_pos (by omega)]
      congr 1; omega
    · rw [pk_un e1]
      unfold mLay
      by_cases q0 : i = 107 + t
      · rw [if_pos q0, if_pos q0]
      · rw [if_neg q0, if_neg q0]
        by_cases q1 : 114 + 400 * t ≤ i ∧ i < 114 + 400 * t + k
        · rw [if_pos q1, if_pos (show 114 + 400 * t ≤ i ∧ i < 114 + 400 * t + (k + 1) by omega)]
        · rw [if_neg q1, if_neg (show ¬ (114 + 400 * t ≤ i ∧ i < 114 + 400 * t + (k + 1)) by omega)]
          by_cases q2 : 2914 + 400 * t ≤ i ∧ i < 2914 + 400 * t + k
          · rw [if_pos q2, if_pos (show 2914 + 400 * t ≤ i ∧ i < 2914 + 400 * t + (k + 1) by omega)]
          · rw [if_neg q2, if_neg (show ¬ (2914 + 400 * t ≤ i ∧ i < 2914 + 400 * t + (k + 1)) by omega)]
theorem mLay_lo {k0 cd vl : Nat → Int32} {t k : Nat} {tok : Int32} {i : Nat} (h : i < 107) : mLay k0 cd vl t k tok i = k0 i := by
  unfold mLay; rw [if_neg (by omega), if_neg (by omega), if_neg (by omega)]
/-- the text that was laid -/
theorem mLay_C {k0 cd vl : Nat → Int32} {t N : Nat} {tok : Int32} (ht : t ≤ 6) (hN : N ≤ 400) (e : tok.toInt = (N : Int)) : mC (mLay k0 cd vl t N tok) t = rC cd N := by
  funext i
  have e0 : mLay k0 cd vl t N tok (107 + t) = tok := by unfold mLay; rw [if_pos rfl]
  unfold mC rC
  rw [e0, e]
  by_cases q : i < N
  · rw [if_pos (by omega), if_pos q]
    unfold mLay
    rw [if_neg (by omega), if_pos (by omega)]
    congr 1; omega
  · rw [if_neg (by omega), if_neg q]
/-- the other texts -/
theorem mLay_D {k0 cd vl : Nat → Int32} {t N t' : Nat} {tok : Int32} (ht : t ≤ 6) (ht' : t' ≤ 6) (hN : N ≤ 400) (ne : t' ≠ t) (hs : (k0 (107 + t')).toInt ≤ 400) : mC (mLay k0 cd vl t N tok) t' = mC k0 t' := by
  funext i
  have e0 : mLay k0 cd vl t N tok (107 + t') = k0 (107 + t') := by unfold mLay; rw [if_neg (by omega), if_neg (by omega), if_neg (by omega)]
  unfold mC
  rw [e0]
  by_cases q : (i : Int) < (k0 (107 + t')).toInt
  · rw [if_pos q, if_pos q]
    unfold mLay
    rw [if_neg (by omega), if_neg (by omega), if_neg (by omega)]
  · rw [if_neg q, if_neg q]
theorem mT_lay {k0 cd vl : Nat → Int32} {t N : Nat} {tok : Int32} (ht : t ≤ 6) (hN : N ≤ 400) (e : tok.toInt = (N : Int)) (hs : ∀ t', t' < 7 → (k0 (107 + t')).toInt ≤ 400) (h : mT k0) (hg : t < 6 → gG false (rC cd N) 8 15 0 N) : mT (mLay k0 cd vl t N tok) := by
  intro t' ht'
  by_cases q : t' = t
  · subst q
    right
    have e0 : mLay k0 cd vl t' N tok (107 + t') = tok := by unfold mLay; rw [if_pos rfl]
    rw [mLay_C ht hN e, e0, e]
    exact hg ht'
  · rw [mLay_D ht (by omega) hN q (hs t' (by omega))]
    have e0 : mLay k0 cd vl t N tok (107 + t') = k0 (107 + t') := by unfold mLay; rw [if_neg (by omega), if_neg (by omega), if_neg (by omega)]
    rw [e0]
    exact h t' ht'
theorem dX12_splits_0 : decode cX12_splits 0 = .ok (.aload_n 0, 1) := by decide +kernel
theorem dX12_splits_1 : decode cX12_splits 1 = .ok (.iconst 0, 1) := by decide +kernel
theorem dX12_splits_2 : decode cX12_splits 2 = .ok (.putfield 144, 3) := by decide +kernel
theorem dX12_splits_5 : decode cX12_splits 5 = .ok (.iconst 0, 1) := by decide +kernel
theorem dX12_splits_6 : decode cX12_splits 6 = .ok (.istore_n 2, 1) := by decide +kernel
theorem dX12_splits_7 : decode cX12_splits 7 = .ok (.iload_n 2, 1) := by decide +kernel
theorem dX12_splits_8 : decode cX12_splits 8 = .ok (.iload_n 1, 1) := by decide +kernel
theorem dX12_splits_9 : decode cX12_splits 9 = .ok (.if_icmp .ge 254, 3) := by decide +kernel
theorem dX12_splits_12 : decode cX12_splits 12 = .ok (.aload_n 0, 1) := by decide +kernel
theorem dX12_splits_13 : decode cX12_splits 13 = .ok (.getfield 41, 3) := by decide +kernel
theorem dX12_splits_16 : decode cX12_splits 16 = .ok (.iload_n 2, 1) := by decide +kernel
theorem dX12_splits_17 : decode cX12_splits 17 = .ok (.baload, 1) := by decide +kernel
theorem dX12_splits_18 : decode cX12_splits 18 = .ok (.istore_n 3, 1) := by decide +kernel
theorem dX12_splits_19 : decode cX12_splits 19 = .ok (.iload_n 3, 1) := by decide +kernel
theorem dX12_splits_20 : decode cX12_splits 20 = .ok (.bipush 32, 2) := by decide +kernel
theorem dX12_splits_22 : decode cX12_splits 22 = .ok (.if_icmp .ne 9, 3) := by decide +kernel
theorem dX12_splits_25 : decode cX12_splits 25 = .ok (.iinc 2 1, 3) := by decide +kernel
theorem dX12_splits_28 : decode cX12_splits 28 = .ok (.goto (-21), 3) := by decide +kernel
theorem dX12_splits_31 : decode cX12_splits 31 = .ok (.iload_n 2, 1) := by decide +kernel
theorem dX12_splits_32 : decode cX12_splits 32 = .ok (.iconst 1, 1) := by decide +kernel
theorem dX12_splits_33 : decode cX12_splits 33 = .ok (.iadd, 1) := by decide +kernel
theorem dX12_splits_34 : decode cX12_splits 34 = .ok (.istore 4, 2) := by decide +kernel
theorem dX12_splits_36 : decode cX12_splits 36 = .ok (.iload_n 3, 1) := by decide +kernel
theorem dX12_splits_37 : decode cX12_splits 37 = .ok (.invokestatic 147, 3) := by decide +kernel
theorem dX12_splits_40 : decode cX12_splits 40 = .ok (.ifCond .eq 28, 3) := by decide +kernel
theorem dX12_splits_43 : decode cX12_splits 43 = .ok (.iload 4, 2) := by decide +kernel
theorem dX12_splits_45 : decode cX12_splits 45 = .ok (.iload_n 1, 1) := by decide +kernel
theorem dX12_splits_46 : decode cX12_splits 46 = .ok (.if_icmp .ge 22, 3) := by decide +kernel
theorem dX12_splits_49 : decode cX12_splits 49 = .ok (.aload_n 0, 1) := by decide +kernel
theorem dX12_splits_50 : decode cX12_splits 50 = .ok (.getfield 41, 3) := by decide +kernel
theorem dX12_splits_53 : decode cX12_splits 53 = .ok (.iload 4, 2) := by decide +kernel
theorem dX12_splits_55 : decode cX12_splits 55 = .ok (.baload, 1) := by decide +kernel
theorem dX12_splits_56 : decode cX12_splits 56 = .ok (.invokestatic 147, 3) := by decide +kernel
theorem dX12_splits_59 : decode cX12_splits 59 = .ok (.ifCond .eq 9, 3) := by decide +kernel
theorem dX12_splits_62 : decode cX12_splits 62 = .ok (.iinc 4 1, 3) := by decide +kernel
theorem dX12_splits_65 : decode cX12_splits 65 = .ok (.goto (-22), 3) := by decide +kernel
theorem dX12_splits_68 : decode cX12_splits 68 = .ok (.iload_n 3, 1) := by decide +kernel
theorem dX12_splits_69 : decode cX12_splits 69 = .ok (.invokestatic 150, 3) := by decide +kernel
theorem dX12_splits_72 : decode cX12_splits 72 = .ok (.ifCond .eq 28, 3) := by decide +kernel
theorem dX12_splits_75 : decode cX12_splits 75 = .ok (.iload 4, 2) := by decide +kernel
theorem dX12_splits_77 : decode cX12_splits 77 = .ok (.iload_n 1, 1) := by decide +kernel
theorem dX12_splits_78 : decode cX12_splits 78 = .ok (.if_icmp .ge 22, 3) := by decide +kernel
theorem dX12_splits_81 : decode cX12_splits 81 = .ok (.aload_n 0, 1) := by decide +kernel
theorem dX12_splits_82 : decode cX12_splits 82 = .ok (.getfield 41, 3) := by decide +kernel
theorem dX12_splits_85 : decode cX12_splits 85 = .ok (.iload 4, 2) := by decide +kernel
theorem dX12_splits_87 : decode cX12_splits 87 = .ok (.baload, 1) := by decide +kernel
theorem dX12_splits_88 : decode cX12_splits 88 = .ok (.invokestatic 150, 3) := by decide +kernel
theorem dX12_splits_91 : decode cX12_splits 91 = .ok (.ifCond .eq 9, 3) := by decide +kernel
theorem dX12_splits_94 : decode cX12_splits 94 = .ok (.iinc 4 1, 3) := by decide +kernel
theorem dX12_splits_97 : decode cX12_splits 97 = .ok (.goto (-22), 3) := by decide +kernel
theorem dX12_splits_100 : decode cX12_splits 100 = .ok (.aload_n 0, 1) := by decide +kernel
theorem dX12_splits_101 : decode cX12_splits 101 = .ok (.getfield 56, 3) := by decide +kernel
theorem dX12_splits_104 : decode cX12_splits 104 = .ok (.aload_n 0, 1) := by decide +kernel
theorem dX12_splits_105 : decode cX12_splits 105 = .ok (.getfield 144, 3) := by decide +kernel
theorem dX12_splits_108 : decode cX12_splits 108 = .ok (.iload_n 2, 1) := by decide +kernel
theorem dX12_splits_109 : decode cX12_splits 109 = .ok (.iastore, 1) := by decide +kernel
theorem dX12_splits_110 : decode cX12_splits 110 = .ok (.aload_n 0, 1) := by decide +kernel
theorem dX12_splits_111 : decode cX12_splits 111 = .ok (.getfield 53, 3) := by decide +kernel
theorem dX12_splits_114 : decode cX12_splits 114 = .ok (.aload_n 0, 1) := by decide +kernel
theorem dX12_splits_115 : decode cX12_splits 115 = .ok (.getfield 144, 3) := by decide +kernel
theorem dX12_splits_118 : decode cX12_splits 118 = .ok (.iconst 0, 1) := by decide +kernel
theorem dX12_splits_119 : decode cX12_splits 119 = .ok (.iastore, 1) := by decide +kernel
theorem dX12_splits_120 : decode cX12_splits 120 = .ok (.aload_n 0, 1) := by decide +kernel
theorem dX12_splits_121 : decode cX12_splits 121 = .ok (.getfield 50, 3) := by decide +kernel
theorem dX12_splits_124 : decode cX12_splits 124 = .ok (.aload_n 0, 1) := by decide +kernel
theorem dX12_splits_125 : decode cX12_splits 125 = .ok (.getfield 144, 3) := by decide +kernel
theorem dX12_splits_128 : decode cX12_splits 128 = .ok (.iload_n 3, 1) := by decide +kernel
theorem dX12_splits_129 : decode cX12_splits 129 = .ok (.invokestatic 147, 3) := by decide +kernel
theorem dX12_splits_132 : decode cX12_splits 132 = .ok (.ifCond .eq 13, 3) := by decide +kernel
theorem dX12_splits_135 : decode cX12_splits 135 = .ok (.aload_n 0, 1) := by decide +kernel
theorem dX12_splits_136 : decode cX12_splits 136 = .ok (.iload_n 2, 1) := by decide +kernel
theorem dX12_splits_137 : decode cX12_splits 137 = .ok (.iload 4, 2) := by decide +kernel
theorem dX12_splits_139 : decode cX12_splits 139 = .ok (.invokevirtual 153, 3) := by decide +kernel
theorem dX12_splits_142 : decode cX12_splits 142 = .ok (.goto 23, 3) := by decide +kernel
theorem dX12_splits_145 : decode cX12_splits 145 = .ok (.iload_n 3, 1) := by decide +kernel
theorem dX12_splits_146 : decode cX12_splits 146 = .ok (.invokestatic 150, 3) := by decide +kernel
theorem dX12_splits_149 : decode cX12_splits 149 = .ok (.ifCond .eq 8, 3) := by decide +kernel
theorem dX12_splits_152 : decode cX12_splits 152 = .ok (.bipush 50, 2) := by decide +kernel
theorem dX12_splits_154 : decode cX12_splits 154 = .ok (.goto 11, 3) := by decide +kernel
theorem dX12_splits_157 : decode cX12_splits 157 = .ok (.bipush 100, 2) := by decide +kernel
theorem dX12_splits_159 : decode cX12_splits 159 = .ok (.iload_n 3, 1) := by decide +kernel
theorem dX12_splits_160 : decode cX12_splits 160 = .ok (.sipush 255, 3) := by decide +kernel
theorem dX12_splits_163 : decode cX12_splits 163 = .ok (.iand, 1) := by decide +kernel
theorem dX12_splits_164 : decode cX12_splits 164 = .ok (.iadd, 1) := by decide +kernel
theorem dX12_splits_165 : decode cX12_splits 165 = .ok (.iastore, 1) := by decide +kernel
theorem dX12_splits_166 : decode cX12_splits 166 = .ok (.iload_n 2, 1) := by decide +kernel
theorem dX12_splits_167 : decode cX12_splits 167 = .ok (.istore 5, 2) := by decide +kernel
theorem dX12_splits_169 : decode cX12_splits 169 = .ok (.iload 5, 2) := by decide +kernel
theorem dX12_splits_171 : decode cX12_splits 171 = .ok (.iload 4, 2) := by decide +kernel
theorem dX12_splits_173 : decode cX12_splits 173 = .ok (.if_icmp .ge 74, 3) := by decide +kernel
theorem dX12_splits_176 : decode cX12_splits 176 = .ok (.iload_n 3, 1) := by decide +kernel
theorem dX12_splits_177 : decode cX12_splits 177 = .ok (.invokestatic 150, 3) := by decide +kernel
theorem dX12_splits_180 : decode cX12_splits 180 = .ok (.ifCond .eq 67, 3) := by decide +kernel
theorem dX12_splits_183 : decode cX12_splits 183 = .ok (.aload_n 0, 1) := by decide +kernel
theorem dX12_splits_184 : decode cX12_splits 184 = .ok (.getfield 53, 3) := by decide +kernel
theorem dX12_splits_187 : decode cX12_splits 187 = .ok (.aload_n 0, 1) := by decide +kernel
theorem dX12_splits_188 : decode cX12_splits 188 = .ok (.getfield 144, 3) := by decide +kernel
theorem dX12_splits_191 : decode cX12_splits 191 = .ok (.aload_n 0, 1) := by decide +kernel
theorem dX12_splits_192 : decode cX12_splits 192 = .ok (.getfield 53, 3) := by decide +kernel
theorem dX12_splits_195 : decode cX12_splits 195 = .ok (.aload_n 0, 1) := by decide +kernel
theorem dX12_splits_196 : decode cX12_splits 196 = .ok (.getfield 144, 3) := by decide +kernel
theorem dX12_splits_199 : decode cX12_splits 199 = .ok (.iaload, 1) := by decide +kernel
theorem dX12_splits_200 : decode cX12_splits 200 = .ok (.ldc 157, 2) := by decide +kernel
theorem dX12_splits_202 : decode cX12_splits 202 = .ok (.if_icmp .le 15, 3) := by decide +kernel
theorem dX12_splits_205 : decode cX12_splits 205 = .ok (.aload_n 0, 1) := by decide +kernel
theorem dX12_splits_206 : decode cX12_splits 206 = .ok (.getfield 53, 3) := by decide +kernel
theorem dX12_splits_209 : decode cX12_splits 209 = .ok (.aload_n 0, 1) := by decide +kernel
theorem dX12_splits_210 : decode cX12_splits 210 = .ok (.getfield 144, 3) := by decide +kernel
theorem dX12_splits_213 : decode cX12_splits 213 = .ok (.iaload, 1) := by decide +kernel
theorem dX12_splits_214 : decode cX12_splits 214 = .ok (.goto 26, 3) := by decide +kernel
theorem dX12_splits_217 : decode cX12_splits 217 = .ok (.bipush 10, 2) := by decide +kernel
theorem dX12_splits_219 : decode cX12_splits 219 = .ok (.aload_n 0, 1) := by decide +kernel
theorem dX12_splits_220 : decode cX12_splits 220 = .ok (.getfield 53, 3) := by decide +kernel
theorem dX12_splits_223 : decode cX12_splits 223 = .ok (.aload_n 0, 1) := by decide +kernel
theorem dX12_splits_224 : decode cX12_splits 224 = .ok (.getfield 144, 3) := by decide +kernel
theorem dX12_splits_227 : decode cX12_splits 227 = .ok (.iaload, 1) := by decide +kernel
theorem dX12_splits_228 : decode cX12_splits 228 = .ok (.imul, 1) := by decide +kernel
theorem dX12_splits_229 : decode cX12_splits 229 = .ok (.aload_n 0, 1) := by decide +kernel
theorem dX12_splits_230 : decode cX12_splits 230 = .ok (.getfield 41, 3) := by decide +kernel
theorem dX12_splits_233 : decode cX12_splits 233 = .ok (.iload 5, 2) := by decide +kernel
theorem dX12_splits_235 : decode cX12_splits 235 = .ok (.baload, 1) := by decide +kernel
theorem dX12_splits_236 : decode cX12_splits 236 = .ok (.iadd, 1) := by decide +kernel
theorem dX12_splits_237 : decode cX12_splits 237 = .ok (.bipush 48, 2) := by decide +kernel
theorem dX12_splits_239 : decode cX12_splits 239 = .ok (.isub, 1) := by decide +kernel
theorem dX12_splits_240 : decode cX12_splits 240 = .ok (.iastore, 1) := by decide +kernel
theorem dX12_splits_241 : decode cX12_splits 241 = .ok (.iinc 5 1, 3) := by decide +kernel
theorem dX12_splits_244 : decode cX12_splits 244 = .ok (.goto (-75), 3) := by decide +kernel
theorem dX12_splits_247 : decode cX12_splits 247 = .ok (.aload_n 0, 1) := by decide +kernel
theorem dX12_splits_248 : decode cX12_splits 248 = .ok (.dup, 1) := by decide +kernel
theorem dX12_splits_249 : decode cX12_splits 249 = .ok (.getfield 144, 3) := by decide +kernel
theorem dX12_splits_252 : decode cX12_splits 252 = .ok (.iconst 1, 1) := by decide +kernel
theorem dX12_splits_253 : decode cX12_splits 253 = .ok (.iadd, 1) := by decide +kernel
theorem dX12_splits_254 : decode cX12_splits 254 = .ok (.putfield 144, 3) := by decide +kernel
theorem dX12_splits_257 : decode cX12_splits 257 = .ok (.iload 4, 2) := by decide +kernel
theorem dX12_splits_259 : decode cX12_splits 259 = .ok (.istore_n 2, 1) := by decide +kernel
theorem dX12_splits_260 : decode cX12_splits 260 = .ok (.goto (-253), 3) := by decide +kernel
theorem dX12_splits_263 : decode cX12_splits 263 = .ok (.aload_n 0, 1) := by decide +kernel
theorem dX12_splits_264 : decode cX12_splits 264 = .ok (.getfield 56, 3) := by decide +kernel
theorem dX12_splits_267 : decode cX12_splits 267 = .ok (.aload_n 0, 1) := by decide +kernel
theorem dX12_splits_268 : decode cX12_splits 268 = .ok (.getfield 144, 3) := by decide +kernel
theorem dX12_splits_271 : decode cX12_splits 271 = .ok (.iload_n 1, 1) := by decide +kernel
theorem dX12_splits_272 : decode cX12_splits 272 = .ok (.iastore, 1) := by decide +kernel
theorem dX12_splits_273 : decode cX12_splits 273 = .ok (.aload_n 0, 1) := by decide +kernel
theorem dX12_splits_274 : decode cX12_splits 274 = .ok (.getfield 50, 3) := by decide +kernel
theorem dX12_splits_277 : decode cX12_splits 277 = .ok (.aload_n 0, 1) := by decide +kernel
theorem dX12_splits_278 : decode cX12_splits 278 = .ok (.getfield 144, 3) := by decide +kernel
theorem dX12_splits_281 : decode cX12_splits 281 = .ok (.iconst 0, 1) := by decide +kernel
theorem dX12_splits_282 : decode cX12_splits 282 = .ok (.iastore, 1) := by decide +kernel
theorem dX12_splits_283 : decode cX12_splits 283 = .ok (.aload_n 0, 1) := by decide +kernel
theorem dX12_splits_284 : decode cX12_splits 284 = .ok (.getfield 53, 3) := by decide +kernel
theorem dX12_splits_287 : decode cX12_splits 287 = .ok (.aload_n 0, 1) := by decide +kernel
theorem dX12_splits_288 : decode cX12_splits 288 = .ok (.getfield 144, 3) := by decide +kernel
theorem dX12_splits_291 : decode cX12_splits 291 = .ok (.iconst 0, 1) := by decide +kernel
theorem dX12_splits_292 : decode cX12_splits 292 = .ok (.iastore, 1) := by decide +kernel
theorem dX12_splits_293 : decode cX12_splits 293 = .ok (.return_, 1) := by decide +kernel
theorem wt5_178 : Cond.fieldLink RX12 144 "SunriseRoofModel" "tokens" "I" ∈ kG := kt5 178 rfl rfl
theorem wt6_181 : Cond.methodLink RX12 147 yX12_isSmall ∈ kG := kt6 181 rfl rfl
theorem wt6_182 : Cond.static yX12_isSmall ∈ kG := kt6 182 rfl rfl
theorem wt6_183 : Cond.code yX12_isSmall cX12_isSmall 1 (some .boolean) ∈ kG := kt6 183 rfl rfl
theorem wt6_184 : Cond.methodLink RX12 150 yX12_isDigit ∈ kG := kt6 184 rfl rfl
theorem wt6_185 : Cond.static yX12_isDigit ∈ kG := kt6 185 rfl rfl
theorem wt6_186 : Cond.code yX12_isDigit cX12_isDigit 1 (some .boolean) ∈ kG := kt6 186 rfl rfl
theorem wt6_187 : Cond.methodLink RX12 153 yX12_wordOf ∈ kG := kt6 187 rfl rfl
theorem wt6_189 : Cond.instanceMethod yX12_wordOf ∈ kG := kt6 189 rfl rfl
theorem wp4_3 : Cond.selects RX12 yX12_wordOf yX12_wordOf ∈ kG := kp4 3 rfl rfl
theorem wt6_190 : Cond.code yX12_wordOf cX12_wordOf 8 (some .int) ∈ kG := kt6 190 rfl rfl
set_option maxHeartbeats 4000000 in
set_option maxRecDepth 100000 in
theorem m_splits  (l : Launch) {D : va_G} {K : Nat → ClassId} (o : Nat) (r : Nat → Nat) (f : Nat → Int32) (a : Nat → Nat → Int32) (g : Nat → Int64) (hI : mI f a) (x : Int32) (bx : kb 0 x 400)   : kV l yX12_splits (Cond.code yX12_splits cX12_splits 6 none :: kG) (rmD 2 0 0) D (tysK K) [.ref o, .int x] (mW K o r f a g) (fun (u : mS) => mI u.1 u.2.1 ∧ mE (XR []) f a u.1 u.2.1 ∧ fE [18] f u.1 ∧ (∃ N : Nat, (u.1 18).toInt = (N : Int) ∧ N ≤ 400 ∧ u.2.1 15 N = 0)) (fun u => mW K o r u.1 u.2.1 u.2.2) 0 0 := by
  refine kV.of (cc := cX12_splits) (maxL := 6) (ret := none) (by decide) rfl (Nat.le_of_ble_eq_true rfl) ?_
  intro p e s m below meth c A hx hb hr hml hown hts hlocks hnm hK hP hD hS hA ls hl
  have hE : mE (XR []) f a f a := mE_rf
  have hg : ∀ w ∈ kG, w.before _ s = true := fun w h => hts w (List.mem_cons_of_mem _ h)
  have hown : s.vm.findClass RX12 = some m.cls := hown
  have hl : lv_has ls 6 [(0, .ref o), (1, .int x)] := hl
  have hk0 : fE [18] f f := fE_rf
  refine lv_aload_n hx hb dX12_splits_0 rfl (lv_at hl 0 rfl) ?_
  refine lv_iconst (v := 0) hx hb dX12_splits_1 (by decide) ?_
  refine va_put (D := D) (ci := 12) (v := .int 0) (ty := .int) (C := RX12) (T := TX12) (N := 48) hx hb hg inC12 tyX12 tyX12_ok nmX12 hown hK hP hD hS 0 rfl rfl 18 (by decide) (hg _ wt5_178) (fun _ h9 => h9) rfl (by decide +kernel) rfl rfl (Nat.le_of_ble_eq_true rfl) dX12_splits_2 (fun H locs hP hD hS => ?_)
  have hP : va_P D vwCl (mW K o r (upd f 18 0) a g) H := hP
  have hD : va_D A (mW K o r (upd f 18 0) a g) := hD
  refine k_gen (P := fun z => va_P D vwCl (mW K o r z a g) H ∧ va_D A (mW K o r z a g) ∧ (mI z a) ∧ (mE (XR []) f a z a) ∧ (fE [18] f z)) (upd f 18 0) ⟨hP, hD, (mI_f hI (fI_st hI.1 18 kc_0 (by decide) (by decide))), (mE_f hE (by decide)), (fE_f hk0 (by decide))⟩ (fun f_1 ef_1 hq => ?_)
  obtain ⟨hP, hD, hI, hE, hk0⟩ := hq
  refine lv_iconst (v := 0) hx hb dX12_splits_5 (by decide) ?_
  refine lv_istore_n (lv' := [(2, .int 0), (0, .ref o), (1, .int x)]) hx hb dX12_splits_6 rfl hl (by decide) rfl (fun ls hl => ?_)
  have lp5 : ∀ (n6 : Nat) (F3 : Nat → Int32) (B4 : Nat → Nat → Int32) (H : Heap) (locs : List Loc) (ls : Array Slot) (y2 : Int32), ((400 : Int) < y2.toInt + (n6 : Int)) → (mI F3 B4) → (mE (XR []) f a F3 B4) → (fE [18] f F3) → (kb 0 y2 400) → ((F3 18).toInt ≤ y2.toInt) → va_P D vwCl (mW K o r F3 B4 g) H → va_D A (mW K o r F3 B4 g) → va_S A s.heap H locs → lv_has ls 6 [(2, .int y2), (0, .ref o), (1, .int x)] → W p l e (rmD 2 0 0) s m ([.ref o, .int x] : List Value).toArray below meth c H locs 0 0 (kQv D (tysK K) (fun (u : mS) => mI u.1 u.2.1 ∧ mE (XR []) f a u.1 u.2.1 ∧ fE [18] f u.1 ∧ (∃ N : Nat, (u.1 18).toInt = (N : Int) ∧ N ≤ 400 ∧ u.2.1 15 N = 0)) (fun u => mW K o r u.1 u.2.1 u.2.2) A below ([.ref o, .int x] : List Value).toArray s 0 0) (F0 m 7 ls []) := by
    intro n6
    induction n6 with
    | zero =>
      intro  F3 B4  H locs ls y2 hmlp5 hI hE hk0 b7 hvlp5_0 hP hD hS hl
      exact (by have w1 := hmlp5; have w2 := (b7).2; omega : False).elim
    | succ n6 ihlp5 =>
      intro  F3 B4  H locs ls y2 hmlp5 hI hE hk0 b7 hvlp5_0 hP hD hS hl
      obtain ⟨tk, etk⟩ : ∃ z : Int32, z = F3 18 := ⟨_, rfl⟩
      have b8 : kb 0 tk 400 := kb_eq etk (fI_at hI.1 18 (by decide) (by decide))
      have htk : tk.toInt ≤ y2.toInt := by rw [etk]; exact hvlp5_0
      refine lv_iload_n hx hb dX12_splits_7 rfl (lv_at hl 0 rfl) ?_
      refine lv_iload_n hx hb dX12_splits_8 rfl (lv_at hl 2 rfl) ?_
      refine lv_icmp_ge (tgt := 263) hx hb dX12_splits_9 (by decide) (fun c9 => ?_) (fun c9 => ?_)
      · have h10 := (kc_le c9)
        refine lv_aload_n hx hb dX12_splits_263 rfl (lv_at hl 1 rfl) ?_
        refine va_get (D := D) (ci := 12) (v := .ref (r 17)) (C := RX12) (T := TX12) (N := 48) hx hb hg inC12 hown hK hP 0 rfl rfl 17 (by decide) (hg _ wt5_177) (fun _ h9 => h9) rfl dX12_splits_264 ?_
        refine lv_aload_n hx hb dX12_splits_267 rfl (lv_at hl 1 rfl) ?_
        refine va_get (D := D) (ci := 12) (v := .int (F3 18)) (C := RX12) (T := TX12) (N := 48) hx hb hg inC12 hown hK hP 0 rfl rfl 18 (by decide) (hg _ wt5_178) (fun _ h9 => h9) rfl dX12_splits_268 ?_
        refine k_top (z := tk) etk.symm ?_
        refine lv_iload_n hx hb dX12_splits_271 rfl (lv_at hl 2 rfl) ?_
        refine va_iast hx hb hK hP hD hS 11 0 rfl rfl (kb_in b8 (by decide) (by decide)) dX12_splits_272 (fun H locs hP hD hS => ?_)
        have hP : va_P D vwCl (mW K o r F3 (va_up B4 17 (upd (B4 17) tk.toNatClampNeg x)) g) H := hP
        have hD : va_D A (mW K o r F3 (va_up B4 17 (upd (B4 17) tk.toNatClampNeg x)) g) := hD
        refine k_gen (P := fun z => va_P D vwCl (mW K o r F3 z g) H ∧ va_D A (mW K o r F3 z g) ∧ (mI F3 z) ∧ (mE (XR []) f a F3 z) ∧ (fE [18] f F3)) (va_up B4 17 (upd (B4 17) tk.toNatClampNeg x)) ⟨hP, hD, (mI_s hI (aI_sx hI.2.1 17 0 401 b8 (by decide) (by decide) bx (by decide +kernel)) (by decide) (by decide)), (mE_s hE (by decide) (by decide) (by decide) (by decide)), hk0⟩ (fun a_11 ea_11 hq => ?_)
        obtain ⟨hP, hD, hI, hE, hk0⟩ := hq
        refine lv_aload_n hx hb dX12_splits_273 rfl (lv_at hl 1 rfl) ?_
        refine va_get (D := D) (ci := 12) (v := .ref (r 15)) (C := RX12) (T := TX12) (N := 48) hx hb hg inC12 hown hK hP 0 rfl rfl 15 (by decide) (hg _ wt5_175) (fun _ h9 => h9) rfl dX12_splits_274 ?_
        refine lv_aload_n hx hb dX12_splits_277 rfl (lv_at hl 1 rfl) ?_
        refine va_get (D := D) (ci := 12) (v := .int (F3 18)) (C := RX12) (T := TX12) (N := 48) hx hb hg inC12 hown hK hP 0 rfl rfl 18 (by decide) (hg _ wt5_178) (fun _ h9 => h9) rfl dX12_splits_278 ?_
        refine k_top (z := tk) etk.symm ?_
        refine lv_iconst (v := 0) hx hb dX12_splits_281 (by decide) ?_
        refine va_iast hx hb hK hP hD hS 9 0 rfl rfl (kb_in b8 (by decide) (by decide)) dX12_splits_282 (fun H locs hP hD hS => ?_)
        have hP : va_P D vwCl (mW K o r F3 (va_up a_11 15 (upd (a_11 15) tk.toNatClampNeg 0)) g) H := hP
        have hD : va_D A (mW K o r F3 (va_up a_11 15 (upd (a_11 15) tk.toNatClampNeg 0)) g) := hD
        refine k_gen (P := fun z => va_P D vwCl (mW K o r F3 z g) H ∧ va_D A (mW K o r F3 z g) ∧ (mI F3 z) ∧ (mE (XR []) f a F3 z) ∧ (fE [18] f F3)) (va_up a_11 15 (upd (a_11 15) tk.toNatClampNeg 0)) ⟨hP, hD, (mI_s hI (aI_free hI.2.1 15 _ (fun j => ⟨by show (mBa 15 j).1 ≤ _; exact Int.le_refl _, by show _ ≤ (mBa 15 j).2; exact Int.le_refl _⟩)) (by decide) (by decide)), (mE_s hE (by decide) (by decide) (by decide) (by decide)), hk0⟩ (fun a_12 ea_12 hq => ?_)
        obtain ⟨hP, hD, hI, hE, hk0⟩ := hq
        refine lv_aload_n hx hb dX12_splits_283 rfl (lv_at hl 1 rfl) ?_
        refine va_get (D := D) (ci := 12) (v := .ref (r 16)) (C := RX12) (T := TX12) (N := 48) hx hb hg inC12 hown hK hP 0 rfl rfl 16 (by decide) (hg _ wt5_176) (fun _ h9 => h9) rfl dX12_splits_284 ?_
        refine lv_aload_n hx hb dX12_splits_287 rfl (lv_at hl 1 rfl) ?_
        refine va_get (D := D) (ci := 12) (v := .int (F3 18)) (C := RX12) (T := TX12) (N := 48) hx hb hg inC12 hown hK hP 0 rfl rfl 18 (by decide) (hg _ wt5_178) (fun _ h9 => h9) rfl dX12_splits_288 ?_
        refine k_top (z := tk) etk.symm ?_
        refine lv_iconst (v := 0) hx hb dX12_splits_291 (by decide) ?_
        refine va_iast hx hb hK hP hD hS 10 0 rfl rfl (kb_in b8 (by decide) (by decide)) dX12_splits_292 (fun H locs hP hD hS => ?_)
        have hP : va_P D vwCl (mW K o r F3 (va_up a_12 16 (upd (a_12 16) tk.toNatClampNeg 0)) g) H := hP
        have hD : va_D A (mW K o r F3 (va_up a_12 16 (upd (a_12 16) tk.toNatClampNeg 0)) g) := hD
        refine k_gen (P := fun z => va_P D vwCl (mW K o r F3 z g) H ∧ va_D A (mW K o r F3 z g) ∧ (mI F3 z) ∧ (mE (XR []) f a F3 z) ∧ (fE [18] f F3)) (va_up a_12 16 (upd (a_12 16) tk.toNatClampNeg 0)) ⟨hP, hD, (mI_s hI (aI_free hI.2.1 16 _ (fun j => ⟨by show (mBa 16 j).1 ≤ _; exact Int.le_refl _, by show _ ≤ (mBa 16 j).2; exact Int.le_refl _⟩)) (by decide) (by decide)), (mE_s hE (by decide) (by decide) (by decide) (by decide)), hk0⟩ (fun a_13 ea_13 hq => ?_)
        obtain ⟨hP, hD, hI, hE, hk0⟩ := hq
        exact kV_ret hx hb hr hlocks hK hS dX12_splits_293 (F3, a_13, g) hP hD ⟨hI, hE, hk0, ⟨tk.toInt.toNat, by show (F3 18).toInt = _; rw [etk.symm]; have w1 := (b8).1; omega, by have w1 := (b8).1; have w2 := (b8).2; omega, by show a_13 15 _ = 0; have w1 := kb_cl b8 (by decide); have w2 : tk.toInt.toNat = tk.toNatClampNeg := (by omega); rw [w2]; exact ((show a_13 15 tk.toNatClampNeg = a_12 15 tk.toNatClampNeg from by rw [← ea_13]; rfl).trans (show a_12 15 tk.toNatClampNeg = 0 from by rw [← ea_12]; exact (pk_us (f := a_11 15) (k := tk.toNatClampNeg) (x := 0))))⟩⟩
      · have h14 := (kc_nle c9)
        have b15 : kb 0 y2 399 := kr_lt1 h14 b7 bx (by decide)
        have b16 : kb 1 x 400 := kr_lt2 h14 b7 bx (by decide)
        refine lv_aload_n hx hb dX12_splits_12 rfl (lv_at hl 1 rfl) ?_
        refine va_get (D := D) (ci := 12) (v := .ref (r 11)) (C := RX12) (T := TX12) (N := 48) hx hb hg inC12 hown hK hP 0 rfl rfl 11 (by decide) (hg _ wt5_171) (fun _ h9 => h9) rfl dX12_splits_13 ?_
        refine lv_iload_n hx hb dX12_splits_16 rfl (lv_at hl 0 rfl) ?_
        refine va_bald hx hb hK hP 7 1 rfl rfl (kb_in b15 (by decide) (by decide)) dX12_splits_17 ?_
        refine lv_topi (fun t17 et17 => ?_)
        refine lv_istore_n (lv' := [(3, .int t17), (2, .int y2), (0, .ref o), (1, .int x)]) hx hb dX12_splits_18 rfl hl (by decide) rfl (fun ls hl => ?_)
        refine lv_iload_n hx hb dX12_splits_19 rfl (lv_at hl 0 rfl) ?_
        refine lv_bipush (v := 32) hx hb dX12_splits_20 (by decide) ?_
        refine lv_icmp_ne (tgt := 31) hx hb dX12_splits_22 (by decide) (fun c18 => ?_) (fun c18 => ?_)
        · refine lv_iload_n hx hb dX12_splits_31 rfl (lv_at hl 1 rfl) ?_
          refine lv_iconst (v := 1) hx hb dX12_splits_32 (by decide) ?_
          refine lv_iadd hx hb dX12_splits_33 ?_
          refine lv_topi (fun t19 et19 => ?_)
          have b20 : kb 1 t19 400 := kb_eq et19 (kb_add b15 kc_1 (by decide) (by decide))
          have qt19 : t19.toInt = y2.toInt + 1 := by rw [et19]; exact kt_addc b15 kc_1 (by decide) (by decide)
          refine lv_istore (lv' := [(4, .int t19), (3, .int t17), (2, .int y2), (0, .ref o), (1, .int x)]) hx hb dX12_splits_34 hl (by decide) rfl (fun ls hl => ?_)
          refine lv_iload_n hx hb dX12_splits_36 rfl (lv_at hl 1 rfl) ?_
          refine kN.callS (As := [.int t17]) (rest := []) ⟨hx, hb, hml, hown, hg⟩ (m_isSmall l t17 ) (va_cwS 1 hg (kgS wt6_181 wt6_182 wt1_14 wt6_183) rfl rfl rfl (by decide +kernel) ⟨by decide, by decide⟩) hP hS rfl hl.1 rfl (Nat.le_of_ble_eq_true rfl) dX12_splits_37 ⟨Nat.le_refl _, Nat.le_refl _⟩ (fun v22 H locs hw21 hP hS => ?_)
          refine lv_if_eq (tgt := 68) hx hb dX12_splits_40 (by decide) (fun c24 => ?_) (fun c24 => ?_)
          · have b25 : kb 0 v22 0 := kb_eq c24 kc_0
            refine lv_iload_n hx hb dX12_splits_68 rfl (lv_at hl 1 rfl) ?_
            refine kN.callS (As := [.int t17]) (rest := []) ⟨hx, hb, hml, hown, hg⟩ (m_isDigit l t17 ) (va_cwS 1 hg (kgS wt6_184 wt6_185 wt1_14 wt6_186) rfl rfl rfl (by decide +kernel) ⟨by decide, by decide⟩) hP hS rfl hl.1 rfl (Nat.le_of_ble_eq_true rfl) dX12_splits_69 ⟨Nat.le_refl _, Nat.le_refl _⟩ (fun v27 H locs hw26 hP hS => ?_)
            refine lv_if_eq (tgt := 100) hx hb dX12_splits_72 (by decide) (fun c29 => ?_) (fun c29 => ?_)
            · have b30 : kb 0 v27 0 := kb_eq c29 kc_0
              refine lv_aload_n hx hb dX12_splits_100 rfl (lv_at hl 3 rfl) ?_
              refine va_get (D := D) (ci := 12) (v := .ref (r 17)) (C := RX12) (T := TX12) (N := 48) hx hb hg inC12 hown hK hP 0 rfl rfl 17 (by decide) (hg _ wt5_177) (fun _ h9 => h9) rfl dX12_splits_101 ?_
              refine lv_aload_n hx hb dX12_splits_104 rfl (lv_at hl 3 rfl) ?_
              refine va_get (D := D) (ci := 12) (v := .int (F3 18)) (C := RX12) (T := TX12) (N := 48) hx hb hg inC12 hown hK hP 0 rfl rfl 18 (by decide) (hg _ wt5_178) (fun _ h9 => h9) rfl dX12_splits_105 ?_
              refine k_top (z := tk) etk.symm ?_
              refine lv_iload_n hx hb dX12_splits_108 rfl (lv_at hl 2 rfl) ?_
              refine va_iast hx hb hK hP hD hS 11 0 rfl rfl (kb_in b8 (by decide) (by decide)) dX12_splits_109 (fun H locs hP hD hS => ?_)
              have hP : va_P D vwCl (mW K o r F3 (va_up B4 17 (upd (B4 17) tk.toNatClampNeg y2)) g) H := hP
              have hD : va_D A (mW K o r F3 (va_up B4 17 (upd (B4 17) tk.toNatClampNeg y2)) g) := hD
              refine k_gen (P := fun z => va_P D vwCl (mW K o r F3 z g) H ∧ va_D A (mW K o r F3 z g) ∧ (mI F3 z) ∧ (mE (XR []) f a F3 z) ∧ (fE [18] f F3)) (va_up B4 17 (upd (B4 17) tk.toNatClampNeg y2)) ⟨hP, hD, (mI_s hI (aI_sx hI.2.1 17 0 401 b8 (by decide) (by decide) b15 (by decide +kernel)) (by decide) (by decide)), (mE_s hE (by decide) (by decide) (by decide) (by decide)), hk0⟩ (fun a_31 ea_31 hq => ?_)
              obtain ⟨hP, hD, hI, hE, hk0⟩ := hq
              refine lv_aload_n hx hb dX12_splits_110 rfl (lv_at hl 3 rfl) ?_
              refine va_get (D := D) (ci := 12) (v := .ref (r 16)) (C := RX12) (T := TX12) (N := 48) hx hb hg inC12 hown hK hP 0 rfl rfl 16 (by decide) (hg _ wt5_176) (fun _ h9 => h9) rfl dX12_splits_111 ?_
              refine lv_aload_n hx hb dX12_splits_114 rfl (lv_at hl 3 rfl) ?_
              refine va_get (D := D) (ci := 12) (v := .int (F3 18)) (C := RX12) (T := TX12) (N := 48) hx hb hg inC12 hown hK hP 0 rfl rfl 18 (by decide) (hg _ wt5_178) (fun _ h9 => h9) rfl dX12_splits_115 ?_
              refine k_top (z := tk) etk.symm ?_
              refine lv_iconst (v := 0) hx hb dX12_splits_118 (by decide) ?_
              refine va_iast hx hb hK hP hD hS 10 0 rfl rfl (kb_in b8 (by decide) (by decide)) dX12_splits_119 (fun H locs hP hD hS => ?_)
              have hP : va_P D vwCl (mW K o r F3 (va_up a_31 16 (upd (a_31 16) tk.toNatClampNeg 0)) g) H := hP
              have hD : va_D A (mW K o r F3 (va_up a_31 16 (upd (a_31 16) tk.toNatClampNeg 0)) g) := hD
              refine k_gen (P := fun z => va_P D vwCl (mW K o r F3 z g) H ∧ va_D A (mW K o r F3 z g) ∧ (mI F3 z) ∧ (mE (XR []) f a F3 z) ∧ (fE [18] f F3)) (va_up a_31 16 (upd (a_31 16) tk.toNatClampNeg 0)) ⟨hP, hD, (mI_s hI (aI_free hI.2.1 16 _ (fun j => ⟨by show (mBa 16 j).1 ≤ _; exact Int.le_refl _, by show _ ≤ (mBa 16 j).2; exact Int.le_refl _⟩)) (by decide) (by decide)), (mE_s hE (by decide) (by decide) (by decide) (by decide)), hk0⟩ (fun a_32 ea_32 hq => ?_)
              obtain ⟨hP, hD, hI, hE, hk0⟩ := hq
              refine lv_aload_n hx hb dX12_splits_120 rfl (lv_at hl 3 rfl) ?_
              refine va_get (D := D) (ci := 12) (v := .ref (r 15)) (C := RX12) (T := TX12) (N := 48) hx hb hg inC12 hown hK hP 0 rfl rfl 15 (by decide) (hg _ wt5_175) (fun _ h9 => h9) rfl dX12_splits_121 ?_
              refine lv_aload_n hx hb dX12_splits_124 rfl (lv_at hl 3 rfl) ?_
              refine va_get (D := D) (ci := 12) (v := .int (F3 18)) (C := RX12) (T := TX12) (N := 48) hx hb hg inC12 hown hK hP 0 rfl rfl 18 (by decide) (hg _ wt5_178) (fun _ h9 => h9) rfl dX12_splits_125 ?_
              refine k_top (z := tk) etk.symm ?_
              refine lv_iload_n hx hb dX12_splits_128 rfl (lv_at hl 1 rfl) ?_
              refine kN.callS (As := [.int t17]) (rest := [.int tk, .ref (r 15)]) ⟨hx, hb, hml, hown, hg⟩ (m_isSmall l t17 ) (va_cwS 1 hg (kgS wt6_181 wt6_182 wt1_14 wt6_183) rfl rfl rfl (by decide +kernel) ⟨by decide, by decide⟩) hP hS rfl hl.1 rfl (Nat.le_of_ble_eq_true rfl) dX12_splits_129 ⟨Nat.le_refl _, Nat.le_refl _⟩ (fun v34 H locs hw33 hP hS => ?_)
              have jn52 : ∀ (H : Heap) (locs : List Loc) (ls : Array Slot) (z51 : Int32), va_P D vwCl (mW K o r F3 a_32 g) H → va_D A (mW K o r F3 a_32 g) → va_S A s.heap H locs → lv_has ls 6 [(4, .int t19), (3, .int t17), (2, .int y2), (0, .ref o), (1, .int x)] → W p l e (rmD 2 0 0) s m ([.ref o, .int x] : List Value).toArray below meth c H locs 0 0 (kQv D (tysK K) (fun (u : mS) => mI u.1 u.2.1 ∧ mE (XR []) f a u.1 u.2.1 ∧ fE [18] f u.1 ∧ (∃ N : Nat, (u.1 18).toInt = (N : Int) ∧ N ≤ 400 ∧ u.2.1 15 N = 0)) (fun u => mW K o r u.1 u.2.1 u.2.2) A below ([.ref o, .int x] : List Value).toArray s 0 0) (F0 m 165 ls [.int z51, .int tk, .ref (r 15)]) := by
                intro  H locs ls z51  hP hD hS hl
                refine va_iast hx hb hK hP hD hS 9 0 rfl rfl (kb_in b8 (by decide) (by decide)) dX12_splits_165 (fun H locs hP hD hS => ?_)
                have hP : va_P D vwCl (mW K o r F3 (va_up a_32 15 (upd (a_32 15) tk.toNatClampNeg z51)) g) H := hP
                have hD : va_D A (mW K o r F3 (va_up a_32 15 (upd (a_32 15) tk.toNatClampNeg z51)) g) := hD
                refine k_gen (P := fun z => va_P D vwCl (mW K o r F3 z g) H ∧ va_D A (mW K o r F3 z g) ∧ (mI F3 z) ∧ (mE (XR []) f a F3 z) ∧ (fE [18] f F3)) (va_up a_32 15 (upd (a_32 15) tk.toNatClampNeg z51)) ⟨hP, hD, (mI_s hI (aI_free hI.2.1 15 _ (fun j => ⟨by show (mBa 15 j).1 ≤ _; exact Int.le_refl _, by show _ ≤ (mBa 15 j).2; exact Int.le_refl _⟩)) (by decide) (by decide)), (mE_s hE (by decide) (by decide) (by decide) (by decide)), hk0⟩ (fun a_53 ea_53 hq => ?_)
                obtain ⟨hP, hD, hI, hE, hk0⟩ := hq
                refine lv_iload_n hx hb dX12_splits_166 rfl (lv_at hl 2 rfl) ?_
                refine lv_istore (lv' := [(5, .int y2), (4, .int t19), (3, .int t17), (2, .int y2), (0, .ref o), (1, .int x)]) hx hb dX12_splits_167 hl (by decide) rfl (fun ls hl => ?_)
                have lp56 : ∀ (n57 : Nat) (B55 : Nat → Nat → Int32) (H : Heap) (locs : List Loc) (ls : Array Slot) (y54 : Int32), (400 < y54.toInt + (n57 : Int)) → (mI F3 B55) → (mE (XR []) f a F3 B55) → (fE [18] f F3) → (kb 0 y54 400) → va_P D vwCl (mW K o r F3 B55 g) H → va_D A (mW K o r F3 B55 g) → va_S A s.heap H locs → lv_has ls 6 [(5, .int y54), (4, .int t19), (3, .int t17), (2, .int y2), (0, .ref o), (1, .int x)] → W p l e (rmD 2 0 0) s m ([.ref o, .int x] : List Value).toArray below meth c H locs 0 0 (kQv D (tysK K) (fun (u : mS) => mI u.1 u.2.1 ∧ mE (XR []) f a u.1 u.2.1 ∧ fE [18] f u.1 ∧ (∃ N : Nat, (u.1 18).toInt = (N : Int) ∧ N ≤ 400 ∧ u.2.1 15 N = 0)) (fun u => mW K o r u.1 u.2.1 u.2.2) A below ([.ref o, .int x] : List Value).toArray s 0 0) (F0 m 169 ls []) := by
                  intro n57
                  induction n57 with
                  | zero =>
                    intro  B55  H locs ls y54 hmlp56 hI hE hk0 b58 hP hD hS hl
                    exact (by have h1 := b58.2; have h2 := hmlp56; omega : False).elim
                  | succ n57 ihlp56 =>
                    intro  B55  H locs ls y54 hmlp56 hI hE hk0 b58 hP hD hS hl
                    refine lv_iload hx hb dX12_splits_169 (lv_at hl 0 rfl) ?_
                    refine lv_iload hx hb dX12_splits_171 (lv_at hl 1 rfl) ?_
                    refine lv_icmp_ge (tgt := 247) hx hb dX12_splits_173 (by decide) (fun c59 => ?_) (fun c59 => ?_)
                    · have h60 := (kc_le c59)
                      have b61 : kb 1 y54 400 := kr_le2 h60 b20 b58
                      refine lv_aload_n hx hb dX12_splits_247 rfl (lv_at hl 4 rfl) ?_
                      refine lv_dup hx hb dX12_splits_248 rfl ?_
                      refine va_get (D := D) (ci := 12) (v := .int (F3 18)) (C := RX12) (T := TX12) (N := 48) hx hb hg inC12 hown hK hP 0 rfl rfl 18 (by decide) (hg _ wt5_178) (fun _ h9 => h9) rfl dX12_splits_249 ?_
                      refine k_top (z := tk) etk.symm ?_
                      have b62 : kb 0 tk 399 := ⟨(b8).1, by have w1 := htk; have w2 := (b15).2; omega⟩
                      refine lv_iconst (v := 1) hx hb dX12_splits_252 (by decide) ?_
                      refine lv_iadd hx hb dX12_splits_253 ?_
                      refine lv_topi (fun t63 et63 => ?_)
                      have b64 : kb 1 t63 400 := kb_eq et63 (kb_add b62 kc_1 (by decide) (by decide))
                      have qt63 : t63.toInt = tk.toInt + 1 := by rw [et63]; exact kt_addc b62 kc_1 (by decide) (by decide)
                      refine va_put (D := D) (ci := 12) (v := .int t63) (ty := .int) (C := RX12) (T := TX12) (N := 48) hx hb hg inC12 tyX12 tyX12_ok nmX12 hown hK hP hD hS 0 rfl rfl 18 (by decide) (hg _ wt5_178) (fun _ h9 => h9) rfl (by decide +kernel) rfl rfl (Nat.le_of_ble_eq_true rfl) dX12_splits_254 (fun H locs hP hD hS => ?_)
                      have hP : va_P D vwCl (mW K o r (upd F3 18 t63) B55 g) H := hP
                      have hD : va_D A (mW K o r (upd F3 18 t63) B55 g) := hD
                      refine k_gen (P := fun z => va_P D vwCl (mW K o r z B55 g) H ∧ va_D A (mW K o r z B55 g) ∧ (mI z B55) ∧ (mE (XR []) f a z B55) ∧ (fE [18] f z)) (upd F3 18 t63) ⟨hP, hD, (mI_f hI (fI_st hI.1 18 b64 (by decide) (by decide))), (mE_f hE (by decide)), (fE_f hk0 (by decide))⟩ (fun f_65 ef_65 hq => ?_)
                      obtain ⟨hP, hD, hI, hE, hk0⟩ := hq
                      refine lv_iload hx hb dX12_splits_257 (lv_at hl 1 rfl) ?_
                      refine lv_istore_n (lv' := [(2, .int t19), (5, .int y54), (4, .int t19), (3, .int t17), (0, .ref o), (1, .int x)]) hx hb dX12_splits_259 rfl hl (by decide) rfl (fun ls hl => ?_)
                      refine lv_goto (tgt := 7) hx hb dX12_splits_260 (by decide) ?_
                      exact ihlp5  f_65 B55 _ _ _ t19 (by omega) hI hE hk0 (kb_w b20 (by decide) (by decide)) (by rw [(show f_65 18 = t63 from by rw [← ef_65]; rfl)]; omega) hP hD hS (lv_sub hl [0, 4, 5] rfl)
                    · have h66 := (kc_nle c59)
                      have b67 : kb 0 y54 399 := kr_lt1 h66 b58 b20 (by decide)
                      refine lv_iload_n hx hb dX12_splits_176 rfl (lv_at hl 2 rfl) ?_
                      refine kN.callS (As := [.int t17]) (rest := []) ⟨hx, hb, hml, hown, hg⟩ (m_isDigit l t17 ) (va_cwS 1 hg (kgS wt6_184 wt6_185 wt1_14 wt6_186) rfl rfl rfl (by decide +kernel) ⟨by decide, by decide⟩) hP hS rfl hl.1 rfl (Nat.le_of_ble_eq_true rfl) dX12_splits_177 ⟨Nat.le_refl _, Nat.le_refl _⟩ (fun v69 H locs hw68 hP hS => ?_)
                      refine lv_if_eq (tgt := 247) hx hb dX12_splits_180 (by decide) (fun c71 => ?_) (fun c71 => ?_)
                      · have b72 : kb 0 v69 0 := kb_eq c71 kc_0
                        refine lv_aload_n hx hb dX12_splits_247 rfl (lv_at hl 4 rfl) ?_
                        refine lv_dup hx hb dX12_splits_248 rfl ?_
                        refine va_get (D := D) (ci := 12) (v := .int (F3 18)) (C := RX12) (T := TX12) (N := 48) hx hb hg inC12 hown hK hP 0 rfl rfl 18 (by decide) (hg _ wt5_178) (fun _ h9 => h9) rfl dX12_splits_249 ?_
                        refine k_top (z := tk) etk.symm ?_
                        have b73 : kb 0 tk 399 := ⟨(b8).1, by have w1 := htk; have w2 := (b15).2; omega⟩
                        refine lv_iconst (v := 1) hx hb dX12_splits_252 (by decide) ?_
                        refine lv_iadd hx hb dX12_splits_253 ?_
                        refine lv_topi (fun t74 et74 => ?_)
                        have b75 : kb 1 t74 400 := kb_eq et74 (kb_add b73 kc_1 (by decide) (by decide))
                        have qt74 : t74.toInt = tk.toInt + 1 := by rw [et74]; exact kt_addc b73 kc_1 (by decide) (by decide)
                        refine va_put (D := D) (ci := 12) (v := .int t74) (ty := .int) (C := RX12) (T := TX12) (N := 48) hx hb hg inC12 tyX12 tyX12_ok nmX12 hown hK hP hD hS 0 rfl rfl 18 (by decide) (hg _ wt5_178) (fun _ h9 => h9) rfl (by decide +kernel) rfl rfl (Nat.le_of_ble_eq_true rfl) dX12_splits_254 (fun H locs hP hD hS => ?_)
                        have hP : va_P D vwCl (mW K o r (upd F3 18 t74) B55 g) H := hP
                        have hD : va_D A (mW K o r (upd F3 18 t74) B55 g) := hD
                        refine k_gen (P := fun z => va_P D vwCl (mW K o r z B55 g) H ∧ va_D A (mW K o r z B55 g) ∧ (mI z B55) ∧ (mE (XR []) f a z B55) ∧ (fE [18] f z)) (upd F3 18 t74) ⟨hP, hD, (mI_f hI (fI_st hI.1 18 b75 (by decide) (by decide))), (mE_f hE (by decide)), (fE_f hk0 (by decide))⟩ (fun f_76 ef_76 hq => ?_)
                        obtain ⟨hP, hD, hI, hE, hk0⟩ := hq
                        refine lv_iload hx hb dX12_splits_257 (lv_at hl 1 rfl) ?_
                        refine lv_istore_n (lv' := [(2, .int t19), (5, .int y54), (4, .int t19), (3, .int t17), (0, .ref o), (1, .int x)]) hx hb dX12_splits_259 rfl hl (by decide) rfl (fun ls hl => ?_)
                        refine lv_goto (tgt := 7) hx hb dX12_splits_260 (by decide) ?_
                        exact ihlp5  f_76 B55 _ _ _ t19 (by omega) hI hE hk0 (kb_w b20 (by decide) (by decide)) (by rw [(show f_76 18 = t74 from by rw [← ef_76]; rfl)]; omega) hP hD hS (lv_sub hl [0, 4, 5] rfl)
                      · have b77 : kb 1 v69 1 := kr_nel c71 hw68 kc_0 (by decide)
                        refine lv_aload_n hx hb dX12_splits_183 rfl (lv_at hl 4 rfl) ?_
                        refine va_get (D := D) (ci := 12) (v := .ref (r 16)) (C := RX12) (T := TX12) (N := 48) hx hb hg inC12 hown hK hP 0 rfl rfl 16 (by decide) (hg _ wt5_176) (fun _ h9 => h9) rfl dX12_splits_184 ?_
                        refine lv_aload_n hx hb dX12_splits_187 rfl (lv_at hl 4 rfl) ?_
                        refine va_get (D := D) (ci := 12) (v := .int (F3 18)) (C := RX12) (T := TX12) (N := 48) hx hb hg inC12 hown hK hP 0 rfl rfl 18 (by decide) (hg _ wt5_178) (fun _ h9 => h9) rfl dX12_splits_188 ?_
                        refine k_top (z := tk) etk.symm ?_
                        refine lv_aload_n hx hb dX12_splits_191 rfl (lv_at hl 4 rfl) ?_
                        refine va_get (D := D) (ci := 12) (v := .ref (r 16)) (C := RX12) (T := TX12) (N := 48) hx hb hg inC12 hown hK hP 0 rfl rfl 16 (by decide) (hg _ wt5_176) (fun _ h9 => h9) rfl dX12_splits_192 ?_
                        refine lv_aload_n hx hb dX12_splits_195 rfl (lv_at hl 4 rfl) ?_
                        refine va_get (D := D) (ci := 12) (v := .int (F3 18)) (C := RX12) (T := TX12) (N := 48) hx hb hg inC12 hown hK hP 0 rfl rfl 18 (by decide) (hg _ wt5_178) (fun _ h9 => h9) rfl dX12_splits_196 ?_
                        refine k_top (z := tk) etk.symm ?_
                        refine va_iald hx hb hK hP 10 0 rfl rfl (kb_in b8 (by decide) (by decide)) dX12_splits_199 ?_
                        refine lv_topi (fun t78 et78 => ?_)
                        refine lv_ldc (v := (1000000)) hx hb hown (hg _ wt6_191) dX12_splits_200 ?_
                        refine lv_icmp_le (tgt := 217) hx hb dX12_splits_202 (by decide) (fun c79 => ?_) (fun c79 => ?_)
                        · have h80 := (kc_le c79)
                          have b81 : kb (-2147483648) t78 1000000 := kr_le1 h80 (kb_any t78) kc_1000000
                          refine lv_bipush (v := 10) hx hb dX12_splits_217 (by decide) ?_
                          refine lv_aload_n hx hb dX12_splits_219 rfl (lv_at hl 4 rfl) ?_
                          refine va_get (D := D) (ci := 12) (v := .ref (r 16)) (C := RX12) (T := TX12) (N := 48) hx hb hg inC12 hown hK hP 0 rfl rfl 16 (by decide) (hg _ wt5_176) (fun _ h9 => h9) rfl dX12_splits_220 ?_
                          refine lv_aload_n hx hb dX12_splits_223 rfl (lv_at hl 4 rfl) ?_
                          refine va_get (D := D) (ci := 12) (v := .int (F3 18)) (C := RX12) (T := TX12) (N := 48) hx hb hg inC12 hown hK hP 0 rfl rfl 18 (by decide) (hg _ wt5_178) (fun _ h9 => h9) rfl dX12_splits_224 ?_
                          refine k_top (z := tk) etk.symm ?_
                          refine va_iald hx hb hK hP 10 0 rfl rfl (kb_in b8 (by decide) (by decide)) dX12_splits_227 ?_
                          refine k_top (z := t78) et78.symm ?_
                          refine lv_imul hx hb dX12_splits_228 ?_
                          refine lv_topi (fun t82 et82 => ?_)
                          refine lv_aload_n hx hb dX12_splits_229 rfl (lv_at hl 4 rfl) ?_
                          refine va_get (D := D) (ci := 12) (v := .ref (r 11)) (C := RX12) (T := TX12) (N := 48) hx hb hg inC12 hown hK hP 0 rfl rfl 11 (by decide) (hg _ wt5_171) (fun _ h9 => h9) rfl dX12_splits_230 ?_
                          refine lv_iload hx hb dX12_splits_233 (lv_at hl 0 rfl) ?_
                          refine va_bald hx hb hK hP 7 1 rfl rfl (kb_in b67 (by decide) (by decide)) dX12_splits_235 ?_
                          refine lv_topi (fun t83 et83 => ?_)
                          refine lv_iadd hx hb dX12_splits_236 ?_
                          refine lv_topi (fun t84 et84 => ?_)
                          refine lv_bipush (v := 48) hx hb dX12_splits_237 (by decide) ?_
                          refine lv_isub hx hb dX12_splits_239 ?_
                          refine lv_topi (fun t85 et85 => ?_)
                          refine va_iast hx hb hK hP hD hS 10 0 rfl rfl (kb_in b8 (by decide) (by decide)) dX12_splits_240 (fun H locs hP hD hS => ?_)
                          have hP : va_P D vwCl (mW K o r F3 (va_up B55 16 (upd (B55 16) tk.toNatClampNeg t85)) g) H := hP
                          have hD : va_D A (mW K o r F3 (va_up B55 16 (upd (B55 16) tk.toNatClampNeg t85)) g) := hD
                          refine k_gen (P := fun z => va_P D vwCl (mW K o r F3 z g) H ∧ va_D A (mW K o r F3 z g) ∧ (mI F3 z) ∧ (mE (XR []) f a F3 z) ∧ (fE [18] f F3)) (va_up B55 16 (upd (B55 16) tk.toNatClampNeg t85)) ⟨hP, hD, (mI_s hI (aI_free hI.2.1 16 _ (fun j => ⟨by show (mBa 16 j).1 ≤ _; exact Int.le_refl _, by show _ ≤ (mBa 16 j).2; exact Int.le_refl _⟩)) (by decide) (by decide)), (mE_s hE (by decide) (by decide) (by decide) (by decide)), hk0⟩ (fun a_86 ea_86 hq => ?_)
                          obtain ⟨hP, hD, hI, hE, hk0⟩ := hq
                          obtain ⟨t87, et87⟩ : ∃ z : Int32, z = y54 + Int32.ofInt 1 := ⟨_, rfl⟩
                          have qt87 : t87.toInt = y54.toInt + 1 := by rw [et87]; exact km_inc b67 (by decide) (by decide)
                          have b88 : kb 1 t87 400 := kb_inc (k := 1) qt87 b67
                          refine lv_iinc (v := t87) (lv' := [(5, .int t87), (4, .int t19), (3, .int t17), (2, .int y2), (0, .ref o), (1, .int x)]) hx hb dX12_splits_241 hl (k := 0) rfl et87.symm (by decide) rfl (fun ls hl => ?_)
                          refine lv_goto (tgt := 169) hx hb dX12_splits_244 (by decide) ?_
                          exact ihlp56  a_86 _ _ _ t87 (km_up hmlp56 qt87) hI hE hk0 (kb_w b88 (by decide) (by decide)) hP hD hS (lv_sub hl [0, 1, 2, 3, 4, 5] rfl)
                        · have h89 := (kc_nle c79)
                          have b90 : kb 1000001 t78 2147483647 := kr_lt2 h89 kc_1000000 (kb_any t78) (by decide)
                          refine lv_aload_n hx hb dX12_splits_205 rfl (lv_at hl 4 rfl) ?_
                          refine va_get (D := D) (ci := 12) (v := .ref (r 16)) (C := RX12) (T := TX12) (N := 48) hx hb hg inC12 hown hK hP 0 rfl rfl 16 (by decide) (hg _ wt5_176) (fun _ h9 => h9) rfl dX12_splits_206 ?_
                          refine lv_aload_n hx hb dX12_splits_209 rfl (lv_at hl 4 rfl) ?_
                          refine va_get (D := D) (ci := 12) (v := .int (F3 18)) (C := RX12) (T := TX12) (N := 48) hx hb hg inC12 hown hK hP 0 rfl rfl 18 (by decide) (hg _ wt5_178) (fun _ h9 => h9) rfl dX12_splits_210 ?_
                          refine k_top (z := tk) etk.symm ?_
                          refine va_iald hx hb hK hP 10 0 rfl rfl (kb_in b8 (by decide) (by decide)) dX12_splits_213 ?_
                          refine k_top (z := t78) et78.symm ?_
                          refine lv_goto (tgt := 240) hx hb dX12_splits_214 (by decide) ?_
                          refine va_iast hx hb hK hP hD hS 10 0 rfl rfl (kb_in b8 (by decide) (by decide)) dX12_splits_240 (fun H locs hP hD hS => ?_)
                          have hP : va_P D vwCl (mW K o r F3 (va_up B55 16 (upd (B55 16) tk.toNatClampNeg t78)) g) H := hP
                          have hD : va_D A (mW K o r F3 (va_up B55 16 (upd (B55 16) tk.toNatClampNeg t78)) g) := hD
                          refine k_gen (P := fun z => va_P D vwCl (mW K o r F3 z g) H ∧ va_D A (mW K o r F3 z g) ∧ (mI F3 z) ∧ (mE (XR []) f a F3 z) ∧ (fE [18] f F3)) (va_up B55 16 (upd (B55 16) tk.toNatClampNeg t78)) ⟨hP, hD, (mI_s hI (aI_free hI.2.1 16 _ (fun j => ⟨by show (mBa 16 j).1 ≤ _; exact Int.le_refl _, by show _ ≤ (mBa 16 j).2; exact Int.le_refl _⟩)) (by decide) (by decide)), (mE_s hE (by decide) (by decide) (by decide) (by decide)), hk0⟩ (fun a_91 ea_91 hq => ?_)
                          obtain ⟨hP, hD, hI, hE, hk0⟩ := hq
                          obtain ⟨t92, et92⟩ : ∃ z : Int32, z = y54 + Int32.ofInt 1 := ⟨_, rfl⟩
                          have qt92 : t92.toInt = y54.toInt + 1 := by rw [et92]; exact km_inc b67 (by decide) (by decide)
                          have b93 : kb 1 t92 400 := kb_inc (k := 1) qt92 b67
                          refine lv_iinc (v := t92) (lv' := [(5, .int t92), (4, .int t19), (3, .int t17), (2, .int y2), (0, .ref o), (1, .int x)]) hx hb dX12_splits_241 hl (k := 0) rfl et92.symm (by decide) rfl (fun ls hl => ?_)
                          refine lv_goto (tgt := 169) hx hb dX12_splits_244 (by decide) ?_
                          exact ihlp56  a_91 _ _ _ t92 (km_up hmlp56 qt92) hI hE hk0 (kb_w b93 (by decide) (by decide)) hP hD hS (lv_sub hl [0, 1, 2, 3, 4, 5] rfl)
                exact lp56 (401)  a_53 _ _ _ y2 (by have h1 := (b15); unfold kb at h1; omega) hI hE hk0 (kb_w b15 (by decide) (by decide)) hP hD hS (lv_sub hl [0, 1, 2, 3, 4, 5] rfl)
              refine lv_if_eq (tgt := 145) hx hb dX12_splits_132 (by decide) (fun c94 => ?_) (fun c94 => ?_)
              · have b95 : kb 0 v34 0 := kb_eq c94 kc_0
                refine lv_iload_n hx hb dX12_splits_145 rfl (lv_at hl 1 rfl) ?_
                refine kN.callS (As := [.int t17]) (rest := [.int tk, .ref (r 15)]) ⟨hx, hb, hml, hown, hg⟩ (m_isDigit l t17 ) (va_cwS 1 hg (kgS wt6_184 wt6_185 wt1_14 wt6_186) rfl rfl rfl (by decide +kernel) ⟨by decide, by decide⟩) hP hS rfl hl.1 rfl (Nat.le_of_ble_eq_true rfl) dX12_splits_146 ⟨Nat.le_refl _, Nat.le_refl _⟩ (fun v97 H locs hw96 hP hS => ?_)
                refine lv_if_eq (tgt := 157) hx hb dX12_splits_149 (by decide) (fun c99 => ?_) (fun c99 => ?_)
                · have b100 : kb 0 v97 0 := kb_eq c99 kc_0
                  refine lv_bipush (v := 100) hx hb dX12_splits_157 (by decide) ?_
                  refine lv_iload_n hx hb dX12_splits_159 rfl (lv_at hl 1 rfl) ?_
                  refine lv_sipush (v := 255) hx hb dX12_splits_160 (by decide) ?_
                  refine lv_iand hx hb dX12_splits_163 ?_
                  refine lv_topi (fun t101 et101 => ?_)
                  have b102 : kb 0 t101 255 := kb_eq et101 (kb_and 8 (by decide) (by decide))
                  refine lv_iadd hx hb dX12_splits_164 ?_
                  refine lv_topi (fun t103 et103 => ?_)
                  have b104 : kb 100 t103 355 := kb_eq et103 (kb_add kc_100 b102 (by decide) (by decide))
                  have qt103 : t103.toInt = 100 + t101.toInt := by rw [et103]; exact kt_cadd kc_100 b102 (by decide) (by decide)
                  exact jn52 _ _ _ t103  hP hD hS (lv_sub hl [0, 1, 2, 3, 4] rfl)
                · have b105 : kb 1 v97 1 := kr_nel c99 hw96 kc_0 (by decide)
                  refine lv_bipush (v := 50) hx hb dX12_splits_152 (by decide) ?_
                  refine lv_goto (tgt := 165) hx hb dX12_splits_154 (by decide) ?_
                  exact jn52 _ _ _ 50  hP hD hS (lv_sub hl [0, 1, 2, 3, 4] rfl)
              · have b106 : kb 1 v34 1 := kr_nel c94 hw33 kc_0 (by decide)
                refine lv_aload_n hx hb dX12_splits_135 rfl (lv_at hl 3 rfl) ?_
                refine lv_iload_n hx hb dX12_splits_136 rfl (lv_at hl 2 rfl) ?_
                refine lv_iload hx hb dX12_splits_137 (lv_at hl 0 rfl) ?_
                refine kI.callV (As := [.int y2, .int t19]) (rest := [.int tk, .ref (r 15)]) ⟨hx, hb, hml, hown, hg⟩ (m_wordOf l o r F3 a_32 g hI y2 t19 (kb_w b15 (by decide) (by decide)) (kb_w b20 (by decide) (by decide)) ) (cwV 2 hg (kgV wt6_187 wt6_189 wp4_3 wt1_14 wt6_190) rfl rfl rfl (by decide +kernel) ⟨by decide, by decide⟩) hK hP hD hS hA mIs [] rfl (wr := []) rfl rfl rfl (fun i h => by cases h) 0 12 rfl rfl rfl hl.1 rfl (Nat.le_of_ble_eq_true rfl) dX12_splits_139 ⟨Nat.le_refl _, Nat.le_refl _⟩ (fun v108 u109 H locs hw107 hP hD hS => ?_)
                have hP : va_P D vwCl (mW K o r F3 a_32 g) H := hP
                have hD : va_D A (mW K o r F3 a_32 g) := hD
                refine lv_goto (tgt := 165) hx hb dX12_splits_142 (by decide) ?_
                exact jn52 _ _ _ v108  hP hD hS (lv_sub hl [0, 1, 2, 3, 4] rfl)
            · have b110 : kb 1 v27 1 := kr_nel c29 hw26 kc_0 (by decide)
              have lp112 : ∀ (n113 : Nat) (H : Heap) (locs : List Loc) (ls : Array Slot) (y111 : Int32), (400 < y111.toInt + (n113 : Int)) → (kb 1 y111 400) → (y2.toInt + 1 ≤ y111.toInt) → va_P D vwCl (mW K o r F3 B4 g) H → va_D A (mW K o r F3 B4 g) → va_S A s.heap H locs → lv_has ls 6 [(4, .int y111), (3, .int t17), (2, .int y2), (0, .ref o), (1, .int x)] → W p l e (rmD 2 0 0) s m ([.ref o, .int x] : List Value).toArray below meth c H locs 0 0 (kQv D (tysK K) (fun (u : mS) => mI u.1 u.2.1 ∧ mE (XR []) f a u.1 u.2.1 ∧ fE [18] f u.1 ∧ (∃ N : Nat, (u.1 18).toInt = (N : Int) ∧ N ≤ 400 ∧ u.2.1 15 N = 0)) (fun u => mW K o r u.1 u.2.1 u.2.2) A below ([.ref o, .int x] : List Value).toArray s 0 0) (F0 m 75 ls []) := by
                intro n113
                induction n113 with
                | zero =>
                  intro   H locs ls y111 hmlp112 b114 hvlp112_0 hP hD hS hl
                  exact (by have h1 := b114.2; have h2 := hmlp112; omega : False).elim
                | succ n113 ihlp112 =>
                  intro   H locs ls y111 hmlp112 b114 hvlp112_0 hP hD hS hl
                  refine lv_iload hx hb dX12_splits_75 (lv_at hl 0 rfl) ?_
                  refine lv_iload_n hx hb dX12_splits_77 rfl (lv_at hl 4 rfl) ?_
                  refine lv_icmp_ge (tgt := 100) hx hb dX12_splits_78 (by decide) (fun c115 => ?_) (fun c115 => ?_)
                  · have h116 := (kc_le c115)
                    refine lv_aload_n hx hb dX12_splits_100 rfl (lv_at hl 3 rfl) ?_
                    refine va_get (D := D) (ci := 12) (v := .ref (r 17)) (C := RX12) (T := TX12) (N := 48) hx hb hg inC12 hown hK hP 0 rfl rfl 17 (by decide) (hg _ wt5_177) (fun _ h9 => h9) rfl dX12_splits_101 ?_
                    refine lv_aload_n hx hb dX12_splits_104 rfl (lv_at hl 3 rfl) ?_
                    refine va_get (D := D) (ci := 12) (v := .int (F3 18)) (C := RX12) (T := TX12) (N := 48) hx hb hg inC12 hown hK hP 0 rfl rfl 18 (by decide) (hg _ wt5_178) (fun _ h9 => h9) rfl dX12_splits_105 ?_
                    refine k_top (z := tk) etk.symm ?_
                    refine lv_iload_n hx hb dX12_splits_108 rfl (lv_at hl 2 rfl) ?_
                    refine va_iast hx hb hK hP hD hS 11 0 rfl rfl (kb_in b8 (by decide) (by decide)) dX12_splits_109 (fun H locs hP hD hS => ?_)
                    have hP : va_P D vwCl (mW K o r F3 (va_up B4 17 (upd (B4 17) tk.toNatClampNeg y2)) g) H := hP
                    have hD : va_D A (mW K o r F3 (va_up B4 17 (upd (B4 17) tk.toNatClampNeg y2)) g) := hD
                    refine k_gen (P := fun z => va_P D vwCl (mW K o r F3 z g) H ∧ va_D A (mW K o r F3 z g) ∧ (mI F3 z) ∧ (mE (XR []) f a F3 z) ∧ (fE [18] f F3)) (va_up B4 17 (upd (B4 17) tk.toNatClampNeg y2)) ⟨hP, hD, (mI_s hI (aI_sx hI.2.1 17 0 401 b8 (by decide) (by decide) b15 (by decide +kernel)) (by decide) (by decide)), (mE_s hE (by decide) (by decide) (by decide) (by decide)), hk0⟩ (fun a_117 ea_117 hq => ?_)
                    obtain ⟨hP, hD, hI, hE, hk0⟩ := hq
                    refine lv_aload_n hx hb dX12_splits_110 rfl (lv_at hl 3 rfl) ?_
                    refine va_get (D := D) (ci := 12) (v := .ref (r 16)) (C := RX12) (T := TX12) (N := 48) hx hb hg inC12 hown hK hP 0 rfl rfl 16 (by decide) (hg _ wt5_176) (fun _ h9 => h9) rfl dX12_splits_111 ?_
                    refine lv_aload_n hx hb dX12_splits_114 rfl (lv_at hl 3 rfl) ?_
                    refine va_get (D := D) (ci := 12) (v := .int (F3 18)) (C := RX12) (T := TX12) (N := 48) hx hb hg inC12 hown hK hP 0 rfl rfl 18 (by decide) (hg _ wt5_178) (fun _ h9 => h9) rfl dX12_splits_115 ?_
                    refine k_top (z := tk) etk.symm ?_
                    refine lv_iconst (v := 0) hx hb dX12_splits_118 (by decide) ?_
                    refine va_iast hx hb hK hP hD hS 10 0 rfl rfl (kb_in b8 (by decide) (by decide)) dX12_splits_119 (fun H locs hP hD hS => ?_)
                    have hP : va_P D vwCl (mW K o r F3 (va_up a_117 16 (upd (a_117 16) tk.toNatClampNeg 0)) g) H := hP
                    have hD : va_D A (mW K o r F3 (va_up a_117 16 (upd (a_117 16) tk.toNatClampNeg 0)) g) := hD
                    refine k_gen (P := fun z => va_P D vwCl (mW K o r F3 z g) H ∧ va_D A (mW K o r F3 z g) ∧ (mI F3 z) ∧ (mE (XR []) f a F3 z) ∧ (fE [18] f F3)) (va_up a_117 16 (upd (a_117 16) tk.toNatClampNeg 0)) ⟨hP, hD, (mI_s hI (aI_free hI.2.1 16 _ (fun j => ⟨by show (mBa 16 j).1 ≤ _; exact Int.le_refl _, by show _ ≤ (mBa 16 j).2; exact Int.le_refl _⟩)) (by decide) (by decide)), (mE_s hE (by decide) (by decide) (by decide) (by decide)), hk0⟩ (fun a_118 ea_118 hq => ?_)
                    obtain ⟨hP, hD, hI, hE, hk0⟩ := hq
                    refine lv_aload_n hx hb dX12_splits_120 rfl (lv_at hl 3 rfl) ?_
                    refine va_get (D := D) (ci := 12) (v := .ref (r 15)) (C := RX12) (T := TX12) (N := 48) hx hb hg inC12 hown hK hP 0 rfl rfl 15 (by decide) (hg _ wt5_175) (fun _ h9 => h9) rfl dX12_splits_121 ?_
                    refine lv_aload_n hx hb dX12_splits_124 rfl (lv_at hl 3 rfl) ?_
                    refine va_get (D := D) (ci := 12) (v := .int (F3 18)) (C := RX12) (T := TX12) (N := 48) hx hb hg inC12 hown hK hP 0 rfl rfl 18 (by decide) (hg _ wt5_178) (fun _ h9 => h9) rfl dX12_splits_125 ?_
                    refine k_top (z := tk) etk.symm ?_
                    refine lv_iload_n hx hb dX12_splits_128 rfl (lv_at hl 1 rfl) ?_
                    refine kN.callS (As := [.int t17]) (rest := [.int tk, .ref (r 15)]) ⟨hx, hb, hml, hown, hg⟩ (m_isSmall l t17 ) (va_cwS 1 hg (kgS wt6_181 wt6_182 wt1_14 wt6_183) rfl rfl rfl (by decide +kernel) ⟨by decide, by decide⟩) hP hS rfl hl.1 rfl (Nat.le_of_ble_eq_true rfl) dX12_splits_129 ⟨Nat.le_refl _, Nat.le_refl _⟩ (fun v120 H locs hw119 hP hS => ?_)
                    have jn138 : ∀ (H : Heap) (locs : List Loc) (ls : Array Slot) (z137 : Int32), va_P D vwCl (mW K o r F3 a_118 g) H → va_D A (mW K o r F3 a_118 g) → va_S A s.heap H locs → lv_has ls 6 [(4, .int y111), (3, .int t17), (2, .int y2), (0, .ref o), (1, .int x)] → W p l e (rmD 2 0 0) s m ([.ref o, .int x] : List Value).toArray below meth c H locs 0 0 (kQv D (tysK K) (fun (u : mS) => mI u.1 u.2.1 ∧ mE (XR []) f a u.1 u.2.1 ∧ fE [18] f u.1 ∧ (∃ N : Nat, (u.1 18).toInt = (N : Int) ∧ N ≤ 400 ∧ u.2.1 15 N = 0)) (fun u => mW K o r u.1 u.2.1 u.2.2) A below ([.ref o, .int x] : List Value).toArray s 0 0) (F0 m 165 ls [.int z137, .int tk, .ref (r 15)]) := by
                      intro  H locs ls z137  hP hD hS hl
                      refine va_iast hx hb hK hP hD hS 9 0 rfl rfl (kb_in b8 (by decide) (by decide)) dX12_splits_165 (fun H locs hP hD hS => ?_)
                      have hP : va_P D vwCl (mW K o r F3 (va_up a_118 15 (upd (a_118 15) tk.toNatClampNeg z137)) g) H := hP
                      have hD : va_D A (mW K o r F3 (va_up a_118 15 (upd (a_118 15) tk.toNatClampNeg z137)) g) := hD
                      refine k_gen (P := fun z => va_P D vwCl (mW K o r F3 z g) H ∧ va_D A (mW K o r F3 z g) ∧ (mI F3 z) ∧ (mE (XR []) f a F3 z) ∧ (fE [18] f F3)) (va_up a_118 15 (upd (a_118 15) tk.toNatClampNeg z137)) ⟨hP, hD, (mI_s hI (aI_free hI.2.1 15 _ (fun j => ⟨by show (mBa 15 j).1 ≤ _; exact Int.le_refl _, by show _ ≤ (mBa 15 j).2; exact Int.le_refl _⟩)) (by decide) (by decide)), (mE_s hE (by decide) (by decide) (by decide) (by decide)), hk0⟩ (fun a_139 ea_139 hq => ?_)
                      obtain ⟨hP, hD, hI, hE, hk0⟩ := hq
                      refine lv_iload_n hx hb dX12_splits_166 rfl (lv_at hl 2 rfl) ?_
                      refine lv_istore (lv' := [(5, .int y2), (4, .int y111), (3, .int t17), (2, .int y2), (0, .ref o), (1, .int x)]) hx hb dX12_splits_167 hl (by decide) rfl (fun ls hl => ?_)
                      have lp142 : ∀ (n143 : Nat) (B141 : Nat → Nat → Int32) (H : Heap) (locs : List Loc) (ls : Array Slot) (y140 : Int32), (400 < y140.toInt + (n143 : Int)) → (mI F3 B141) → (mE (XR []) f a F3 B141) → (fE [18] f F3) → (kb 0 y140 400) → va_P D vwCl (mW K o r F3 B141 g) H → va_D A (mW K o r F3 B141 g) → va_S A s.heap H locs → lv_has ls 6 [(5, .int y140), (4, .int y111), (3, .int t17), (2, .int y2), (0, .ref o), (1, .int x)] → W p l e (rmD 2 0 0) s m ([.ref o, .int x] : List Value).toArray below meth c H locs 0 0 (kQv D (tysK K) (fun (u : mS) => mI u.1 u.2.1 ∧ mE (XR []) f a u.1 u.2.1 ∧ fE [18] f u.1 ∧ (∃ N : Nat, (u.1 18).toInt = (N : Int) ∧ N ≤ 400 ∧ u.2.1 15 N = 0)) (fun u => mW K o r u.1 u.2.1 u.2.2) A below ([.ref o, .int x] : List Value).toArray s 0 0) (F0 m 169 ls []) := by
                        intro n143
                        induction n143 with
                        | zero =>
                          intro  B141  H locs ls y140 hmlp142 hI hE hk0 b144 hP hD hS hl
                          exact (by have h1 := b144.2; have h2 := hmlp142; omega : False).elim
                        | succ n143 ihlp142 =>
                          intro  B141  H locs ls y140 hmlp142 hI hE hk0 b144 hP hD hS hl
                          refine lv_iload hx hb dX12_splits_169 (lv_at hl 0 rfl) ?_
                          refine lv_iload hx hb dX12_splits_171 (lv_at hl 1 rfl) ?_
                          refine lv_icmp_ge (tgt := 247) hx hb dX12_splits_173 (by decide) (fun c145 => ?_) (fun c145 => ?_)
                          · have h146 := (kc_le c145)
                            have b147 : kb 1 y140 400 := kr_le2 h146 b114 b144
                            refine lv_aload_n hx hb dX12_splits_247 rfl (lv_at hl 4 rfl) ?_
                            refine lv_dup hx hb dX12_splits_248 rfl ?_
                            refine va_get (D := D) (ci := 12) (v := .int (F3 18)) (C := RX12) (T := TX12) (N := 48) hx hb hg inC12 hown hK hP 0 rfl rfl 18 (by decide) (hg _ wt5_178) (fun _ h9 => h9) rfl dX12_splits_249 ?_
                            refine k_top (z := tk) etk.symm ?_
                            have b148 : kb 0 tk 399 := ⟨(b8).1, by have w1 := htk; have w2 := (b15).2; omega⟩
                            refine lv_iconst (v := 1) hx hb dX12_splits_252 (by decide) ?_
                            refine lv_iadd hx hb dX12_splits_253 ?_
                            refine lv_topi (fun t149 et149 => ?_)
                            have b150 : kb 1 t149 400 := kb_eq et149 (kb_add b148 kc_1 (by decide) (by decide))
                            have qt149 : t149.toInt = tk.toInt + 1 := by rw [et149]; exact kt_addc b148 kc_1 (by decide) (by decide)
                            refine va_put (D := D) (ci := 12) (v := .int t149) (ty := .int) (C := RX12) (T := TX12) (N := 48) hx hb hg inC12 tyX12 tyX12_ok nmX12 hown hK hP hD hS 0 rfl rfl 18 (by decide) (hg _ wt5_178) (fun _ h9 => h9) rfl (by decide +kernel) rfl rfl (Nat.le_of_ble_eq_true rfl) dX12_splits_254 (fun H locs hP hD hS => ?_)
                            have hP : va_P D vwCl (mW K o r (upd F3 18 t149) B141 g) H := hP
                            have hD : va_D A (mW K o r (upd F3 18 t149) B141 g) := hD
                            refine k_gen (P := fun z => va_P D vwCl (mW K o r z B141 g) H ∧ va_D A (mW K o r z B141 g) ∧ (mI z B141) ∧ (mE (XR []) f a z B141) ∧ (fE [18] f z)) (upd F3 18 t149) ⟨hP, hD, (mI_f hI (fI_st hI.1 18 b150 (by decide) (by decide))), (mE_f hE (by decide)), (fE_f hk0 (by decide))⟩ (fun f_151 ef_151 hq => ?_)
                            obtain ⟨hP, hD, hI, hE, hk0⟩ := hq
                            refine lv_iload hx hb dX12_splits_257 (lv_at hl 1 rfl) ?_
                            refine lv_istore_n (lv' := [(2, .int y111), (5, .int y140), (4, .int y111), (3, .int t17), (0, .ref o), (1, .int x)]) hx hb dX12_splits_259 rfl hl (by decide) rfl (fun ls hl => ?_)
                            refine lv_goto (tgt := 7) hx hb dX12_splits_260 (by decide) ?_
                            exact ihlp5  f_151 B141 _ _ _ y111 (by omega) hI hE hk0 (kb_w b114 (by decide) (by decide)) (by rw [(show f_151 18 = t149 from by rw [← ef_151]; rfl)]; omega) hP hD hS (lv_sub hl [0, 4, 5] rfl)
                          · have h152 := (kc_nle c145)
                            have b153 : kb 0 y140 399 := kr_lt1 h152 b144 b114 (by decide)
                            refine lv_iload_n hx hb dX12_splits_176 rfl (lv_at hl 2 rfl) ?_
                            refine kN.callS (As := [.int t17]) (rest := []) ⟨hx, hb, hml, hown, hg⟩ (m_isDigit l t17 ) (va_cwS 1 hg (kgS wt6_184 wt6_185 wt1_14 wt6_186) rfl rfl rfl (by decide +kernel) ⟨by decide, by decide⟩) hP hS rfl hl.1 rfl (Nat.le_of_ble_eq_true rfl) dX12_splits_177 ⟨Nat.le_refl _, Nat.le_refl _⟩ (fun v155 H locs hw154 hP hS => ?_)
                            refine lv_if_eq (tgt := 247) hx hb dX12_splits_180 (by decide) (fun c157 => ?_) (fun c157 => ?_)
                            · have b158 : kb 0 v155 0 := kb_eq c157 kc_0
                              refine lv_aload_n hx hb dX12_splits_247 rfl (lv_at hl 4 rfl) ?_
                              refine lv_dup hx hb dX12_splits_248 rfl ?_
                              refine va_get (D := D) (ci := 12) (v := .int (F3 18)) (C := RX12) (T := TX12) (N := 48) hx hb hg inC12 hown hK hP 0 rfl rfl 18 (by decide) (hg _ wt5_178) (fun _ h9 => h9) rfl dX12_splits_249 ?_
                              refine k_top (z := tk) etk.symm ?_
                              have b159 : kb 0 tk 399 := ⟨(b8).1, by have w1 := htk; have w2 := (b15).2; omega⟩
                              refine lv_iconst (v := 1) hx hb dX12_splits_252 (by decide) ?_
                              refine lv_iadd hx hb dX12_splits_253 ?_
                              refine lv_topi (fun t160 et160 => ?_)
                              have b161 : kb 1 t160 400 := kb_eq et160 (kb_add b159 kc_1 (by decide) (by decide))
                              have qt160 : t160.toInt = tk.toInt + 1 := by rw [et160]; exact kt_addc b159 kc_1 (by decide) (by decide)
                              refine va_put (D := D) (ci := 12) (v := .int t160) (ty := .int) (C := RX12) (T := TX12) (N := 48) hx hb hg inC12 tyX12 tyX12_ok nmX12 hown hK hP hD hS 0 rfl rfl 18 (by decide) (hg _ wt5_178) (fun _ h9 => h9) rfl (by decide +kernel) rfl rfl (Nat.le_of_ble_eq_true rfl) dX12_splits_254 (fun H locs hP hD hS => ?_)
                              have hP : va_P D vwCl (mW K o r (upd F3 18 t160) B141 g) H := hP
                              have hD : va_D A (mW K o r (upd F3 18 t160) B141 g) := hD
                              refine k_gen (P := fun z => va_P D vwCl (mW K o r z B141 g) H ∧ va_D A (mW K o r z B141 g) ∧ (mI z B141) ∧ (mE (XR []) f a z B141) ∧ (fE [18] f z)) (upd F3 18 t160) ⟨hP, hD, (mI_f hI (fI_st hI.1 18 b161 (by decide) (by decide))), (mE_f hE (by decide)), (fE_f hk0 (by decide))⟩ (fun f_162 ef_162 hq => ?_)
                              obtain ⟨hP, hD, hI, hE, hk0⟩ := hq
                              refine lv_iload hx hb dX12_splits_257 (lv_at hl 1 rfl) ?_
                              refine lv_istore_n (lv' := [(2, .int y111), (5, .int y140), (4, .int y111), (3, .int t17), (0, .ref o), (1, .int x)]) hx hb dX12_splits_259 rfl hl (by decide) rfl (fun ls hl => ?_)
                              refine lv_goto (tgt := 7) hx hb dX12_splits_260 (by decide) ?_
                              exact ihlp5  f_162 B141 _ _ _ y111 (by omega) hI hE hk0 (kb_w b114 (by decide) (by decide)) (by rw [(show f_162 18 = t160 from by rw [← ef_162]; rfl)]; omega) hP hD hS (lv_sub hl [0, 4, 5] rfl)
                            · have b163 : kb 1 v155 1 := kr_nel c157 hw154 kc_0 (by decide)
                              refine lv_aload_n hx hb dX12_splits_183 rfl (lv_at hl 4 rfl) ?_
                              refine va_get (D := D) (ci := 12) (v := .ref (r 16)) (C := RX12) (T := TX12) (N := 48) hx hb hg inC12 hown hK hP 0 rfl rfl 16 (by decide) (hg _ wt5_176) (fun _ h9 => h9) rfl dX12_splits_184 ?_
                              refine lv_aload_n hx hb dX12_splits_187 rfl (lv_at hl 4 rfl) ?_
                              refine va_get (D := D) (ci := 12) (v := .int (F3 18)) (C := RX12) (T := TX12) (N := 48) hx hb hg inC12 hown hK hP 0 rfl rfl 18 (by decide) (hg _ wt5_178) (fun _ h9 => h9) rfl dX12_splits_188 ?_
                              refine k_top (z := tk) etk.symm ?_
                              refine lv_aload_n hx hb dX12_splits_191 rfl (lv_at hl 4 rfl) ?_
                              refine va_get (D := D) (ci := 12) (v := .ref (r 16)) (C := RX12) (T := TX12) (N := 48) hx hb hg inC12 hown hK hP 0 rfl rfl 16 (by decide) (hg _ wt5_176) (fun _ h9 => h9) rfl dX12_splits_192 ?_
                              refine lv_aload_n hx hb dX12_splits_195 rfl (lv_at hl 4 rfl) ?_
                              refine va_get (D := D) (ci := 12) (v := .int (F3 18)) (C := RX12) (T := TX12) (N := 48) hx hb hg inC12 hown hK hP 0 rfl rfl 18 (by decide) (hg _ wt5_178) (fun _ h9 => h9) rfl dX12_splits_196 ?_
                              refine k_top (z := tk) etk.symm ?_
                              refine va_iald hx hb hK hP 10 0 rfl rfl (kb_in b8 (by decide) (by decide)) dX12_splits_199 ?_
                              refine lv_topi (fun t164 et164 => ?_)
                              refine lv_ldc (v := (1000000)) hx hb hown (hg _ wt6_191) dX12_splits_200 ?_
                              refine lv_icmp_le (tgt := 217) hx hb dX12_splits_202 (by decide) (fun c165 => ?_) (fun c165 => ?_)
                              · have h166 := (kc_le c165)
                                have b167 : kb (-2147483648) t164 1000000 := kr_le1 h166 (kb_any t164) kc_1000000
                                refine lv_bipush (v := 10) hx hb dX12_splits_217 (by decide) ?_
                                refine lv_aload_n hx hb dX12_splits_219 rfl (lv_at hl 4 rfl) ?_
                                refine va_get (D := D) (ci := 12) (v := .ref (r 16)) (C := RX12) (T := TX12) (N := 48) hx hb hg inC12 hown hK hP 0 rfl rfl 16 (by decide) (hg _ wt5_176) (fun _ h9 => h9) rfl dX12_splits_220 ?_
                                refine lv_aload_n hx hb dX12_splits_223 rfl (lv_at hl 4 rfl) ?_
                                refine va_get (D := D) (ci := 12) (v := .int (F3 18)) (C := RX12) (T := TX12) (N := 48) hx hb hg inC12 hown hK hP 0 rfl rfl 18 (by decide) (hg _ wt5_178) (fun _ h9 => h9) rfl dX12_splits_224 ?_
                                refine k_top (z := tk) etk.symm ?_
                                refine va_iald hx hb hK hP 10 0 rfl rfl (kb_in b8 (by decide) (by decide)) dX12_splits_227 ?_
                                refine k_top (z := t164) et164.symm ?_
                                refine lv_imul hx hb dX12_splits_228 ?_
                                refine lv_topi (fun t168 et168 => ?_)
                                refine lv_aload_n hx hb dX12_splits_229 rfl (lv_at hl 4 rfl) ?_
                                refine va_get (D := D) (ci := 12) (v := .ref (r 11)) (C := RX12) (T := TX12) (N := 48) hx hb hg inC12 hown hK hP 0 rfl rfl 11 (by decide) (hg _ wt5_171) (fun _ h9 => h9) rfl dX12_splits_230 ?_
                                refine lv_iload hx hb dX12_splits_233 (lv_at hl 0 rfl) ?_
                                refine va_bald hx hb hK hP 7 1 rfl rfl (kb_in b153 (by decide) (by decide)) dX12_splits_235 ?_
                                refine lv_topi (fun t169 et169 => ?_)
                                refine lv_iadd hx hb dX12_splits_236 ?_
                                refine lv_topi (fun t170 et170 => ?_)
                                refine lv_bipush (v := 48) hx hb dX12_splits_237 (by decide) ?_
                                refine lv_isub hx hb dX12_splits_239 ?_
                                refine lv_topi (fun t171 et171 => ?_)
                                refine va_iast hx hb hK hP hD hS 10 0 rfl rfl (kb_in b8 (by decide) (by decide)) dX12_splits_240 (fun H locs hP hD hS => ?_)
                                have hP : va_P D vwCl (mW K o r F3 (va_up B141 16 (upd (B141 16) tk.toNatClampNeg t171)) g) H := hP
                                have hD : va_D A (mW K o r F3 (va_up B141 16 (upd (B141 16) tk.toNatClampNeg t171)) g) := hD
                                refine k_gen (P := fun z => va_P D vwCl (mW K o r F3 z g) H ∧ va_D A (mW K o r F3 z g) ∧ (mI F3 z) ∧ (mE (XR []) f a F3 z) ∧ (fE [18] f F3)) (va_up B141 16 (upd (B141 16) tk.toNatClampNeg t171)) ⟨hP, hD, (mI_s hI (aI_free hI.2.1 16 _ (fun j => ⟨by show (mBa 16 j).1 ≤ _; exact Int.le_refl _, by show _ ≤ (mBa 16 j).2; exact Int.le_refl _⟩)) (by decide) (by decide)), (mE_s hE (by decide) (by decide) (by decide) (by decide)), hk0⟩ (fun a_172 ea_172 hq => ?_)
                                obtain ⟨hP, hD, hI, hE, hk0⟩ := hq
                                obtain ⟨t173, et173⟩ : ∃ z : Int32, z = y140 + Int32.ofInt 1 := ⟨_, rfl⟩
                                have qt173 : t173.toInt = y140.toInt + 1 := by rw [et173]; exact km_inc b153 (by decide) (by decide)
                                have b174 : kb 1 t173 400 := kb_inc (k := 1) qt173 b153
                                refine lv_iinc (v := t173) (lv' := [(5, .int t173), (4, .int y111), (3, .int t17), (2, .int y2), (0, .ref o), (1, .int x)]) hx hb dX12_splits_241 hl (k := 0) rfl et173.symm (by decide) rfl (fun ls hl => ?_)
                                refine lv_goto (tgt := 169) hx hb dX12_splits_244 (by decide) ?_
                                exact ihlp142  a_172 _ _ _ t173 (km_up hmlp142 qt173) hI hE hk0 (kb_w b174 (by decide) (by decide)) hP hD hS (lv_sub hl [0, 1, 2, 3, 4, 5] rfl)
                              · have h175 := (kc_nle c165)
                                have b176 : kb 1000001 t164 2147483647 := kr_lt2 h175 kc_1000000 (kb_any t164) (by decide)
                                refine lv_aload_n hx hb dX12_splits_205 rfl (lv_at hl 4 rfl) ?_
                                refine va_get (D := D) (ci := 12) (v := .ref (r 16)) (C := RX12) (T := TX12) (N := 48) hx hb hg inC12 hown hK hP 0 rfl rfl 16 (by decide) (hg _ wt5_176) (fun _ h9 => h9) rfl dX12_splits_206 ?_
                                refine lv_aload_n hx hb dX12_splits_209 rfl (lv_at hl 4 rfl) ?_
                                refine va_get (D := D) (ci := 12) (v := .int (F3 18)) (C := RX12) (T := TX12) (N := 48) hx hb hg inC12 hown hK hP 0 rfl rfl 18 (by decide) (hg _ wt5_178) (fun _ h9 => h9) rfl dX12_splits_210 ?_
                                refine k_top (z := tk) etk.symm ?_
                                refine va_iald hx hb hK hP 10 0 rfl rfl (kb_in b8 (by decide) (by decide)) dX12_splits_213 ?_
                                refine k_top (z := t164) et164.symm ?_
                                refine lv_goto (tgt := 240) hx hb dX12_splits_214 (by decide) ?_
                                refine va_iast hx hb hK hP hD hS 10 0 rfl rfl (kb_in b8 (by decide) (by decide)) dX12_splits_240 (fun H locs hP hD hS => ?_)
                                have hP : va_P D vwCl (mW K o r F3 (va_up B141 16 (upd (B141 16) tk.toNatClampNeg t164)) g) H := hP
                                have hD : va_D A (mW K o r F3 (va_up B141 16 (upd (B141 16) tk.toNatClampNeg t164)) g) := hD
                                refine k_gen (P := fun z => va_P D vwCl (mW K o r F3 z g) H ∧ va_D A (mW K o r F3 z g) ∧ (mI F3 z) ∧ (mE (XR []) f a F3 z) ∧ (fE [18] f F3)) (va_up B141 16 (upd (B141 16) tk.toNatClampNeg t164)) ⟨hP, hD, (mI_s hI (aI_free hI.2.1 16 _ (fun j => ⟨by show (mBa 16 j).1 ≤ _; exact Int.le_refl _, by show _ ≤ (mBa 16 j).2; exact Int.le_refl _⟩)) (by decide) (by decide)), (mE_s hE (by decide) (by decide) (by decide) (by decide)), hk0⟩ (fun a_177 ea_177 hq => ?_)
                                obtain ⟨hP, hD, hI, hE, hk0⟩ := hq
                                obtain ⟨t178, et178⟩ : ∃ z : Int32, z = y140 + Int32.ofInt 1 := ⟨_, rfl⟩
                                have qt178 : t178.toInt = y140.toInt + 1 := by rw [et178]; exact km_inc b153 (by decide) (by decide)
                                have b179 : kb 1 t178 400 := kb_inc (k := 1) qt178 b153
                                refine lv_iinc (v := t178) (lv' := [(5, .int t178), (4, .int y111), (3, .int t17), (2, .int y2), (0, .ref o), (1, .int x)]) hx hb dX12_splits_241 hl (k := 0) rfl et178.symm (by decide) rfl (fun ls hl => ?_)
                                refine lv_goto (tgt := 169) hx hb dX12_splits_244 (by decide) ?_
                                exact ihlp142  a_177 _ _ _ t178 (km_up hmlp142 qt178) hI hE hk0 (kb_w b179 (by decide) (by decide)) hP hD hS (lv_sub hl [0, 1, 2, 3, 4, 5] rfl)
                      exact lp142 (401)  a_139 _ _ _ y2 (by have h1 := (b15); unfold kb at h1; omega) hI hE hk0 (kb_w b15 (by decide) (by decide)) hP hD hS (lv_sub hl [0, 1, 2, 3, 4, 5] rfl)
                    refine lv_if_eq (tgt := 145) hx hb dX12_splits_132 (by decide) (fun c180 => ?_) (fun c180 => ?_)
                    · have b181 : kb 0 v120 0 := kb_eq c180 kc_0
                      refine lv_iload_n hx hb dX12_splits_145 rfl (lv_at hl 1 rfl) ?_
                      refine kN.callS (As := [.int t17]) (rest := [.int tk, .ref (r 15)]) ⟨hx, hb, hml, hown, hg⟩ (m_isDigit l t17 ) (va_cwS 1 hg (kgS wt6_184 wt6_185 wt1_14 wt6_186) rfl rfl rfl (by decide +kernel) ⟨by decide, by decide⟩) hP hS rfl hl.1 rfl (Nat.le_of_ble_eq_true rfl) dX12_splits_146 ⟨Nat.le_refl _, Nat.le_refl _⟩ (fun v183 H locs hw182 hP hS => ?_)
                      refine lv_if_eq (tgt := 157) hx hb dX12_splits_149 (by decide) (fun c185 => ?_) (fun c185 => ?_)
                      · have b186 : kb 0 v183 0 := kb_eq c185 kc_0
                        refine lv_bipush (v := 100) hx hb dX12_splits_157 (by decide) ?_
                        refine lv_iload_n hx hb dX12_splits_159 rfl (lv_at hl 1 rfl) ?_
                        refine lv_sipush (v := 255) hx hb dX12_splits_160 (by decide) ?_
                        refine lv_iand hx hb dX12_splits_163 ?_
                        refine lv_topi (fun t187 et187 => ?_)
                        have b188 : kb 0 t187 255 := kb_eq et187 (kb_and 8 (by decide) (by decide))
                        refine lv_iadd hx hb dX12_splits_164 ?_
                        refine lv_topi (fun t189 et189 => ?_)
                        have b190 : kb 100 t189 355 := kb_eq et189 (kb_add kc_100 b188 (by decide) (by decide))
                        have qt189 : t189.toInt = 100 + t187.toInt := by rw [et189]; exact kt_cadd kc_100 b188 (by decide) (by decide)
                        exact jn138 _ _ _ t189  hP hD hS (lv_sub hl [0, 1, 2, 3, 4] rfl)
                      · have b191 : kb 1 v183 1 := kr_nel c185 hw182 kc_0 (by decide)
                        refine lv_bipush (v := 50) hx hb dX12_splits_152 (by decide) ?_
                        refine lv_goto (tgt := 165) hx hb dX12_splits_154 (by decide) ?_
                        exact jn138 _ _ _ 50  hP hD hS (lv_sub hl [0, 1, 2, 3, 4] rfl)
                    · have b192 : kb 1 v120 1 := kr_nel c180 hw119 kc_0 (by decide)
                      refine lv_aload_n hx hb dX12_splits_135 rfl (lv_at hl 3 rfl) ?_
                      refine lv_iload_n hx hb dX12_splits_136 rfl (lv_at hl 2 rfl) ?_
                      refine lv_iload hx hb dX12_splits_137 (lv_at hl 0 rfl) ?_
                      refine kI.callV (As := [.int y2, .int y111]) (rest := [.int tk, .ref (r 15)]) ⟨hx, hb, hml, hown, hg⟩ (m_wordOf l o r F3 a_118 g hI y2 y111 (kb_w b15 (by decide) (by decide)) (kb_w b114 (by decide) (by decide)) ) (cwV 2 hg (kgV wt6_187 wt6_189 wp4_3 wt1_14 wt6_190) rfl rfl rfl (by decide +kernel) ⟨by decide, by decide⟩) hK hP hD hS hA mIs [] rfl (wr := []) rfl rfl rfl (fun i h => by cases h) 0 12 rfl rfl rfl hl.1 rfl (Nat.le_of_ble_eq_true rfl) dX12_splits_139 ⟨Nat.le_refl _, Nat.le_refl _⟩ (fun v194 u195 H locs hw193 hP hD hS => ?_)
                      have hP : va_P D vwCl (mW K o r F3 a_118 g) H := hP
                      have hD : va_D A (mW K o r F3 a_118 g) := hD
                      refine lv_goto (tgt := 165) hx hb dX12_splits_142 (by decide) ?_
                      exact jn138 _ _ _ v194  hP hD hS (lv_sub hl [0, 1, 2, 3, 4] rfl)
                  · have h196 := (kc_nle c115)
                    have b197 : kb 1 y111 399 := kr_lt1 h196 b114 b16 (by decide)
                    have b198 : kb 2 x 400 := kr_lt2 h196 b114 b16 (by decide)
                    refine lv_aload_n hx hb dX12_splits_81 rfl (lv_at hl 3 rfl) ?_
                    refine va_get (D := D) (ci := 12) (v := .ref (r 11)) (C := RX12) (T := TX12) (N := 48) hx hb hg inC12 hown hK hP 0 rfl rfl 11 (by decide) (hg _ wt5_171) (fun _ h9 => h9) rfl dX12_splits_82 ?_
                    refine lv_iload hx hb dX12_splits_85 (lv_at hl 0 rfl) ?_
                    refine va_bald hx hb hK hP 7 1 rfl rfl (kb_in b197 (by decide) (by decide)) dX12_splits_87 ?_
                    refine lv_topi (fun t199 et199 => ?_)
                    refine kN.callS (As := [.int t199]) (rest := []) ⟨hx, hb, hml, hown, hg⟩ (m_isDigit l t199 ) (va_cwS 1 hg (kgS wt6_184 wt6_185 wt1_14 wt6_186) rfl rfl rfl (by decide +kernel) ⟨by decide, by decide⟩) hP hS rfl hl.1 rfl (Nat.le_of_ble_eq_true rfl) dX12_splits_88 ⟨Nat.le_refl _, Nat.le_refl _⟩ (fun v201 H locs hw200 hP hS => ?_)
                    refine lv_if_eq (tgt := 100) hx hb dX12_splits_91 (by decide) (fun c203 => ?_) (fun c203 => ?_)
                    · have b204 : kb 0 v201 0 := kb_eq c203 kc_0
                      refine lv_aload_n hx hb dX12_splits_100 rfl (lv_at hl 3 rfl) ?_
                      refine va_get (D := D) (ci := 12) (v := .ref (r 17)) (C := RX12) (T := TX12) (N := 48) hx hb hg inC12 hown hK hP 0 rfl rfl 17 (by decide) (hg _ wt5_177) (fun _ h9 => h9) rfl dX12_splits_101 ?_
                      refine lv_aload_n hx hb dX12_splits_104 rfl (lv_at hl 3 rfl) ?_
                      refine va_get (D := D) (ci := 12) (v := .int (F3 18)) (C := RX12) (T := TX12) (N := 48) hx hb hg inC12 hown hK hP 0 rfl rfl 18 (by decide) (hg _ wt5_178) (fun _ h9 => h9) rfl dX12_splits_105 ?_
                      refine k_top (z := tk) etk.symm ?_
                      refine lv_iload_n hx hb dX12_splits_108 rfl (lv_at hl 2 rfl) ?_
                      refine va_iast hx hb hK hP hD hS 11 0 rfl rfl (kb_in b8 (by decide) (by decide)) dX12_splits_109 (fun H locs hP hD hS => ?_)
                      have hP : va_P D vwCl (mW K o r F3 (va_up B4 17 (upd (B4 17) tk.toNatClampNeg y2)) g) H := hP
                      have hD : va_D A (mW K o r F3 (va_up B4 17 (upd (B4 17) tk.toNatClampNeg y2)) g) := hD
                      refine k_gen (P := fun z => va_P D vwCl (mW K o r F3 z g) H ∧ va_D A (mW K o r F3 z g) ∧ (mI F3 z) ∧ (mE (XR []) f a F3 z) ∧ (fE [18] f F3)) (va_up B4 17 (upd (B4 17) tk.toNatClampNeg y2)) ⟨hP, hD, (mI_s hI (aI_sx hI.2.1 17 0 401 b8 (by decide) (by decide) b15 (by decide +kernel)) (by decide) (by decide)), (mE_s hE (by decide) (by decide) (by decide) (by decide)), hk0⟩ (fun a_205 ea_205 hq => ?_)
                      obtain ⟨hP, hD, hI, hE, hk0⟩ := hq
                      refine lv_aload_n hx hb dX12_splits_110 rfl (lv_at hl 3 rfl) ?_
                      refine va_get (D := D) (ci := 12) (v := .ref (r 16)) (C := RX12) (T := TX12) (N := 48) hx hb hg inC12 hown hK hP 0 rfl rfl 16 (by decide) (hg _ wt5_176) (fun _ h9 => h9) rfl dX12_splits_111 ?_
                      refine lv_aload_n hx hb dX12_splits_114 rfl (lv_at hl 3 rfl) ?_
                      refine va_get (D := D) (ci := 12) (v := .int (F3 18)) (C := RX12) (T := TX12) (N := 48) hx hb hg inC12 hown hK hP 0 rfl rfl 18 (by decide) (hg _ wt5_178) (fun _ h9 => h9) rfl dX12_splits_115 ?_
                      refine k_top (z := tk) etk.symm ?_
                      refine lv_iconst (v := 0) hx hb dX12_splits_118 (by decide) ?_
                      refine va_iast hx hb hK hP hD hS 10 0 rfl rfl (kb_in b8 (by decide) (by decide)) dX12_splits_119 (fun H locs hP hD hS => ?_)
                      have hP : va_P D vwCl (mW K o r F3 (va_up a_205 16 (upd (a_205 16) tk.toNatClampNeg 0)) g) H := hP
                      have hD : va_D A (mW K o r F3 (va_up a_205 16 (upd (a_205 16) tk.toNatClampNeg 0)) g) := hD
                      refine k_gen (P := fun z => va_P D vwCl (mW K o r F3 z g) H ∧ va_D A (mW K o r F3 z g) ∧ (mI F3 z) ∧ (mE (XR []) f a F3 z) ∧ (fE [18] f F3)) (va_up a_205 16 (upd (a_205 16) tk.toNatClampNeg 0)) ⟨hP, hD, (mI_s hI (aI_free hI.2.1 16 _ (fun j => ⟨by show (mBa 16 j).1 ≤ _; exact Int.le_refl _, by show _ ≤ (mBa 16 j).2; exact Int.le_refl _⟩)) (by decide) (by decide)), (mE_s hE (by decide) (by decide) (by decide) (by decide)), hk0⟩ (fun a_206 ea_206 hq => ?_)
                      obtain ⟨hP, hD, hI, hE, hk0⟩ := hq
                      refine lv_aload_n hx hb dX12_splits_120 rfl (lv_at hl 3 rfl) ?_
                      refine va_get (D := D) (ci := 12) (v := .ref (r 15)) (C := RX12) (T := TX12) (N := 48) hx hb hg inC12 hown hK hP 0 rfl rfl 15 (by decide) (hg _ wt5_175) (fun _ h9 => h9) rfl dX12_splits_121 ?_
                      refine lv_aload_n hx hb dX12_splits_124 rfl (lv_at hl 3 rfl) ?_
                      refine va_get (D := D) (ci := 12) (v := .int (F3 18)) (C := RX12) (T := TX12) (N := 48) hx hb hg inC12 hown hK hP 0 rfl rfl 18 (by decide) (hg _ wt5_178) (fun _ h9 => h9) rfl dX12_splits_125 ?_
                      refine k_top (z := tk) etk.symm ?_
                      refine lv_iload_n hx hb dX12_splits_128 rfl (lv_at hl 1 rfl) ?_
                      refine kN.callS (As := [.int t17]) (rest := [.int tk, .ref (r 15)]) ⟨hx, hb, hml, hown, hg⟩ (m_isSmall l t17 ) (va_cwS 1 hg (kgS wt6_181 wt6_182 wt1_14 wt6_183) rfl rfl rfl (by decide +kernel) ⟨by decide, by decide⟩) hP hS rfl hl.1 rfl (Nat.le_of_ble_eq_true rfl) dX12_splits_129 ⟨Nat.le_refl _, Nat.le_refl _⟩ (fun v208 H locs hw207 hP hS => ?_)
                      have jn226 : ∀ (H : Heap) (locs : List Loc) (ls : Array Slot) (z225 : Int32), va_P D vwCl (mW K o r F3 a_206 g) H → va_D A (mW K o r F3 a_206 g) → va_S A s.heap H locs → lv_has ls 6 [(4, .int y111), (3, .int t17), (2, .int y2), (0, .ref o), (1, .int x)] → W p l e (rmD 2 0 0) s m ([.ref o, .int x] : List Value).toArray below meth c H locs 0 0 (kQv D (tysK K) (fun (u : mS) => mI u.1 u.2.1 ∧ mE (XR []) f a u.1 u.2.1 ∧ fE [18] f u.1 ∧ (∃ N : Nat, (u.1 18).toInt = (N : Int) ∧ N ≤ 400 ∧ u.2.1 15 N = 0)) (fun u => mW K o r u.1 u.2.1 u.2.2) A below ([.ref o, .int x] : List Value).toArray s 0 0) (F0 m 165 ls [.int z225, .int tk, .ref (r 15)]) := by
                        intro  H locs ls z225  hP hD hS hl
                        refine va_iast hx hb hK hP hD hS 9 0 rfl rfl (kb_in b8 (by decide) (by decide)) dX12_splits_165 (fun H locs hP hD hS => ?_)
                        have hP : va_P D vwCl (mW K o r F3 (va_up a_206 15 (upd (a_206 15) tk.toNatClampNeg z225)) g) H := hP
                        have hD : va_D A (mW K o r F3 (va_up a_206 15 (upd (a_206 15) tk.toNatClampNeg z225)) g) := hD
                        refine k_gen (P := fun z => va_P D vwCl (mW K o r F3 z g) H ∧ va_D A (mW K o r F3 z g) ∧ (mI F3 z) ∧ (mE (XR []) f a F3 z) ∧ (fE [18] f F3)) (va_up a_206 15 (upd (a_206 15) tk.toNatClampNeg z225)) ⟨hP, hD, (mI_s hI (aI_free hI.2.1 15 _ (fun j => ⟨by show (mBa 15 j).1 ≤ _; exact Int.le_refl _, by show _ ≤ (mBa 15 j).2; exact Int.le_refl _⟩)) (by decide) (by decide)), (mE_s hE (by decide) (by decide) (by decide) (by decide)), hk0⟩ (fun a_227 ea_227 hq => ?_)
                        obtain ⟨hP, hD, hI, hE, hk0⟩ := hq
                        refine lv_iload_n hx hb dX12_splits_166 rfl (lv_at hl 2 rfl) ?_
                        refine lv_istore (lv' := [(5, .int y2), (4, .int y111), (3, .int t17), (2, .int y2), (0, .ref o), (1, .int x)]) hx hb dX12_splits_167 hl (by decide) rfl (fun ls hl => ?_)
                        have lp230 : ∀ (n231 : Nat) (B229 : Nat → Nat → Int32) (H : Heap) (locs : List Loc) (ls : Array Slot) (y228 : Int32), (400 < y228.toInt + (n231 : Int)) → (mI F3 B229) → (mE (XR []) f a F3 B229) → (fE [18] f F3) → (kb 0 y228 400) → va_P D vwCl (mW K o r F3 B229 g) H → va_D A (mW K o r F3 B229 g) → va_S A s.heap H locs → lv_has ls 6 [(5, .int y228), (4, .int y111), (3, .int t17), (2, .int y2), (0, .ref o), (1, .int x)] → W p l e (rmD 2 0 0) s m ([.ref o, .int x] : List Value).toArray below meth c H locs 0 0 (kQv D (tysK K) (fun (u : mS) => mI u.1 u.2.1 ∧ mE (XR []) f a u.1 u.2.1 ∧ fE [18] f u.1 ∧ (∃ N : Nat, (u.1 18).toInt = (N : Int) ∧ N ≤ 400 ∧ u.2.1 15 N = 0)) (fun u => mW K o r u.1 u.2.1 u.2.2) A below ([.ref o, .int x] : List Value).toArray s 0 0) (F0 m 169 ls []) := by
                          intro n231
                          induction n231 with
                          | zero =>
                            intro  B229  H locs ls y228 hmlp230 hI hE hk0 b232 hP hD hS hl
                            exact (by have h1 := b232.2; have h2 := hmlp230; omega : False).elim
                          | succ n231 ihlp230 =>
                            intro  B229  H locs ls y228 hmlp230 hI hE hk0 b232 hP hD hS hl
                            refine lv_iload hx hb dX12_splits_169 (lv_at hl 0 rfl) ?_
                            refine lv_iload hx hb dX12_splits_171 (lv_at hl 1 rfl) ?_
                            refine lv_icmp_ge (tgt := 247) hx hb dX12_splits_173 (by decide) (fun c233 => ?_) (fun c233 => ?_)
                            · have h234 := (kc_le c233)
                              have b235 : kb 1 y228 400 := kr_le2 h234 b197 b232
                              refine lv_aload_n hx hb dX12_splits_247 rfl (lv_at hl 4 rfl) ?_
                              refine lv_dup hx hb dX12_splits_248 rfl ?_
                              refine va_get (D := D) (ci := 12) (v := .int (F3 18)) (C := RX12) (T := TX12) (N := 48) hx hb hg inC12 hown hK hP 0 rfl rfl 18 (by decide) (hg _ wt5_178) (fun _ h9 => h9) rfl dX12_splits_249 ?_
                              refine k_top (z := tk) etk.symm ?_
                              have b236 : kb 0 tk 399 := ⟨(b8).1, by have w1 := htk; have w2 := (b15).2; omega⟩
                              refine lv_iconst (v := 1) hx hb dX12_splits_252 (by decide) ?_
                              refine lv_iadd hx hb dX12_splits_253 ?_
                              refine lv_topi (fun t237 et237 => ?_)
                              have b238 : kb 1 t237 400 := kb_eq et237 (kb_add b236 kc_1 (by decide) (by decide))
                              have qt237 : t237.toInt = tk.toInt + 1 := by rw [et237]; exact kt_addc b236 kc_1 (by decide) (by decide)
                              refine va_put (D := D) (ci := 12) (v := .int t237) (ty := .int) (C := RX12) (T := TX12) (N := 48) hx hb hg inC12 tyX12 tyX12_ok nmX12 hown hK hP hD hS 0 rfl rfl 18 (by decide) (hg _ wt5_178) (fun _ h9 => h9) rfl (by decide +kernel) rfl rfl (Nat.le_of_ble_eq_true rfl) dX12_splits_254 (fun H locs hP hD hS => ?_)
                              have hP : va_P D vwCl (mW K o r (upd F3 18 t237) B229 g) H := hP
                              have hD : va_D A (mW K o r (upd F3 18 t237) B229 g) := hD
                              refine k_gen (P := fun z => va_P D vwCl (mW K o r z B229 g) H ∧ va_D A (mW K o r z B229 g) ∧ (mI z B229) ∧ (mE (XR []) f a z B229) ∧ (fE [18] f z)) (upd F3 18 t237) ⟨hP, hD, (mI_f hI (fI_st hI.1 18 b238 (by decide) (by decide))), (mE_f hE (by decide)), (fE_f hk0 (by decide))⟩ (fun f_239 ef_239 hq => ?_)
                              obtain ⟨hP, hD, hI, hE, hk0⟩ := hq
                              refine lv_iload hx hb dX12_splits_257 (lv_at hl 1 rfl) ?_
                              refine lv_istore_n (lv' := [(2, .int y111), (5, .int y228), (4, .int y111), (3, .int t17), (0, .ref o), (1, .int x)]) hx hb dX12_splits_259 rfl hl (by decide) rfl (fun ls hl => ?_)
                              refine lv_goto (tgt := 7) hx hb dX12_splits_260 (by decide) ?_
                              exact ihlp5  f_239 B229 _ _ _ y111 (by omega) hI hE hk0 (kb_w b197 (by decide) (by decide)) (by rw [(show f_239 18 = t237 from by rw [← ef_239]; rfl)]; omega) hP hD hS (lv_sub hl [0, 4, 5] rfl)
                            · have h240 := (kc_nle c233)
                              have b241 : kb 0 y228 398 := kr_lt1 h240 b232 b197 (by decide)
                              refine lv_iload_n hx hb dX12_splits_176 rfl (lv_at hl 2 rfl) ?_
                              refine kN.callS (As := [.int t17]) (rest := []) ⟨hx, hb, hml, hown, hg⟩ (m_isDigit l t17 ) (va_cwS 1 hg (kgS wt6_184 wt6_185 wt1_14 wt6_186) rfl rfl rfl (by decide +kernel) ⟨by decide, by decide⟩) hP hS rfl hl.1 rfl (Nat.le_of_ble_eq_true rfl) dX12_splits_177 ⟨Nat.le_refl _, Nat.le_refl _⟩ (fun v243 H locs hw242 hP hS => ?_)
                              refine lv_if_eq (tgt := 247) hx hb dX12_splits_180 (by decide) (fun c245 => ?_) (fun c245 => ?_)
                              · have b246 : kb 0 v243 0 := kb_eq c245 kc_0
                                refine lv_aload_n hx hb dX12_splits_247 rfl (lv_at hl 4 rfl) ?_
                                refine lv_dup hx hb dX12_splits_248 rfl ?_
                                refine va_get (D := D) (ci := 12) (v := .int (F3 18)) (C := RX12) (T := TX12) (N := 48) hx hb hg inC12 hown hK hP 0 rfl rfl 18 (by decide) (hg _ wt5_178) (fun _ h9 => h9) rfl dX12_splits_249 ?_
                                refine k_top (z := tk) etk.symm ?_
                                have b247 : kb 0 tk 399 := ⟨(b8).1, by have w1 := htk; have w2 := (b15).2; omega⟩
                                refine lv_iconst (v := 1) hx hb dX12_splits_252 (by decide) ?_
                                refine lv_iadd hx hb dX12_splits_253 ?_
                                refine lv_topi (fun t248 et248 => ?_)
                                have b249 : kb 1 t248 400 := kb_eq et248 (kb_add b247 kc_1 (by decide) (by decide))
                                have qt248 : t248.toInt = tk.toInt + 1 := by rw [et248]; exact kt_addc b247 kc_1 (by decide) (by decide)
                                refine va_put (D := D) (ci := 12) (v := .int t248) (ty := .int) (C := RX12) (T := TX12) (N := 48) hx hb hg inC12 tyX12 tyX12_ok nmX12 hown hK hP hD hS 0 rfl rfl 18 (by decide) (hg _ wt5_178) (fun _ h9 => h9) rfl (by decide +kernel) rfl rfl (Nat.le_of_ble_eq_true rfl) dX12_splits_254 (fun H locs hP hD hS => ?_)
                                have hP : va_P D vwCl (mW K o r (upd F3 18 t248) B229 g) H := hP
                                have hD : va_D A (mW K o r (upd F3 18 t248) B229 g) := hD
                                refine k_gen (P := fun z => va_P D vwCl (mW K o r z B229 g) H ∧ va_D A (mW K o r z B229 g) ∧ (mI z B229) ∧ (mE (XR []) f a z B229) ∧ (fE [18] f z)) (upd F3 18 t248) ⟨hP, hD, (mI_f hI (fI_st hI.1 18 b249 (by decide) (by decide))), (mE_f hE (by decide)), (fE_f hk0 (by decide))⟩ (fun f_250 ef_250 hq => ?_)
                                obtain ⟨hP, hD, hI, hE, hk0⟩ := hq
                                refine lv_iload hx hb dX12_splits_257 (lv_at hl 1 rfl) ?_
                                refine lv_istore_n (lv' := [(2, .int y111), (5, .int y228), (4, .int y111), (3, .int t17), (0, .ref o), (1, .int x)]) hx hb dX12_splits_259 rfl hl (by decide) rfl (fun ls hl => ?_)
                                refine lv_goto (tgt := 7) hx hb dX12_splits_260 (by decide) ?_
                                exact ihlp5  f_250 B229 _ _ _ y111 (by omega) hI hE hk0 (kb_w b197 (by decide) (by decide)) (by rw [(show f_250 18 = t248 from by rw [← ef_250]; rfl)]; omega) hP hD hS (lv_sub hl [0, 4, 5] rfl)
                              · have b251 : kb 1 v243 1 := kr_nel c245 hw242 kc_0 (by decide)
                                refine lv_aload_n hx hb dX12_splits_183 rfl (lv_at hl 4 rfl) ?_
                                refine va_get (D := D) (ci := 12) (v := .ref (r 16)) (C := RX12) (T := TX12) (N := 48) hx hb hg inC12 hown hK hP 0 rfl rfl 16 (by decide) (hg _ wt5_176) (fun _ h9 => h9) rfl dX12_splits_184 ?_
                                refine lv_aload_n hx hb dX12_splits_187 rfl (lv_at hl 4 rfl) ?_
                                refine va_get (D := D) (ci := 12) (v := .int (F3 18)) (C := RX12) (T := TX12) (N := 48) hx hb hg inC12 hown hK hP 0 rfl rfl 18 (by decide) (hg _ wt5_178) (fun _ h9 => h9) rfl dX12_splits_188 ?_
                                refine k_top (z := tk) etk.symm ?_
                                refine lv_aload_n hx hb dX12_splits_191 rfl (lv_at hl 4 rfl) ?_
                                refine va_get (D := D) (ci := 12) (v := .ref (r 16)) (C := RX12) (T := TX12) (N := 48) hx hb hg inC12 hown hK hP 0 rfl rfl 16 (by decide) (hg _ wt5_176) (fun _ h9 => h9) rfl dX12_splits_192 ?_
                                refine lv_aload_n hx hb dX12_splits_195 rfl (lv_at hl 4 rfl) ?_
                                refine va_get (D := D) (ci := 12) (v := .int (F3 18)) (C := RX12) (T := TX12) (N := 48) hx hb hg inC12 hown hK hP 0 rfl rfl 18 (by decide) (hg _ wt5_178) (fun _ h9 => h9) rfl dX12_splits_196 ?_
                                refine k_top (z := tk) etk.symm ?_
                                refine va_iald hx hb hK hP 10 0 rfl rfl (kb_in b8 (by decide) (by decide)) dX12_splits_199 ?_
                                refine lv_topi (fun t252 et252 => ?_)
                                refine lv_ldc (v := (1000000)) hx hb hown (hg _ wt6_191) dX12_splits_200 ?_
                                refine lv_icmp_le (tgt := 217) hx hb dX12_splits_202 (by decide) (fun c253 => ?_) (fun c253 => ?_)
                                · have h254 := (kc_le c253)
                                  have b255 : kb (-2147483648) t252 1000000 := kr_le1 h254 (kb_any t252) kc_1000000
                                  refine lv_bipush (v := 10) hx hb dX12_splits_217 (by decide) ?_
                                  refine lv_aload_n hx hb dX12_splits_219 rfl (lv_at hl 4 rfl) ?_
                                  refine va_get (D := D) (ci := 12) (v := .ref (r 16)) (C := RX12) (T := TX12) (N := 48) hx hb hg inC12 hown hK hP 0 rfl rfl 16 (by decide) (hg _ wt5_176) (fun _ h9 => h9) rfl dX12_splits_220 ?_
                                  refine lv_aload_n hx hb dX12_splits_223 rfl (lv_at hl 4 rfl) ?_
                                  refine va_get (D := D) (ci := 12) (v := .int (F3 18)) (C := RX12) (T := TX12) (N := 48) hx hb hg inC12 hown hK hP 0 rfl rfl 18 (by decide) (hg _ wt5_178) (fun _ h9 => h9) rfl dX12_splits_224 ?_
                                  refine k_top (z := tk) etk.symm ?_
                                  refine va_iald hx hb hK hP 10 0 rfl rfl (kb_in b8 (by decide) (by decide)) dX12_splits_227 ?_
                                  refine k_top (z := t252) et252.symm ?_
                                  refine lv_imul hx hb dX12_splits_228 ?_
                                  refine lv_topi (fun t256 et256 => ?_)
                                  refine lv_aload_n hx hb dX12_splits_229 rfl (lv_at hl 4 rfl) ?_
                                  refine va_get (D := D) (ci := 12) (v := .ref (r 11)) (C := RX12) (T := TX12) (N := 48) hx hb hg inC12 hown hK hP 0 rfl rfl 11 (by decide) (hg _ wt5_171) (fun _ h9 => h9) rfl dX12_splits_230 ?_
                                  refine lv_iload hx hb dX12_splits_233 (lv_at hl 0 rfl) ?_
                                  refine va_bald hx hb hK hP 7 1 rfl rfl (kb_in b241 (by decide) (by decide)) dX12_splits_235 ?_
                                  refine lv_topi (fun t257 et257 => ?_)
                                  refine lv_iadd hx hb dX12_splits_236 ?_
                                  refine lv_topi (fun t258 et258 => ?_)
                                  refine lv_bipush (v := 48) hx hb dX12_splits_237 (by decide) ?_
                                  refine lv_isub hx hb dX12_splits_239 ?_
                                  refine lv_topi (fun t259 et259 => ?_)
                                  refine va_iast hx hb hK hP hD hS 10 0 rfl rfl (kb_in b8 (by decide) (by decide)) dX12_splits_240 (fun H locs hP hD hS => ?_)
                                  have hP : va_P D vwCl (mW K o r F3 (va_up B229 16 (upd (B229 16) tk.toNatClampNeg t259)) g) H := hP
                                  have hD : va_D A (mW K o r F3 (va_up B229 16 (upd (B229 16) tk.toNatClampNeg t259)) g) := hD
                                  refine k_gen (P := fun z => va_P D vwCl (mW K o r F3 z g) H ∧ va_D A (mW K o r F3 z g) ∧ (mI F3 z) ∧ (mE (XR []) f a F3 z) ∧ (fE [18] f F3)) (va_up B229 16 (upd (B229 16) tk.toNatClampNeg t259)) ⟨hP, hD, (mI_s hI (aI_free hI.2.1 16 _ (fun j => ⟨by show (mBa 16 j).1 ≤ _; exact Int.le_refl _, by show _ ≤ (mBa 16 j).2; exact Int.le_refl _⟩)) (by decide) (by decide)), (mE_s hE (by decide) (by decide) (by decide) (by decide)), hk0⟩ (fun a_260 ea_260 hq => ?_)
                                  obtain ⟨hP, hD, hI, hE, hk0⟩ := hq
                                  obtain ⟨t261, et261⟩ : ∃ z : Int32, z = y228 + Int32.ofInt 1 := ⟨_, rfl⟩
                                  have qt261 : t261.toInt = y228.toInt + 1 := by rw [et261]; exact km_inc b241 (by decide) (by decide)
                                  have b262 : kb 1 t261 399 := kb_inc (k := 1) qt261 b241
                                  refine lv_iinc (v := t261) (lv' := [(5, .int t261), (4, .int y111), (3, .int t17), (2, .int y2), (0, .ref o), (1, .int x)]) hx hb dX12_splits_241 hl (k := 0) rfl et261.symm (by decide) rfl (fun ls hl => ?_)
                                  refine lv_goto (tgt := 169) hx hb dX12_splits_244 (by decide) ?_
                                  exact ihlp230  a_260 _ _ _ t261 (km_up hmlp230 qt261) hI hE hk0 (kb_w b262 (by decide) (by decide)) hP hD hS (lv_sub hl [0, 1, 2, 3, 4, 5] rfl)
                                · have h263 := (kc_nle c253)
                                  have b264 : kb 1000001 t252 2147483647 := kr_lt2 h263 kc_1000000 (kb_any t252) (by decide)
                                  refine lv_aload_n hx hb dX12_splits_205 rfl (lv_at hl 4 rfl) ?_
                                  refine va_get (D := D) (ci := 12) (v := .ref (r 16)) (C := RX12) (T := TX12) (N := 48) hx hb hg inC12 hown hK hP 0 rfl rfl 16 (by decide) (hg _ wt5_176) (fun _ h9 => h9) rfl dX12_splits_206 ?_
                                  refine lv_aload_n hx hb dX12_splits_209 rfl (lv_at hl 4 rfl) ?_
                                  refine va_get (D := D) (ci := 12) (v := .int (F3 18)) (C := RX12) (T := TX12) (N := 48) hx hb hg inC12 hown hK hP 0 rfl rfl 18 (by decide) (hg _ wt5_178) (fun _ h9 => h9) rfl dX12_splits_210 ?_
                                  refine k_top (z := tk) etk.symm ?_
                                  refine va_iald hx hb hK hP 10 0 rfl rfl (kb_in b8 (by decide) (by decide)) dX12_splits_213 ?_
                                  refine k_top (z := t252) et252.symm ?_
                                  refine lv_goto (tgt := 240) hx hb dX12_splits_214 (by decide) ?_
                                  refine va_iast hx hb hK hP hD hS 10 0 rfl rfl (kb_in b8 (by decide) (by decide)) dX12_splits_240 (fun H locs hP hD hS => ?_)
                                  have hP : va_P D vwCl (mW K o r F3 (va_up B229 16 (upd (B229 16) tk.toNatClampNeg t252)) g) H := hP
                                  have hD : va_D A (mW K o r F3 (va_up B229 16 (upd (B229 16) tk.toNatClampNeg t252)) g) := hD
                                  refine k_gen (P := fun z => va_P D vwCl (mW K o r F3 z g) H ∧ va_D A (mW K o r F3 z g) ∧ (mI F3 z) ∧ (mE (XR []) f a F3 z) ∧ (fE [18] f F3)) (va_up B229 16 (upd (B229 16) tk.toNatClampNeg t252)) ⟨hP, hD, (mI_s hI (aI_free hI.2.1 16 _ (fun j => ⟨by show (mBa 16 j).1 ≤ _; exact Int.le_refl _, by show _ ≤ (mBa 16 j).2; exact Int.le_refl _⟩)) (by decide) (by decide)), (mE_s hE (by decide) (by decide) (by decide) (by decide)), hk0⟩ (fun a_265 ea_265 hq => ?_)
                                  obtain ⟨hP, hD, hI, hE, hk0⟩ := hq
                                  obtain ⟨t266, et266⟩ : ∃ z : Int32, z = y228 + Int32.ofInt 1 := ⟨_, rfl⟩
                                  have qt266 : t266.toInt = y228.toInt + 1 := by rw [et266]; exact km_inc b241 (by decide) (by decide)
                                  have b267 : kb 1 t266 399 := kb_inc (k := 1) qt266 b241
                                  refine lv_iinc (v := t266) (lv' := [(5, .int t266), (4, .int y111), (3, .int t17), (2, .int y2), (0, .ref o), (1, .int x)]) hx hb dX12_splits_241 hl (k := 0) rfl et266.symm (by decide) rfl (fun ls hl => ?_)
                                  refine lv_goto (tgt := 169) hx hb dX12_splits_244 (by decide) ?_
                                  exact ihlp230  a_265 _ _ _ t266 (km_up hmlp230 qt266) hI hE hk0 (kb_w b267 (by decide) (by decide)) hP hD hS (lv_sub hl [0, 1, 2, 3, 4, 5] rfl)
                        exact lp230 (401)  a_227 _ _ _ y2 (by have h1 := (b15); unfold kb at h1; omega) hI hE hk0 (kb_w b15 (by decide) (by decide)) hP hD hS (lv_sub hl [0, 1, 2, 3, 4, 5] rfl)
                      refine lv_if_eq (tgt := 145) hx hb dX12_splits_132 (by decide) (fun c268 => ?_) (fun c268 => ?_)
                      · have b269 : kb 0 v208 0 := kb_eq c268 kc_0
                        refine lv_iload_n hx hb dX12_splits_145 rfl (lv_at hl 1 rfl) ?_
                        refine kN.callS (As := [.int t17]) (rest := [.int tk, .ref (r 15)]) ⟨hx, hb, hml, hown, hg⟩ (m_isDigit l t17 ) (va_cwS 1 hg (kgS wt6_184 wt6_185 wt1_14 wt6_186) rfl rfl rfl (by decide +kernel) ⟨by decide, by decide⟩) hP hS rfl hl.1 rfl (Nat.le_of_ble_eq_true rfl) dX12_splits_146 ⟨Nat.le_refl _, Nat.le_refl _⟩ (fun v271 H locs hw270 hP hS => ?_)
                        refine lv_if_eq (tgt := 157) hx hb dX12_splits_149 (by decide) (fun c273 => ?_) (fun c273 => ?_)
                        · have b274 : kb 0 v271 0 := kb_eq c273 kc_0
                          refine lv_bipush (v := 100) hx hb dX12_splits_157 (by decide) ?_
                          refine lv_iload_n hx hb dX12_splits_159 rfl (lv_at hl 1 rfl) ?_
                          refine lv_sipush (v := 255) hx hb dX12_splits_160 (by decide) ?_
                          refine lv_iand hx hb dX12_splits_163 ?_
                          refine lv_topi (fun t275 et275 => ?_)
                          have b276 : kb 0 t275 255 := kb_eq et275 (kb_and 8 (by decide) (by decide))
                          refine lv_iadd hx hb dX12_splits_164 ?_
                          refine lv_topi (fun t277 et277 => ?_)
                          have b278 : kb 100 t277 355 := kb_eq et277 (kb_add kc_100 b276 (by decide) (by decide))
                          have qt277 : t277.toInt = 100 + t275.toInt := by rw [et277]; exact kt_cadd kc_100 b276 (by decide) (by decide)
                          exact jn226 _ _ _ t277  hP hD hS (lv_sub hl [0, 1, 2, 3, 4] rfl)
                        · have b279 : kb 1 v271 1 := kr_nel c273 hw270 kc_0 (by decide)
                          refine lv_bipush (v := 50) hx hb dX12_splits_152 (by decide) ?_
                          refine lv_goto (tgt := 165) hx hb dX12_splits_154 (by decide) ?_
                          exact jn226 _ _ _ 50  hP hD hS (lv_sub hl [0, 1, 2, 3, 4] rfl)
                      · have b280 : kb 1 v208 1 := kr_nel c268 hw207 kc_0 (by decide)
                        refine lv_aload_n hx hb dX12_splits_135 rfl (lv_at hl 3 rfl) ?_
                        refine lv_iload_n hx hb dX12_splits_136 rfl (lv_at hl 2 rfl) ?_
                        refine lv_iload hx hb dX12_splits_137 (lv_at hl 0 rfl) ?_
                        refine kI.callV (As := [.int y2, .int y111]) (rest := [.int tk, .ref (r 15)]) ⟨hx, hb, hml, hown, hg⟩ (m_wordOf l o r F3 a_206 g hI y2 y111 (kb_w b15 (by decide) (by decide)) (kb_w b197 (by decide) (by decide)) ) (cwV 2 hg (kgV wt6_187 wt6_189 wp4_3 wt1_14 wt6_190) rfl rfl rfl (by decide +kernel) ⟨by decide, by decide⟩) hK hP hD hS hA mIs [] rfl (wr := []) rfl rfl rfl (fun i h => by cases h) 0 12 rfl rfl rfl hl.1 rfl (Nat.le_of_ble_eq_true rfl) dX12_splits_139 ⟨Nat.le_refl _, Nat.le_refl _⟩ (fun v282 u283 H locs hw281 hP hD hS => ?_)
                        have hP : va_P D vwCl (mW K o r F3 a_206 g) H := hP
                        have hD : va_D A (mW K o r F3 a_206 g) := hD
                        refine lv_goto (tgt := 165) hx hb dX12_splits_142 (by decide) ?_
                        exact jn226 _ _ _ v282  hP hD hS (lv_sub hl [0, 1, 2, 3, 4] rfl)
                    · have b284 : kb 1 v201 1 := kr_nel c203 hw200 kc_0 (by decide)
                      obtain ⟨t285, et285⟩ : ∃ z : Int32, z = y111 + Int32.ofInt 1 := ⟨_, rfl⟩
                      have qt285 : t285.toInt = y111.toInt + 1 := by rw [et285]; exact km_inc b197 (by decide) (by decide)
                      have b286 : kb 2 t285 400 := kb_inc (k := 1) qt285 b197
                      refine lv_iinc (v := t285) (lv' := [(4, .int t285), (3, .int t17), (2, .int y2), (0, .ref o), (1, .int x)]) hx hb dX12_splits_94 hl (k := 0) rfl et285.symm (by decide) rfl (fun ls hl => ?_)
                      refine lv_goto (tgt := 75) hx hb dX12_splits_97 (by decide) ?_
                      exact ihlp112  _ _ _ t285 (km_up hmlp112 qt285) (kb_w b286 (by decide) (by decide)) (by omega) hP hD hS (lv_sub hl [0, 1, 2, 3, 4] rfl)
              exact lp112 (400)  _ _ _ t19 (by have h1 := (b20); unfold kb at h1; omega) b20 (by omega) hP hD hS (lv_sub hl [0, 1, 2, 3, 4] rfl)
          · have b287 : kb 1 v22 1 := kr_nel c24 hw21 kc_0 (by decide)
            have lp289 : ∀ (n290 : Nat) (H : Heap) (locs : List Loc) (ls : Array Slot) (y288 : Int32), (400 < y288.toInt + (n290 : Int)) → (kb 1 y288 400) → (y2.toInt + 1 ≤ y288.toInt) → va_P D vwCl (mW K o r F3 B4 g) H → va_D A (mW K o r F3 B4 g) → va_S A s.heap H locs → lv_has ls 6 [(4, .int y288), (3, .int t17), (2, .int y2), (0, .ref o), (1, .int x)] → W p l e (rmD 2 0 0) s m ([.ref o, .int x] : List Value).toArray below meth c H locs 0 0 (kQv D (tysK K) (fun (u : mS) => mI u.1 u.2.1 ∧ mE (XR []) f a u.1 u.2.1 ∧ fE [18] f u.1 ∧ (∃ N : Nat, (u.1 18).toInt = (N : Int) ∧ N ≤ 400 ∧ u.2.1 15 N = 0)) (fun u => mW K o r u.1 u.2.1 u.2.2) A below ([.ref o, .int x] : List Value).toArray s 0 0) (F0 m 43 ls []) := by
              intro n290
              induction n290 with
              | zero =>
                intro   H locs ls y288 hmlp289 b291 hvlp289_0 hP hD hS hl
                exact (by have h1 := b291.2; have h2 := hmlp289; omega : False).elim
              | succ n290 ihlp289 =>
                intro   H locs ls y288 hmlp289 b291 hvlp289_0 hP hD hS hl
                refine lv_iload hx hb dX12_splits_43 (lv_at hl 0 rfl) ?_
                refine lv_iload_n hx hb dX12_splits_45 rfl (lv_at hl 4 rfl) ?_
                refine lv_icmp_ge (tgt := 68) hx hb dX12_splits_46 (by decide) (fun c292 => ?_) (fun c292 => ?_)
                · have h293 := (kc_le c292)
                  refine lv_iload_n hx hb dX12_splits_68 rfl (lv_at hl 1 rfl) ?_
                  refine kN.callS (As := [.int t17]) (rest := []) ⟨hx, hb, hml, hown, hg⟩ (m_isDigit l t17 ) (va_cwS 1 hg (kgS wt6_184 wt6_185 wt1_14 wt6_186) rfl rfl rfl (by decide +kernel) ⟨by decide, by decide⟩) hP hS rfl hl.1 rfl (Nat.le_of_ble_eq_true rfl) dX12_splits_69 ⟨Nat.le_refl _, Nat.le_refl _⟩ (fun v295 H locs hw294 hP hS => ?_)
                  refine lv_if_eq (tgt := 100) hx hb dX12_splits_72 (by decide) (fun c297 => ?_) (fun c297 => ?_)
                  · have b298 : kb 0 v295 0 := kb_eq c297 kc_0
                    refine lv_aload_n hx hb dX12_splits_100 rfl (lv_at hl 3 rfl) ?_
                    refine va_get (D := D) (ci := 12) (v := .ref (r 17)) (C := RX12) (T := TX12) (N := 48) hx hb hg inC12 hown hK hP 0 rfl rfl 17 (by decide) (hg _ wt5_177) (fun _ h9 => h9) rfl dX12_splits_101 ?_
                    refine lv_aload_n hx hb dX12_splits_104 rfl (lv_at hl 3 rfl) ?_
                    refine va_get (D := D) (ci := 12) (v := .int (F3 18)) (C := RX12) (T := TX12) (N := 48) hx hb hg inC12 hown hK hP 0 rfl rfl 18 (by decide) (hg _ wt5_178) (fun _ h9 => h9) rfl dX12_splits_105 ?_
                    refine k_top (z := tk) etk.symm ?_
                    refine lv_iload_n hx hb dX12_splits_108 rfl (lv_at hl 2 rfl) ?_
                    refine va_iast hx hb hK hP hD hS 11 0 rfl rfl (kb_in b8 (by decide) (by decide)) dX12_splits_109 (fun H locs hP hD hS => ?_)
                    have hP : va_P D vwCl (mW K o r F3 (va_up B4 17 (upd (B4 17) tk.toNatClampNeg y2)) g) H := hP
                    have hD : va_D A (mW K o r F3 (va_up B4 17 (upd (B4 17) tk.toNatClampNeg y2)) g) := hD
                    refine k_gen (P := fun z => va_P D vwCl (mW K o r F3 z g) H ∧ va_D A (mW K o r F3 z g) ∧ (mI F3 z) ∧ (mE (XR []) f a F3 z) ∧ (fE [18] f F3)) (va_up B4 17 (upd (B4 17) tk.toNatClampNeg y2)) ⟨hP, hD, (mI_s hI (aI_sx hI.2.1 17 0 401 b8 (by decide) (by decide) b15 (by decide +kernel)) (by decide) (by decide)), (mE_s hE (by decide) (by decide) (by decide) (by decide)), hk0⟩ (fun a_299 ea_299 hq => ?_)
                    obtain ⟨hP, hD, hI, hE, hk0⟩ := hq
                    refine lv_aload_n hx hb dX12_splits_110 rfl (lv_at hl 3 rfl) ?_
                    refine va_get (D := D) (ci := 12) (v := .ref (r 16)) (C := RX12) (T := TX12) (N := 48) hx hb hg inC12 hown hK hP 0 rfl rfl 16 (by decide) (hg _ wt5_176) (fun _ h9 => h9) rfl dX12_splits_111 ?_
                    refine lv_aload_n hx hb dX12_splits_114 rfl (lv_at hl 3 rfl) ?_
                    refine va_get (D := D) (ci := 12) (v := .int (F3 18)) (C := RX12) (T := TX12) (N := 48) hx hb hg inC12 hown hK hP 0 rfl rfl 18 (by decide) (hg _ wt5_178) (fun _ h9 => h9) rfl dX12_splits_115 ?_
                    refine k_top (z := tk) etk.symm ?_
                    refine lv_iconst (v := 0) hx hb dX12_splits_118 (by decide) ?_
                    refine va_iast hx hb hK hP hD hS 10 0 rfl rfl (kb_in b8 (by decide) (by decide)) dX12_splits_119 (fun H locs hP hD hS => ?_)
                    have hP : va_P D vwCl (mW K o r F3 (va_up a_299 16 (upd (a_299 16) tk.toNatClampNeg 0)) g) H := hP
                    have hD : va_D A (mW K o r F3 (va_up a_299 16 (upd (a_299 16) tk.toNatClampNeg 0)) g) := hD
                    refine k_gen (P := fun z => va_P D vwCl (mW K o r F3 z g) H ∧ va_D A (mW K o r F3 z g) ∧ (mI F3 z) ∧ (mE (XR []) f a F3 z) ∧ (fE [18] f F3)) (va_up a_299 16 (upd (a_299 16) tk.toNatClampNeg 0)) ⟨hP, hD, (mI_s hI (aI_free hI.2.1 16 _ (fun j => ⟨by show (mBa 16 j).1 ≤ _; exact Int.le_refl _, by show _ ≤ (mBa 16 j).2; exact Int.le_refl _⟩)) (by decide) (by decide)), (mE_s hE (by decide) (by decide) (by decide) (by decide)), hk0⟩ (fun a_300 ea_300 hq => ?_)
                    obtain ⟨hP, hD, hI, hE, hk0⟩ := hq
                    refine lv_aload_n hx hb dX12_splits_120 rfl (lv_at hl 3 rfl) ?_
                    refine va_get (D := D) (ci := 12) (v := .ref (r 15)) (C := RX12) (T := TX12) (N := 48) hx hb hg inC12 hown hK hP 0 rfl rfl 15 (by decide) (hg _ wt5_175) (fun _ h9 => h9) rfl dX12_splits_121 ?_
                    refine lv_aload_n hx hb dX12_splits_124 rfl (lv_at hl 3 rfl) ?_
                    refine va_get (D := D) (ci := 12) (v := .int (F3 18)) (C := RX12) (T := TX12) (N := 48) hx hb hg inC12 hown hK hP 0 rfl rfl 18 (by decide) (hg _ wt5_178) (fun _ h9 => h9) rfl dX12_splits_125 ?_
                    refine k_top (z := tk) etk.symm ?_
                    refine lv_iload_n hx hb dX12_splits_128 rfl (lv_at hl 1 rfl) ?_
                    refine kN.callS (As := [.int t17]) (rest := [.int tk, .ref (r 15)]) ⟨hx, hb, hml, hown, hg⟩ (m_isSmall l t17 ) (va_cwS 1 hg (kgS wt6_181 wt6_182 wt1_14 wt6_183) rfl rfl rfl (by decide +kernel) ⟨by decide, by decide⟩) hP hS rfl hl.1 rfl (Nat.le_of_ble_eq_true rfl) dX12_splits_129 ⟨Nat.le_refl _, Nat.le_refl _⟩ (fun v302 H locs hw301 hP hS => ?_)
                    have jn320 : ∀ (H : Heap) (locs : List Loc) (ls : Array Slot) (z319 : Int32), va_P D vwCl (mW K o r F3 a_300 g) H → va_D A (mW K o r F3 a_300 g) → va_S A s.heap H locs → lv_has ls 6 [(4, .int y288), (3, .int t17), (2, .int y2), (0, .ref o), (1, .int x)] → W p l e (rmD 2 0 0) s m ([.ref o, .int x] : List Value).toArray below meth c H locs 0 0 (kQv D (tysK K) (fun (u : mS) => mI u.1 u.2.1 ∧ mE (XR []) f a u.1 u.2.1 ∧ fE [18] f u.1 ∧ (∃ N : Nat, (u.1 18).toInt = (N : Int) ∧ N ≤ 400 ∧ u.2.1 15 N = 0)) (fun u => mW K o r u.1 u.2.1 u.2.2) A below ([.ref o, .int x] : List Value).toArray s 0 0) (F0 m 165 ls [.int z319, .int tk, .ref (r 15)]) := by
                      intro  H locs ls z319  hP hD hS hl
                      refine va_iast hx hb hK hP hD hS 9 0 rfl rfl (kb_in b8 (by decide) (by decide)) dX12_splits_165 (fun H locs hP hD hS => ?_)
                      have hP : va_P D vwCl (mW K o r F3 (va_up a_300 15 (upd (a_300 15) tk.toNatClampNeg z319)) g) H := hP
                      have hD : va_D A (mW K o r F3 (va_up a_300 15 (upd (a_300 15) tk.toNatClampNeg z319)) g) := hD
                      refine k_gen (P := fun z => va_P D vwCl (mW K o r F3 z g) H ∧ va_D A (mW K o r F3 z g) ∧ (mI F3 z) ∧ (mE (XR []) f a F3 z) ∧ (fE [18] f F3)) (va_up a_300 15 (upd (a_300 15) tk.toNatClampNeg z319)) ⟨hP, hD, (mI_s hI (aI_free hI.2.1 15 _ (fun j => ⟨by show (mBa 15 j).1 ≤ _; exact Int.le_refl _, by show _ ≤ (mBa 15 j).2; exact Int.le_refl _⟩)) (by decide) (by decide)), (mE_s hE (by decide) (by decide) (by decide) (by decide)), hk0⟩ (fun a_321 ea_321 hq => ?_)
                      obtain ⟨hP, hD, hI, hE, hk0⟩ := hq
                      refine lv_iload_n hx hb dX12_splits_166 rfl (lv_at hl 2 rfl) ?_
                      refine lv_istore (lv' := [(5, .int y2), (4, .int y288), (3, .int t17), (2, .int y2), (0, .ref o), (1, .int x)]) hx hb dX12_splits_167 hl (by decide) rfl (fun ls hl => ?_)
                      have lp324 : ∀ (n325 : Nat) (B323 : Nat → Nat → Int32) (H : Heap) (locs : List Loc) (ls : Array Slot) (y322 : Int32), (400 < y322.toInt + (n325 : Int)) → (mI F3 B323) → (mE (XR []) f a F3 B323) → (fE [18] f F3) → (kb 0 y322 400) → va_P D vwCl (mW K o r F3 B323 g) H → va_D A (mW K o r F3 B323 g) → va_S A s.heap H locs → lv_has ls 6 [(5, .int y322), (4, .int y288), (3, .int t17), (2, .int y2), (0, .ref o), (1, .int x)] → W p l e (rmD 2 0 0) s m ([.ref o, .int x] : List Value).toArray below meth c H locs 0 0 (kQv D (tysK K) (fun (u : mS) => mI u.1 u.2.1 ∧ mE (XR []) f a u.1 u.2.1 ∧ fE [18] f u.1 ∧ (∃ N : Nat, (u.1 18).toInt = (N : Int) ∧ N ≤ 400 ∧ u.2.1 15 N = 0)) (fun u => mW K o r u.1 u.2.1 u.2.2) A below ([.ref o, .int x] : List Value).toArray s 0 0) (F0 m 169 ls []) := by
                        intro n325
                        induction n325 with
                        | zero =>
                          intro  B323  H locs ls y322 hmlp324 hI hE hk0 b326 hP hD hS hl
                          exact (by have h1 := b326.2; have h2 := hmlp324; omega : False).elim
                        | succ n325 ihlp324 =>
                          intro  B323  H locs ls y322 hmlp324 hI hE hk0 b326 hP hD hS hl
                          refine lv_iload hx hb dX12_splits_169 (lv_at hl 0 rfl) ?_
                          refine lv_iload hx hb dX12_splits_171 (lv_at hl 1 rfl) ?_
                          refine lv_icmp_ge (tgt := 247) hx hb dX12_splits_173 (by decide) (fun c327 => ?_) (fun c327 => ?_)
                          · have h328 := (kc_le c327)
                            have b329 : kb 1 y322 400 := kr_le2 h328 b291 b326
                            refine lv_aload_n hx hb dX12_splits_247 rfl (lv_at hl 4 rfl) ?_
                            refine lv_dup hx hb dX12_splits_248 rfl ?_
                            refine va_get (D := D) (ci := 12) (v := .int (F3 18)) (C := RX12) (T := TX12) (N := 48) hx hb hg inC12 hown hK hP 0 rfl rfl 18 (by decide) (hg _ wt5_178) (fun _ h9 => h9) rfl dX12_splits_249 ?_
                            refine k_top (z := tk) etk.symm ?_
                            have b330 : kb 0 tk 399 := ⟨(b8).1, by have w1 := htk; have w2 := (b15).2; omega⟩
                            refine lv_iconst (v := 1) hx hb dX12_splits_252 (by decide) ?_
                            refine lv_iadd hx hb dX12_splits_253 ?_
                            refine lv_topi (fun t331 et331 => ?_)
                            have b332 : kb 1 t331 400 := kb_eq et331 (kb_add b330 kc_1 (by decide) (by decide))
                            have qt331 : t331.toInt = tk.toInt + 1 := by rw [et331]; exact kt_addc b330 kc_1 (by decide) (by decide)
                            refine va_put (D := D) (ci := 12) (v := .int t331) (ty := .int) (C := RX12) (T := TX12) (N := 48) hx hb hg inC12 tyX12 tyX12_ok nmX12 hown hK hP hD hS 0 rfl rfl 18 (by decide) (hg _ wt5_178) (fun _ h9 => h9) rfl (by decide +kernel) rfl rfl (Nat.le_of_ble_eq_true rfl) dX12_splits_254 (fun H locs hP hD hS => ?_)
                            have hP : va_P D vwCl (mW K o r (upd F3 18 t331) B323 g) H := hP
                            have hD : va_D A (mW K o r (upd F3 18 t331) B323 g) := hD
                            refine k_gen (P := fun z => va_P D vwCl (mW K o r z B323 g) H ∧ va_D A (mW K o r z B323 g) ∧ (mI z B323) ∧ (mE (XR []) f a z B323) ∧ (fE [18] f z)) (upd F3 18 t331) ⟨hP, hD, (mI_f hI (fI_st hI.1 18 b332 (by decide) (by decide))), (mE_f hE (by decide)), (fE_f hk0 (by decide))⟩ (fun f_333 ef_333 hq => ?_)
                            obtain ⟨hP, hD, hI, hE, hk0⟩ := hq
                            refine lv_iload hx hb dX12_splits_257 (lv_at hl 1 rfl) ?_
                            refine lv_istore_n (lv' := [(2, .int y288), (5, .int y322), (4, .int y288), (3, .int t17), (0, .ref o), (1, .int x)]) hx hb dX12_splits_259 rfl hl (by decide) rfl (fun ls hl => ?_)
                            refine lv_goto (tgt := 7) hx hb dX12_splits_260 (by decide) ?_
                            exact ihlp5  f_333 B323 _ _ _ y288 (by omega) hI hE hk0 (kb_w b291 (by decide) (by decide)) (by rw [(show f_333 18 = t331 from by rw [← ef_333]; rfl)]; omega) hP hD hS (lv_sub hl [0, 4, 5] rfl)
                          · have h334 := (kc_nle c327)
                            have b335 : kb 0 y322 399 := kr_lt1 h334 b326 b291 (by decide)
                            refine lv_iload_n hx hb dX12_splits_176 rfl (lv_at hl 2 rfl) ?_
                            refine kN.callS (As := [.int t17]) (rest := []) ⟨hx, hb, hml, hown, hg⟩ (m_isDigit l t17 ) (va_cwS 1 hg (kgS wt6_184 wt6_185 wt1_14 wt6_186) rfl rfl rfl (by decide +kernel) ⟨by decide, by decide⟩) hP hS rfl hl.1 rfl (Nat.le_of_ble_eq_true rfl) dX12_splits_177 ⟨Nat.le_refl _, Nat.le_refl _⟩ (fun v337 H locs hw336 hP hS => ?_)
                            refine lv_if_eq (tgt := 247) hx hb dX12_splits_180 (by decide) (fun c339 => ?_) (fun c339 => ?_)
                            · have b340 : kb 0 v337 0 := kb_eq c339 kc_0
                              refine lv_aload_n hx hb dX12_splits_247 rfl (lv_at hl 4 rfl) ?_
                              refine lv_dup hx hb dX12_splits_248 rfl ?_
                              refine va_get (D := D) (ci := 12) (v := .int (F3 18)) (C := RX12) (T := TX12) (N := 48) hx hb hg inC12 hown hK hP 0 rfl rfl 18 (by decide) (hg _ wt5_178) (fun _ h9 => h9) rfl dX12_splits_249 ?_
                              refine k_top (z := tk) etk.symm ?_
                              have b341 : kb 0 tk 399 := ⟨(b8).1, by have w1 := htk; have w2 := (b15).2; omega⟩
                              refine lv_iconst (v := 1) hx hb dX12_splits_252 (by decide) ?_
                              refine lv_iadd hx hb dX12_splits_253 ?_
                              refine lv_topi (fun t342 et342 => ?_)
                              have b343 : kb 1 t342 400 := kb_eq et342 (kb_add b341 kc_1 (by decide) (by decide))
                              have qt342 : t342.toInt = tk.toInt + 1 := by rw [et342]; exact kt_addc b341 kc_1 (by decide) (by decide)
                              refine va_put (D := D) (ci := 12) (v := .int t342) (ty := .int) (C := RX12) (T := TX12) (N := 48) hx hb hg inC12 tyX12 tyX12_ok nmX12 hown hK hP hD hS 0 rfl rfl 18 (by decide) (hg _ wt5_178) (fun _ h9 => h9) rfl (by decide +kernel) rfl rfl (Nat.le_of_ble_eq_true rfl) dX12_splits_254 (fun H locs hP hD hS => ?_)
                              have hP : va_P D vwCl (mW K o r (upd F3 18 t342) B323 g) H := hP
                              have hD : va_D A (mW K o r (upd F3 18 t342) B323 g) := hD
                              refine k_gen (P := fun z => va_P D vwCl (mW K o r z B323 g) H ∧ va_D A (mW K o r z B323 g) ∧ (mI z B323) ∧ (mE (XR []) f a z B323) ∧ (fE [18] f z)) (upd F3 18 t342) ⟨hP, hD, (mI_f hI (fI_st hI.1 18 b343 (by decide) (by decide))), (mE_f hE (by decide)), (fE_f hk0 (by decide))⟩ (fun f_344 ef_344 hq => ?_)
                              obtain ⟨hP, hD, hI, hE, hk0⟩ := hq
                              refine lv_iload hx hb dX12_splits_257 (lv_at hl 1 rfl) ?_
                              refine lv_istore_n (lv' := [(2, .int y288), (5, .int y322), (4, .int y288), (3, .int t17), (0, .ref o), (1, .int x)]) hx hb dX12_splits_259 rfl hl (by decide) rfl (fun ls hl => ?_)
                              refine lv_goto (tgt := 7) hx hb dX12_splits_260 (by decide) ?_
                              exact ihlp5  f_344 B323 _ _ _ y288 (by omega) hI hE hk0 (kb_w b291 (by decide) (by decide)) (by rw [(show f_344 18 = t342 from by rw [← ef_344]; rfl)]; omega) hP hD hS (lv_sub hl [0, 4, 5] rfl)
                            · have b345 : kb 1 v337 1 := kr_nel c339 hw336 kc_0 (by decide)
                              refine lv_aload_n hx hb dX12_splits_183 rfl (lv_at hl 4 rfl) ?_
                              refine va_get (D := D) (ci := 12) (v := .ref (r 16)) (C := RX12) (T := TX12) (N := 48) hx hb hg inC12 hown hK hP 0 rfl rfl 16 (by decide) (hg _ wt5_176) (fun _ h9 => h9) rfl dX12_splits_184 ?_
                              refine lv_aload_n hx hb dX12_splits_187 rfl (lv_at hl 4 rfl) ?_
                              refine va_get (D := D) (ci := 12) (v := .int (F3 18)) (C := RX12) (T := TX12) (N := 48) hx hb hg inC12 hown hK hP 0 rfl rfl 18 (by decide) (hg _ wt5_178) (fun _ h9 => h9) rfl dX12_splits_188 ?_
                              refine k_top (z := tk) etk.symm ?_
                              refine lv_aload_n hx hb dX12_splits_191 rfl (lv_at hl 4 rfl) ?_
                              refine va_get (D := D) (ci := 12) (v := .ref (r 16)) (C := RX12) (T := TX12) (N := 48) hx hb hg inC12 hown hK hP 0 rfl rfl 16 (by decide) (hg _ wt5_176) (fun _ h9 => h9) rfl dX12_splits_192 ?_
                              refine lv_aload_n hx hb dX12_splits_195 rfl (lv_at hl 4 rfl) ?_
                              refine va_get (D := D) (ci := 12) (v := .int (F3 18)) (C := RX12) (T := TX12) (N := 48) hx hb hg inC12 hown hK hP 0 rfl rfl 18 (by decide) (hg _ wt5_178) (fun _ h9 => h9) rfl dX12_splits_196 ?_
                              refine k_top (z := tk) etk.symm ?_
                              refine va_iald hx hb hK hP 10 0 rfl rfl (kb_in b8 (by decide) (by decide)) dX12_splits_199 ?_
                              refine lv_topi (fun t346 et346 => ?_)
                              refine lv_ldc (v := (1000000)) hx hb hown (hg _ wt6_191) dX12_splits_200 ?_
                              refine lv_icmp_le (tgt := 217) hx hb dX12_splits_202 (by decide) (fun c347 => ?_) (fun c347 => ?_)
                              · have h348 := (kc_le c347)
                                have b349 : kb (-2147483648) t346 1000000 := kr_le1 h348 (kb_any t346) kc_1000000
                                refine lv_bipush (v := 10) hx hb dX12_splits_217 (by decide) ?_
                                refine lv_aload_n hx hb dX12_splits_219 rfl (lv_at hl 4 rfl) ?_
                                refine va_get (D := D) (ci := 12) (v := .ref (r 16)) (C := RX12) (T := TX12) (N := 48) hx hb hg inC12 hown hK hP 0 rfl rfl 16 (by decide) (hg _ wt5_176) (fun _ h9 => h9) rfl dX12_splits_220 ?_
                                refine lv_aload_n hx hb dX12_splits_223 rfl (lv_at hl 4 rfl) ?_
                                refine va_get (D := D) (ci := 12) (v := .int (F3 18)) (C := RX12) (T := TX12) (N := 48) hx hb hg inC12 hown hK hP 0 rfl rfl 18 (by decide) (hg _ wt5_178) (fun _ h9 => h9) rfl dX12_splits_224 ?_
                                refine k_top (z := tk) etk.symm ?_
                                refine va_iald hx hb hK hP 10 0 rfl rfl (kb_in b8 (by decide) (by decide)) dX12_splits_227 ?_
                                refine k_top (z := t346) et346.symm ?_
                                refine lv_imul hx hb dX12_splits_228 ?_
                                refine lv_topi (fun t350 et350 => ?_)
                                refine lv_aload_n hx hb dX12_splits_229 rfl (lv_at hl 4 rfl) ?_
                                refine va_get (D := D) (ci := 12) (v := .ref (r 11)) (C := RX12) (T := TX12) (N := 48) hx hb hg inC12 hown hK hP 0 rfl rfl 11 (by decide) (hg _ wt5_171) (fun _ h9 => h9) rfl dX12_splits_230 ?_
                                refine lv_iload hx hb dX12_splits_233 (lv_at hl 0 rfl) ?_
                                refine va_bald hx hb hK hP 7 1 rfl rfl (kb_in b335 (by decide) (by decide)) dX12_splits_235 ?_
                                refine lv_topi (fun t351 et351 => ?_)
                                refine lv_iadd hx hb dX12_splits_236 ?_
                                refine lv_topi (fun t352 et352 => ?_)
                                refine lv_bipush (v := 48) hx hb dX12_splits_237 (by decide) ?_
                                refine lv_isub hx hb dX12_splits_239 ?_
                                refine lv_topi (fun t353 et353 => ?_)
                                refine va_iast hx hb hK hP hD hS 10 0 rfl rfl (kb_in b8 (by decide) (by decide)) dX12_splits_240 (fun H locs hP hD hS => ?_)
                                have hP : va_P D vwCl (mW K o r F3 (va_up B323 16 (upd (B323 16) tk.toNatClampNeg t353)) g) H := hP
                                have hD : va_D A (mW K o r F3 (va_up B323 16 (upd (B323 16) tk.toNatClampNeg t353)) g) := hD
                                refine k_gen (P := fun z => va_P D vwCl (mW K o r F3 z g) H ∧ va_D A (mW K o r F3 z g) ∧ (mI F3 z) ∧ (mE (XR []) f a F3 z) ∧ (fE [18] f F3)) (va_up B323 16 (upd (B323 16) tk.toNatClampNeg t353)) ⟨hP, hD, (mI_s hI (aI_free hI.2.1 16 _ (fun j => ⟨by show (mBa 16 j).1 ≤ _; exact Int.le_refl _, by show _ ≤ (mBa 16 j).2; exact Int.le_refl _⟩)) (by decide) (by decide)), (mE_s hE (by decide) (by decide) (by decide) (by decide)), hk0⟩ (fun a_354 ea_354 hq => ?_)
                                obtain ⟨hP, hD, hI, hE, hk0⟩ := hq
                                obtain ⟨t355, et355⟩ : ∃ z : Int32, z = y322 + Int32.ofInt 1 := ⟨_, rfl⟩
                                have qt355 : t355.toInt = y322.toInt + 1 := by rw [et355]; exact km_inc b335 (by decide) (by decide)
                                have b356 : kb 1 t355 400 := kb_inc (k := 1) qt355 b335
                                refine lv_iinc (v := t355) (lv' := [(5, .int t355), (4, .int y288), (3, .int t17), (2, .int y2), (0, .ref o), (1, .int x)]) hx hb dX12_splits_241 hl (k := 0) rfl et355.symm (by decide) rfl (fun ls hl => ?_)
                                refine lv_goto (tgt := 169) hx hb dX12_splits_244 (by decide) ?_
                                exact ihlp324  a_354 _ _ _ t355 (km_up hmlp324 qt355) hI hE hk0 (kb_w b356 (by decide) (by decide)) hP hD hS (lv_sub hl [0, 1, 2, 3, 4, 5] rfl)
                              · have h357 := (kc_nle c347)
                                have b358 : kb 1000001 t346 2147483647 := kr_lt2 h357 kc_1000000 (kb_any t346) (by decide)
                                refine lv_aload_n hx hb dX12_splits_205 rfl (lv_at hl 4 rfl) ?_
                                refine va_get (D := D) (ci := 12) (v := .ref (r 16)) (C := RX12) (T := TX12) (N := 48) hx hb hg inC12 hown hK hP 0 rfl rfl 16 (by decide) (hg _ wt5_176) (fun _ h9 => h9) rfl dX12_splits_206 ?_
                                refine lv_aload_n hx hb dX12_splits_209 rfl (lv_at hl 4 rfl) ?_
                                refine va_get (D := D) (ci := 12) (v := .int (F3 18)) (C := RX12) (T := TX12) (N := 48) hx hb hg inC12 hown hK hP 0 rfl rfl 18 (by decide) (hg _ wt5_178) (fun _ h9 => h9) rfl dX12_splits_210 ?_
                                refine k_top (z := tk) etk.symm ?_
                                refine va_iald hx hb hK hP 10 0 rfl rfl (kb_in b8 (by decide) (by decide)) dX12_splits_213 ?_
                                refine k_top (z := t346) et346.symm ?_
                                refine lv_goto (tgt := 240) hx hb dX12_splits_214 (by decide) ?_
                                refine va_iast hx hb hK hP hD hS 10 0 rfl rfl (kb_in b8 (by decide) (by decide)) dX12_splits_240 (fun H locs hP hD hS => ?_)
                                have hP : va_P D vwCl (mW K o r F3 (va_up B323 16 (upd (B323 16) tk.toNatClampNeg t346)) g) H := hP
                                have hD : va_D A (mW K o r F3 (va_up B323 16 (upd (B323 16) tk.toNatClampNeg t346)) g) := hD
                                refine k_gen (P := fun z => va_P D vwCl (mW K o r F3 z g) H ∧ va_D A (mW K o r F3 z g) ∧ (mI F3 z) ∧ (mE (XR []) f a F3 z) ∧ (fE [18] f F3)) (va_up B323 16 (upd (B323 16) tk.toNatClampNeg t346)) ⟨hP, hD, (mI_s hI (aI_free hI.2.1 16 _ (fun j => ⟨by show (mBa 16 j).1 ≤ _; exact Int.le_refl _, by show _ ≤ (mBa 16 j).2; exact Int.le_refl _⟩)) (by decide) (by decide)), (mE_s hE (by decide) (by decide) (by decide) (by decide)), hk0⟩ (fun a_359 ea_359 hq => ?_)
                                obtain ⟨hP, hD, hI, hE, hk0⟩ := hq
                                obtain ⟨t360, et360⟩ : ∃ z : Int32, z = y322 + Int32.ofInt 1 := ⟨_, rfl⟩
                                have qt360 : t360.toInt = y322.toInt + 1 := by rw [et360]; exact km_inc b335 (by decide) (by decide)
                                have b361 : kb 1 t360 400 := kb_inc (k := 1) qt360 b335
                                refine lv_iinc (v := t360) (lv' := [(5, .int t360), (4, .int y288), (3, .int t17), (2, .int y2), (0, .ref o), (1, .int x)]) hx hb dX12_splits_241 hl (k := 0) rfl et360.symm (by decide) rfl (fun ls hl => ?_)
                                refine lv_goto (tgt := 169) hx hb dX12_splits_244 (by decide) ?_
                                exact ihlp324  a_359 _ _ _ t360 (km_up hmlp324 qt360) hI hE hk0 (kb_w b361 (by decide) (by decide)) hP hD hS (lv_sub hl [0, 1, 2, 3, 4, 5] rfl)
                      exact lp324 (401)  a_321 _ _ _ y2 (by have h1 := (b15); unfold kb at h1; omega) hI hE hk0 (kb_w b15 (by decide) (by decide)) hP hD hS (lv_sub hl [0, 1, 2, 3, 4, 5] rfl)
                    refine lv_if_eq (tgt := 145) hx hb dX12_splits_132 (by decide) (fun c362 => ?_) (fun c362 => ?_)
                    · have b363 : kb 0 v302 0 := kb_eq c362 kc_0
                      refine lv_iload_n hx hb dX12_splits_145 rfl (lv_at hl 1 rfl) ?_
                      refine kN.callS (As := [.int t17]) (rest := [.int tk, .ref (r 15)]) ⟨hx, hb, hml, hown, hg⟩ (m_isDigit l t17 ) (va_cwS 1 hg (kgS wt6_184 wt6_185 wt1_14 wt6_186) rfl rfl rfl (by decide +kernel) ⟨by decide, by decide⟩) hP hS rfl hl.1 rfl (Nat.le_of_ble_eq_true rfl) dX12_splits_146 ⟨Nat.le_refl _, Nat.le_refl _⟩ (fun v365 H locs hw364 hP hS => ?_)
                      refine lv_if_eq (tgt := 157) hx hb dX12_splits_149 (by decide) (fun c367 => ?_) (fun c367 => ?_)
                      · have b368 : kb 0 v365 0 := kb_eq c367 kc_0
                        refine lv_bipush (v := 100) hx hb dX12_splits_157 (by decide) ?_
                        refine lv_iload_n hx hb dX12_splits_159 rfl (lv_at hl 1 rfl) ?_
                        refine lv_sipush (v := 255) hx hb dX12_splits_160 (by decide) ?_
                        refine lv_iand hx hb dX12_splits_163 ?_
                        refine lv_topi (fun t369 et369 => ?_)
                        have b370 : kb 0 t369 255 := kb_eq et369 (kb_and 8 (by decide) (by decide))
                        refine lv_iadd hx hb dX12_splits_164 ?_
                        refine lv_topi (fun t371 et371 => ?_)
                        have b372 : kb 100 t371 355 := kb_eq et371 (kb_add kc_100 b370 (by decide) (by decide))
                        have qt371 : t371.toInt = 100 + t369.toInt := by rw [et371]; exact kt_cadd kc_100 b370 (by decide) (by decide)
                        exact jn320 _ _ _ t371  hP hD hS (lv_sub hl [0, 1, 2, 3, 4] rfl)
                      · have b373 : kb 1 v365 1 := kr_nel c367 hw364 kc_0 (by decide)
                        refine lv_bipush (v := 50) hx hb dX12_splits_152 (by decide) ?_
                        refine lv_goto (tgt := 165) hx hb dX12_splits_154 (by decide) ?_
                        exact jn320 _ _ _ 50  hP hD hS (lv_sub hl [0, 1, 2, 3, 4] rfl)
                    · have b374 : kb 1 v302 1 := kr_nel c362 hw301 kc_0 (by decide)
                      refine lv_aload_n hx hb dX12_splits_135 rfl (lv_at hl 3 rfl) ?_
                      refine lv_iload_n hx hb dX12_splits_136 rfl (lv_at hl 2 rfl) ?_
                      refine lv_iload hx hb dX12_splits_137 (lv_at hl 0 rfl) ?_
                      refine kI.callV (As := [.int y2, .int y288]) (rest := [.int tk, .ref (r 15)]) ⟨hx, hb, hml, hown, hg⟩ (m_wordOf l o r F3 a_300 g hI y2 y288 (kb_w b15 (by decide) (by decide)) (kb_w b291 (by decide) (by decide)) ) (cwV 2 hg (kgV wt6_187 wt6_189 wp4_3 wt1_14 wt6_190) rfl rfl rfl (by decide +kernel) ⟨by decide, by decide⟩) hK hP hD hS hA mIs [] rfl (wr := []) rfl rfl rfl (fun i h => by cases h) 0 12 rfl rfl rfl hl.1 rfl (Nat.le_of_ble_eq_true rfl) dX12_splits_139 ⟨Nat.le_refl _, Nat.le_refl _⟩ (fun v376 u377 H locs hw375 hP hD hS => ?_)
                      have hP : va_P D vwCl (mW K o r F3 a_300 g) H := hP
                      have hD : va_D A (mW K o r F3 a_300 g) := hD
                      refine lv_goto (tgt := 165) hx hb dX12_splits_142 (by decide) ?_
                      exact jn320 _ _ _ v376  hP hD hS (lv_sub hl [0, 1, 2, 3, 4] rfl)
                  · have b378 : kb 1 v295 1 := kr_nel c297 hw294 kc_0 (by decide)
                    have lp380 : ∀ (n381 : Nat) (H : Heap) (locs : List Loc) (ls : Array Slot) (y379 : Int32), (400 < y379.toInt + (n381 : Int)) → (kb 1 y379 400) → (y2.toInt + 1 ≤ y379.toInt) → va_P D vwCl (mW K o r F3 B4 g) H → va_D A (mW K o r F3 B4 g) → va_S A s.heap H locs → lv_has ls 6 [(4, .int y379), (3, .int t17), (2, .int y2), (0, .ref o), (1, .int x)] → W p l e (rmD 2 0 0) s m ([.ref o, .int x] : List Value).toArray below meth c H locs 0 0 (kQv D (tysK K) (fun (u : mS) => mI u.1 u.2.1 ∧ mE (XR []) f a u.1 u.2.1 ∧ fE [18] f u.1 ∧ (∃ N : Nat, (u.1 18).toInt = (N : Int) ∧ N ≤ 400 ∧ u.2.1 15 N = 0)) (fun u => mW K o r u.1 u.2.1 u.2.2) A below ([.ref o, .int x] : List Value).toArray s 0 0) (F0 m 75 ls []) := by
                      intro n381
                      induction n381 with
                      | zero =>
                        intro   H locs ls y379 hmlp380 b382 hvlp380_0 hP hD hS hl
                        exact (by have h1 := b382.2; have h2 := hmlp380; omega : False).elim
                      | succ n381 ihlp380 =>
                        intro   H locs ls y379 hmlp380 b382 hvlp380_0 hP hD hS hl
                        refine lv_iload hx hb dX12_splits_75 (lv_at hl 0 rfl) ?_
                        refine lv_iload_n hx hb dX12_splits_77 rfl (lv_at hl 4 rfl) ?_
                        refine lv_icmp_ge (tgt := 100) hx hb dX12_splits_78 (by decide) (fun c383 => ?_) (fun c383 => ?_)
                        · have h384 := (kc_le c383)
                          refine lv_aload_n hx hb dX12_splits_100 rfl (lv_at hl 3 rfl) ?_
                          refine va_get (D := D) (ci := 12) (v := .ref (r 17)) (C := RX12) (T := TX12) (N := 48) hx hb hg inC12 hown hK hP 0 rfl rfl 17 (by decide) (hg _ wt5_177) (fun _ h9 => h9) rfl dX12_splits_101 ?_
                          refine lv_aload_n hx hb dX12_splits_104 rfl (lv_at hl 3 rfl) ?_
                          refine va_get (D := D) (ci := 12) (v := .int (F3 18)) (C := RX12) (T := TX12) (N := 48) hx hb hg inC12 hown hK hP 0 rfl rfl 18 (by decide) (hg _ wt5_178) (fun _ h9 => h9) rfl dX12_splits_105 ?_
                          refine k_top (z := tk) etk.symm ?_
                          refine lv_iload_n hx hb dX12_splits_108 rfl (lv_at hl 2 rfl) ?_
                          refine va_iast hx hb hK hP hD hS 11 0 rfl rfl (kb_in b8 (by decide) (by decide)) dX12_splits_109 (fun H locs hP hD hS => ?_)
                          have hP : va_P D vwCl (mW K o r F3 (va_up B4 17 (upd (B4 17) tk.toNatClampNeg y2)) g) H := hP
                          have hD : va_D A (mW K o r F3 (va_up B4 17 (upd (B4 17) tk.toNatClampNeg y2)) g) := hD
                          refine k_gen (P := fun z => va_P D vwCl (mW K o r F3 z g) H ∧ va_D A (mW K o r F3 z g) ∧ (mI F3 z) ∧ (mE (XR []) f a F3 z) ∧ (fE [18] f F3)) (va_up B4 17 (upd (B4 17) tk.toNatClampNeg y2)) ⟨hP, hD, (mI_s hI (aI_sx hI.2.1 17 0 401 b8 (by decide) (by decide) b15 (by decide +kernel)) (by decide) (by decide)), (mE_s hE (by decide) (by decide) (by decide) (by decide)), hk0⟩ (fun a_385 ea_385 hq => ?_)
                          obtain ⟨hP, hD, hI, hE, hk0⟩ := hq
                          refine lv_aload_n hx hb dX12_splits_110 rfl (lv_at hl 3 rfl) ?_
                          refine va_get (D := D) (ci := 12) (v := .ref (r 16)) (C := RX12) (T := TX12) (N := 48) hx hb hg inC12 hown hK hP 0 rfl rfl 16 (by decide) (hg _ wt5_176) (fun _ h9 => h9) rfl dX12_splits_111 ?_
                          refine lv_aload_n hx hb dX12_splits_114 rfl (lv_at hl 3 rfl) ?_
                          refine va_get (D := D) (ci := 12) (v := .int (F3 18)) (C := RX12) (T := TX12) (N := 48) hx hb hg inC12 hown hK hP 0 rfl rfl 18 (by decide) (hg _ wt5_178) (fun _ h9 => h9) rfl dX12_splits_115 ?_
                          refine k_top (z := tk) etk.symm ?_
                          refine lv_iconst (v := 0) hx hb dX12_splits_118 (by decide) ?_
                          refine va_iast hx hb hK hP hD hS 10 0 rfl rfl (kb_in b8 (by decide) (by decide)) dX12_splits_119 (fun H locs hP hD hS => ?_)
                          have hP : va_P D vwCl (mW K o r F3 (va_up a_385 16 (upd (a_385 16) tk.toNatClampNeg 0)) g) H := hP
                          have hD : va_D A (mW K o r F3 (va_up a_385 16 (upd (a_385 16) tk.toNatClampNeg 0)) g) := hD
                          refine k_gen (P := fun z => va_P D vwCl (mW K o r F3 z g) H ∧ va_D A (mW K o r F3 z g) ∧ (mI F3 z) ∧ (mE (XR []) f a F3 z) ∧ (fE [18] f F3)) (va_up a_385 16 (upd (a_385 16) tk.toNatClampNeg 0)) ⟨hP, hD, (mI_s hI (aI_free hI.2.1 16 _ (fun j => ⟨by show (mBa 16 j).1 ≤ _; exact Int.le_refl _, by show _ ≤ (mBa 16 j).2; exact Int.le_refl _⟩)) (by decide) (by decide)), (mE_s hE (by decide) (by decide) (by decide) (by decide)), hk0⟩ (fun a_386 ea_386 hq => ?_)
                          obtain ⟨hP, hD, hI, hE, hk0⟩ := hq
                          refine lv_aload_n hx hb dX12_splits_120 rfl (lv_at hl 3 rfl) ?_
                          refine va_get (D := D) (ci := 12) (v := .ref (r 15)) (C := RX12) (T := TX12) (N := 48) hx hb hg inC12 hown hK hP 0 rfl rfl 15 (by decide) (hg _ wt5_175) (fun _ h9 => h9) rfl dX12_splits_121 ?_
                          refine lv_aload_n hx hb dX12_splits_124 rfl (lv_at hl 3 rfl) ?_
                          refine va_get (D := D) (ci := 12) (v := .int (F3 18)) (C := RX12) (T := TX12) (N := 48) hx hb hg inC12 hown hK hP 0 rfl rfl 18 (by decide) (hg _ wt5_178) (fun _ h9 => h9) rfl dX12_splits_125 ?_
                          refine k_top (z := tk) etk.symm ?_
                          refine lv_iload_n hx hb dX12_splits_128 rfl (lv_at hl 1 rfl) ?_
                          refine kN.callS (As := [.int t17]) (rest := [.int tk, .ref (r 15)]) ⟨hx, hb, hml, hown, hg⟩ (m_isSmall l t17 ) (va_cwS 1 hg (kgS wt6_181 wt6_182 wt1_14 wt6_183) rfl rfl rfl (by decide +kernel) ⟨by decide, by decide⟩) hP hS rfl hl.1 rfl (Nat.le_of_ble_eq_true rfl) dX12_splits_129 ⟨Nat.le_refl _, Nat.le_refl _⟩ (fun v388 H locs hw387 hP hS => ?_)
                          have jn406 : ∀ (H : Heap) (locs : List Loc) (ls : Array Slot) (z405 : Int32), va_P D vwCl (mW K o r F3 a_386 g) H → va_D A (mW K o r F3 a_386 g) → va_S A s.heap H locs → lv_has ls 6 [(4, .int y379), (3, .int t17), (2, .int y2), (0, .ref o), (1, .int x)] → W p l e (rmD 2 0 0) s m ([.ref o, .int x] : List Value).toArray below meth c H locs 0 0 (kQv D (tysK K) (fun (u : mS) => mI u.1 u.2.1 ∧ mE (XR []) f a u.1 u.2.1 ∧ fE [18] f u.1 ∧ (∃ N : Nat, (u.1 18).toInt = (N : Int) ∧ N ≤ 400 ∧ u.2.1 15 N = 0)) (fun u => mW K o r u.1 u.2.1 u.2.2) A below ([.ref o, .int x] : List Value).toArray s 0 0) (F0 m 165 ls [.int z405, .int tk, .ref (r 15)]) := by
                            intro  H locs ls z405  hP hD hS hl
                            refine va_iast hx hb hK hP hD hS 9 0 rfl rfl (kb_in b8 (by decide) (by decide)) dX12_splits_165 (fun H locs hP hD hS => ?_)
                            have hP : va_P D vwCl (mW K o r F3 (va_up a_386 15 (upd (a_386 15) tk.toNatClampNeg z405)) g) H := hP
                            have hD : va_D A (mW K o r F3 (va_up a_386 15 (upd (a_386 15) tk.toNatClampNeg z405)) g) := hD
                            refine k_gen (P := fun z => va_P D vwCl (mW K o r F3 z g) H ∧ va_D A (mW K o r F3 z g) ∧ (mI F3 z) ∧ (mE (XR []) f a F3 z) ∧ (fE [18] f F3)) (va_up a_386 15 (upd (a_386 15) tk.toNatClampNeg z405)) ⟨hP, hD, (mI_s hI (aI_free hI.2.1 15 _ (fun j => ⟨by show (mBa 15 j).1 ≤ _; exact Int.le_refl _, by show _ ≤ (mBa 15 j).2; exact Int.le_refl _⟩)) (by decide) (by decide)), (mE_s hE (by decide) (by decide) (by decide) (by decide)), hk0⟩ (fun a_407 ea_407 hq => ?_)
                            obtain ⟨hP, hD, hI, hE, hk0⟩ := hq
                            refine lv_iload_n hx hb dX12_splits_166 rfl (lv_at hl 2 rfl) ?_
                            refine lv_istore (lv' := [(5, .int y2), (4, .int y379), (3, .int t17), (2, .int y2), (0, .ref o), (1, .int x)]) hx hb dX12_splits_167 hl (by decide) rfl (fun ls hl => ?_)
                            have lp410 : ∀ (n411 : Nat) (B409 : Nat → Nat → Int32) (H : Heap) (locs : List Loc) (ls : Array Slot) (y408 : Int32), (400 < y408.toInt + (n411 : Int)) → (mI F3 B409) → (mE (XR []) f a F3 B409) → (fE [18] f F3) → (kb 0 y408 400) → va_P D vwCl (mW K o r F3 B409 g) H → va_D A (mW K o r F3 B409 g) → va_S A s.heap H locs → lv_has ls 6 [(5, .int y408), (4, .int y379), (3, .int t17), (2, .int y2), (0, .ref o), (1, .int x)] → W p l e (rmD 2 0 0) s m ([.ref o, .int x] : List Value).toArray below meth c H locs 0 0 (kQv D (tysK K) (fun (u : mS) => mI u.1 u.2.1 ∧ mE (XR []) f a u.1 u.2.1 ∧ fE [18] f u.1 ∧ (∃ N : Nat, (u.1 18).toInt = (N : Int) ∧ N ≤ 400 ∧ u.2.1 15 N = 0)) (fun u => mW K o r u.1 u.2.1 u.2.2) A below ([.ref o, .int x] : List Value).toArray s 0 0) (F0 m 169 ls []) := by
                              intro n411
                              induction n411 with
                              | zero =>
                                intro  B409  H locs ls y408 hmlp410 hI hE hk0 b412 hP hD hS hl
                                exact (by have h1 := b412.2; have h2 := hmlp410; omega : False).elim
                              | succ n411 ihlp410 =>
                                intro  B409  H locs ls y408 hmlp410 hI hE hk0 b412 hP hD hS hl
                                refine lv_iload hx hb dX12_splits_169 (lv_at hl 0 rfl) ?_
                                refine lv_iload hx hb dX12_splits_171 (lv_at hl 1 rfl) ?_
                                refine lv_icmp_ge (tgt := 247) hx hb dX12_splits_173 (by decide) (fun c413 => ?_) (fun c413 => ?_)
                                · have h414 := (kc_le c413)
                                  have b415 : kb 1 y408 400 := kr_le2 h414 b382 b412
                                  refine lv_aload_n hx hb dX12_splits_247 rfl (lv_at hl 4 rfl) ?_
                                  refine lv_dup hx hb dX12_splits_248 rfl ?_
                                  refine va_get (D := D) (ci := 12) (v := .int (F3 18)) (C := RX12) (T := TX12) (N := 48) hx hb hg inC12 hown hK hP 0 rfl rfl 18 (by decide) (hg _ wt5_178) (fun _ h9 => h9) rfl dX12_splits_249 ?_
                                  refine k_top (z := tk) etk.symm ?_
                                  have b416 : kb 0 tk 399 := ⟨(b8).1, by have w1 := htk; have w2 := (b15).2; omega⟩
                                  refine lv_iconst (v := 1) hx hb dX12_splits_252 (by decide) ?_
                                  refine lv_iadd hx hb dX12_splits_253 ?_
                                  refine lv_topi (fun t417 et417 => ?_)
                                  have b418 : kb 1 t417 400 := kb_eq et417 (kb_add b416 kc_1 (by decide) (by decide))
                                  have qt417 : t417.toInt = tk.toInt + 1 := by rw [et417]; exact kt_addc b416 kc_1 (by decide) (by decide)
                                  refine va_put (D := D) (ci := 12) (v := .int t417) (ty := .int) (C := RX12) (T := TX12) (N := 48) hx hb hg inC12 tyX12 tyX12_ok nmX12 hown hK hP hD hS 0 rfl rfl 18 (by decide) (hg _ wt5_178) (fun _ h9 => h9) rfl (by decide +kernel) rfl rfl (Nat.le_of_ble_eq_true rfl) dX12_splits_254 (fun H locs hP hD hS => ?_)
                                  have hP : va_P D vwCl (mW K o r (upd F3 18 t417) B409 g) H := hP
                                  have hD : va_D A (mW K o r (upd F3 18 t417) B409 g) := hD
                                  refine k_gen (P := fun z => va_P D vwCl (mW K o r z B409 g) H ∧ va_D A (mW K o r z B409 g) ∧ (mI z B409) ∧ (mE (XR []) f a z B409) ∧ (fE [18] f z)) (upd F3 18 t417) ⟨hP, hD, (mI_f hI (fI_st hI.1 18 b418 (by decide) (by decide))), (mE_f hE (by decide)), (fE_f hk0 (by decide))⟩ (fun f_419 ef_419 hq => ?_)
                                  obtain ⟨hP, hD, hI, hE, hk0⟩ := hq
                                  refine lv_iload hx hb dX12_splits_257 (lv_at hl 1 rfl) ?_
                                  refine lv_istore_n (lv' := [(2, .int y379), (5, .int y408), (4, .int y379), (3, .int t17), (0, .ref o), (1, .int x)]) hx hb dX12_splits_259 rfl hl (by decide) rfl (fun ls hl => ?_)
                                  refine lv_goto (tgt := 7) hx hb dX12_splits_260 (by decide) ?_
                                  exact ihlp5  f_419 B409 _ _ _ y379 (by omega) hI hE hk0 (kb_w b382 (by decide) (by decide)) (by rw [(show f_419 18 = t417 from by rw [← ef_419]; rfl)]; omega) hP hD hS (lv_sub hl [0, 4, 5] rfl)
                                · have h420 := (kc_nle c413)
                                  have b421 : kb 0 y408 399 := kr_lt1 h420 b412 b382 (by decide)
                                  refine lv_iload_n hx hb dX12_splits_176 rfl (lv_at hl 2 rfl) ?_
                                  refine kN.callS (As := [.int t17]) (rest := []) ⟨hx, hb, hml, hown, hg⟩ (m_isDigit l t17 ) (va_cwS 1 hg (kgS wt6_184 wt6_185 wt1_14 wt6_186) rfl rfl rfl (by decide +kernel) ⟨by decide, by decide⟩) hP hS rfl hl.1 rfl (Nat.le_of_ble_eq_true rfl) dX12_splits_177 ⟨Nat.le_refl _, Nat.le_refl _⟩ (fun v423 H locs hw422 hP hS => ?_)
                                  refine lv_if_eq (tgt := 247) hx hb dX12_splits_180 (by decide) (fun c425 => ?_) (fun c425 => ?_)
                                  · have b426 : kb 0 v423 0 := kb_eq c425 kc_0
                                    refine lv_aload_n hx hb dX12_splits_247 rfl (lv_at hl 4 rfl) ?_
                                    refine lv_dup hx hb dX12_splits_248 rfl ?_
                                    refine va_get (D := D) (ci := 12) (v := .int (F3 18)) (C := RX12) (T := TX12) (N := 48) hx hb hg inC12 hown hK hP 0 rfl rfl 18 (by decide) (hg _ wt5_178) (fun _ h9 => h9) rfl dX12_splits_249 ?_
                                    refine k_top (z := tk) etk.symm ?_
                                    have b427 : kb 0 tk 399 := ⟨(b8).1, by have w1 := htk; have w2 := (b15).2; omega⟩
                                    refine lv_iconst (v := 1) hx hb dX12_splits_252 (by decide) ?_
                                    refine lv_iadd hx hb dX12_splits_253 ?_
                                    refine lv_topi (fun t428 et428 => ?_)
                                    have b429 : kb 1 t428 400 := kb_eq et428 (kb_add b427 kc_1 (by decide) (by decide))
                                    have qt428 : t428.toInt = tk.toInt + 1 := by rw [et428]; exact kt_addc b427 kc_1 (by decide) (by decide)
                                    refine va_put (D := D) (ci := 12) (v := .int t428) (ty := .int) (C := RX12) (T := TX12) (N := 48) hx hb hg inC12 tyX12 tyX12_ok nmX12 hown hK hP hD hS 0 rfl rfl 18 (by decide) (hg _ wt5_178) (fun _ h9 => h9) rfl (by decide +kernel) rfl rfl (Nat.le_of_ble_eq_true rfl) dX12_splits_254 (fun H locs hP hD hS => ?_)
                                    have hP : va_P D vwCl (mW K o r (upd F3 18 t428) B409 g) H := hP
                                    have hD : va_D A (mW K o r (upd F3 18 t428) B409 g) := hD
                                    refine k_gen (P := fun z => va_P D vwCl (mW K o r z B409 g) H ∧ va_D A (mW K o r z B409 g) ∧ (mI z B409) ∧ (mE (XR []) f a z B409) ∧ (fE [18] f z)) (upd F3 18 t428) ⟨hP, hD, (mI_f hI (fI_st hI.1 18 b429 (by decide) (by decide))), (mE_f hE (by decide)), (fE_f hk0 (by decide))⟩ (fun f_430 ef_430 hq => ?_)
                                    obtain ⟨hP, hD, hI, hE, hk0⟩ := hq
                                    refine lv_iload hx hb dX12_splits_257 (lv_at hl 1 rfl) ?_
                                    refine lv_istore_n (lv' := [(2, .int y379), (5, .int y408), (4, .int y379), (3, .int t17), (0, .ref o), (1, .int x)]) hx hb dX12_splits_259 rfl hl (by decide) rfl (fun ls hl => ?_)
                                    refine lv_goto (tgt := 7) hx hb dX12_splits_260 (by decide) ?_
                                    exact ihlp5  f_430 B409 _ _ _ y379 (by omega) hI hE hk0 (kb_w b382 (by decide) (by decide)) (by rw [(show f_430 18 = t428 from by rw [← ef_430]; rfl)]; omega) hP hD hS (lv_sub hl [0, 4, 5] rfl)
                                  · have b431 : kb 1 v423 1 := kr_nel c425 hw422 kc_0 (by decide)
                                    refine lv_aload_n hx hb dX12_splits_183 rfl (lv_at hl 4 rfl) ?_
                                    refine va_get (D := D) (ci := 12) (v := .ref (r 16)) (C := RX12) (T := TX12) (N := 48) hx hb hg inC12 hown hK hP 0 rfl rfl 16 (by decide) (hg _ wt5_176) (fun _ h9 => h9) rfl dX12_splits_184 ?_
                                    refine lv_aload_n hx hb dX12_splits_187 rfl (lv_at hl 4 rfl) ?_
                                    refine va_get (D := D) (ci := 12) (v := .int (F3 18)) (C := RX12) (T := TX12) (N := 48) hx hb hg inC12 hown hK hP 0 rfl rfl 18 (by decide) (hg _ wt5_178) (fun _ h9 => h9) rfl dX12_splits_188 ?_
                                    refine k_top (z := tk) etk.symm ?_
                                    refine lv_aload_n hx hb dX12_splits_191 rfl (lv_at hl 4 rfl) ?_
                                    refine va_get (D := D) (ci := 12) (v := .ref (r 16)) (C := RX12) (T := TX12) (N := 48) hx hb hg inC12 hown hK hP 0 rfl rfl 16 (by decide) (hg _ wt5_176) (fun _ h9 => h9) rfl dX12_splits_192 ?_
                                    refine lv_aload_n hx hb dX12_splits_195 rfl (lv_at hl 4 rfl) ?_
                                    refine va_get (D := D) (ci := 12) (v := .int (F3 18)) (C := RX12) (T := TX12) (N := 48) hx hb hg inC12 hown hK hP 0 rfl rfl 18 (by decide) (hg _ wt5_178) (fun _ h9 => h9) rfl dX12_splits_196 ?_
                                    refine k_top (z := tk) etk.symm ?_
                                    refine va_iald hx hb hK hP 10 0 rfl rfl (kb_in b8 (by decide) (by decide)) dX12_splits_199 ?_
                                    refine lv_topi (fun t432 et432 => ?_)
                                    refine lv_ldc (v := (1000000)) hx hb hown (hg _ wt6_191) dX12_splits_200 ?_
                                    refine lv_icmp_le (tgt := 217) hx hb dX12_splits_202 (by decide) (fun c433 => ?_) (fun c433 => ?_)
                                    · have h434 := (kc_le c433)
                                      have b435 : kb (-2147483648) t432 1000000 := kr_le1 h434 (kb_any t432) kc_1000000
                                      refine lv_bipush (v := 10) hx hb dX12_splits_217 (by decide) ?_
                                      refine lv_aload_n hx hb dX12_splits_219 rfl (lv_at hl 4 rfl) ?_
                                      refine va_get (D := D) (ci := 12) (v := .ref (r 16)) (C := RX12) (T := TX12) (N := 48) hx hb hg inC12 hown hK hP 0 rfl rfl 16 (by decide) (hg _ wt5_176) (fun _ h9 => h9) rfl dX12_splits_220 ?_
                                      refine lv_aload_n hx hb dX12_splits_223 rfl (lv_at hl 4 rfl) ?_
                                      refine va_get (D := D) (ci := 12) (v := .int (F3 18)) (C := RX12) (T := TX12) (N := 48) hx hb hg inC12 hown hK hP 0 rfl rfl 18 (by decide) (hg _ wt5_178) (fun _ h9 => h9) rfl dX12_splits_224 ?_
                                      refine k_top (z := tk) etk.symm ?_
                                      refine va_iald hx hb hK hP 10 0 rfl rfl (kb_in b8 (by decide) (by decide)) dX12_splits_227 ?_
                                      refine k_top (z := t432) et432.symm ?_
                                      refine lv_imul hx hb dX12_splits_228 ?_
                                      refine lv_topi (fun t436 et436 => ?_)
                                      refine lv_aload_n hx hb dX12_splits_229 rfl (lv_at hl 4 rfl) ?_
                                      refine va_get (D := D) (ci := 12) (v := .ref (r 11)) (C := RX12) (T := TX12) (N := 48) hx hb hg inC12 hown hK hP 0 rfl rfl 11 (by decide) (hg _ wt5_171) (fun _ h9 => h9) rfl dX12_splits_230 ?_
                                      refine lv_iload hx hb dX12_splits_233 (lv_at hl 0 rfl) ?_
                                      refine va_bald hx hb hK hP 7 1 rfl rfl (kb_in b421 (by decide) (by decide)) dX12_splits_235 ?_
                                      refine lv_topi (fun t437 et437 => ?_)
                                      refine lv_iadd hx hb dX12_splits_236 ?_
                                      refine lv_topi (fun t438 et438 => ?_)
                                      refine lv_bipush (v := 48) hx hb dX12_splits_237 (by decide) ?_
                                      refine lv_isub hx hb dX12_splits_239 ?_
                                      refine lv_topi (fun t439 et439 => ?_)
                                      refine va_iast hx hb hK hP hD hS 10 0 rfl rfl (kb_in b8 (by decide) (by decide)) dX12_splits_240 (fun H locs hP hD hS => ?_)
                                      have hP : va_P D vwCl (mW K o r F3 (va_up B409 16 (upd (B409 16) tk.toNatClampNeg t439)) g) H := hP
                                      have hD : va_D A (mW K o r F3 (va_up B409 16 (upd (B409 16) tk.toNatClampNeg t439)) g) := hD
                                      refine k_gen (P := fun z => va_P D vwCl (mW K o r F3 z g) H ∧ va_D A (mW K o r F3 z g) ∧ (mI F3 z) ∧ (mE (XR []) f a F3 z) ∧ (fE [18] f F3)) (va_up B409 16 (upd (B409 16) tk.toNatClampNeg t439)) ⟨hP, hD, (mI_s hI (aI_free hI.2.1 16 _ (fun j => ⟨by show (mBa 16 j).1 ≤ _; exact Int.le_refl _, by show _ ≤ (mBa 16 j).2; exact Int.le_refl _⟩)) (by decide) (by decide)), (mE_s hE (by decide) (by decide) (by decide) (by decide)), hk0⟩ (fun a_440 ea_440 hq => ?_)
                                      obtain ⟨hP, hD, hI, hE, hk0⟩ := hq
                                      obtain ⟨t441, et441⟩ : ∃ z : Int32, z = y408 + Int32.ofInt 1 := ⟨_, rfl⟩
                                      have qt441 : t441.toInt = y408.toInt + 1 := by rw [et441]; exact km_inc b421 (by decide) (by decide)
                                      have b442 : kb 1 t441 400 := kb_inc (k := 1) qt441 b421
                                      refine lv_iinc (v := t441) (lv' := [(5, .int t441), (4, .int y379), (3, .int t17), (2, .int y2), (0, .ref o), (1, .int x)]) hx hb dX12_splits_241 hl (k := 0) rfl et441.symm (by decide) rfl (fun ls hl => ?_)
                                      refine lv_goto (tgt := 169) hx hb dX12_splits_244 (by decide) ?_
                                      exact ihlp410  a_440 _ _ _ t441 (km_up hmlp410 qt441) hI hE hk0 (kb_w b442 (by decide) (by decide)) hP hD hS (lv_sub hl [0, 1, 2, 3, 4, 5] rfl)
                                    · have h443 := (kc_nle c433)
                                      have b444 : kb 1000001 t432 2147483647 := kr_lt2 h443 kc_1000000 (kb_any t432) (by decide)
                                      refine lv_aload_n hx hb dX12_splits_205 rfl (lv_at hl 4 rfl) ?_
                                      refine va_get (D := D) (ci := 12) (v := .ref (r 16)) (C := RX12) (T := TX12) (N := 48) hx hb hg inC12 hown hK hP 0 rfl rfl 16 (by decide) (hg _ wt5_176) (fun _ h9 => h9) rfl dX12_splits_206 ?_
                                      refine lv_aload_n hx hb dX12_splits_209 rfl (lv_at hl 4 rfl) ?_
                                      refine va_get (D := D) (ci := 12) (v := .int (F3 18)) (C := RX12) (T := TX12) (N := 48) hx hb hg inC12 hown hK hP 0 rfl rfl 18 (by decide) (hg _ wt5_178) (fun _ h9 => h9) rfl dX12_splits_210 ?_
                                      refine k_top (z := tk) etk.symm ?_
                                      refine va_iald hx hb hK hP 10 0 rfl rfl (kb_in b8 (by decide) (by decide)) dX12_splits_213 ?_
                                      refine k_top (z := t432) et432.symm ?_
                                      refine lv_goto (tgt := 240) hx hb dX12_splits_214 (by decide) ?_
                                      refine va_iast hx hb hK hP hD hS 10 0 rfl rfl (kb_in b8 (by decide) (by decide)) dX12_splits_240 (fun H locs hP hD hS => ?_)
                                      have hP : va_P D vwCl (mW K o r F3 (va_up B409 16 (upd (B409 16) tk.toNatClampNeg t432)) g) H := hP
                                      have hD : va_D A (mW K o r F3 (va_up B409 16 (upd (B409 16) tk.toNatClampNeg t432)) g) := hD
                                      refine k_gen (P := fun z => va_P D vwCl (mW K o r F3 z g) H ∧ va_D A (mW K o r F3 z g) ∧ (mI F3 z) ∧ (mE (XR []) f a F3 z) ∧ (fE [18] f F3)) (va_up B409 16 (upd (B409 16) tk.toNatClampNeg t432)) ⟨hP, hD, (mI_s hI (aI_free hI.2.1 16 _ (fun j => ⟨by show (mBa 16 j).1 ≤ _; exact Int.le_refl _, by show _ ≤ (mBa 16 j).2; exact Int.le_refl _⟩)) (by decide) (by decide)), (mE_s hE (by decide) (by decide) (by decide) (by decide)), hk0⟩ (fun a_445 ea_445 hq => ?_)
                                      obtain ⟨hP, hD, hI, hE, hk0⟩ := hq
                                      obtain ⟨t446, et446⟩ : ∃ z : Int32, z = y408 + Int32.ofInt 1 := ⟨_, rfl⟩
                                      have qt446 : t446.toInt = y408.toInt + 1 := by rw [et446]; exact km_inc b421 (by decide) (by decide)
                                      have b447 : kb 1 t446 400 := kb_inc (k := 1) qt446 b421
                                      refine lv_iinc (v := t446) (lv' := [(5, .int t446), (4, .int y379), (3, .int t17), (2, .int y2), (0, .ref o), (1, .int x)]) hx hb dX12_splits_241 hl (k := 0) rfl et446.symm (by decide) rfl (fun ls hl => ?_)
                                      refine lv_goto (tgt := 169) hx hb dX12_splits_244 (by decide) ?_
                                      exact ihlp410  a_445 _ _ _ t446 (km_up hmlp410 qt446) hI hE hk0 (kb_w b447 (by decide) (by decide)) hP hD hS (lv_sub hl [0, 1, 2, 3, 4, 5] rfl)
                            exact lp410 (401)  a_407 _ _ _ y2 (by have h1 := (b15); unfold kb at h1; omega) hI hE hk0 (kb_w b15 (by decide) (by decide)) hP hD hS (lv_sub hl [0, 1, 2, 3, 4, 5] rfl)
                          refine lv_if_eq (tgt := 145) hx hb dX12_splits_132 (by decide) (fun c448 => ?_) (fun c448 => ?_)
                          · have b449 : kb 0 v388 0 := kb_eq c448 kc_0
                            refine lv_iload_n hx hb dX12_splits_145 rfl (lv_at hl 1 rfl) ?_
                            refine kN.callS (As := [.int t17]) (rest := [.int tk, .ref (r 15)]) ⟨hx, hb, hml, hown, hg⟩ (m_isDigit l t17 ) (va_cwS 1 hg (kgS wt6_184 wt6_185 wt1_14 wt6_186) rfl rfl rfl (by decide +kernel) ⟨by decide, by decide⟩) hP hS rfl hl.1 rfl (Nat.le_of_ble_eq_true rfl) dX12_splits_146 ⟨Nat.le_refl _, Nat.le_refl _⟩ (fun v451 H locs hw450 hP hS => ?_)
                            refine lv_if_eq (tgt := 157) hx hb dX12_splits_149 (by decide) (fun c453 => ?_) (fun c453 => ?_)
                            · have b454 : kb 0 v451 0 := kb_eq c453 kc_0
                              refine lv_bipush (v := 100) hx hb dX12_splits_157 (by decide) ?_
                              refine lv_iload_n hx hb dX12_splits_159 rfl (lv_at hl 1 rfl) ?_
                              refine lv_sipush (v := 255) hx hb dX12_splits_160 (by decide) ?_
                              refine lv_iand hx hb dX12_splits_163 ?_
                              refine lv_topi (fun t455 et455 => ?_)
                              have b456 : kb 0 t455 255 := kb_eq et455 (kb_and 8 (by decide) (by decide))
                              refine lv_iadd hx hb dX12_splits_164 ?_
                              refine lv_topi (fun t457 et457 => ?_)
                              have b458 : kb 100 t457 355 := kb_eq et457 (kb_add kc_100 b456 (by decide) (by decide))
                              have qt457 : t457.toInt = 100 + t455.toInt := by rw [et457]; exact kt_cadd kc_100 b456 (by decide) (by decide)
                              exact jn406 _ _ _ t457  hP hD hS (lv_sub hl [0, 1, 2, 3, 4] rfl)
                            · have b459 : kb 1 v451 1 := kr_nel c453 hw450 kc_0 (by decide)
                              refine lv_bipush (v := 50) hx hb dX12_splits_152 (by decide) ?_
                              refine lv_goto (tgt := 165) hx hb dX12_splits_154 (by decide) ?_
                              exact jn406 _ _ _ 50  hP hD hS (lv_sub hl [0, 1, 2, 3, 4] rfl)
                          · have b460 : kb 1 v388 1 := kr_nel c448 hw387 kc_0 (by decide)
                            refine lv_aload_n hx hb dX12_splits_135 rfl (lv_at hl 3 rfl) ?_
                            refine lv_iload_n hx hb dX12_splits_136 rfl (lv_at hl 2 rfl) ?_
                            refine lv_iload hx hb dX12_splits_137 (lv_at hl 0 rfl) ?_
                            refine kI.callV (As := [.int y2, .int y379]) (rest := [.int tk, .ref (r 15)]) ⟨hx, hb, hml, hown, hg⟩ (m_wordOf l o r F3 a_386 g hI y2 y379 (kb_w b15 (by decide) (by decide)) (kb_w b382 (by decide) (by decide)) ) (cwV 2 hg (kgV wt6_187 wt6_189 wp4_3 wt1_14 wt6_190) rfl rfl rfl (by decide +kernel) ⟨by decide, by decide⟩) hK hP hD hS hA mIs [] rfl (wr := []) rfl rfl rfl (fun i h => by cases h) 0 12 rfl rfl rfl hl.1 rfl (Nat.le_of_ble_eq_true rfl) dX12_splits_139 ⟨Nat.le_refl _, Nat.le_refl _⟩ (fun v462 u463 H locs hw461 hP hD hS => ?_)
                            have hP : va_P D vwCl (mW K o r F3 a_386 g) H := hP
                            have hD : va_D A (mW K o r F3 a_386 g) := hD
                            refine lv_goto (tgt := 165) hx hb dX12_splits_142 (by decide) ?_
                            exact jn406 _ _ _ v462  hP hD hS (lv_sub hl [0, 1, 2, 3, 4] rfl)
                        · have h464 := (kc_nle c383)
                          have b465 : kb 1 y379 399 := kr_lt1 h464 b382 b16 (by decide)
                          have b466 : kb 2 x 400 := kr_lt2 h464 b382 b16 (by decide)
                          refine lv_aload_n hx hb dX12_splits_81 rfl (lv_at hl 3 rfl) ?_
                          refine va_get (D := D) (ci := 12) (v := .ref (r 11)) (C := RX12) (T := TX12) (N := 48) hx hb hg inC12 hown hK hP 0 rfl rfl 11 (by decide) (hg _ wt5_171) (fun _ h9 => h9) rfl dX12_splits_82 ?_
                          refine lv_iload hx hb dX12_splits_85 (lv_at hl 0 rfl) ?_
                          refine va_bald hx hb hK hP 7 1 rfl rfl (kb_in b465 (by decide) (by decide)) dX12_splits_87 ?_
                          refine lv_topi (fun t467 et467 => ?_)
                          refine kN.callS (As := [.int t467]) (rest := []) ⟨hx, hb, hml, hown, hg⟩ (m_isDigit l t467 ) (va_cwS 1 hg (kgS wt6_184 wt6_185 wt1_14 wt6_186) rfl rfl rfl (by decide +kernel) ⟨by decide, by decide⟩) hP hS rfl hl.1 rfl (Nat.le_of_ble_eq_true rfl) dX12_splits_88 ⟨Nat.le_refl _, Nat.le_refl _⟩ (fun v469 H locs hw468 hP hS => ?_)
                          refine lv_if_eq (tgt := 100) hx hb dX12_splits_91 (by decide) (fun c471 => ?_) (fun c471 => ?_)
                          · have b472 : kb 0 v469 0 := kb_eq c471 kc_0
                            refine lv_aload_n hx hb dX12_splits_100 rfl (lv_at hl 3 rfl) ?_
                            refine va_get (D := D) (ci := 12) (v := .ref (r 17)) (C := RX12) (T := TX12) (N := 48) hx hb hg inC12 hown hK hP 0 rfl rfl 17 (by decide) (hg _ wt5_177) (fun _ h9 => h9) rfl dX12_splits_101 ?_
                            refine lv_aload_n hx hb dX12_splits_104 rfl (lv_at hl 3 rfl) ?_
                            refine va_get (D := D) (ci := 12) (v := .int (F3 18)) (C := RX12) (T := TX12) (N := 48) hx hb hg inC12 hown hK hP 0 rfl rfl 18 (by decide) (hg _ wt5_178) (fun _ h9 => h9) rfl dX12_splits_105 ?_
                            refine k_top (z := tk) etk.symm ?_
                            refine lv_iload_n hx hb dX12_splits_108 rfl (lv_at hl 2 rfl) ?_
                            refine va_iast hx hb hK hP hD hS 11 0 rfl rfl (kb_in b8 (by decide) (by decide)) dX12_splits_109 (fun H locs hP hD hS => ?_)
                            have hP : va_P D vwCl (mW K o r F3 (va_up B4 17 (upd (B4 17) tk.toNatClampNeg y2)) g) H := hP
                            have hD : va_D A (mW K o r F3 (va_up B4 17 (upd (B4 17) tk.toNatClampNeg y2)) g) := hD
                            refine k_gen (P := fun z => va_P D vwCl (mW K o r F3 z g) H ∧ va_D A (mW K o r F3 z g) ∧ (mI F3 z) ∧ (mE (XR []) f a F3 z) ∧ (fE [18] f F3)) (va_up B4 17 (upd (B4 17) tk.toNatClampNeg y2)) ⟨hP, hD, (mI_s hI (aI_sx hI.2.1 17 0 401 b8 (by decide) (by decide) b15 (by decide +kernel)) (by decide) (by decide)), (mE_s hE (by decide) (by decide) (by decide) (by decide)), hk0⟩ (fun a_473 ea_473 hq => ?_)
                            obtain ⟨hP, hD, hI, hE, hk0⟩ := hq
                            refine lv_aload_n hx hb dX12_splits_110 rfl (lv_at hl 3 rfl) ?_
                            refine va_get (D := D) (ci := 12) (v := .ref (r 16)) (C := RX12) (T := TX12) (N := 48) hx hb hg inC12 hown hK hP 0 rfl rfl 16 (by decide) (hg _ wt5_176) (fun _ h9 => h9) rfl dX12_splits_111 ?_
                            refine lv_aload_n hx hb dX12_splits_114 rfl (lv_at hl 3 rfl) ?_
                            refine va_get (D := D) (ci := 12) (v := .int (F3 18)) (C := RX12) (T := TX12) (N := 48) hx hb hg inC12 hown hK hP 0 rfl rfl 18 (by decide) (hg _ wt5_178) (fun _ h9 => h9) rfl dX12_splits_115 ?_
                            refine k_top (z := tk) etk.symm ?_
                            refine lv_iconst (v := 0) hx hb dX12_splits_118 (by decide) ?_
                            refine va_iast hx hb hK hP hD hS 10 0 rfl rfl (kb_in b8 (by decide) (by decide)) dX12_splits_119 (fun H locs hP hD hS => ?_)
                            have hP : va_P D vwCl (mW K o r F3 (va_up a_473 16 (upd (a_473 16) tk.toNatClampNeg 0)) g) H := hP
                            have hD : va_D A (mW K o r F3 (va_up a_473 16 (upd (a_473 16) tk.toNatClampNeg 0)) g) := hD
                            refine k_gen (P := fun z => va_P D vwCl (mW K o r F3 z g) H ∧ va_D A (mW K o r F3 z g) ∧ (mI F3 z) ∧ (mE (XR []) f a F3 z) ∧ (fE [18] f F3)) (va_up a_473 16 (upd (a_473 16) tk.toNatClampNeg 0)) ⟨hP, hD, (mI_s hI (aI_free hI.2.1 16 _ (fun j => ⟨by show (mBa 16 j).1 ≤ _; exact Int.le_refl _, by show _ ≤ (mBa 16 j).2; exact Int.le_refl _⟩)) (by decide) (by decide)), (mE_s hE (by decide) (by decide) (by decide) (by decide)), hk0⟩ (fun a_474 ea_474 hq => ?_)
                            obtain ⟨hP, hD, hI, hE, hk0⟩ := hq
                            refine lv_aload_n hx hb dX12_splits_120 rfl (lv_at hl 3 rfl) ?_
                            refine va_get (D := D) (ci := 12) (v := .ref (r 15)) (C := RX12) (T := TX12) (N := 48) hx hb hg inC12 hown hK hP 0 rfl rfl 15 (by decide) (hg _ wt5_175) (fun _ h9 => h9) rfl dX12_splits_121 ?_
                            refine lv_aload_n hx hb dX12_splits_124 rfl (lv_at hl 3 rfl) ?_
                            refine va_get (D := D) (ci := 12) (v := .int (F3 18)) (C := RX12) (T := TX12) (N := 48) hx hb hg inC12 hown hK hP 0 rfl rfl 18 (by decide) (hg _ wt5_178) (fun _ h9 => h9) rfl dX12_splits_125 ?_
                            refine k_top (z := tk) etk.symm ?_
                            refine lv_iload_n hx hb dX12_splits_128 rfl (lv_at hl 1 rfl) ?_
                            refine kN.callS (As := [.int t17]) (rest := [.int tk, .ref (r 15)]) ⟨hx, hb, hml, hown, hg⟩ (m_isSmall l t17 ) (va_cwS 1 hg (kgS wt6_181 wt6_182 wt1_14 wt6_183) rfl rfl rfl (by decide +kernel) ⟨by decide, by decide⟩) hP hS rfl hl.1 rfl (Nat.le_of_ble_eq_true rfl) dX12_splits_129 ⟨Nat.le_refl _, Nat.le_refl _⟩ (fun v476 H locs hw475 hP hS => ?_)
                            have jn494 : ∀ (H : Heap) (locs : List Loc) (ls : Array Slot) (z493 : Int32), va_P D vwCl (mW K o r F3 a_474 g) H → va_D A (mW K o r F3 a_474 g) → va_S A s.heap H locs → lv_has ls 6 [(4, .int y379), (3, .int t17), (2, .int y2), (0, .ref o), (1, .int x)] → W p l e (rmD 2 0 0) s m ([.ref o, .int x] : List Value).toArray below meth c H locs 0 0 (kQv D (tysK K) (fun (u : mS) => mI u.1 u.2.1 ∧ mE (XR []) f a u.1 u.2.1 ∧ fE [18] f u.1 ∧ (∃ N : Nat, (u.1 18).toInt = (N : Int) ∧ N ≤ 400 ∧ u.2.1 15 N = 0)) (fun u => mW K o r u.1 u.2.1 u.2.2) A below ([.ref o, .int x] : List Value).toArray s 0 0) (F0 m 165 ls [.int z493, .int tk, .ref (r 15)]) := by
                              intro  H locs ls z493  hP hD hS hl
                              refine va_iast hx hb hK hP hD hS 9 0 rfl rfl (kb_in b8 (by decide) (by decide)) dX12_splits_165 (fun H locs hP hD hS => ?_)
                              have hP : va_P D vwCl (mW K o r F3 (va_up a_474 15 (upd (a_474 15) tk.toNatClampNeg z493)) g) H := hP
                              have hD : va_D A (mW K o r F3 (va_up a_474 15 (upd (a_474 15) tk.toNatClampNeg z493)) g) := hD
                              refine k_gen (P := fun z => va_P D vwCl (mW K o r F3 z g) H ∧ va_D A (mW K o r F3 z g) ∧ (mI F3 z) ∧ (mE (XR []) f a F3 z) ∧ (fE [18] f F3)) (va_up a_474 15 (upd (a_474 15) tk.toNatClampNeg z493)) ⟨hP, hD, (mI_s hI (aI_free hI.2.1 15 _ (fun j => ⟨by show (mBa 15 j).1 ≤ _; exact Int.le_refl _, by show _ ≤ (mBa 15 j).2; exact Int.le_refl _⟩)) (by decide) (by decide)), (mE_s hE (by decide) (by decide) (by decide) (by decide)), hk0⟩ (fun a_495 ea_495 hq => ?_)
                              obtain ⟨hP, hD, hI, hE, hk0⟩ := hq
                              refine lv_iload_n hx hb dX12_splits_166 rfl (lv_at hl 2 rfl) ?_
                              refine lv_istore (lv' := [(5, .int y2), (4, .int y379), (3, .int t17), (2, .int y2), (0, .ref o), (1, .int x)]) hx hb dX12_splits_167 hl (by decide) rfl (fun ls hl => ?_)
                              have lp498 : ∀ (n499 : Nat) (B497 : Nat → Nat → Int32) (H : Heap) (locs : List Loc) (ls : Array Slot) (y496 : Int32), (400 < y496.toInt + (n499 : Int)) → (mI F3 B497) → (mE (XR []) f a F3 B497) → (fE [18] f F3) → (kb 0 y496 400) → va_P D vwCl (mW K o r F3 B497 g) H → va_D A (mW K o r F3 B497 g) → va_S A s.heap H locs → lv_has ls 6 [(5, .int y496), (4, .int y379), (3, .int t17), (2, .int y2), (0, .ref o), (1, .int x)] → W p l e (rmD 2 0 0) s m ([.ref o, .int x] : List Value).toArray below meth c H locs 0 0 (kQv D (tysK K) (fun (u : mS) => mI u.1 u.2.1 ∧ mE (XR []) f a u.1 u.2.1 ∧ fE [18] f u.1 ∧ (∃ N : Nat, (u.1 18).toInt = (N : Int) ∧ N ≤ 400 ∧ u.2.1 15 N = 0)) (fun u => mW K o r u.1 u.2.1 u.2.2) A below ([.ref o, .int x] : List Value).toArray s 0 0) (F0 m 169 ls []) := by
                                intro n499
                                induction n499 with
                                | zero =>
                                  intro  B497  H locs ls y496 hmlp498 hI hE hk0 b500 hP hD hS hl
                                  exact (by have h1 := b500.2; have h2 := hmlp498; omega : False).elim
                                | succ n499 ihlp498 =>
                                  intro  B497  H locs ls y496 hmlp498 hI hE hk0 b500 hP hD hS hl
                                  refine lv_iload hx hb dX12_splits_169 (lv_at hl 0 rfl) ?_
                                  refine lv_iload hx hb dX12_splits_171 (lv_at hl 1 rfl) ?_
                                  refine lv_icmp_ge (tgt := 247) hx hb dX12_splits_173 (by decide) (fun c501 => ?_) (fun c501 => ?_)
                                  · have h502 := (kc_le c501)
                                    have b503 : kb 1 y496 400 := kr_le2 h502 b465 b500
                                    refine lv_aload_n hx hb dX12_splits_247 rfl (lv_at hl 4 rfl) ?_
                                    refine lv_dup hx hb dX12_splits_248 rfl ?_
                                    refine va_get (D := D) (ci := 12) (v := .int (F3 18)) (C := RX12) (T := TX12) (N := 48) hx hb hg inC12 hown hK hP 0 rfl rfl 18 (by decide) (hg _ wt5_178) (fun _ h9 => h9) rfl dX12_splits_249 ?_
                                    refine k_top (z := tk) etk.symm ?_
                                    have b504 : kb 0 tk 399 := ⟨(b8).1, by have w1 := htk; have w2 := (b15).2; omega⟩
                                    refine lv_iconst (v := 1) hx hb dX12_splits_252 (by decide) ?_
                                    refine lv_iadd hx hb dX12_splits_253 ?_
                                    refine lv_topi (fun t505 et505 => ?_)
                                    have b506 : kb 1 t505 400 := kb_eq et505 (kb_add b504 kc_1 (by decide) (by decide))
                                    have qt505 : t505.toInt = tk.toInt + 1 := by rw [et505]; exact kt_addc b504 kc_1 (by decide) (by decide)
                                    refine va_put (D := D) (ci := 12) (v := .int t505) (ty := .int) (C := RX12) (T := TX12) (N := 48) hx hb hg inC12 tyX12 tyX12_ok nmX12 hown hK hP hD hS 0 rfl rfl 18 (by decide) (hg _ wt5_178) (fun _ h9 => h9) rfl (by decide +kernel) rfl rfl (Nat.le_of_ble_eq_true rfl) dX12_splits_254 (fun H locs hP hD hS => ?_)
                                    have hP : va_P D vwCl (mW K o r (upd F3 18 t505) B497 g) H := hP
                                    have hD : va_D A (mW K o r (upd F3 18 t505) B497 g) := hD
                                    refine k_gen (P := fun z => va_P D vwCl (mW K o r z B497 g) H ∧ va_D A (mW K o r z B497 g) ∧ (mI z B497) ∧ (mE (XR []) f a z B497) ∧ (fE [18] f z)) (upd F3 18 t505) ⟨hP, hD, (mI_f hI (fI_st hI.1 18 b506 (by decide) (by decide))), (mE_f hE (by decide)), (fE_f hk0 (by decide))⟩ (fun f_507 ef_507 hq => ?_)
                                    obtain ⟨hP, hD, hI, hE, hk0⟩ := hq
                                    refine lv_iload hx hb dX12_splits_257 (lv_at hl 1 rfl) ?_
                                    refine lv_istore_n (lv' := [(2, .int y379), (5, .int y496), (4, .int y379), (3, .int t17), (0, .ref o), (1, .int x)]) hx hb dX12_splits_259 rfl hl (by decide) rfl (fun ls hl => ?_)
                                    refine lv_goto (tgt := 7) hx hb dX12_splits_260 (by decide) ?_
                                    exact ihlp5  f_507 B497 _ _ _ y379 (by omega) hI hE hk0 (kb_w b465 (by decide) (by decide)) (by rw [(show f_507 18 = t505 from by rw [← ef_507]; rfl)]; omega) hP hD hS (lv_sub hl [0, 4, 5] rfl)
                                  · have h508 := (kc_nle c501)
                                    have b509 : kb 0 y496 398 := kr_lt1 h508 b500 b465 (by decide)
                                    refine lv_iload_n hx hb dX12_splits_176 rfl (lv_at hl 2 rfl) ?_
                                    refine kN.callS (As := [.int t17]) (rest := []) ⟨hx, hb, hml, hown, hg⟩ (m_isDigit l t17 ) (va_cwS 1 hg (kgS wt6_184 wt6_185 wt1_14 wt6_186) rfl rfl rfl (by decide +kernel) ⟨by decide, by decide⟩) hP hS rfl hl.1 rfl (Nat.le_of_ble_eq_true rfl) dX12_splits_177 ⟨Nat.le_refl _, Nat.le_refl _⟩ (fun v511 H locs hw510 hP hS => ?_)
                                    refine lv_if_eq (tgt := 247) hx hb dX12_splits_180 (by decide) (fun c513 => ?_) (fun c513 => ?_)
                                    · have b514 : kb 0 v511 0 := kb_eq c513 kc_0
                                      refine lv_aload_n hx hb dX12_splits_247 rfl (lv_at hl 4 rfl) ?_
                                      refine lv_dup hx hb dX12_splits_248 rfl ?_
                                      refine va_get (D := D) (ci := 12) (v := .int (F3 18)) (C := RX12) (T := TX12) (N := 48) hx hb hg inC12 hown hK hP 0 rfl rfl 18 (by decide) (hg _ wt5_178) (fun _ h9 => h9) rfl dX12_splits_249 ?_
                                      refine k_top (z := tk) etk.symm ?_
                                      have b515 : kb 0 tk 399 := ⟨(b8).1, by have w1 := htk; have w2 := (b15).2; omega⟩
                                      refine lv_iconst (v := 1) hx hb dX12_splits_252 (by decide) ?_
                                      refine lv_iadd hx hb dX12_splits_253 ?_
                                      refine lv_topi (fun t516 et516 => ?_)
                                      have b517 : kb 1 t516 400 := kb_eq et516 (kb_add b515 kc_1 (by decide) (by decide))
                                      have qt516 : t516.toInt = tk.toInt + 1 := by rw [et516]; exact kt_addc b515 kc_1 (by decide) (by decide)
                                      refine va_put (D := D) (ci := 12) (v := .int t516) (ty := .int) (C := RX12) (T := TX12) (N := 48) hx hb hg inC12 tyX12 tyX12_ok nmX12 hown hK hP hD hS 0 rfl rfl 18 (by decide) (hg _ wt5_178) (fun _ h9 => h9) rfl (by decide +kernel) rfl rfl (Nat.le_of_ble_eq_true rfl) dX12_splits_254 (fun H locs hP hD hS => ?_)
                                      have hP : va_P D vwCl (mW K o r (upd F3 18 t516) B497 g) H := hP
                                      have hD : va_D A (mW K o r (upd F3 18 t516) B497 g) := hD
                                      refine k_gen (P := fun z => va_P D vwCl (mW K o r z B497 g) H ∧ va_D A (mW K o r z B497 g) ∧ (mI z B497) ∧ (mE (XR []) f a z B497) ∧ (fE [18] f z)) (upd F3 18 t516) ⟨hP, hD, (mI_f hI (fI_st hI.1 18 b517 (by decide) (by decide))), (mE_f hE (by decide)), (fE_f hk0 (by decide))⟩ (fun f_518 ef_518 hq => ?_)
                                      obtain ⟨hP, hD, hI, hE, hk0⟩ := hq
                                      refine lv_iload hx hb dX12_splits_257 (lv_at hl 1 rfl) ?_
                                      refine lv_istore_n (lv' := [(2, .int y379), (5, .int y496), (4, .int y379), (3, .int t17), (0, .ref o), (1, .int x)]) hx hb dX12_splits_259 rfl hl (by decide) rfl (fun ls hl => ?_)
                                      refine lv_goto (tgt := 7) hx hb dX12_splits_260 (by decide) ?_
                                      exact ihlp5  f_518 B497 _ _ _ y379 (by omega) hI hE hk0 (kb_w b465 (by decide) (by decide)) (by rw [(show f_518 18 = t516 from by rw [← ef_518]; rfl)]; omega) hP hD hS (lv_sub hl [0, 4, 5] rfl)
                                    · have b519 : kb 1 v511 1 := kr_nel c513 hw510 kc_0 (by decide)
                                      refine lv_aload_n hx hb dX12_splits_183 rfl (lv_at hl 4 rfl) ?_
                                      refine va_get (D := D) (ci := 12) (v := .ref (r 16)) (C := RX12) (T := TX12) (N := 48) hx hb hg inC12 hown hK hP 0 rfl rfl 16 (by decide) (hg _ wt5_176) (fun _ h9 => h9) rfl dX12_splits_184 ?_
                                      refine lv_aload_n hx hb dX12_splits_187 rfl (lv_at hl 4 rfl) ?_
                                      refine va_get (D := D) (ci := 12) (v := .int (F3 18)) (C := RX12) (T := TX12) (N := 48) hx hb hg inC12 hown hK hP 0 rfl rfl 18 (by decide) (hg _ wt5_178) (fun _ h9 => h9) rfl dX12_splits_188 ?_
                                      refine k_top (z := tk) etk.symm ?_
                                      refine lv_aload_n hx hb dX12_splits_191 rfl (lv_at hl 4 rfl) ?_
                                      refine va_get (D := D) (ci := 12) (v := .ref (r 16)) (C := RX12) (T := TX12) (N := 48) hx hb hg inC12 hown hK hP 0 rfl rfl 16 (by decide) (hg _ wt5_176) (fun _ h9 => h9) rfl dX12_splits_192 ?_
                                      refine lv_aload_n hx hb dX12_splits_195 rfl (lv_at hl 4 rfl) ?_
                                      refine va_get (D := D) (ci := 12) (v := .int (F3 18)) (C := RX12) (T := TX12) (N := 48) hx hb hg inC12 hown hK hP 0 rfl rfl 18 (by decide) (hg _ wt5_178) (fun _ h9 => h9) rfl dX12_splits_196 ?_
                                      refine k_top (z := tk) etk.symm ?_
                                      refine va_iald hx hb hK hP 10 0 rfl rfl (kb_in b8 (by decide) (by decide)) dX12_splits_199 ?_
                                      refine lv_topi (fun t520 et520 => ?_)
                                      refine lv_ldc (v := (1000000)) hx hb hown (hg _ wt6_191) dX12_splits_200 ?_
                                      refine lv_icmp_le (tgt := 217) hx hb dX12_splits_202 (by decide) (fun c521 => ?_) (fun c521 => ?_)
                                      · have h522 := (kc_le c521)
                                        have b523 : kb (-2147483648) t520 1000000 := kr_le1 h522 (kb_any t520) kc_1000000
                                        refine lv_bipush (v := 10) hx hb dX12_splits_217 (by decide) ?_
                                        refine lv_aload_n hx hb dX12_splits_219 rfl (lv_at hl 4 rfl) ?_
                                        refine va_get (D := D) (ci := 12) (v := .ref (r 16)) (C := RX12) (T := TX12) (N := 48) hx hb hg inC12 hown hK hP 0 rfl rfl 16 (by decide) (hg _ wt5_176) (fun _ h9 => h9) rfl dX12_splits_220 ?_
                                        refine lv_aload_n hx hb dX12_splits_223 rfl (lv_at hl 4 rfl) ?_
                                        refine va_get (D := D) (ci := 12) (v := .int (F3 18)) (C := RX12) (T := TX12) (N := 48) hx hb hg inC12 hown hK hP 0 rfl rfl 18 (by decide) (hg _ wt5_178) (fun _ h9 => h9) rfl dX12_splits_224 ?_
                                        refine k_top (z := tk) etk.symm ?_
                                        refine va_iald hx hb hK hP 10 0 rfl rfl (kb_in b8 (by decide) (by decide)) dX12_splits_227 ?_
                                        refine k_top (z := t520) et520.symm ?_
                                        refine lv_imul hx hb dX12_splits_228 ?_
                                        refine lv_topi (fun t524 et524 => ?_)
                                        refine lv_aload_n hx hb dX12_splits_229 rfl (lv_at hl 4 rfl) ?_
                                        refine va_get (D := D) (ci := 12) (v := .ref (r 11)) (C := RX12) (T := TX12) (N := 48) hx hb hg inC12 hown hK hP 0 rfl rfl 11 (by decide) (hg _ wt5_171) (fun _ h9 => h9) rfl dX12_splits_230 ?_
                                        refine lv_iload hx hb dX12_splits_233 (lv_at hl 0 rfl) ?_
                                        refine va_bald hx hb hK hP 7 1 rfl rfl (kb_in b509 (by decide) (by decide)) dX12_splits_235 ?_
                                        refine lv_topi (fun t525 et525 => ?_)
                                        refine lv_iadd hx hb dX12_splits_236 ?_
                                        refine lv_topi (fun t526 et526 => ?_)
                                        refine lv_bipush (v := 48) hx hb dX12_splits_237 (by decide) ?_
                                        refine lv_isub hx hb dX12_splits_239 ?_
                                        refine lv_topi (fun t527 et527 => ?_)
                                        refine va_iast hx hb hK hP hD hS 10 0 rfl rfl (kb_in b8 (by decide) (by decide)) dX12_splits_240 (fun H locs hP hD hS => ?_)
                                        have hP : va_P D vwCl (mW K o r F3 (va_up B497 16 (upd (B497 16) tk.toNatClampNeg t527)) g) H := hP
                                        have hD : va_D A (mW K o r F3 (va_up B497 16 (upd (B497 16) tk.toNatClampNeg t527)) g) := hD
                                        refine k_gen (P := fun z => va_P D vwCl (mW K o r F3 z g) H ∧ va_D A (mW K o r F3 z g) ∧ (mI F3 z) ∧ (mE (XR []) f a F3 z) ∧ (fE [18] f F3)) (va_up B497 16 (upd (B497 16) tk.toNatClampNeg t527)) ⟨hP, hD, (mI_s hI (aI_free hI.2.1 16 _ (fun j => ⟨by show (mBa 16 j).1 ≤ _; exact Int.le_refl _, by show _ ≤ (mBa 16 j).2; exact Int.le_refl _⟩)) (by decide) (by decide)), (mE_s hE (by decide) (by decide) (by decide) (by decide)), hk0⟩ (fun a_528 ea_528 hq => ?_)
                                        obtain ⟨hP, hD, hI, hE, hk0⟩ := hq
                                        obtain ⟨t529, et529⟩ : ∃ z : Int32, z = y496 + Int32.ofInt 1 := ⟨_, rfl⟩
                                        have qt529 : t529.toInt = y496.toInt + 1 := by rw [et529]; exact km_inc b509 (by decide) (by decide)
                                        have b530 : kb 1 t529 399 := kb_inc (k := 1) qt529 b509
                                        refine lv_iinc (v := t529) (lv' := [(5, .int t529), (4, .int y379), (3, .int t17), (2, .int y2), (0, .ref o), (1, .int x)]) hx hb dX12_splits_241 hl (k := 0) rfl et529.symm (by decide) rfl (fun ls hl => ?_)
                                        refine lv_goto (tgt := 169) hx hb dX12_splits_244 (by decide) ?_
                                        exact ihlp498  a_528 _ _ _ t529 (km_up hmlp498 qt529) hI hE hk0 (kb_w b530 (by decide) (by decide)) hP hD hS (lv_sub hl [0, 1, 2, 3, 4, 5] rfl)
                                      · have h531 := (kc_nle c521)
                                        have b532 : kb 1000001 t520 2147483647 := kr_lt2 h531 kc_1000000 (kb_any t520) (by decide)
                                        refine lv_aload_n hx hb dX12_splits_205 rfl (lv_at hl 4 rfl) ?_
                                        refine va_get (D := D) (ci := 12) (v := .ref (r 16)) (C := RX12) (T := TX12) (N := 48) hx hb hg inC12 hown hK hP 0 rfl rfl 16 (by decide) (hg _ wt5_176) (fun _ h9 => h9) rfl dX12_splits_206 ?_
                                        refine lv_aload_n hx hb dX12_splits_209 rfl (lv_at hl 4 rfl) ?_
                                        refine va_get (D := D) (ci := 12) (v := .int (F3 18)) (C := RX12) (T := TX12) (N := 48) hx hb hg inC12 hown hK hP 0 rfl rfl 18 (by decide) (hg _ wt5_178) (fun _ h9 => h9) rfl dX12_splits_210 ?_
                                        refine k_top (z := tk) etk.symm ?_
                                        refine va_iald hx hb hK hP 10 0 rfl rfl (kb_in b8 (by decide) (by decide)) dX12_splits_213 ?_
                                        refine k_top (z := t520) et520.symm ?_
                                        refine lv_goto (tgt := 240) hx hb dX12_splits_214 (by decide) ?_
                                        refine va_iast hx hb hK hP hD hS 10 0 rfl rfl (kb_in b8 (by decide) (by decide)) dX12_splits_240 (fun H locs hP hD hS => ?_)
                                        have hP : va_P D vwCl (mW K o r F3 (va_up B497 16 (upd (B497 16) tk.toNatClampNeg t520)) g) H := hP
                                        have hD : va_D A (mW K o r F3 (va_up B497 16 (upd (B497 16) tk.toNatClampNeg t520)) g) := hD
                                        refine k_gen (P := fun z => va_P D vwCl (mW K o r F3 z g) H ∧ va_D A (mW K o r F3 z g) ∧ (mI F3 z) ∧ (mE (XR []) f a F3 z) ∧ (fE [18] f F3)) (va_up B497 16 (upd (B497 16) tk.toNatClampNeg t520)) ⟨hP, hD, (mI_s hI (aI_free hI.2.1 16 _ (fun j => ⟨by show (mBa 16 j).1 ≤ _; exact Int.le_refl _, by show _ ≤ (mBa 16 j).2; exact Int.le_refl _⟩)) (by decide) (by decide)), (mE_s hE (by decide) (by decide) (by decide) (by decide)), hk0⟩ (fun a_533 ea_533 hq => ?_)
                                        obtain ⟨hP, hD, hI, hE, hk0⟩ := hq
                                        obtain ⟨t534, et534⟩ : ∃ z : Int32, z = y496 + Int32.ofInt 1 := ⟨_, rfl⟩
                                        have qt534 : t534.toInt = y496.toInt + 1 := by rw [et534]; exact km_inc b509 (by decide) (by decide)
                                        have b535 : kb 1 t534 399 := kb_inc (k := 1) qt534 b509
                                        refine lv_iinc (v := t534) (lv' := [(5, .int t534), (4, .int y379), (3, .int t17), (2, .int y2), (0, .ref o), (1, .int x)]) hx hb dX12_splits_241 hl (k := 0) rfl et534.symm (by decide) rfl (fun ls hl => ?_)
                                        refine lv_goto (tgt := 169) hx hb dX12_splits_244 (by decide) ?_
                                        exact ihlp498  a_533 _ _ _ t534 (km_up hmlp498 qt534) hI hE hk0 (kb_w b535 (by decide) (by decide)) hP hD hS (lv_sub hl [0, 1, 2, 3, 4, 5] rfl)
                              exact lp498 (401)  a_495 _ _ _ y2 (by have h1 := (b15); unfold kb at h1; omega) hI hE hk0 (kb_w b15 (by decide) (by decide)) hP hD hS (lv_sub hl [0, 1, 2, 3, 4, 5] rfl)
                            refine lv_if_eq (tgt := 145) hx hb dX12_splits_132 (by decide) (fun c536 => ?_) (fun c536 => ?_)
                            · have b537 : kb 0 v476 0 := kb_eq c536 kc_0
                              refine lv_iload_n hx hb dX12_splits_145 rfl (lv_at hl 1 rfl) ?_
                              refine kN.callS (As := [.int t17]) (rest := [.int tk, .ref (r 15)]) ⟨hx, hb, hml, hown, hg⟩ (m_isDigit l t17 ) (va_cwS 1 hg (kgS wt6_184 wt6_185 wt1_14 wt6_186) rfl rfl rfl (by decide +kernel) ⟨by decide, by decide⟩) hP hS rfl hl.1 rfl (Nat.le_of_ble_eq_true rfl) dX12_splits_146 ⟨Nat.le_refl _, Nat.le_refl _⟩ (fun v539 H locs hw538 hP hS => ?_)
                              refine lv_if_eq (tgt := 157) hx hb dX12_splits_149 (by decide) (fun c541 => ?_) (fun c541 => ?_)
                              · have b542 : kb 0 v539 0 := kb_eq c541 kc_0
                                refine lv_bipush (v := 100) hx hb dX12_splits_157 (by decide) ?_
                                refine lv_iload_n hx hb dX12_splits_159 rfl (lv_at hl 1 rfl) ?_
                                refine lv_sipush (v := 255) hx hb dX12_splits_160 (by decide) ?_
                                refine lv_iand hx hb dX12_splits_163 ?_
                                refine lv_topi (fun t543 et543 => ?_)
                                have b544 : kb 0 t543 255 := kb_eq et543 (kb_and 8 (by decide) (by decide))
                                refine lv_iadd hx hb dX12_splits_164 ?_
                                refine lv_topi (fun t545 et545 => ?_)
                                have b546 : kb 100 t545 355 := kb_eq et545 (kb_add kc_100 b544 (by decide) (by decide))
                                have qt545 : t545.toInt = 100 + t543.toInt := by rw [et545]; exact kt_cadd kc_100 b544 (by decide) (by decide)
                                exact jn494 _ _ _ t545  hP hD hS (lv_sub hl [0, 1, 2, 3, 4] rfl)
                              · have b547 : kb 1 v539 1 := kr_nel c541 hw538 kc_0 (by decide)
                                refine lv_bipush (v := 50) hx hb dX12_splits_152 (by decide) ?_
                                refine lv_goto (tgt := 165) hx hb dX12_splits_154 (by decide) ?_
                                exact jn494 _ _ _ 50  hP hD hS (lv_sub hl [0, 1, 2, 3, 4] rfl)
                            · have b548 : kb 1 v476 1 := kr_nel c536 hw475 kc_0 (by decide)
                              refine lv_aload_n hx hb dX12_splits_135 rfl (lv_at hl 3 rfl) ?_
                              refine lv_iload_n hx hb dX12_splits_136 rfl (lv_at hl 2 rfl) ?_
                              refine lv_iload hx hb dX12_splits_137 (lv_at hl 0 rfl) ?_
                              refine kI.callV (As := [.int y2, .int y379]) (rest := [.int tk, .ref (r 15)]) ⟨hx, hb, hml, hown, hg⟩ (m_wordOf l o r F3 a_474 g hI y2 y379 (kb_w b15 (by decide) (by decide)) (kb_w b465 (by decide) (by decide)) ) (cwV 2 hg (kgV wt6_187 wt6_189 wp4_3 wt1_14 wt6_190) rfl rfl rfl (by decide +kernel) ⟨by decide, by decide⟩) hK hP hD hS hA mIs [] rfl (wr := []) rfl rfl rfl (fun i h => by cases h) 0 12 rfl rfl rfl hl.1 rfl (Nat.le_of_ble_eq_true rfl) dX12_splits_139 ⟨Nat.le_refl _, Nat.le_refl _⟩ (fun v550 u551 H locs hw549 hP hD hS => ?_)
                              have hP : va_P D vwCl (mW K o r F3 a_474 g) H := hP
                              have hD : va_D A (mW K o r F3 a_474 g) := hD
                              refine lv_goto (tgt := 165) hx hb dX12_splits_142 (by decide) ?_
                              exact jn494 _ _ _ v550  hP hD hS (lv_sub hl [0, 1, 2, 3, 4] rfl)
                          · have b552 : kb 1 v469 1 := kr_nel c471 hw468 kc_0 (by decide)
                            obtain ⟨t553, et553⟩ : ∃ z : Int32, z = y379 + Int32.ofInt 1 := ⟨_, rfl⟩
                            have qt553 : t553.toInt = y379.toInt + 1 := by rw [et553]; exact km_inc b465 (by decide) (by decide)
                            have b554 : kb 2 t553 400 := kb_inc (k := 1) qt553 b465
                            refine lv_iinc (v := t553) (lv' := [(4, .int t553), (3, .int t17), (2, .int y2), (0, .ref o), (1, .int x)]) hx hb dX12_splits_94 hl (k := 0) rfl et553.symm (by decide) rfl (fun ls hl => ?_)
                            refine lv_goto (tgt := 75) hx hb dX12_splits_97 (by decide) ?_
                            exact ihlp380  _ _ _ t553 (km_up hmlp380 qt553) (kb_w b554 (by decide) (by decide)) (by omega) hP hD hS (lv_sub hl [0, 1, 2, 3, 4] rfl)
                    exact lp380 (400)  _ _ _ y288 (by have h1 := (b291); unfold kb at h1; omega) b291 (by omega) hP hD hS (lv_sub hl [0, 1, 2, 3, 4] rfl)
                · have h555 := (kc_nle c292)
                  have b556 : kb 1 y288 399 := kr_lt1 h555 b291 b16 (by decide)
                  have b557 : kb 2 x 400 := kr_lt2 h555 b291 b16 (by decide)
                  refine lv_aload_n hx hb dX12_splits_49 rfl (lv_at hl 3 rfl) ?_
                  refine va_get (D := D) (ci := 12) (v := .ref (r 11)) (C := RX12) (T := TX12) (N := 48) hx hb hg inC12 hown hK hP 0 rfl rfl 11 (by decide) (hg _ wt5_171) (fun _ h9 => h9) rfl dX12_splits_50 ?_
                  refine lv_iload hx hb dX12_splits_53 (lv_at hl 0 rfl) ?_
                  refine va_bald hx hb hK hP 7 1 rfl rfl (kb_in b556 (by decide) (by decide)) dX12_splits_55 ?_
                  refine lv_topi (fun t558 et558 => ?_)
                  refine kN.callS (As := [.int t558]) (rest := []) ⟨hx, hb, hml, hown, hg⟩ (m_isSmall l t558 ) (va_cwS 1 hg (kgS wt6_181 wt6_182 wt1_14 wt6_183) rfl rfl rfl (by decide +kernel) ⟨by decide, by decide⟩) hP hS rfl hl.1 rfl (Nat.le_of_ble_eq_true rfl) dX12_splits_56 ⟨Nat.le_refl _, Nat.le_refl _⟩ (fun v560 H locs hw559 hP hS => ?_)
                  refine lv_if_eq (tgt := 68) hx hb dX12_splits_59 (by decide) (fun c562 => ?_) (fun c562 => ?_)
                  · have b563 : kb 0 v560 0 := kb_eq c562 kc_0
                    refine lv_iload_n hx hb dX12_splits_68 rfl (lv_at hl 1 rfl) ?_
                    refine kN.callS (As := [.int t17]) (rest := []) ⟨hx, hb, hml, hown, hg⟩ (m_isDigit l t17 ) (va_cwS 1 hg (kgS wt6_184 wt6_185 wt1_14 wt6_186) rfl rfl rfl (by decide +kernel) ⟨by decide, by decide⟩) hP hS rfl hl.1 rfl (Nat.le_of_ble_eq_true rfl) dX12_splits_69 ⟨Nat.le_refl _, Nat.le_refl _⟩ (fun v565 H locs hw564 hP hS => ?_)
                    refine lv_if_eq (tgt := 100) hx hb dX12_splits_72 (by decide) (fun c567 => ?_) (fun c567 => ?_)
                    · have b568 : kb 0 v565 0 := kb_eq c567 kc_0
                      refine lv_aload_n hx hb dX12_splits_100 rfl (lv_at hl 3 rfl) ?_
                      refine va_get (D := D) (ci := 12) (v := .ref (r 17)) (C := RX12) (T := TX12) (N := 48) hx hb hg inC12 hown hK hP 0 rfl rfl 17 (by decide) (hg _ wt5_177) (fun _ h9 => h9) rfl dX12_splits_101 ?_
                      refine lv_aload_n hx hb dX12_splits_104 rfl (lv_at hl 3 rfl) ?_
                      refine va_get (D := D) (ci := 12) (v := .int (F3 18)) (C := RX12) (T := TX12) (N := 48) hx hb hg inC12 hown hK hP 0 rfl rfl 18 (by decide) (hg _ wt5_178) (fun _ h9 => h9) rfl dX12_splits_105 ?_
                      refine k_top (z := tk) etk.symm ?_
                      refine lv_iload_n hx hb dX12_splits_108 rfl (lv_at hl 2 rfl) ?_
                      refine va_iast hx hb hK hP hD hS 11 0 rfl rfl (kb_in b8 (by decide) (by decide)) dX12_splits_109 (fun H locs hP hD hS => ?_)
                      have hP : va_P D vwCl (mW K o r F3 (va_up B4 17 (upd (B4 17) tk.toNatClampNeg y2)) g) H := hP
                      have hD : va_D A (mW K o r F3 (va_up B4 17 (upd (B4 17) tk.toNatClampNeg y2)) g) := hD
                      refine k_gen (P := fun z => va_P D vwCl (mW K o r F3 z g) H ∧ va_D A (mW K o r F3 z g) ∧ (mI F3 z) ∧ (mE (XR []) f a F3 z) ∧ (fE [18] f F3)) (va_up B4 17 (upd (B4 17) tk.toNatClampNeg y2)) ⟨hP, hD, (mI_s hI (aI_sx hI.2.1 17 0 401 b8 (by decide) (by decide) b15 (by decide +kernel)) (by decide) (by decide)), (mE_s hE (by decide) (by decide) (by decide) (by decide)), hk0⟩ (fun a_569 ea_569 hq => ?_)
                      obtain ⟨hP, hD, hI, hE, hk0⟩ := hq
                      refine lv_aload_n hx hb dX12_splits_110 rfl (lv_at hl 3 rfl) ?_
                      refine va_get (D := D) (ci := 12) (v := .ref (r 16)) (C := RX12) (T := TX12) (N := 48) hx hb hg inC12 hown hK hP 0 rfl rfl 16 (by decide) (hg _ wt5_176) (fun _ h9 => h9) rfl dX12_splits_111 ?_
                      refine lv_aload_n hx hb dX12_splits_114 rfl (lv_at hl 3 rfl) ?_
                      refine va_get (D := D) (ci := 12) (v := .int (F3 18)) (C := RX12) (T := TX12) (N := 48) hx hb hg inC12 hown hK hP 0 rfl rfl 18 (by decide) (hg _ wt5_178) (fun _ h9 => h9) rfl dX12_splits_115 ?_
                      refine k_top (z := tk) etk.symm ?_
                      refine lv_iconst (v := 0) hx hb dX12_splits_118 (by decide) ?_
                      refine va_iast hx hb hK hP hD hS 10 0 rfl rfl (kb_in b8 (by decide) (by decide)) dX12_splits_119 (fun H locs hP hD hS => ?_)
                      have hP : va_P D vwCl (mW K o r F3 (va_up a_569 16 (upd (a_569 16) tk.toNatClampNeg 0)) g) H := hP
                      have hD : va_D A (mW K o r F3 (va_up a_569 16 (upd (a_569 16) tk.toNatClampNeg 0)) g) := hD
                      refine k_gen (P := fun z => va_P D vwCl (mW K o r F3 z g) H ∧ va_D A (mW K o r F3 z g) ∧ (mI F3 z) ∧ (mE (XR []) f a F3 z) ∧ (fE [18] f F3)) (va_up a_569 16 (upd (a_569 16) tk.toNatClampNeg 0)) ⟨hP, hD, (mI_s hI (aI_free hI.2.1 16 _ (fun j => ⟨by show (mBa 16 j).1 ≤ _; exact Int.le_refl _, by show _ ≤ (mBa 16 j).2; exact Int.le_refl _⟩)) (by decide) (by decide)), (mE_s hE (by decide) (by decide) (by decide) (by decide)), hk0⟩ (fun a_570 ea_570 hq => ?_)
                      obtain ⟨hP, hD, hI, hE, hk0⟩ := hq
                      refine lv_aload_n hx hb dX12_splits_120 rfl (lv_at hl 3 rfl) ?_
                      refine va_get (D := D) (ci := 12) (v := .ref (r 15)) (C := RX12) (T := TX12) (N := 48) hx hb hg inC12 hown hK hP 0 rfl rfl 15 (by decide) (hg _ wt5_175) (fun _ h9 => h9) rfl dX12_splits_121 ?_
                      refine lv_aload_n hx hb dX12_splits_124 rfl (lv_at hl 3 rfl) ?_
                      refine va_get (D := D) (ci := 12) (v := .int (F3 18)) (C := RX12) (T := TX12) (N := 48) hx hb hg inC12 hown hK hP 0 rfl rfl 18 (by decide) (hg _ wt5_178) (fun _ h9 => h9) rfl dX12_splits_125 ?_
                      refine k_top (z := tk) etk.symm ?_
                      refine lv_iload_n hx hb dX12_splits_128 rfl (lv_at hl 1 rfl) ?_
                      refine kN.callS (As := [.int t17]) (rest := [.int tk, .ref (r 15)]) ⟨hx, hb, hml, hown, hg⟩ (m_isSmall l t17 ) (va_cwS 1 hg (kgS wt6_181 wt6_182 wt1_14 wt6_183) rfl rfl rfl (by decide +kernel) ⟨by decide, by decide⟩) hP hS rfl hl.1 rfl (Nat.le_of_ble_eq_true rfl) dX12_splits_129 ⟨Nat.le_refl _, Nat.le_refl _⟩ (fun v572 H locs hw571 hP hS => ?_)
                      have jn590 : ∀ (H : Heap) (locs : List Loc) (ls : Array Slot) (z589 : Int32), va_P D vwCl (mW K o r F3 a_570 g) H → va_D A (mW K o r F3 a_570 g) → va_S A s.heap H locs → lv_has ls 6 [(4, .int y288), (3, .int t17), (2, .int y2), (0, .ref o), (1, .int x)] → W p l e (rmD 2 0 0) s m ([.ref o, .int x] : List Value).toArray below meth c H locs 0 0 (kQv D (tysK K) (fun (u : mS) => mI u.1 u.2.1 ∧ mE (XR []) f a u.1 u.2.1 ∧ fE [18] f u.1 ∧ (∃ N : Nat, (u.1 18).toInt = (N : Int) ∧ N ≤ 400 ∧ u.2.1 15 N = 0)) (fun u => mW K o r u.1 u.2.1 u.2.2) A below ([.ref o, .int x] : List Value).toArray s 0 0) (F0 m 165 ls [.int z589, .int tk, .ref (r 15)]) := by
                        intro  H locs ls z589  hP hD hS hl
                        refine va_iast hx hb hK hP hD hS 9 0 rfl rfl (kb_in b8 (by decide) (by decide)) dX12_splits_165 (fun H locs hP hD hS => ?_)
                        have hP : va_P D vwCl (mW K o r F3 (va_up a_570 15 (upd (a_570 15) tk.toNatClampNeg z589)) g) H := hP
                        have hD : va_D A (mW K o r F3 (va_up a_570 15 (upd (a_570 15) tk.toNatClampNeg z589)) g) := hD
                        refine k_gen (P := fun z => va_P D vwCl (mW K o r F3 z g) H ∧ va_D A (mW K o r F3 z g) ∧ (mI F3 z) ∧ (mE (XR []) f a F3 z) ∧ (fE [18] f F3)) (va_up a_570 15 (upd (a_570 15) tk.toNatClampNeg z589)) ⟨hP, hD, (mI_s hI (aI_free hI.2.1 15 _ (fun j => ⟨by show (mBa 15 j).1 ≤ _; exact Int.le_refl _, by show _ ≤ (mBa 15 j).2; exact Int.le_refl _⟩)) (by decide) (by decide)), (mE_s hE (by decide) (by decide) (by decide) (by decide)), hk0⟩ (fun a_591 ea_591 hq => ?_)
                        obtain ⟨hP, hD, hI, hE, hk0⟩ := hq
                        refine lv_iload_n hx hb dX12_splits_166 rfl (lv_at hl 2 rfl) ?_
                        refine lv_istore (lv' := [(5, .int y2), (4, .int y288), (3, .int t17), (2, .int y2), (0, .ref o), (1, .int x)]) hx hb dX12_splits_167 hl (by decide) rfl (fun ls hl => ?_)
                        have lp594 : ∀ (n595 : Nat) (B593 : Nat → Nat → Int32) (H : Heap) (locs : List Loc) (ls : Array Slot) (y592 : Int32), (400 < y592.toInt + (n595 : Int)) → (mI F3 B593) → (mE (XR []) f a F3 B593) → (fE [18] f F3) → (kb 0 y592 400) → va_P D vwCl (mW K o r F3 B593 g) H → va_D A (mW K o r F3 B593 g) → va_S A s.heap H locs → lv_has ls 6 [(5, .int y592), (4, .int y288), (3, .int t17), (2, .int y2), (0, .ref o), (1, .int x)] → W p l e (rmD 2 0 0) s m ([.ref o, .int x] : List Value).toArray below meth c H locs 0 0 (kQv D (tysK K) (fun (u : mS) => mI u.1 u.2.1 ∧ mE (XR []) f a u.1 u.2.1 ∧ fE [18] f u.1 ∧ (∃ N : Nat, (u.1 18).toInt = (N : Int) ∧ N ≤ 400 ∧ u.2.1 15 N = 0)) (fun u => mW K o r u.1 u.2.1 u.2.2) A below ([.ref o, .int x] : List Value).toArray s 0 0) (F0 m 169 ls []) := by
                          intro n595
                          induction n595 with
                          | zero =>
                            intro  B593  H locs ls y592 hmlp594 hI hE hk0 b596 hP hD hS hl
                            exact (by have h1 := b596.2; have h2 := hmlp594; omega : False).elim
                          | succ n595 ihlp594 =>
                            intro  B593  H locs ls y592 hmlp594 hI hE hk0 b596 hP hD hS hl
                            refine lv_iload hx hb dX12_splits_169 (lv_at hl 0 rfl) ?_
                            refine lv_iload hx hb dX12_splits_171 (lv_at hl 1 rfl) ?_
                            refine lv_icmp_ge (tgt := 247) hx hb dX12_splits_173 (by decide) (fun c597 => ?_) (fun c597 => ?_)
                            · have h598 := (kc_le c597)
                              have b599 : kb 1 y592 400 := kr_le2 h598 b556 b596
                              refine lv_aload_n hx hb dX12_splits_247 rfl (lv_at hl 4 rfl) ?_
                              refine lv_dup hx hb dX12_splits_248 rfl ?_
                              refine va_get (D := D) (ci := 12) (v := .int (F3 18)) (C := RX12) (T := TX12) (N := 48) hx hb hg inC12 hown hK hP 0 rfl rfl 18 (by decide) (hg _ wt5_178) (fun _ h9 => h9) rfl dX12_splits_249 ?_
                              refine k_top (z := tk) etk.symm ?_
                              have b600 : kb 0 tk 399 := ⟨(b8).1, by have w1 := htk; have w2 := (b15).2; omega⟩
                              refine lv_iconst (v := 1) hx hb dX12_splits_252 (by decide) ?_
                              refine lv_iadd hx hb dX12_splits_253 ?_
                              refine lv_topi (fun t601 et601 => ?_)
                              have b602 : kb 1 t601 400 := kb_eq et601 (kb_add b600 kc_1 (by decide) (by decide))
                              have qt601 : t601.toInt = tk.toInt + 1 := by rw [et601]; exact kt_addc b600 kc_1 (by decide) (by decide)
                              refine va_put (D := D) (ci := 12) (v := .int t601) (ty := .int) (C := RX12) (T := TX12) (N := 48) hx hb hg inC12 tyX12 tyX12_ok nmX12 hown hK hP hD hS 0 rfl rfl 18 (by decide) (hg _ wt5_178) (fun _ h9 => h9) rfl (by decide +kernel) rfl rfl (Nat.le_of_ble_eq_true rfl) dX12_splits_254 (fun H locs hP hD hS => ?_)
                              have hP : va_P D vwCl (mW K o r (upd F3 18 t601) B593 g) H := hP
                              have hD : va_D A (mW K o r (upd F3 18 t601) B593 g) := hD
                              refine k_gen (P := fun z => va_P D vwCl (mW K o r z B593 g) H ∧ va_D A (mW K o r z B593 g) ∧ (mI z B593) ∧ (mE (XR []) f a z B593) ∧ (fE [18] f z)) (upd F3 18 t601) ⟨hP, hD, (mI_f hI (fI_st hI.1 18 b602 (by decide) (by decide))), (mE_f hE (by decide)), (fE_f hk0 (by decide))⟩ (fun f_603 ef_603 hq => ?_)
                              obtain ⟨hP, hD, hI, hE, hk0⟩ := hq
                              refine lv_iload hx hb dX12_splits_257 (lv_at hl 1 rfl) ?_
                              refine lv_istore_n (lv' := [(2, .int y288), (5, .int y592), (4, .int y288), (3, .int t17), (0, .ref o), (1, .int x)]) hx hb dX12_splits_259 rfl hl (by decide) rfl (fun ls hl => ?_)
                              refine lv_goto (tgt := 7) hx hb dX12_splits_260 (by decide) ?_
                              exact ihlp5  f_603 B593 _ _ _ y288 (by omega) hI hE hk0 (kb_w b556 (by decide) (by decide)) (by rw [(show f_603 18 = t601 from by rw [← ef_603]; rfl)]; omega) hP hD hS (lv_sub hl [0, 4, 5] rfl)
                            · have h604 := (kc_nle c597)
                              have b605 : kb 0 y592 398 := kr_lt1 h604 b596 b556 (by decide)
                              refine lv_iload_n hx hb dX12_splits_176 rfl (lv_at hl 2 rfl) ?_
                              refine kN.callS (As := [.int t17]) (rest := []) ⟨hx, hb, hml, hown, hg⟩ (m_isDigit l t17 ) (va_cwS 1 hg (kgS wt6_184 wt6_185 wt1_14 wt6_186) rfl rfl rfl (by decide +kernel) ⟨by decide, by decide⟩) hP hS rfl hl.1 rfl (Nat.le_of_ble_eq_true rfl) dX12_splits_177 ⟨Nat.le_refl _, Nat.le_refl _⟩ (fun v607 H locs hw606 hP hS => ?_)
                              refine lv_if_eq (tgt := 247) hx hb dX12_splits_180 (by decide) (fun c609 => ?_) (fun c609 => ?_)
                              · have b610 : kb 0 v607 0 := kb_eq c609 kc_0
                                refine lv_aload_n hx hb dX12_splits_247 rfl (lv_at hl 4 rfl) ?_
                                refine lv_dup hx hb dX12_splits_248 rfl ?_
                                refine va_get (D := D) (ci := 12) (v := .int (F3 18)) (C := RX12) (T := TX12) (N := 48) hx hb hg inC12 hown hK hP 0 rfl rfl 18 (by decide) (hg _ wt5_178) (fun _ h9 => h9) rfl dX12_splits_249 ?_
                                refine k_top (z := tk) etk.symm ?_
                                have b611 : kb 0 tk 399 := ⟨(b8).1, by have w1 := htk; have w2 := (b15).2; omega⟩
                                refine lv_iconst (v := 1) hx hb dX12_splits_252 (by decide) ?_
                                refine lv_iadd hx hb dX12_splits_253 ?_
                                refine lv_topi (fun t612 et612 => ?_)
                                have b613 : kb 1 t612 400 := kb_eq et612 (kb_add b611 kc_1 (by decide) (by decide))
                                have qt612 : t612.toInt = tk.toInt + 1 := by rw [et612]; exact kt_addc b611 kc_1 (by decide) (by decide)
                                refine va_put (D := D) (ci := 12) (v := .int t612) (ty := .int) (C := RX12) (T := TX12) (N := 48) hx hb hg inC12 tyX12 tyX12_ok nmX12 hown hK hP hD hS 0 rfl rfl 18 (by decide) (hg _ wt5_178) (fun _ h9 => h9) rfl (by decide +kernel) rfl rfl (Nat.le_of_ble_eq_true rfl) dX12_splits_254 (fun H locs hP hD hS => ?_)
                                have hP : va_P D vwCl (mW K o r (upd F3 18 t612) B593 g) H := hP
                                have hD : va_D A (mW K o r (upd F3 18 t612) B593 g) := hD
                                refine k_gen (P := fun z => va_P D vwCl (mW K o r z B593 g) H ∧ va_D A (mW K o r z B593 g) ∧ (mI z B593) ∧ (mE (XR []) f a z B593) ∧ (fE [18] f z)) (upd F3 18 t612) ⟨hP, hD, (mI_f hI (fI_st hI.1 18 b613 (by decide) (by decide))), (mE_f hE (by decide)), (fE_f hk0 (by decide))⟩ (fun f_614 ef_614 hq => ?_)
                                obtain ⟨hP, hD, hI, hE, hk0⟩ := hq
                                refine lv_iload hx hb dX12_splits_257 (lv_at hl 1 rfl) ?_
                                refine lv_istore_n (lv' := [(2, .int y288), (5, .int y592), (4, .int y288), (3, .int t17), (0, .ref o), (1, .int x)]) hx hb dX12_splits_259 rfl hl (by decide) rfl (fun ls hl => ?_)
                                refine lv_goto (tgt := 7) hx hb dX12_splits_260 (by decide) ?_
                                exact ihlp5  f_614 B593 _ _ _ y288 (by omega) hI hE hk0 (kb_w b556 (by decide) (by decide)) (by rw [(show f_614 18 = t612 from by rw [← ef_614]; rfl)]; omega) hP hD hS (lv_sub hl [0, 4, 5] rfl)
                              · have b615 : kb 1 v607 1 := kr_nel c609 hw606 kc_0 (by decide)
                                refine lv_aload_n hx hb dX12_splits_183 rfl (lv_at hl 4 rfl) ?_
                                refine va_get (D := D) (ci := 12) (v := .ref (r 16)) (C := RX12) (T := TX12) (N := 48) hx hb hg inC12 hown hK hP 0 rfl rfl 16 (by decide) (hg _ wt5_176) (fun _ h9 => h9) rfl dX12_splits_184 ?_
                                refine lv_aload_n hx hb dX12_splits_187 rfl (lv_at hl 4 rfl) ?_
                                refine va_get (D := D) (ci := 12) (v := .int (F3 18)) (C := RX12) (T := TX12) (N := 48) hx hb hg inC12 hown hK hP 0 rfl rfl 18 (by decide) (hg _ wt5_178) (fun _ h9 => h9) rfl dX12_splits_188 ?_
                                refine k_top (z := tk) etk.symm ?_
                                refine lv_aload_n hx hb dX12_splits_191 rfl (lv_at hl 4 rfl) ?_
                                refine va_get (D := D) (ci := 12) (v := .ref (r 16)) (C := RX12) (T := TX12) (N := 48) hx hb hg inC12 hown hK hP 0 rfl rfl 16 (by decide) (hg _ wt5_176) (fun _ h9 => h9) rfl dX12_splits_192 ?_
                                refine lv_aload_n hx hb dX12_splits_195 rfl (lv_at hl 4 rfl) ?_
                                refine va_get (D := D) (ci := 12) (v := .int (F3 18)) (C := RX12) (T := TX12) (N := 48) hx hb hg inC12 hown hK hP 0 rfl rfl 18 (by decide) (hg _ wt5_178) (fun _ h9 => h9) rfl dX12_splits_196 ?_
                                refine k_top (z := tk) etk.symm ?_
                                refine va_iald hx hb hK hP 10 0 rfl rfl (kb_in b8 (by decide) (by decide)) dX12_splits_199 ?_
                                refine lv_topi (fun t616 et616 => ?_)
                                refine lv_ldc (v := (1000000)) hx hb hown (hg _ wt6_191) dX12_splits_200 ?_
                                refine lv_icmp_le (tgt := 217) hx hb dX12_splits_202 (by decide) (fun c617 => ?_) (fun c617 => ?_)
                                · have h618 := (kc_le c617)
                                  have b619 : kb (-2147483648) t616 1000000 := kr_le1 h618 (kb_any t616) kc_1000000
                                  refine lv_bipush (v := 10) hx hb dX12_splits_217 (by decide) ?_
                                  refine lv_aload_n hx hb dX12_splits_219 rfl (lv_at hl 4 rfl) ?_
                                  refine va_get (D := D) (ci := 12) (v := .ref (r 16)) (C := RX12) (T := TX12) (N := 48) hx hb hg inC12 hown hK hP 0 rfl rfl 16 (by decide) (hg _ wt5_176) (fun _ h9 => h9) rfl dX12_splits_220 ?_
                                  refine lv_aload_n hx hb dX12_splits_223 rfl (lv_at hl 4 rfl) ?_
                                  refine va_get (D := D) (ci := 12) (v := .int (F3 18)) (C := RX12) (T := TX12) (N := 48) hx hb hg inC12 hown hK hP 0 rfl rfl 18 (by decide) (hg _ wt5_178) (fun _ h9 => h9) rfl dX12_splits_224 ?_
                                  refine k_top (z := tk) etk.symm ?_
                                  refine va_iald hx hb hK hP 10 0 rfl rfl (kb_in b8 (by decide) (by decide)) dX12_splits_227 ?_
                                  refine k_top (z := t616) et616.symm ?_
                                  refine lv_imul hx hb dX12_splits_228 ?_
                                  refine lv_topi (fun t620 et620 => ?_)
                                  refine lv_aload_n hx hb dX12_splits_229 rfl (lv_at hl 4 rfl) ?_
                                  refine va_get (D := D) (ci := 12) (v := .ref (r 11)) (C := RX12) (T := TX12) (N := 48) hx hb hg inC12 hown hK hP 0 rfl rfl 11 (by decide) (hg _ wt5_171) (fun _ h9 => h9) rfl dX12_splits_230 ?_
                                  refine lv_iload hx hb dX12_splits_233 (lv_at hl 0 rfl) ?_
                                  refine va_bald hx hb hK hP 7 1 rfl rfl (kb_in b605 (by decide) (by decide)) dX12_splits_235 ?_
                                  refine lv_topi (fun t621 et621 => ?_)
                                  refine lv_iadd hx hb dX12_splits_236 ?_
                                  refine lv_topi (fun t622 et622 => ?_)
                                  refine lv_bipush (v := 48) hx hb dX12_splits_237 (by decide) ?_
                                  refine lv_isub hx hb dX12_splits_239 ?_
                                  refine lv_topi (fun t623 et623 => ?_)
                                  refine va_iast hx hb hK hP hD hS 10 0 rfl rfl (kb_in b8 (by decide) (by decide)) dX12_splits_240 (fun H locs hP hD hS => ?_)
                                  have hP : va_P D vwCl (mW K o r F3 (va_up B593 16 (upd (B593 16) tk.toNatClampNeg t623)) g) H := hP
                                  have hD : va_D A (mW K o r F3 (va_up B593 16 (upd (B593 16) tk.toNatClampNeg t623)) g) := hD
                                  refine k_gen (P := fun z => va_P D vwCl (mW K o r F3 z g) H ∧ va_D A (mW K o r F3 z g) ∧ (mI F3 z) ∧ (mE (XR []) f a F3 z) ∧ (fE [18] f F3)) (va_up B593 16 (upd (B593 16) tk.toNatClampNeg t623)) ⟨hP, hD, (mI_s hI (aI_free hI.2.1 16 _ (fun j => ⟨by show (mBa 16 j).1 ≤ _; exact Int.le_refl _, by show _ ≤ (mBa 16 j).2; exact Int.le_refl _⟩)) (by decide) (by decide)), (mE_s hE (by decide) (by decide) (by decide) (by decide)), hk0⟩ (fun a_624 ea_624 hq => ?_)
                                  obtain ⟨hP, hD, hI, hE, hk0⟩ := hq
                                  obtain ⟨t625, et625⟩ : ∃ z : Int32, z = y592 + Int32.ofInt 1 := ⟨_, rfl⟩
                                  have qt625 : t625.toInt = y592.toInt + 1 := by rw [et625]; exact km_inc b605 (by decide) (by decide)
                                  have b626 : kb 1 t625 399 := kb_inc (k := 1) qt625 b605
                                  refine lv_iinc (v := t625) (lv' := [(5, .int t625), (4, .int y288), (3, .int t17), (2, .int y2), (0, .ref o), (1, .int x)]) hx hb dX12_splits_241 hl (k := 0) rfl et625.symm (by decide) rfl (fun ls hl => ?_)
                                  refine lv_goto (tgt := 169) hx hb dX12_splits_244 (by decide) ?_
                                  exact ihlp594  a_624 _ _ _ t625 (km_up hmlp594 qt625) hI hE hk0 (kb_w b626 (by decide) (by decide)) hP hD hS (lv_sub hl [0, 1, 2, 3, 4, 5] rfl)
                                · have h627 := (kc_nle c617)
                                  have b628 : kb 1000001 t616 2147483647 := kr_lt2 h627 kc_1000000 (kb_any t616) (by decide)
                                  refine lv_aload_n hx hb dX12_splits_205 rfl (lv_at hl 4 rfl) ?_
                                  refine va_get (D := D) (ci := 12) (v := .ref (r 16)) (C := RX12) (T := TX12) (N := 48) hx hb hg inC12 hown hK hP 0 rfl rfl 16 (by decide) (hg _ wt5_176) (fun _ h9 => h9) rfl dX12_splits_206 ?_
                                  refine lv_aload_n hx hb dX12_splits_209 rfl (lv_at hl 4 rfl) ?_
                                  refine va_get (D := D) (ci := 12) (v := .int (F3 18)) (C := RX12) (T := TX12) (N := 48) hx hb hg inC12 hown hK hP 0 rfl rfl 18 (by decide) (hg _ wt5_178) (fun _ h9 => h9) rfl dX12_splits_210 ?_
                                  refine k_top (z := tk) etk.symm ?_
                                  refine va_iald hx hb hK hP 10 0 rfl rfl (kb_in b8 (by decide) (by decide)) dX12_splits_213 ?_
                                  refine k_top (z := t616) et616.symm ?_
                                  refine lv_goto (tgt := 240) hx hb dX12_splits_214 (by decide) ?_
                                  refine va_iast hx hb hK hP hD hS 10 0 rfl rfl (kb_in b8 (by decide) (by decide)) dX12_splits_240 (fun H locs hP hD hS => ?_)
                                  have hP : va_P D vwCl (mW K o r F3 (va_up B593 16 (upd (B593 16) tk.toNatClampNeg t616)) g) H := hP
                                  have hD : va_D A (mW K o r F3 (va_up B593 16 (upd (B593 16) tk.toNatClampNeg t616)) g) := hD
                                  refine k_gen (P := fun z => va_P D vwCl (mW K o r F3 z g) H ∧ va_D A (mW K o r F3 z g) ∧ (mI F3 z) ∧ (mE (XR []) f a F3 z) ∧ (fE [18] f F3)) (va_up B593 16 (upd (B593 16) tk.toNatClampNeg t616)) ⟨hP, hD, (mI_s hI (aI_free hI.2.1 16 _ (fun j => ⟨by show (mBa 16 j).1 ≤ _; exact Int.le_refl _, by show _ ≤ (mBa 16 j).2; exact Int.le_refl _⟩)) (by decide) (by decide)), (mE_s hE (by decide) (by decide) (by decide) (by decide)), hk0⟩ (fun a_629 ea_629 hq => ?_)
                                  obtain ⟨hP, hD, hI, hE, hk0⟩ := hq
                                  obtain ⟨t630, et630⟩ : ∃ z : Int32, z = y592 + Int32.ofInt 1 := ⟨_, rfl⟩
                                  have qt630 : t630.toInt = y592.toInt + 1 := by rw [et630]; exact km_inc b605 (by decide) (by decide)
                                  have b631 : kb 1 t630 399 := kb_inc (k := 1) qt630 b605
                                  refine lv_iinc (v := t630) (lv' := [(5, .int t630), (4, .int y288), (3, .int t17), (2, .int y2), (0, .ref o), (1, .int x)]) hx hb dX12_splits_241 hl (k := 0) rfl et630.symm (by decide) rfl (fun ls hl => ?_)
                                  refine lv_goto (tgt := 169) hx hb dX12_splits_244 (by decide) ?_
                                  exact ihlp594  a_629 _ _ _ t630 (km_up hmlp594 qt630) hI hE hk0 (kb_w b631 (by decide) (by decide)) hP hD hS (lv_sub hl [0, 1, 2, 3, 4, 5] rfl)
                        exact lp594 (401)  a_591 _ _ _ y2 (by have h1 := (b15); unfold kb at h1; omega) hI hE hk0 (kb_w b15 (by decide) (by decide)) hP hD hS (lv_sub hl [0, 1, 2, 3, 4, 5] rfl)
                      refine lv_if_eq (tgt := 145) hx hb dX12_splits_132 (by decide) (fun c632 => ?_) (fun c632 => ?_)
                      · have b633 : kb 0 v572 0 := kb_eq c632 kc_0
                        refine lv_iload_n hx hb dX12_splits_145 rfl (lv_at hl 1 rfl) ?_
                        refine kN.callS (As := [.int t17]) (rest := [.int tk, .ref (r 15)]) ⟨hx, hb, hml, hown, hg⟩ (m_isDigit l t17 ) (va_cwS 1 hg (kgS wt6_184 wt6_185 wt1_14 wt6_186) rfl rfl rfl (by decide +kernel) ⟨by decide, by decide⟩) hP hS rfl hl.1 rfl (Nat.le_of_ble_eq_true rfl) dX12_splits_146 ⟨Nat.le_refl _, Nat.le_refl _⟩ (fun v635 H locs hw634 hP hS => ?_)
                        refine lv_if_eq (tgt := 157) hx hb dX12_splits_149 (by decide) (fun c637 => ?_) (fun c637 => ?_)
                        · have b638 : kb 0 v635 0 := kb_eq c637 kc_0
                          refine lv_bipush (v := 100) hx hb dX12_splits_157 (by decide) ?_
                          refine lv_iload_n hx hb dX12_splits_159 rfl (lv_at hl 1 rfl) ?_
                          refine lv_sipush (v := 255) hx hb dX12_splits_160 (by decide) ?_
                          refine lv_iand hx hb dX12_splits_163 ?_
                          refine lv_topi (fun t639 et639 => ?_)
                          have b640 : kb 0 t639 255 := kb_eq et639 (kb_and 8 (by decide) (by decide))
                          refine lv_iadd hx hb dX12_splits_164 ?_
                          refine lv_topi (fun t641 et641 => ?_)
                          have b642 : kb 100 t641 355 := kb_eq et641 (kb_add kc_100 b640 (by decide) (by decide))
                          have qt641 : t641.toInt = 100 + t639.toInt := by rw [et641]; exact kt_cadd kc_100 b640 (by decide) (by decide)
                          exact jn590 _ _ _ t641  hP hD hS (lv_sub hl [0, 1, 2, 3, 4] rfl)
                        · have b643 : kb 1 v635 1 := kr_nel c637 hw634 kc_0 (by decide)
                          refine lv_bipush (v := 50) hx hb dX12_splits_152 (by decide) ?_
                          refine lv_goto (tgt := 165) hx hb dX12_splits_154 (by decide) ?_
                          exact jn590 _ _ _ 50  hP hD hS (lv_sub hl [0, 1, 2, 3, 4] rfl)
                      · have b644 : kb 1 v572 1 := kr_nel c632 hw571 kc_0 (by decide)
                        refine lv_aload_n hx hb dX12_splits_135 rfl (lv_at hl 3 rfl) ?_
                        refine lv_iload_n hx hb dX12_splits_136 rfl (lv_at hl 2 rfl) ?_
                        refine lv_iload hx hb dX12_splits_137 (lv_at hl 0 rfl) ?_
                        refine kI.callV (As := [.int y2, .int y288]) (rest := [.int tk, .ref (r 15)]) ⟨hx, hb, hml, hown, hg⟩ (m_wordOf l o r F3 a_570 g hI y2 y288 (kb_w b15 (by decide) (by decide)) (kb_w b556 (by decide) (by decide)) ) (cwV 2 hg (kgV wt6_187 wt6_189 wp4_3 wt1_14 wt6_190) rfl rfl rfl (by decide +kernel) ⟨by decide, by decide⟩) hK hP hD hS hA mIs [] rfl (wr := []) rfl rfl rfl (fun i h => by cases h) 0 12 rfl rfl rfl hl.1 rfl (Nat.le_of_ble_eq_true rfl) dX12_splits_139 ⟨Nat.le_refl _, Nat.le_refl _⟩ (fun v646 u647 H locs hw645 hP hD hS => ?_)
                        have hP : va_P D vwCl (mW K o r F3 a_570 g) H := hP
                        have hD : va_D A (mW K o r F3 a_570 g) := hD
                        refine lv_goto (tgt := 165) hx hb dX12_splits_142 (by decide) ?_
                        exact jn590 _ _ _ v646  hP hD hS (lv_sub hl [0, 1, 2, 3, 4] rfl)
                    · have b648 : kb 1 v565 1 := kr_nel c567 hw564 kc_0 (by decide)
                      have lp650 : ∀ (n651 : Nat) (H : Heap) (locs : List Loc) (ls : Array Slot) (y649 : Int32), (400 < y649.toInt + (n651 : Int)) → (kb 1 y649 400) → (y2.toInt + 1 ≤ y649.toInt) → va_P D vwCl (mW K o r F3 B4 g) H → va_D A (mW K o r F3 B4 g) → va_S A s.heap H locs → lv_has ls 6 [(4, .int y649), (3, .int t17), (2, .int y2), (0, .ref o), (1, .int x)] → W p l e (rmD 2 0 0) s m ([.ref o, .int x] : List Value).toArray below meth c H locs 0 0 (kQv D (tysK K) (fun (u : mS) => mI u.1 u.2.1 ∧ mE (XR []) f a u.1 u.2.1 ∧ fE [18] f u.1 ∧ (∃ N : Nat, (u.1 18).toInt = (N : Int) ∧ N ≤ 400 ∧ u.2.1 15 N = 0)) (fun u => mW K o r u.1 u.2.1 u.2.2) A below ([.ref o, .int x] : List Value).toArray s 0 0) (F0 m 75 ls []) := by
                        intro n651
                        induction n651 with
                        | zero =>
                          intro   H locs ls y649 hmlp650 b652 hvlp650_0 hP hD hS hl
                          exact (by have h1 := b652.2; have h2 := hmlp650; omega : False).elim
                        | succ n651 ihlp650 =>
                          intro   H locs ls y649 hmlp650 b652 hvlp650_0 hP hD hS hl
                          refine lv_iload hx hb dX12_splits_75 (lv_at hl 0 rfl) ?_
                          refine lv_iload_n hx hb dX12_splits_77 rfl (lv_at hl 4 rfl) ?_
                          refine lv_icmp_ge (tgt := 100) hx hb dX12_splits_78 (by decide) (fun c653 => ?_) (fun c653 => ?_)
                          · have h654 := (kc_le c653)
                            have b655 : kb 2 y649 400 := kr_le2 h654 b557 b652
                            refine lv_aload_n hx hb dX12_splits_100 rfl (lv_at hl 3 rfl) ?_
                            refine va_get (D := D) (ci := 12) (v := .ref (r 17)) (C := RX12) (T := TX12) (N := 48) hx hb hg inC12 hown hK hP 0 rfl rfl 17 (by decide) (hg _ wt5_177) (fun _ h9 => h9) rfl dX12_splits_101 ?_
                            refine lv_aload_n hx hb dX12_splits_104 rfl (lv_at hl 3 rfl) ?_
                            refine va_get (D := D) (ci := 12) (v := .int (F3 18)) (C := RX12) (T := TX12) (N := 48) hx hb hg inC12 hown hK hP 0 rfl rfl 18 (by decide) (hg _ wt5_178) (fun _ h9 => h9) rfl dX12_splits_105 ?_
                            refine k_top (z := tk) etk.symm ?_
                            refine lv_iload_n hx hb dX12_splits_108 rfl (lv_at hl 2 rfl) ?_
                            refine va_iast hx hb hK hP hD hS 11 0 rfl rfl (kb_in b8 (by decide) (by decide)) dX12_splits_109 (fun H locs hP hD hS => ?_)
                            have hP : va_P D vwCl (mW K o r F3 (va_up B4 17 (upd (B4 17) tk.toNatClampNeg y2)) g) H := hP
                            have hD : va_D A (mW K o r F3 (va_up B4 17 (upd (B4 17) tk.toNatClampNeg y2)) g) := hD
                            refine k_gen (P := fun z => va_P D vwCl (mW K o r F3 z g) H ∧ va_D A (mW K o r F3 z g) ∧ (mI F3 z) ∧ (mE (XR []) f a F3 z) ∧ (fE [18] f F3)) (va_up B4 17 (upd (B4 17) tk.toNatClampNeg y2)) ⟨hP, hD, (mI_s hI (aI_sx hI.2.1 17 0 401 b8 (by decide) (by decide) b15 (by decide +kernel)) (by decide) (by decide)), (mE_s hE (by decide) (by decide) (by decide) (by decide)), hk0⟩ (fun a_656 ea_656 hq => ?_)
                            obtain ⟨hP, hD, hI, hE, hk0⟩ := hq
                            refine lv_aload_n hx hb dX12_splits_110 rfl (lv_at hl 3 rfl) ?_
                            refine va_get (D := D) (ci := 12) (v := .ref (r 16)) (C := RX12) (T := TX12) (N := 48) hx hb hg inC12 hown hK hP 0 rfl rfl 16 (by decide) (hg _ wt5_176) (fun _ h9 => h9) rfl dX12_splits_111 ?_
                            refine lv_aload_n hx hb dX12_splits_114 rfl (lv_at hl 3 rfl) ?_
                            refine va_get (D := D) (ci := 12) (v := .int (F3 18)) (C := RX12) (T := TX12) (N := 48) hx hb hg inC12 hown hK hP 0 rfl rfl 18 (by decide) (hg _ wt5_178) (fun _ h9 => h9) rfl dX12_splits_115 ?_
                            refine k_top (z := tk) etk.symm ?_
                            refine lv_iconst (v := 0) hx hb dX12_splits_118 (by decide) ?_
                            refine va_iast hx hb hK hP hD hS 10 0 rfl rfl (kb_in b8 (by decide) (by decide)) dX12_splits_119 (fun H locs hP hD hS => ?_)
                            have hP : va_P D vwCl (mW K o r F3 (va_up a_656 16 (upd (a_656 16) tk.toNatClampNeg 0)) g) H := hP
                            have hD : va_D A (mW K o r F3 (va_up a_656 16 (upd (a_656 16) tk.toNatClampNeg 0)) g) := hD
                            refine k_gen (P := fun z => va_P D vwCl (mW K o r F3 z g) H ∧ va_D A (mW K o r F3 z g) ∧ (mI F3 z) ∧ (mE (XR []) f a F3 z) ∧ (fE [18] f F3)) (va_up a_656 16 (upd (a_656 16) tk.toNatClampNeg 0)) ⟨hP, hD, (mI_s hI (aI_free hI.2.1 16 _ (fun j => ⟨by show (mBa 16 j).1 ≤ _; exact Int.le_refl _, by show _ ≤ (mBa 16 j).2; exact Int.le_refl _⟩)) (by decide) (by decide)), (mE_s hE (by decide) (by decide) (by decide) (by decide)), hk0⟩ (fun a_657 ea_657 hq => ?_)
                            obtain ⟨hP, hD, hI, hE, hk0⟩ := hq
                            refine lv_aload_n hx hb dX12_splits_120 rfl (lv_at hl 3 rfl) ?_
                            refine va_get (D := D) (ci := 12) (v := .ref (r 15)) (C := RX12) (T := TX12) (N := 48) hx hb hg inC12 hown hK hP 0 rfl rfl 15 (by decide) (hg _ wt5_175) (fun _ h9 => h9) rfl dX12_splits_121 ?_
                            refine lv_aload_n hx hb dX12_splits_124 rfl (lv_at hl 3 rfl) ?_
                            refine va_get (D := D) (ci := 12) (v := .int (F3 18)) (C := RX12) (T := TX12) (N := 48) hx hb hg inC12 hown hK hP 0 rfl rfl 18 (by decide) (hg _ wt5_178) (fun _ h9 => h9) rfl dX12_splits_125 ?_
                            refine k_top (z := tk) etk.symm ?_
                            refine lv_iload_n hx hb dX12_splits_128 rfl (lv_at hl 1 rfl) ?_
                            refine kN.callS (As := [.int t17]) (rest := [.int tk, .ref (r 15)]) ⟨hx, hb, hml, hown, hg⟩ (m_isSmall l t17 ) (va_cwS 1 hg (kgS wt6_181 wt6_182 wt1_14 wt6_183) rfl rfl rfl (by decide +kernel) ⟨by decide, by decide⟩) hP hS rfl hl.1 rfl (Nat.le_of_ble_eq_true rfl) dX12_splits_129 ⟨Nat.le_refl _, Nat.le_refl _⟩ (fun v659 H locs hw658 hP hS => ?_)
                            have jn677 : ∀ (H : Heap) (locs : List Loc) (ls : Array Slot) (z676 : Int32), va_P D vwCl (mW K o r F3 a_657 g) H → va_D A (mW K o r F3 a_657 g) → va_S A s.heap H locs → lv_has ls 6 [(4, .int y649), (3, .int t17), (2, .int y2), (0, .ref o), (1, .int x)] → W p l e (rmD 2 0 0) s m ([.ref o, .int x] : List Value).toArray below meth c H locs 0 0 (kQv D (tysK K) (fun (u : mS) => mI u.1 u.2.1 ∧ mE (XR []) f a u.1 u.2.1 ∧ fE [18] f u.1 ∧ (∃ N : Nat, (u.1 18).toInt = (N : Int) ∧ N ≤ 400 ∧ u.2.1 15 N = 0)) (fun u => mW K o r u.1 u.2.1 u.2.2) A below ([.ref o, .int x] : List Value).toArray s 0 0) (F0 m 165 ls [.int z676, .int tk, .ref (r 15)]) := by
                              intro  H locs ls z676  hP hD hS hl
                              refine va_iast hx hb hK hP hD hS 9 0 rfl rfl (kb_in b8 (by decide) (by decide)) dX12_splits_165 (fun H locs hP hD hS => ?_)
                              have hP : va_P D vwCl (mW K o r F3 (va_up a_657 15 (upd (a_657 15) tk.toNatClampNeg z676)) g) H := hP
                              have hD : va_D A (mW K o r F3 (va_up a_657 15 (upd (a_657 15) tk.toNatClampNeg z676)) g) := hD
                              refine k_gen (P := fun z => va_P D vwCl (mW K o r F3 z g) H ∧ va_D A (mW K o r F3 z g) ∧ (mI F3 z) ∧ (mE (XR []) f a F3 z) ∧ (fE [18] f F3)) (va_up a_657 15 (upd (a_657 15) tk.toNatClampNeg z676)) ⟨hP, hD, (mI_s hI (aI_free hI.2.1 15 _ (fun j => ⟨by show (mBa 15 j).1 ≤ _; exact Int.le_refl _, by show _ ≤ (mBa 15 j).2; exact Int.le_refl _⟩)) (by decide) (by decide)), (mE_s hE (by decide) (by decide) (by decide) (by decide)), hk0⟩ (fun a_678 ea_678 hq => ?_)
                              obtain ⟨hP, hD, hI, hE, hk0⟩ := hq
                              refine lv_iload_n hx hb dX12_splits_166 rfl (lv_at hl 2 rfl) ?_
                              refine lv_istore (lv' := [(5, .int y2), (4, .int y649), (3, .int t17), (2, .int y2), (0, .ref o), (1, .int x)]) hx hb dX12_splits_167 hl (by decide) rfl (fun ls hl => ?_)
                              have lp681 : ∀ (n682 : Nat) (B680 : Nat → Nat → Int32) (H : Heap) (locs : List Loc) (ls : Array Slot) (y679 : Int32), (400 < y679.toInt + (n682 : Int)) → (mI F3 B680) → (mE (XR []) f a F3 B680) → (fE [18] f F3) → (kb 0 y679 400) → va_P D vwCl (mW K o r F3 B680 g) H → va_D A (mW K o r F3 B680 g) → va_S A s.heap H locs → lv_has ls 6 [(5, .int y679), (4, .int y649), (3, .int t17), (2, .int y2), (0, .ref o), (1, .int x)] → W p l e (rmD 2 0 0) s m ([.ref o, .int x] : List Value).toArray below meth c H locs 0 0 (kQv D (tysK K) (fun (u : mS) => mI u.1 u.2.1 ∧ mE (XR []) f a u.1 u.2.1 ∧ fE [18] f u.1 ∧ (∃ N : Nat, (u.1 18).toInt = (N : Int) ∧ N ≤ 400 ∧ u.2.1 15 N = 0)) (fun u => mW K o r u.1 u.2.1 u.2.2) A below ([.ref o, .int x] : List Value).toArray s 0 0) (F0 m 169 ls []) := by
                                intro n682
                                induction n682 with
                                | zero =>
                                  intro  B680  H locs ls y679 hmlp681 hI hE hk0 b683 hP hD hS hl
                                  exact (by have h1 := b683.2; have h2 := hmlp681; omega : False).elim
                                | succ n682 ihlp681 =>
                                  intro  B680  H locs ls y679 hmlp681 hI hE hk0 b683 hP hD hS hl
                                  refine lv_iload hx hb dX12_splits_169 (lv_at hl 0 rfl) ?_
                                  refine lv_iload hx hb dX12_splits_171 (lv_at hl 1 rfl) ?_
                                  refine lv_icmp_ge (tgt := 247) hx hb dX12_splits_173 (by decide) (fun c684 => ?_) (fun c684 => ?_)
                                  · have h685 := (kc_le c684)
                                    have b686 : kb 2 y679 400 := kr_le2 h685 b655 b683
                                    refine lv_aload_n hx hb dX12_splits_247 rfl (lv_at hl 4 rfl) ?_
                                    refine lv_dup hx hb dX12_splits_248 rfl ?_
                                    refine va_get (D := D) (ci := 12) (v := .int (F3 18)) (C := RX12) (T := TX12) (N := 48) hx hb hg inC12 hown hK hP 0 rfl rfl 18 (by decide) (hg _ wt5_178) (fun _ h9 => h9) rfl dX12_splits_249 ?_
                                    refine k_top (z := tk) etk.symm ?_
                                    have b687 : kb 0 tk 399 := ⟨(b8).1, by have w1 := htk; have w2 := (b15).2; omega⟩
                                    refine lv_iconst (v := 1) hx hb dX12_splits_252 (by decide) ?_
                                    refine lv_iadd hx hb dX12_splits_253 ?_
                                    refine lv_topi (fun t688 et688 => ?_)
                                    have b689 : kb 1 t688 400 := kb_eq et688 (kb_add b687 kc_1 (by decide) (by decide))
                                    have qt688 : t688.toInt = tk.toInt + 1 := by rw [et688]; exact kt_addc b687 kc_1 (by decide) (by decide)
                                    refine va_put (D := D) (ci := 12) (v := .int t688) (ty := .int) (C := RX12) (T := TX12) (N := 48) hx hb hg inC12 tyX12 tyX12_ok nmX12 hown hK hP hD hS 0 rfl rfl 18 (by decide) (hg _ wt5_178) (fun _ h9 => h9) rfl (by decide +kernel) rfl rfl (Nat.le_of_ble_eq_true rfl) dX12_splits_254 (fun H locs hP hD hS => ?_)
                                    have hP : va_P D vwCl (mW K o r (upd F3 18 t688) B680 g) H := hP
                                    have hD : va_D A (mW K o r (upd F3 18 t688) B680 g) := hD
                                    refine k_gen (P := fun z => va_P D vwCl (mW K o r z B680 g) H ∧ va_D A (mW K o r z B680 g) ∧ (mI z B680) ∧ (mE (XR []) f a z B680) ∧ (fE [18] f z)) (upd F3 18 t688) ⟨hP, hD, (mI_f hI (fI_st hI.1 18 b689 (by decide) (by decide))), (mE_f hE (by decide)), (fE_f hk0 (by decide))⟩ (fun f_690 ef_690 hq => ?_)
                                    obtain ⟨hP, hD, hI, hE, hk0⟩ := hq
                                    refine lv_iload hx hb dX12_splits_257 (lv_at hl 1 rfl) ?_
                                    refine lv_istore_n (lv' := [(2, .int y649), (5, .int y679), (4, .int y649), (3, .int t17), (0, .ref o), (1, .int x)]) hx hb dX12_splits_259 rfl hl (by decide) rfl (fun ls hl => ?_)
                                    refine lv_goto (tgt := 7) hx hb dX12_splits_260 (by decide) ?_
                                    exact ihlp5  f_690 B680 _ _ _ y649 (by omega) hI hE hk0 (kb_w b655 (by decide) (by decide)) (by rw [(show f_690 18 = t688 from by rw [← ef_690]; rfl)]; omega) hP hD hS (lv_sub hl [0, 4, 5] rfl)
                                  · have h691 := (kc_nle c684)
                                    have b692 : kb 0 y679 399 := kr_lt1 h691 b683 b655 (by decide)
                                    refine lv_iload_n hx hb dX12_splits_176 rfl (lv_at hl 2 rfl) ?_
                                    refine kN.callS (As := [.int t17]) (rest := []) ⟨hx, hb, hml, hown, hg⟩ (m_isDigit l t17 ) (va_cwS 1 hg (kgS wt6_184 wt6_185 wt1_14 wt6_186) rfl rfl rfl (by decide +kernel) ⟨by decide, by decide⟩) hP hS rfl hl.1 rfl (Nat.le_of_ble_eq_true rfl) dX12_splits_177 ⟨Nat.le_refl _, Nat.le_refl _⟩ (fun v694 H locs hw693 hP hS => ?_)
                                    refine lv_if_eq (tgt := 247) hx hb dX12_splits_180 (by decide) (fun c696 => ?_) (fun c696 => ?_)
                                    · have b697 : kb 0 v694 0 := kb_eq c696 kc_0
                                      refine lv_aload_n hx hb dX12_splits_247 rfl (lv_at hl 4 rfl) ?_
                                      refine lv_dup hx hb dX12_splits_248 rfl ?_
                                      refine va_get (D := D) (ci := 12) (v := .int (F3 18)) (C := RX12) (T := TX12) (N := 48) hx hb hg inC12 hown hK hP 0 rfl rfl 18 (by decide) (hg _ wt5_178) (fun _ h9 => h9) rfl dX12_splits_249 ?_
                                      refine k_top (z := tk) etk.symm ?_
                                      have b698 : kb 0 tk 399 := ⟨(b8).1, by have w1 := htk; have w2 := (b15).2; omega⟩
                                      refine lv_iconst (v := 1) hx hb dX12_splits_252 (by decide) ?_
                                      refine lv_iadd hx hb dX12_splits_253 ?_
                                      refine lv_topi (fun t699 et699 => ?_)
                                      have b700 : kb 1 t699 400 := kb_eq et699 (kb_add b698 kc_1 (by decide) (by decide))
                                      have qt699 : t699.toInt = tk.toInt + 1 := by rw [et699]; exact kt_addc b698 kc_1 (by decide) (by decide)
                                      refine va_put (D := D) (ci := 12) (v := .int t699) (ty := .int) (C := RX12) (T := TX12) (N := 48) hx hb hg inC12 tyX12 tyX12_ok nmX12 hown hK hP hD hS 0 rfl rfl 18 (by decide) (hg _ wt5_178) (fun _ h9 => h9) rfl (by decide +kernel) rfl rfl (Nat.le_of_ble_eq_true rfl) dX12_splits_254 (fun H locs hP hD hS => ?_)
                                      have hP : va_P D vwCl (mW K o r (upd F3 18 t699) B680 g) H := hP
                                      have hD : va_D A (mW K o r (upd F3 18 t699) B680 g) := hD
                                      refine k_gen (P := fun z => va_P D vwCl (mW K o r z B680 g) H ∧ va_D A (mW K o r z B680 g) ∧ (mI z B680) ∧ (mE (XR []) f a z B680) ∧ (fE [18] f z)) (upd F3 18 t699) ⟨hP, hD, (mI_f hI (fI_st hI.1 18 b700 (by decide) (by decide))), (mE_f hE (by decide)), (fE_f hk0 (by decide))⟩ (fun f_701 ef_701 hq => ?_)
                                      obtain ⟨hP, hD, hI, hE, hk0⟩ := hq
                                      refine lv_iload hx hb dX12_splits_257 (lv_at hl 1 rfl) ?_
                                      refine lv_istore_n (lv' := [(2, .int y649), (5, .int y679), (4, .int y649), (3, .int t17), (0, .ref o), (1, .int x)]) hx hb dX12_splits_259 rfl hl (by decide) rfl (fun ls hl => ?_)
                                      refine lv_goto (tgt := 7) hx hb dX12_splits_260 (by decide) ?_
                                      exact ihlp5  f_701 B680 _ _ _ y649 (by omega) hI hE hk0 (kb_w b655 (by decide) (by decide)) (by rw [(show f_701 18 = t699 from by rw [← ef_701]; rfl)]; omega) hP hD hS (lv_sub hl [0, 4, 5] rfl)
                                    · have b702 : kb 1 v694 1 := kr_nel c696 hw693 kc_0 (by decide)
                                      refine lv_aload_n hx hb dX12_splits_183 rfl (lv_at hl 4 rfl) ?_
                                      refine va_get (D := D) (ci := 12) (v := .ref (r 16)) (C := RX12) (T := TX12) (N := 48) hx hb hg inC12 hown hK hP 0 rfl rfl 16 (by decide) (hg _ wt5_176) (fun _ h9 => h9) rfl dX12_splits_184 ?_
                                      refine lv_aload_n hx hb dX12_splits_187 rfl (lv_at hl 4 rfl) ?_
                                      refine va_get (D := D) (ci := 12) (v := .int (F3 18)) (C := RX12) (T := TX12) (N := 48) hx hb hg inC12 hown hK hP 0 rfl rfl 18 (by decide) (hg _ wt5_178) (fun _ h9 => h9) rfl dX12_splits_188 ?_
                                      refine k_top (z := tk) etk.symm ?_
                                      refine lv_aload_n hx hb dX12_splits_191 rfl (lv_at hl 4 rfl) ?_
                                      refine va_get (D := D) (ci := 12) (v := .ref (r 16)) (C := RX12) (T := TX12) (N := 48) hx hb hg inC12 hown hK hP 0 rfl rfl 16 (by decide) (hg _ wt5_176) (fun _ h9 => h9) rfl dX12_splits_192 ?_
                                      refine lv_aload_n hx hb dX12_splits_195 rfl (lv_at hl 4 rfl) ?_
                                      refine va_get (D := D) (ci := 12) (v := .int (F3 18)) (C := RX12) (T := TX12) (N := 48) hx hb hg inC12 hown hK hP 0 rfl rfl 18 (by decide) (hg _ wt5_178) (fun _ h9 => h9) rfl dX12_splits_196 ?_
                                      refine k_top (z := tk) etk.symm ?_
                                      refine va_iald hx hb hK hP 10 0 rfl rfl (kb_in b8 (by decide) (by decide)) dX12_splits_199 ?_
                                      refine lv_topi (fun t703 et703 => ?_)
                                      refine lv_ldc (v := (1000000)) hx hb hown (hg _ wt6_191) dX12_splits_200 ?_
                                      refine lv_icmp_le (tgt := 217) hx hb dX12_splits_202 (by decide) (fun c704 => ?_) (fun c704 => ?_)
                                      · have h705 := (kc_le c704)
                                        have b706 : kb (-2147483648) t703 1000000 := kr_le1 h705 (kb_any t703) kc_1000000
                                        refine lv_bipush (v := 10) hx hb dX12_splits_217 (by decide) ?_
                                        refine lv_aload_n hx hb dX12_splits_219 rfl (lv_at hl 4 rfl) ?_
                                        refine va_get (D := D) (ci := 12) (v := .ref (r 16)) (C := RX12) (T := TX12) (N := 48) hx hb hg inC12 hown hK hP 0 rfl rfl 16 (by decide) (hg _ wt5_176) (fun _ h9 => h9) rfl dX12_splits_220 ?_
                                        refine lv_aload_n hx hb dX12_splits_223 rfl (lv_at hl 4 rfl) ?_
                                        refine va_get (D := D) (ci := 12) (v := .int (F3 18)) (C := RX12) (T := TX12) (N := 48) hx hb hg inC12 hown hK hP 0 rfl rfl 18 (by decide) (hg _ wt5_178) (fun _ h9 => h9) rfl dX12_splits_224 ?_
                                        refine k_top (z := tk) etk.symm ?_
                                        refine va_iald hx hb hK hP 10 0 rfl rfl (kb_in b8 (by decide) (by decide)) dX12_splits_227 ?_
                                        refine k_top (z := t703) et703.symm ?_
                                        refine lv_imul hx hb dX12_splits_228 ?_
                                        refine lv_topi (fun t707 et707 => ?_)
                                        refine lv_aload_n hx hb dX12_splits_229 rfl (lv_at hl 4 rfl) ?_
                                        refine va_get (D := D) (ci := 12) (v := .ref (r 11)) (C := RX12) (T := TX12) (N := 48) hx hb hg inC12 hown hK hP 0 rfl rfl 11 (by decide) (hg _ wt5_171) (fun _ h9 => h9) rfl dX12_splits_230 ?_
                                        refine lv_iload hx hb dX12_splits_233 (lv_at hl 0 rfl) ?_
                                        refine va_bald hx hb hK hP 7 1 rfl rfl (kb_in b692 (by decide) (by decide)) dX12_splits_235 ?_
                                        refine lv_topi (fun t708 et708 => ?_)
                                        refine lv_iadd hx hb dX12_splits_236 ?_
                                        refine lv_topi (fun t709 et709 => ?_)
                                        refine lv_bipush (v := 48) hx hb dX12_splits_237 (by decide) ?_
                                        refine lv_isub hx hb dX12_splits_239 ?_
                                        refine lv_topi (fun t710 et710 => ?_)
                                        refine va_iast hx hb hK hP hD hS 10 0 rfl rfl (kb_in b8 (by decide) (by decide)) dX12_splits_240 (fun H locs hP hD hS => ?_)
                                        have hP : va_P D vwCl (mW K o r F3 (va_up B680 16 (upd (B680 16) tk.toNatClampNeg t710)) g) H := hP
                                        have hD : va_D A (mW K o r F3 (va_up B680 16 (upd (B680 16) tk.toNatClampNeg t710)) g) := hD
                                        refine k_gen (P := fun z => va_P D vwCl (mW K o r F3 z g) H ∧ va_D A (mW K o r F3 z g) ∧ (mI F3 z) ∧ (mE (XR []) f a F3 z) ∧ (fE [18] f F3)) (va_up B680 16 (upd (B680 16) tk.toNatClampNeg t710)) ⟨hP, hD, (mI_s hI (aI_free hI.2.1 16 _ (fun j => ⟨by show (mBa 16 j).1 ≤ _; exact Int.le_refl _, by show _ ≤ (mBa 16 j).2; exact Int.le_refl _⟩)) (by decide) (by decide)), (mE_s hE (by decide) (by decide) (by decide) (by decide)), hk0⟩ (fun a_711 ea_711 hq => ?_)
                                        obtain ⟨hP, hD, hI, hE, hk0⟩ := hq
                                        obtain ⟨t712, et712⟩ : ∃ z : Int32, z = y679 + Int32.ofInt 1 := ⟨_, rfl⟩
                                        have qt712 : t712.toInt = y679.toInt + 1 := by rw [et712]; exact km_inc b692 (by decide) (by decide)
                                        have b713 : kb 1 t712 400 := kb_inc (k := 1) qt712 b692
                                        refine lv_iinc (v := t712) (lv' := [(5, .int t712), (4, .int y649), (3, .int t17), (2, .int y2), (0, .ref o), (1, .int x)]) hx hb dX12_splits_241 hl (k := 0) rfl et712.symm (by decide) rfl (fun ls hl => ?_)
                                        refine lv_goto (tgt := 169) hx hb dX12_splits_244 (by decide) ?_
                                        exact ihlp681  a_711 _ _ _ t712 (km_up hmlp681 qt712) hI hE hk0 (kb_w b713 (by decide) (by decide)) hP hD hS (lv_sub hl [0, 1, 2, 3, 4, 5] rfl)
                                      · have h714 := (kc_nle c704)
                                        have b715 : kb 1000001 t703 2147483647 := kr_lt2 h714 kc_1000000 (kb_any t703) (by decide)
                                        refine lv_aload_n hx hb dX12_splits_205 rfl (lv_at hl 4 rfl) ?_
                                        refine va_get (D := D) (ci := 12) (v := .ref (r 16)) (C := RX12) (T := TX12) (N := 48) hx hb hg inC12 hown hK hP 0 rfl rfl 16 (by decide) (hg _ wt5_176) (fun _ h9 => h9) rfl dX12_splits_206 ?_
                                        refine lv_aload_n hx hb dX12_splits_209 rfl (lv_at hl 4 rfl) ?_
                                        refine va_get (D := D) (ci := 12) (v := .int (F3 18)) (C := RX12) (T := TX12) (N := 48) hx hb hg inC12 hown hK hP 0 rfl rfl 18 (by decide) (hg _ wt5_178) (fun _ h9 => h9) rfl dX12_splits_210 ?_
                                        refine k_top (z := tk) etk.symm ?_
                                        refine va_iald hx hb hK hP 10 0 rfl rfl (kb_in b8 (by decide) (by decide)) dX12_splits_213 ?_
                                        refine k_top (z := t703) et703.symm ?_
                                        refine lv_goto (tgt := 240) hx hb dX12_splits_214 (by decide) ?_
                                        refine va_iast hx hb hK hP hD hS 10 0 rfl rfl (kb_in b8 (by decide) (by decide)) dX12_splits_240 (fun H locs hP hD hS => ?_)
                                        have hP : va_P D vwCl (mW K o r F3 (va_up B680 16 (upd (B680 16) tk.toNatClampNeg t703)) g) H := hP
                                        have hD : va_D A (mW K o r F3 (va_up B680 16 (upd (B680 16) tk.toNatClampNeg t703)) g) := hD
                                        refine k_gen (P := fun z => va_P D vwCl (mW K o r F3 z g) H ∧ va_D A (mW K o r F3 z g) ∧ (mI F3 z) ∧ (mE (XR []) f a F3 z) ∧ (fE [18] f F3)) (va_up B680 16 (upd (B680 16) tk.toNatClampNeg t703)) ⟨hP, hD, (mI_s hI (aI_free hI.2.1 16 _ (fun j => ⟨by show (mBa 16 j).1 ≤ _; exact Int.le_refl _, by show _ ≤ (mBa 16 j).2; exact Int.le_refl _⟩)) (by decide) (by decide)), (mE_s hE (by decide) (by decide) (by decide) (by decide)), hk0⟩ (fun a_716 ea_716 hq => ?_)
                                        obtain ⟨hP, hD, hI, hE, hk0⟩ := hq
                                        obtain ⟨t717, et717⟩ : ∃ z : Int32, z = y679 + Int32.ofInt 1 := ⟨_, rfl⟩
                                        have qt717 : t717.toInt = y679.toInt + 1 := by rw [et717]; exact km_inc b692 (by decide) (by decide)
                                        have b718 : kb 1 t717 400 := kb_inc (k := 1) qt717 b692
                                        refine lv_iinc (v := t717) (lv' := [(5, .int t717), (4, .int y649), (3, .int t17), (2, .int y2), (0, .ref o), (1, .int x)]) hx hb dX12_splits_241 hl (k := 0) rfl et717.symm (by decide) rfl (fun ls hl => ?_)
                                        refine lv_goto (tgt := 169) hx hb dX12_splits_244 (by decide) ?_
                                        exact ihlp681  a_716 _ _ _ t717 (km_up hmlp681 qt717) hI hE hk0 (kb_w b718 (by decide) (by decide)) hP hD hS (lv_sub hl [0, 1, 2, 3, 4, 5] rfl)
                              exact lp681 (401)  a_678 _ _ _ y2 (by have h1 := (b15); unfold kb at h1; omega) hI hE hk0 (kb_w b15 (by decide) (by decide)) hP hD hS (lv_sub hl [0, 1, 2, 3, 4, 5] rfl)
                            refine lv_if_eq (tgt := 145) hx hb dX12_splits_132 (by decide) (fun c719 => ?_) (fun c719 => ?_)
                            · have b720 : kb 0 v659 0 := kb_eq c719 kc_0
                              refine lv_iload_n hx hb dX12_splits_145 rfl (lv_at hl 1 rfl) ?_
                              refine kN.callS (As := [.int t17]) (rest := [.int tk, .ref (r 15)]) ⟨hx, hb, hml, hown, hg⟩ (m_isDigit l t17 ) (va_cwS 1 hg (kgS wt6_184 wt6_185 wt1_14 wt6_186) rfl rfl rfl (by decide +kernel) ⟨by decide, by decide⟩) hP hS rfl hl.1 rfl (Nat.le_of_ble_eq_true rfl) dX12_splits_146 ⟨Nat.le_refl _, Nat.le_refl _⟩ (fun v722 H locs hw721 hP hS => ?_)
                              refine lv_if_eq (tgt := 157) hx hb dX12_splits_149 (by decide) (fun c724 => ?_) (fun c724 => ?_)
                              · have b725 : kb 0 v722 0 := kb_eq c724 kc_0
                                refine lv_bipush (v := 100) hx hb dX12_splits_157 (by decide) ?_
                                refine lv_iload_n hx hb dX12_splits_159 rfl (lv_at hl 1 rfl) ?_
                                refine lv_sipush (v := 255) hx hb dX12_splits_160 (by decide) ?_
                                refine lv_iand hx hb dX12_splits_163 ?_
                                refine lv_topi (fun t726 et726 => ?_)
                                have b727 : kb 0 t726 255 := kb_eq et726 (kb_and 8 (by decide) (by decide))
                                refine lv_iadd hx hb dX12_splits_164 ?_
                                refine lv_topi (fun t728 et728 => ?_)
                                have b729 : kb 100 t728 355 := kb_eq et728 (kb_add kc_100 b727 (by decide) (by decide))
                                have qt728 : t728.toInt = 100 + t726.toInt := by rw [et728]; exact kt_cadd kc_100 b727 (by decide) (by decide)
                                exact jn677 _ _ _ t728  hP hD hS (lv_sub hl [0, 1, 2, 3, 4] rfl)
                              · have b730 : kb 1 v722 1 := kr_nel c724 hw721 kc_0 (by decide)
                                refine lv_bipush (v := 50) hx hb dX12_splits_152 (by decide) ?_
                                refine lv_goto (tgt := 165) hx hb dX12_splits_154 (by decide) ?_
                                exact jn677 _ _ _ 50  hP hD hS (lv_sub hl [0, 1, 2, 3, 4] rfl)
                            · have b731 : kb 1 v659 1 := kr_nel c719 hw658 kc_0 (by decide)
                              refine lv_aload_n hx hb dX12_splits_135 rfl (lv_at hl 3 rfl) ?_
                              refine lv_iload_n hx hb dX12_splits_136 rfl (lv_at hl 2 rfl) ?_
                              refine lv_iload hx hb dX12_splits_137 (lv_at hl 0 rfl) ?_
                              refine kI.callV (As := [.int y2, .int y649]) (rest := [.int tk, .ref (r 15)]) ⟨hx, hb, hml, hown, hg⟩ (m_wordOf l o r F3 a_657 g hI y2 y649 (kb_w b15 (by decide) (by decide)) (kb_w b655 (by decide) (by decide)) ) (cwV 2 hg (kgV wt6_187 wt6_189 wp4_3 wt1_14 wt6_190) rfl rfl rfl (by decide +kernel) ⟨by decide, by decide⟩) hK hP hD hS hA mIs [] rfl (wr := []) rfl rfl rfl (fun i h => by cases h) 0 12 rfl rfl rfl hl.1 rfl (Nat.le_of_ble_eq_true rfl) dX12_splits_139 ⟨Nat.le_refl _, Nat.le_refl _⟩ (fun v733 u734 H locs hw732 hP hD hS => ?_)
                              have hP : va_P D vwCl (mW K o r F3 a_657 g) H := hP
                              have hD : va_D A (mW K o r F3 a_657 g) := hD
                              refine lv_goto (tgt := 165) hx hb dX12_splits_142 (by decide) ?_
                              exact jn677 _ _ _ v733  hP hD hS (lv_sub hl [0, 1, 2, 3, 4] rfl)
                          · have h735 := (kc_nle c653)
                            have b736 : kb 1 y649 399 := kr_lt1 h735 b652 b557 (by decide)
                            refine lv_aload_n hx hb dX12_splits_81 rfl (lv_at hl 3 rfl) ?_
                            refine va_get (D := D) (ci := 12) (v := .ref (r 11)) (C := RX12) (T := TX12) (N := 48) hx hb hg inC12 hown hK hP 0 rfl rfl 11 (by decide) (hg _ wt5_171) (fun _ h9 => h9) rfl dX12_splits_82 ?_
                            refine lv_iload hx hb dX12_splits_85 (lv_at hl 0 rfl) ?_
                            refine va_bald hx hb hK hP 7 1 rfl rfl (kb_in b736 (by decide) (by decide)) dX12_splits_87 ?_
                            refine lv_topi (fun t737 et737 => ?_)
                            refine kN.callS (As := [.int t737]) (rest := []) ⟨hx, hb, hml, hown, hg⟩ (m_isDigit l t737 ) (va_cwS 1 hg (kgS wt6_184 wt6_185 wt1_14 wt6_186) rfl rfl rfl (by decide +kernel) ⟨by decide, by decide⟩) hP hS rfl hl.1 rfl (Nat.le_of_ble_eq_true rfl) dX12_splits_88 ⟨Nat.le_refl _, Nat.le_refl _⟩ (fun v739 H locs hw738 hP hS => ?_)
                            refine lv_if_eq (tgt := 100) hx hb dX12_splits_91 (by decide) (fun c741 => ?_) (fun c741 => ?_)
                            · have b742 : kb 0 v739 0 := kb_eq c741 kc_0
                              refine lv_aload_n hx hb dX12_splits_100 rfl (lv_at hl 3 rfl) ?_
                              refine va_get (D := D) (ci := 12) (v := .ref (r 17)) (C := RX12) (T := TX12) (N := 48) hx hb hg inC12 hown hK hP 0 rfl rfl 17 (by decide) (hg _ wt5_177) (fun _ h9 => h9) rfl dX12_splits_101 ?_
                              refine lv_aload_n hx hb dX12_splits_104 rfl (lv_at hl 3 rfl) ?_
                              refine va_get (D := D) (ci := 12) (v := .int (F3 18)) (C := RX12) (T := TX12) (N := 48) hx hb hg inC12 hown hK hP 0 rfl rfl 18 (by decide) (hg _ wt5_178) (fun _ h9 => h9) rfl dX12_splits_105 ?_
                              refine k_top (z := tk) etk.symm ?_
                              refine lv_iload_n hx hb dX12_splits_108 rfl (lv_at hl 2 rfl) ?_
                              refine va_iast hx hb hK hP hD hS 11 0 rfl rfl (kb_in b8 (by decide) (by decide)) dX12_splits_109 (fun H locs hP hD hS => ?_)
                              have hP : va_P D vwCl (mW K o r F3 (va_up B4 17 (upd (B4 17) tk.toNatClampNeg y2)) g) H := hP
                              have hD : va_D A (mW K o r F3 (va_up B4 17 (upd (B4 17) tk.toNatClampNeg y2)) g) := hD
                              refine k_gen (P := fun z => va_P D vwCl (mW K o r F3 z g) H ∧ va_D A (mW K o r F3 z g) ∧ (mI F3 z) ∧ (mE (XR []) f a F3 z) ∧ (fE [18] f F3)) (va_up B4 17 (upd (B4 17) tk.toNatClampNeg y2)) ⟨hP, hD, (mI_s hI (aI_sx hI.2.1 17 0 401 b8 (by decide) (by decide) b15 (by decide +kernel)) (by decide) (by decide)), (mE_s hE (by decide) (by decide) (by decide) (by decide)), hk0⟩ (fun a_743 ea_743 hq => ?_)
                              obtain ⟨hP, hD, hI, hE, hk0⟩ := hq
                              refine lv_aload_n hx hb dX12_splits_110 rfl (lv_at hl 3 rfl) ?_
                              refine va_get (D := D) (ci := 12) (v := .ref (r 16)) (C := RX12) (T := TX12) (N := 48) hx hb hg inC12 hown hK hP 0 rfl rfl 16 (by decide) (hg _ wt5_176) (fun _ h9 => h9) rfl dX12_splits_111 ?_
                              refine lv_aload_n hx hb dX12_splits_114 rfl (lv_at hl 3 rfl) ?_
                              refine va_get (D := D) (ci := 12) (v := .int (F3 18)) (C := RX12) (T := TX12) (N := 48) hx hb hg inC12 hown hK hP 0 rfl rfl 18 (by decide) (hg _ wt5_178) (fun _ h9 => h9) rfl dX12_splits_115 ?_
                              refine k_top (z := tk) etk.symm ?_
                              refine lv_iconst (v := 0) hx hb dX12_splits_118 (by decide) ?_
                              refine va_iast hx hb hK hP hD hS 10 0 rfl rfl (kb_in b8 (by decide) (by decide)) dX12_splits_119 (fun H locs hP hD hS => ?_)
                              have hP : va_P D vwCl (mW K o r F3 (va_up a_743 16 (upd (a_743 16) tk.toNatClampNeg 0)) g) H := hP
                              have hD : va_D A (mW K o r F3 (va_up a_743 16 (upd (a_743 16) tk.toNatClampNeg 0)) g) := hD
                              refine k_gen (P := fun z => va_P D vwCl (mW K o r F3 z g) H ∧ va_D A (mW K o r F3 z g) ∧ (mI F3 z) ∧ (mE (XR []) f a F3 z) ∧ (fE [18] f F3)) (va_up a_743 16 (upd (a_743 16) tk.toNatClampNeg 0)) ⟨hP, hD, (mI_s hI (aI_free hI.2.1 16 _ (fun j => ⟨by show (mBa 16 j).1 ≤ _; exact Int.le_refl _, by show _ ≤ (mBa 16 j).2; exact Int.le_refl _⟩)) (by decide) (by decide)), (mE_s hE (by decide) (by decide) (by decide) (by decide)), hk0⟩ (fun a_744 ea_744 hq => ?_)
                              obtain ⟨hP, hD, hI, hE, hk0⟩ := hq
                              refine lv_aload_n hx hb dX12_splits_120 rfl (lv_at hl 3 rfl) ?_
                              refine va_get (D := D) (ci := 12) (v := .ref (r 15)) (C := RX12) (T := TX12) (N := 48) hx hb hg inC12 hown hK hP 0 rfl rfl 15 (by decide) (hg _ wt5_175) (fun _ h9 => h9) rfl dX12_splits_121 ?_
                              refine lv_aload_n hx hb dX12_splits_124 rfl (lv_at hl 3 rfl) ?_
                              refine va_get (D := D) (ci := 12) (v := .int (F3 18)) (C := RX12) (T := TX12) (N := 48) hx hb hg inC12 hown hK hP 0 rfl rfl 18 (by decide) (hg _ wt5_178) (fun _ h9 => h9) rfl dX12_splits_125 ?_
                              refine k_top (z := tk) etk.symm ?_
                              refine lv_iload_n hx hb dX12_splits_128 rfl (lv_at hl 1 rfl) ?_
                              refine kN.callS (As := [.int t17]) (rest := [.int tk, .ref (r 15)]) ⟨hx, hb, hml, hown, hg⟩ (m_isSmall l t17 ) (va_cwS 1 hg (kgS wt6_181 wt6_182 wt1_14 wt6_183) rfl rfl rfl (by decide +kernel) ⟨by decide, by decide⟩) hP hS rfl hl.1 rfl (Nat.le_of_ble_eq_true rfl) dX12_splits_129 ⟨Nat.le_refl _, Nat.le_refl _⟩ (fun v746 H locs hw745 hP hS => ?_)
                              have jn764 : ∀ (H : Heap) (locs : List Loc) (ls : Array Slot) (z763 : Int32), va_P D vwCl (mW K o r F3 a_744 g) H → va_D A (mW K o r F3 a_744 g) → va_S A s.heap H locs → lv_has ls 6 [(4, .int y649), (3, .int t17), (2, .int y2), (0, .ref o), (1, .int x)] → W p l e (rmD 2 0 0) s m ([.ref o, .int x] : List Value).toArray below meth c H locs 0 0 (kQv D (tysK K) (fun (u : mS) => mI u.1 u.2.1 ∧ mE (XR []) f a u.1 u.2.1 ∧ fE [18] f u.1 ∧ (∃ N : Nat, (u.1 18).toInt = (N : Int) ∧ N ≤ 400 ∧ u.2.1 15 N = 0)) (fun u => mW K o r u.1 u.2.1 u.2.2) A below ([.ref o, .int x] : List Value).toArray s 0 0) (F0 m 165 ls [.int z763, .int tk, .ref (r 15)]) := by
                                intro  H locs ls z763  hP hD hS hl
                                refine va_iast hx hb hK hP hD hS 9 0 rfl rfl (kb_in b8 (by decide) (by decide)) dX12_splits_165 (fun H locs hP hD hS => ?_)
                                have hP : va_P D vwCl (mW K o r F3 (va_up a_744 15 (upd (a_744 15) tk.toNatClampNeg z763)) g) H := hP
                                have hD : va_D A (mW K o r F3 (va_up a_744 15 (upd (a_744 15) tk.toNatClampNeg z763)) g) := hD
                                refine k_gen (P := fun z => va_P D vwCl (mW K o r F3 z g) H ∧ va_D A (mW K o r F3 z g) ∧ (mI F3 z) ∧ (mE (XR []) f a F3 z) ∧ (fE [18] f F3)) (va_up a_744 15 (upd (a_744 15) tk.toNatClampNeg z763)) ⟨hP, hD, (mI_s hI (aI_free hI.2.1 15 _ (fun j => ⟨by show (mBa 15 j).1 ≤ _; exact Int.le_refl _, by show _ ≤ (mBa 15 j).2; exact Int.le_refl _⟩)) (by decide) (by decide)), (mE_s hE (by decide) (by decide) (by decide) (by decide)), hk0⟩ (fun a_765 ea_765 hq => ?_)
                                obtain ⟨hP, hD, hI, hE, hk0⟩ := hq
                                refine lv_iload_n hx hb dX12_splits_166 rfl (lv_at hl 2 rfl) ?_
                                refine lv_istore (lv' := [(5, .int y2), (4, .int y649), (3, .int t17), (2, .int y2), (0, .ref o), (1, .int x)]) hx hb dX12_splits_167 hl (by decide) rfl (fun ls hl => ?_)
                                have lp768 : ∀ (n769 : Nat) (B767 : Nat → Nat → Int32) (H : Heap) (locs : List Loc) (ls : Array Slot) (y766 : Int32), (400 < y766.toInt + (n769 : Int)) → (mI F3 B767) → (mE (XR []) f a F3 B767) → (fE [18] f F3) → (kb 0 y766 400) → va_P D vwCl (mW K o r F3 B767 g) H → va_D A (mW K o r F3 B767 g) → va_S A s.heap H locs → lv_has ls 6 [(5, .int y766), (4, .int y649), (3, .int t17), (2, .int y2), (0, .ref o), (1, .int x)] → W p l e (rmD 2 0 0) s m ([.ref o, .int x] : List Value).toArray below meth c H locs 0 0 (kQv D (tysK K) (fun (u : mS) => mI u.1 u.2.1 ∧ mE (XR []) f a u.1 u.2.1 ∧ fE [18] f u.1 ∧ (∃ N : Nat, (u.1 18).toInt = (N : Int) ∧ N ≤ 400 ∧ u.2.1 15 N = 0)) (fun u => mW K o r u.1 u.2.1 u.2.2) A below ([.ref o, .int x] : List Value).toArray s 0 0) (F0 m 169 ls []) := by
                                  intro n769
                                  induction n769 with
                                  | zero =>
                                    intro  B767  H locs ls y766 hmlp768 hI hE hk0 b770 hP hD hS hl
                                    exact (by have h1 := b770.2; have h2 := hmlp768; omega : False).elim
                                  | succ n769 ihlp768 =>
                                    intro  B767  H locs ls y766 hmlp768 hI hE hk0 b770 hP hD hS hl
                                    refine lv_iload hx hb dX12_splits_169 (lv_at hl 0 rfl) ?_
                                    refine lv_iload hx hb dX12_splits_171 (lv_at hl 1 rfl) ?_
                                    refine lv_icmp_ge (tgt := 247) hx hb dX12_splits_173 (by decide) (fun c771 => ?_) (fun c771 => ?_)
                                    · have h772 := (kc_le c771)
                                      have b773 : kb 1 y766 400 := kr_le2 h772 b736 b770
                                      refine lv_aload_n hx hb dX12_splits_247 rfl (lv_at hl 4 rfl) ?_
                                      refine lv_dup hx hb dX12_splits_248 rfl ?_
                                      refine va_get (D := D) (ci := 12) (v := .int (F3 18)) (C := RX12) (T := TX12) (N := 48) hx hb hg inC12 hown hK hP 0 rfl rfl 18 (by decide) (hg _ wt5_178) (fun _ h9 => h9) rfl dX12_splits_249 ?_
                                      refine k_top (z := tk) etk.symm ?_
                                      have b774 : kb 0 tk 399 := ⟨(b8).1, by have w1 := htk; have w2 := (b15).2; omega⟩
                                      refine lv_iconst (v := 1) hx hb dX12_splits_252 (by decide) ?_
                                      refine lv_iadd hx hb dX12_splits_253 ?_
                                      refine lv_topi (fun t775 et775 => ?_)
                                      have b776 : kb 1 t775 400 := kb_eq et775 (kb_add b774 kc_1 (by decide) (by decide))
                                      have qt775 : t775.toInt = tk.toInt + 1 := by rw [et775]; exact kt_addc b774 kc_1 (by decide) (by decide)
                                      refine va_put (D := D) (ci := 12) (v := .int t775) (ty := .int) (C := RX12) (T := TX12) (N := 48) hx hb hg inC12 tyX12 tyX12_ok nmX12 hown hK hP hD hS 0 rfl rfl 18 (by decide) (hg _ wt5_178) (fun _ h9 => h9) rfl (by decide +kernel) rfl rfl (Nat.le_of_ble_eq_true rfl) dX12_splits_254 (fun H locs hP hD hS => ?_)
                                      have hP : va_P D vwCl (mW K o r (upd F3 18 t775) B767 g) H := hP
                                      have hD : va_D A (mW K o r (upd F3 18 t775) B767 g) := hD
                                      refine k_gen (P := fun z => va_P D vwCl (mW K o r z B767 g) H ∧ va_D A (mW K o r z B767 g) ∧ (mI z B767) ∧ (mE (XR []) f a z B767) ∧ (fE [18] f z)) (upd F3 18 t775) ⟨hP, hD, (mI_f hI (fI_st hI.1 18 b776 (by decide) (by decide))), (mE_f hE (by decide)), (fE_f hk0 (by decide))⟩ (fun f_777 ef_777 hq => ?_)
                                      obtain ⟨hP, hD, hI, hE, hk0⟩ := hq
                                      refine lv_iload hx hb dX12_splits_257 (lv_at hl 1 rfl) ?_
                                      refine lv_istore_n (lv' := [(2, .int y649), (5, .int y766), (4, .int y649), (3, .int t17), (0, .ref o), (1, .int x)]) hx hb dX12_splits_259 rfl hl (by decide) rfl (fun ls hl => ?_)
                                      refine lv_goto (tgt := 7) hx hb dX12_splits_260 (by decide) ?_
                                      exact ihlp5  f_777 B767 _ _ _ y649 (by omega) hI hE hk0 (kb_w b736 (by decide) (by decide)) (by rw [(show f_777 18 = t775 from by rw [← ef_777]; rfl)]; omega) hP hD hS (lv_sub hl [0, 4, 5] rfl)
                                    · have h778 := (kc_nle c771)
                                      have b779 : kb 0 y766 398 := kr_lt1 h778 b770 b736 (by decide)
                                      refine lv_iload_n hx hb dX12_splits_176 rfl (lv_at hl 2 rfl) ?_
                                      refine kN.callS (As := [.int t17]) (rest := []) ⟨hx, hb, hml, hown, hg⟩ (m_isDigit l t17 ) (va_cwS 1 hg (kgS wt6_184 wt6_185 wt1_14 wt6_186) rfl rfl rfl (by decide +kernel) ⟨by decide, by decide⟩) hP hS rfl hl.1 rfl (Nat.le_of_ble_eq_true rfl) dX12_splits_177 ⟨Nat.le_refl _, Nat.le_refl _⟩ (fun v781 H locs hw780 hP hS => ?_)
                                      refine lv_if_eq (tgt := 247) hx hb dX12_splits_180 (by decide) (fun c783 => ?_) (fun c783 => ?_)
                                      · have b784 : kb 0 v781 0 := kb_eq c783 kc_0
                                        refine lv_aload_n hx hb dX12_splits_247 rfl (lv_at hl 4 rfl) ?_
                                        refine lv_dup hx hb dX12_splits_248 rfl ?_
                                        refine va_get (D := D) (ci := 12) (v := .int (F3 18)) (C := RX12) (T := TX12) (N := 48) hx hb hg inC12 hown hK hP 0 rfl rfl 18 (by decide) (hg _ wt5_178) (fun _ h9 => h9) rfl dX12_splits_249 ?_
                                        refine k_top (z := tk) etk.symm ?_
                                        have b785 : kb 0 tk 399 := ⟨(b8).1, by have w1 := htk; have w2 := (b15).2; omega⟩
                                        refine lv_iconst (v := 1) hx hb dX12_splits_252 (by decide) ?_
                                        refine lv_iadd hx hb dX12_splits_253 ?_
                                        refine lv_topi (fun t786 et786 => ?_)
                                        have b787 : kb 1 t786 400 := kb_eq et786 (kb_add b785 kc_1 (by decide) (by decide))
                                        have qt786 : t786.toInt = tk.toInt + 1 := by rw [et786]; exact kt_addc b785 kc_1 (by decide) (by decide)
                                        refine va_put (D := D) (ci := 12) (v := .int t786) (ty := .int) (C := RX12) (T := TX12) (N := 48) hx hb hg inC12 tyX12 tyX12_ok nmX12 hown hK hP hD hS 0 rfl rfl 18 (by decide) (hg _ wt5_178) (fun _ h9 => h9) rfl (by decide +kernel) rfl rfl (Nat.le_of_ble_eq_true rfl) dX12_splits_254 (fun H locs hP hD hS => ?_)
                                        have hP : va_P D vwCl (mW K o r (upd F3 18 t786) B767 g) H := hP
                                        have hD : va_D A (mW K o r (upd F3 18 t786) B767 g) := hD
                                        refine k_gen (P := fun z => va_P D vwCl (mW K o r z B767 g) H ∧ va_D A (mW K o r z B767 g) ∧ (mI z B767) ∧ (mE (XR []) f a z B767) ∧ (fE [18] f z)) (upd F3 18 t786) ⟨hP, hD, (mI_f hI (fI_st hI.1 18 b787 (by decide) (by decide))), (mE_f hE (by decide)), (fE_f hk0 (by decide))⟩ (fun f_788 ef_788 hq => ?_)
                                        obtain ⟨hP, hD, hI, hE, hk0⟩ := hq
                                        refine lv_iload hx hb dX12_splits_257 (lv_at hl 1 rfl) ?_
                                        refine lv_istore_n (lv' := [(2, .int y649), (5, .int y766), (4, .int y649), (3, .int t17), (0, .ref o), (1, .int x)]) hx hb dX12_splits_259 rfl hl (by decide) rfl (fun ls hl => ?_)
                                        refine lv_goto (tgt := 7) hx hb dX12_splits_260 (by decide) ?_
                                        exact ihlp5  f_788 B767 _ _ _ y649 (by omega) hI hE hk0 (kb_w b736 (by decide) (by decide)) (by rw [(show f_788 18 = t786 from by rw [← ef_788]; rfl)]; omega) hP hD hS (lv_sub hl [0, 4, 5] rfl)
                                      · have b789 : kb 1 v781 1 := kr_nel c783 hw780 kc_0 (by decide)
                                        refine lv_aload_n hx hb dX12_splits_183 rfl (lv_at hl 4 rfl) ?_
                                        refine va_get (D := D) (ci := 12) (v := .ref (r 16)) (C := RX12) (T := TX12) (N := 48) hx hb hg inC12 hown hK hP 0 rfl rfl 16 (by decide) (hg _ wt5_176) (fun _ h9 => h9) rfl dX12_splits_184 ?_
                                        refine lv_aload_n hx hb dX12_splits_187 rfl (lv_at hl 4 rfl) ?_
                                        refine va_get (D := D) (ci := 12) (v := .int (F3 18)) (C := RX12) (T := TX12) (N := 48) hx hb hg inC12 hown hK hP 0 rfl rfl 18 (by decide) (hg _ wt5_178) (fun _ h9 => h9) rfl dX12_splits_188 ?_
                                        refine k_top (z := tk) etk.symm ?_
                                        refine lv_aload_n hx hb dX12_splits_191 rfl (lv_at hl 4 rfl) ?_
                                        refine va_get (D := D) (ci := 12) (v := .ref (r 16)) (C := RX12) (T := TX12) (N := 48) hx hb hg inC12 hown hK hP 0 rfl rfl 16 (by decide) (hg _ wt5_176) (fun _ h9 => h9) rfl dX12_splits_192 ?_
                                        refine lv_aload_n hx hb dX12_splits_195 rfl (lv_at hl 4 rfl) ?_
                                        refine va_get (D := D) (ci := 12) (v := .int (F3 18)) (C := RX12) (T := TX12) (N := 48) hx hb hg inC12 hown hK hP 0 rfl rfl 18 (by decide) (hg _ wt5_178) (fun _ h9 => h9) rfl dX12_splits_196 ?_
                                        refine k_top (z := tk) etk.symm ?_
                                        refine va_iald hx hb hK hP 10 0 rfl rfl (kb_in b8 (by decide) (by decide)) dX12_splits_199 ?_
                                        refine lv_topi (fun t790 et790 => ?_)
                                        refine lv_ldc (v := (1000000)) hx hb hown (hg _ wt6_191) dX12_splits_200 ?_
                                        refine lv_icmp_le (tgt := 217) hx hb dX12_splits_202 (by decide) (fun c791 => ?_) (fun c791 => ?_)
                                        · have h792 := (kc_le c791)
                                          have b793 : kb (-2147483648) t790 1000000 := kr_le1 h792 (kb_any t790) kc_1000000
                                          refine lv_bipush (v := 10) hx hb dX12_splits_217 (by decide) ?_
                                          refine lv_aload_n hx hb dX12_splits_219 rfl (lv_at hl 4 rfl) ?_
                                          refine va_get (D := D) (ci := 12) (v := .ref (r 16)) (C := RX12) (T := TX12) (N := 48) hx hb hg inC12 hown hK hP 0 rfl rfl 16 (by decide) (hg _ wt5_176) (fun _ h9 => h9) rfl dX12_splits_220 ?_
                                          refine lv_aload_n hx hb dX12_splits_223 rfl (lv_at hl 4 rfl) ?_
                                          refine va_get (D := D) (ci := 12) (v := .int (F3 18)) (C := RX12) (T := TX12) (N := 48) hx hb hg inC12 hown hK hP 0 rfl rfl 18 (by decide) (hg _ wt5_178) (fun _ h9 => h9) rfl dX12_splits_224 ?_
                                          refine k_top (z := tk) etk.symm ?_
                                          refine va_iald hx hb hK hP 10 0 rfl rfl (kb_in b8 (by decide) (by decide)) dX12_splits_227 ?_
                                          refine k_top (z := t790) et790.symm ?_
                                          refine lv_imul hx hb dX12_splits_228 ?_
                                          refine lv_topi (fun t794 et794 => ?_)
                                          refine lv_aload_n hx hb dX12_splits_229 rfl (lv_at hl 4 rfl) ?_
                                          refine va_get (D := D) (ci := 12) (v := .ref (r 11)) (C := RX12) (T := TX12) (N := 48) hx hb hg inC12 hown hK hP 0 rfl rfl 11 (by decide) (hg _ wt5_171) (fun _ h9 => h9) rfl dX12_splits_230 ?_
                                          refine lv_iload hx hb dX12_splits_233 (lv_at hl 0 rfl) ?_
                                          refine va_bald hx hb hK hP 7 1 rfl rfl (kb_in b779 (by decide) (by decide)) dX12_splits_235 ?_
                                          refine lv_topi (fun t795 et795 => ?_)
                                          refine lv_iadd hx hb dX12_splits_236 ?_
                                          refine lv_topi (fun t796 et796 => ?_)
                                          refine lv_bipush (v := 48) hx hb dX12_splits_237 (by decide) ?_
                                          refine lv_isub hx hb dX12_splits_239 ?_
                                          refine lv_topi (fun t797 et797 => ?_)
                                          refine va_iast hx hb hK hP hD hS 10 0 rfl rfl (kb_in b8 (by decide) (by decide)) dX12_splits_240 (fun H locs hP hD hS => ?_)
                                          have hP : va_P D vwCl (mW K o r F3 (va_up B767 16 (upd (B767 16) tk.toNatClampNeg t797)) g) H := hP
                                          have hD : va_D A (mW K o r F3 (va_up B767 16 (upd (B767 16) tk.toNatClampNeg t797)) g) := hD
                                          refine k_gen (P := fun z => va_P D vwCl (mW K o r F3 z g) H ∧ va_D A (mW K o r F3 z g) ∧ (mI F3 z) ∧ (mE (XR []) f a F3 z) ∧ (fE [18] f F3)) (va_up B767 16 (upd (B767 16) tk.toNatClampNeg t797)) ⟨hP, hD, (mI_s hI (aI_free hI.2.1 16 _ (fun j => ⟨by show (mBa 16 j).1 ≤ _; exact Int.le_refl _, by show _ ≤ (mBa 16 j).2; exact Int.le_refl _⟩)) (by decide) (by decide)), (mE_s hE (by decide) (by decide) (by decide) (by decide)), hk0⟩ (fun a_798 ea_798 hq => ?_)
                                          obtain ⟨hP, hD, hI, hE, hk0⟩ := hq
                                          obtain ⟨t799, et799⟩ : ∃ z : Int32, z = y766 + Int32.ofInt 1 := ⟨_, rfl⟩
                                          have qt799 : t799.toInt = y766.toInt + 1 := by rw [et799]; exact km_inc b779 (by decide) (by decide)
                                          have b800 : kb 1 t799 399 := kb_inc (k := 1) qt799 b779
                                          refine lv_iinc (v := t799) (lv' := [(5, .int t799), (4, .int y649), (3, .int t17), (2, .int y2), (0, .ref o), (1, .int x)]) hx hb dX12_splits_241 hl (k := 0) rfl et799.symm (by decide) rfl (fun ls hl => ?_)
                                          refine lv_goto (tgt := 169) hx hb dX12_splits_244 (by decide) ?_
                                          exact ihlp768  a_798 _ _ _ t799 (km_up hmlp768 qt799) hI hE hk0 (kb_w b800 (by decide) (by decide)) hP hD hS (lv_sub hl [0, 1, 2, 3, 4, 5] rfl)
                                        · have h801 := (kc_nle c791)
                                          have b802 : kb 1000001 t790 2147483647 := kr_lt2 h801 kc_1000000 (kb_any t790) (by decide)
                                          refine lv_aload_n hx hb dX12_splits_205 rfl (lv_at hl 4 rfl) ?_
                                          refine va_get (D := D) (ci := 12) (v := .ref (r 16)) (C := RX12) (T := TX12) (N := 48) hx hb hg inC12 hown hK hP 0 rfl rfl 16 (by decide) (hg _ wt5_176) (fun _ h9 => h9) rfl dX12_splits_206 ?_
                                          refine lv_aload_n hx hb dX12_splits_209 rfl (lv_at hl 4 rfl) ?_
                                          refine va_get (D := D) (ci := 12) (v := .int (F3 18)) (C := RX12) (T := TX12) (N := 48) hx hb hg inC12 hown hK hP 0 rfl rfl 18 (by decide) (hg _ wt5_178) (fun _ h9 => h9) rfl dX12_splits_210 ?_
                                          refine k_top (z := tk) etk.symm ?_
                                          refine va_iald hx hb hK hP 10 0 rfl rfl (kb_in b8 (by decide) (by decide)) dX12_splits_213 ?_
                                          refine k_top (z := t790) et790.symm ?_
                                          refine lv_goto (tgt := 240) hx hb dX12_splits_214 (by decide) ?_
                                          refine va_iast hx hb hK hP hD hS 10 0 rfl rfl (kb_in b8 (by decide) (by decide)) dX12_splits_240 (fun H locs hP hD hS => ?_)
                                          have hP : va_P D vwCl (mW K o r F3 (va_up B767 16 (upd (B767 16) tk.toNatClampNeg t790)) g) H := hP
                                          have hD : va_D A (mW K o r F3 (va_up B767 16 (upd (B767 16) tk.toNatClampNeg t790)) g) := hD
                                          refine k_gen (P := fun z => va_P D vwCl (mW K o r F3 z g) H ∧ va_D A (mW K o r F3 z g) ∧ (mI F3 z) ∧ (mE (XR []) f a F3 z) ∧ (fE [18] f F3)) (va_up B767 16 (upd (B767 16) tk.toNatClampNeg t790)) ⟨hP, hD, (mI_s hI (aI_free hI.2.1 16 _ (fun j => ⟨by show (mBa 16 j).1 ≤ _; exact Int.le_refl _, by show _ ≤ (mBa 16 j).2; exact Int.le_refl _⟩)) (by decide) (by decide)), (mE_s hE (by decide) (by decide) (by decide) (by decide)), hk0⟩ (fun a_803 ea_803 hq => ?_)
                                          obtain ⟨hP, hD, hI, hE, hk0⟩ := hq
                                          obtain ⟨t804, et804⟩ : ∃ z : Int32, z = y766 + Int32.ofInt 1 := ⟨_, rfl⟩
                                          have qt804 : t804.toInt = y766.toInt + 1 := by rw [et804]; exact km_inc b779 (by decide) (by decide)
                                          have b805 : kb 1 t804 399 := kb_inc (k := 1) qt804 b779
                                          refine lv_iinc (v := t804) (lv' := [(5, .int t804), (4, .int y649), (3, .int t17), (2, .int y2), (0, .ref o), (1, .int x)]) hx hb dX12_splits_241 hl (k := 0) rfl et804.symm (by decide) rfl (fun ls hl => ?_)
                                          refine lv_goto (tgt := 169) hx hb dX12_splits_244 (by decide) ?_
                                          exact ihlp768  a_803 _ _ _ t804 (km_up hmlp768 qt804) hI hE hk0 (kb_w b805 (by decide) (by decide)) hP hD hS (lv_sub hl [0, 1, 2, 3, 4, 5] rfl)
                                exact lp768 (401)  a_765 _ _ _ y2 (by have h1 := (b15); unfold kb at h1; omega) hI hE hk0 (kb_w b15 (by decide) (by decide)) hP hD hS (lv_sub hl [0, 1, 2, 3, 4, 5] rfl)
                              refine lv_if_eq (tgt := 145) hx hb dX12_splits_132 (by decide) (fun c806 => ?_) (fun c806 => ?_)
                              · have b807 : kb 0 v746 0 := kb_eq c806 kc_0
                                refine lv_iload_n hx hb dX12_splits_145 rfl (lv_at hl 1 rfl) ?_
                                refine kN.callS (As := [.int t17]) (rest := [.int tk, .ref (r 15)]) ⟨hx, hb, hml, hown, hg⟩ (m_isDigit l t17 ) (va_cwS 1 hg (kgS wt6_184 wt6_185 wt1_14 wt6_186) rfl rfl rfl (by decide +kernel) ⟨by decide, by decide⟩) hP hS rfl hl.1 rfl (Nat.le_of_ble_eq_true rfl) dX12_splits_146 ⟨Nat.le_refl _, Nat.le_refl _⟩ (fun v809 H locs hw808 hP hS => ?_)
                                refine lv_if_eq (tgt := 157) hx hb dX12_splits_149 (by decide) (fun c811 => ?_) (fun c811 => ?_)
                                · have b812 : kb 0 v809 0 := kb_eq c811 kc_0
                                  refine lv_bipush (v := 100) hx hb dX12_splits_157 (by decide) ?_
                                  refine lv_iload_n hx hb dX12_splits_159 rfl (lv_at hl 1 rfl) ?_
                                  refine lv_sipush (v := 255) hx hb dX12_splits_160 (by decide) ?_
                                  refine lv_iand hx hb dX12_splits_163 ?_
                                  refine lv_topi (fun t813 et813 => ?_)
                                  have b814 : kb 0 t813 255 := kb_eq et813 (kb_and 8 (by decide) (by decide))
                                  refine lv_iadd hx hb dX12_splits_164 ?_
                                  refine lv_topi (fun t815 et815 => ?_)
                                  have b816 : kb 100 t815 355 := kb_eq et815 (kb_add kc_100 b814 (by decide) (by decide))
                                  have qt815 : t815.toInt = 100 + t813.toInt := by rw [et815]; exact kt_cadd kc_100 b814 (by decide) (by decide)
                                  exact jn764 _ _ _ t815  hP hD hS (lv_sub hl [0, 1, 2, 3, 4] rfl)
                                · have b817 : kb 1 v809 1 := kr_nel c811 hw808 kc_0 (by decide)
                                  refine lv_bipush (v := 50) hx hb dX12_splits_152 (by decide) ?_
                                  refine lv_goto (tgt := 165) hx hb dX12_splits_154 (by decide) ?_
                                  exact jn764 _ _ _ 50  hP hD hS (lv_sub hl [0, 1, 2, 3, 4] rfl)
                              · have b818 : kb 1 v746 1 := kr_nel c806 hw745 kc_0 (by decide)
                                refine lv_aload_n hx hb dX12_splits_135 rfl (lv_at hl 3 rfl) ?_
                                refine lv_iload_n hx hb dX12_splits_136 rfl (lv_at hl 2 rfl) ?_
                                refine lv_iload hx hb dX12_splits_137 (lv_at hl 0 rfl) ?_
                                refine kI.callV (As := [.int y2, .int y649]) (rest := [.int tk, .ref (r 15)]) ⟨hx, hb, hml, hown, hg⟩ (m_wordOf l o r F3 a_744 g hI y2 y649 (kb_w b15 (by decide) (by decide)) (kb_w b736 (by decide) (by decide)) ) (cwV 2 hg (kgV wt6_187 wt6_189 wp4_3 wt1_14 wt6_190) rfl rfl rfl (by decide +kernel) ⟨by decide, by decide⟩) hK hP hD hS hA mIs [] rfl (wr := []) rfl rfl rfl (fun i h => by cases h) 0 12 rfl rfl rfl hl.1 rfl (Nat.le_of_ble_eq_true rfl) dX12_splits_139 ⟨Nat.le_refl _, Nat.le_refl _⟩ (fun v820 u821 H locs hw819 hP hD hS => ?_)
                                have hP : va_P D vwCl (mW K o r F3 a_744 g) H := hP
                                have hD : va_D A (mW K o r F3 a_744 g) := hD
                                refine lv_goto (tgt := 165) hx hb dX12_splits_142 (by decide) ?_
                                exact jn764 _ _ _ v820  hP hD hS (lv_sub hl [0, 1, 2, 3, 4] rfl)
                            · have b822 : kb 1 v739 1 := kr_nel c741 hw738 kc_0 (by decide)
                              obtain ⟨t823, et823⟩ : ∃ z : Int32, z = y649 + Int32.ofInt 1 := ⟨_, rfl⟩
                              have qt823 : t823.toInt = y649.toInt + 1 := by rw [et823]; exact km_inc b736 (by decide) (by decide)
                              have b824 : kb 2 t823 400 := kb_inc (k := 1) qt823 b736
                              refine lv_iinc (v := t823) (lv' := [(4, .int t823), (3, .int t17), (2, .int y2), (0, .ref o), (1, .int x)]) hx hb dX12_splits_94 hl (k := 0) rfl et823.symm (by decide) rfl (fun ls hl => ?_)
                              refine lv_goto (tgt := 75) hx hb dX12_splits_97 (by decide) ?_
                              exact ihlp650  _ _ _ t823 (km_up hmlp650 qt823) (kb_w b824 (by decide) (by decide)) (by omega) hP hD hS (lv_sub hl [0, 1, 2, 3, 4] rfl)
                      exact lp650 (400)  _ _ _ y288 (by have h1 := (b556); unfold kb at h1; omega) (kb_w b556 (by decide) (by decide)) (by omega) hP hD hS (lv_sub hl [0, 1, 2, 3, 4] rfl)
                  · have b825 : kb 1 v560 1 := kr_nel c562 hw559 kc_0 (by decide)
                    obtain ⟨t826, et826⟩ : ∃ z : Int32, z = y288 + Int32.ofInt 1 := ⟨_, rfl⟩
                    have qt826 : t826.toInt = y288.toInt + 1 := by rw [et826]; exact km_inc b556 (by decide) (by decide)
                    have b827 : kb 2 t826 400 := kb_inc (k := 1) qt826 b556
                    refine lv_iinc (v := t826) (lv' := [(4, .int t826), (3, .int t17), (2, .int y2), (0, .ref o), (1, .int x)]) hx hb dX12_splits_62 hl (k := 0) rfl et826.symm (by decide) rfl (fun ls hl => ?_)
                    refine lv_goto (tgt := 43) hx hb dX12_splits_65 (by decide) ?_
                    exact ihlp289  _ _ _ t826 (km_up hmlp289 qt826) (kb_w b827 (by decide) (by decide)) (by omega) hP hD hS (lv_sub hl [0, 1, 2, 3, 4] rfl)
            exact lp289 (400)  _ _ _ t19 (by have h1 := (b20); unfold kb at h1; omega) b20 (by omega) hP hD hS (lv_sub hl [0, 1, 2, 3, 4] rfl)
        · have b828 : kb 32 t17 32 := kb_eq c18 kc_32
          obtain ⟨t829, et829⟩ : ∃ z : Int32, z = y2 + Int32.ofInt 1 := ⟨_, rfl⟩
          have qt829 : t829.toInt = y2.toInt + 1 := by rw [et829]; exact km_inc b15 (by decide) (by decide)
          have b830 : kb 1 t829 400 := kb_inc (k := 1) qt829 b15
          refine lv_iinc (v := t829) (lv' := [(2, .int t829), (3, .int t17), (0, .ref o), (1, .int x)]) hx hb dX12_splits_25 hl (k := 1) rfl et829.symm (by decide) rfl (fun ls hl => ?_)
          refine lv_goto (tgt := 7) hx hb dX12_splits_28 (by decide) ?_
          exact ihlp5  F3 B4 _ _ _ t829 (by omega) hI hE hk0 (kb_w b830 (by decide) (by decide)) (by rw [etk.symm]; omega) hP hD hS (lv_sub hl [0, 2, 3] rfl)
  exact lp5 (401)  f_1 a _ _ _ 0 (by decide +kernel) hI hE hk0 (kb_w kc_0 (by decide) (by decide)) (by rw [(show f_1 18 = 0 from by rw [← ef_1]; rfl)]; decide +kernel) hP hD hS (lv_sub hl [0, 1, 2] rfl)
