theorem kK_lo {k k' : Nat → Int32} (e : ∀ i, i < 107 → k' i = k i) (h : kK k) : kK k' := by
  refine ⟨fun i hi => by rw [e i hi]; exact h.1 i hi, fun b hb => by rw [e (16 + b) (by omega), e 102 (by decide)]; exact h.2.1 b hb, ?_⟩
  rw [e 106 (by decide), e 105 (by decide)]
  exact h.2.2
theorem tOk_0 {v v' t : Int32} (h : tOk 0 v t) : tOk 0 v' t := by
  have z : (0 : Int32).toInt = 0 := by decide +kernel
  rcases h with h | ⟨k, h1, _, h3, _⟩ | ⟨h, _⟩ | ⟨h, _⟩
  · exact Or.inl h
  · rw [z] at h3; omega
  · exact absurd h (by decide +kernel)
  · rw [z] at h; omega
/-- the text that is laid -/
theorem tQ_lay {k0 : Nat → Int32} {A : Nat → Nat → Int32} {t N : Nat} {tok : Int32} {T : Nat → Int32} (h : rQ A N T) (ht : t ≤ 6) (hN : N ≤ 400) (e : tok.toInt = (N : Int)) : tQ (mLay k0 (A 15) (A 16) t N tok) t T := by
  intro i
  rw [mLay_C ht hN e]
  unfold rC
  by_cases q : i < N
  · rw [if_pos q]
    have w : mV (mLay k0 (A 15) (A 16) t N tok) t i = A 16 i := by
      unfold mV mLay
      rw [if_neg (by omega), if_neg (by omega), if_pos (by omega)]
      congr 1; omega
    rw [w]
    exact h.1 i q
  · rw [if_neg q]
    exact Or.inl ⟨rfl, Or.inr (h.2 i (by omega))⟩
/-- the texts beside it -/
theorem tQ_lay2 {k0 cd vl : Nat → Int32} {t t' N : Nat} {tok : Int32} {T : Nat → Int32} (h : tQ k0 t' T) (ht : t ≤ 6) (ht' : t' ≤ 6) (hN : N ≤ 400) (ne : t' ≠ t) (hs : (k0 (107 + t')).toInt ≤ 400) : tQ (mLay k0 cd vl t N tok) t' T := by
  intro i
  rw [mLay_D ht ht' hN ne hs]
  have w := h i
  by_cases q : (i : Int) < (k0 (107 + t')).toInt
  · have e : mV (mLay k0 cd vl t N tok) t' i = mV k0 t' i := by
      unfold mV mLay
      rw [if_neg (by omega), if_neg (by omega), if_neg (by omega)]
    rw [e]
    exact w
  · have e : mC k0 t' i = 0 := by unfold mC; rw [if_neg q]
    rw [e] at w ⊢
    exact tOk_0 w
theorem lM_lay {k0 cd vl : Nat → Int32} {N : Nat} {tok : Int32} {DD : Nat → tE} (hk : kK k0) (h : lM k0 DD) (hN : N ≤ 400) (hs : ∀ t', t' < 7 → (k0 (107 + t')).toInt ≤ 400) : lM (mLay k0 cd vl 6 N tok) DD := by
  intro t ht
  rw [mLay_lo (by decide)] at ht
  have w := (kK_r hk 105 0 6 (by decide) (by decide)).2
  obtain ⟨T, h1, h2⟩ := h t ht
  have e0 : mLay k0 cd vl 6 N tok (107 + t) = k0 (107 + t) := by unfold mLay; rw [if_neg (by omega), if_neg (by omega), if_neg (by omega)]
  exact ⟨T, tQ_lay2 h1 (Nat.le_refl 6) (by omega) hN (by omega) (hs t (by omega)), by rw [e0]; exact h2⟩
/-- what a reading gives -/
def rdD (ob : Bool) (t : Nat → Int32) (S : Nat) (D : tE) : Prop := ∀ p, txR ob t S true p → ∃ N, plT t S N = S ∧ (∀ i, i < N → plT t S i < S) ∧ txE ob (tkT t S) N D
theorem rd_tx {ob : Bool} {t : Nat → Int32} {S N : Nat} {D : tE} {A : Nat → Nat → Int32} {p : Int32} (h : rdD ob t S D) (q : txR ob t S true p) (r : rqP A t S N) : txE ob (tkT t S) N D := by
  obtain ⟨M, h1, h2, h3⟩ := h p q
  have e : M = N := by
    rcases Nat.lt_trichotomy M N with c | c | c
    · have w := r.2.2 M c
      omega
    · exact c
    · have w := h2 N c
      have w2 := r.2.1
      omega
  rw [← e]
  exact h3
theorem mP_c {u : Int32} {R R' : Nat → Int32} {P : pS} (h : mPs u R P) (e : ∀ q, q < 384 → R' q = R q) : mPs u R' P := by
  obtain ⟨h1, h2, h3⟩ := h
  refine ⟨h1, h2, fun j hj => ?_⟩
  have w := h3 j hj
  exact ⟨by rw [e _ (by omega)]; exact w.1, fun i hi => by rw [e _ (by omega)]; exact w.2 i hi⟩
/-- where a clause ends -/
theorem cl_end {T : Nat → Int32} {N j : Nat} {c : Nat} {D : tE} (hT : ∀ i, N ≤ i → T i = 4000) (h : (c + 1 < D.1 ∧ T j = 3059 ∧ D.2.1 (c + 1) = j + 1) ∨ (c + 1 = D.1 ∧ j = N)) : j ≤ N := by
  rcases h with ⟨_, h, _⟩ | ⟨_, h⟩
  · by_cases q : N ≤ j
    · rw [hT j q] at h; exact absurd h (by decide +kernel)
    · omega
  · omega
/-- where the next clause begins, or the end -/
def clB (D : tE) (N c : Nat) (p : Int) : Prop := (c < D.1 ∧ p = 2400 + (D.2.1 c : Int)) ∨ (c = D.1 ∧ 2400 + (N : Int) ≤ p)
theorem clB_0 {D : tE} {N : Nat} {p : Int} {ob : Bool} {T : Nat → Int32} (h : txE ob T N D) (e : p = 2400) : clB D N 0 p := Or.inl ⟨h.1, by rw [h.2.2.1, e]; rfl⟩
theorem clB_s {T : Nat → Int32} {N j : Nat} {c : Nat} {D : tE} {p : Int} (h : (c + 1 < D.1 ∧ T j = 3059 ∧ D.2.1 (c + 1) = j + 1) ∨ (c + 1 = D.1 ∧ j = N)) (e : p = 400 * ((6 : Nat) : Int) + ((j + 1 : Nat) : Int)) : clB D N (c + 1) p := by
  rcases h with ⟨h1, _, h2⟩ | ⟨h1, h2⟩
  · exact Or.inl ⟨h1, by rw [h2, e]; omega⟩
  · exact Or.inr ⟨h1, by rw [e]; omega⟩
def ordM (DD : Nat → tE) (D : tE) (k : Nat → Int32) (P : pS) (a1 : Nat → Int32) (v : Int32) (f : Nat → Int32) (a : Nat → Nat → Int32) : Prop :=
  (∃ s : oSt, ordA DD D (k, P, 0, -1) D.1 = .inr s ∧ v = s.2.2.1 ∧ f 0 = 0 ∧ a 1 = a1 ∧ f 37 = -1 ∧ a 2 = s.1 ∧ mPs (f 33) (a 31) s.2.1 ∧ (s.1 22).toInt ≤ 999 ∧ oG k s 240)
  ∨ (∃ c : Nat, ordA DD D (k, P, 0, -1) D.1 = .inl c ∧ v = -3 ∧ f 0 = -3 ∧ a 1 = rfS (-3) a1 ∧ (f 37).toInt = (c : Int) ∧ a 2 = k ∧ mPs (f 33) (a 31) P)
theorem cp_s0 {R R' k : Nat → Int32} {nn ix : Nat} {v : Int32} (h : ∀ q, q < nn → R q = k q) (e : R' = upd R ix v) (hk : ix = nn) (hv : v = k nn) : ∀ q, q < nn + 1 → R' q = k q := by
  intro q hq
  rw [e]
  by_cases c : q = nn
  · rw [c, ← hk, pk_us, hk]; exact hv
  · rw [pk_un (by omega)]; exact h q (by omega)
theorem cl_iN {T : Nat → Int32} {N i j : Nat} {hd tm : Int32} {v1 v2 v3 : eV} (hT : ∀ i, N ≤ i → T i = 4000) (h : clE true T i j hd tm v1 v2 v3) : i < N := by
  by_cases q : N ≤ i
  · exfalso
    have e := hT i q
    have h := h.2
    rw [if_pos rfl] at h
    rcases h with ⟨h1, _⟩ | ⟨h1 | h1, _⟩ | ⟨h1, _⟩ <;> exact absurd (e.symm.trans h1) (by decide +kernel)
  · omega
theorem oG_0 {k : Nat → Int32} {P : pS} (hk : kK k) : oG k ((k, P, 0, -1) : oSt) (20 * ((0 : Nat) : Int)) := by
  refine ⟨hk, fun _ _ => rfl, ⟨?_, ?_⟩, ?_, ?_⟩
  · show 0 ≤ (0 : Int32).toInt; decide +kernel
  · show (0 : Int32).toInt ≤ 20 * ((0 : Nat) : Int); decide +kernel
  · show -1 ≤ (-1 : Int32).toInt; decide +kernel
  · show (-1 : Int32).toInt ≤ 99; decide +kernel
set_option maxHeartbeats 4000000 in
set_option maxRecDepth 100000 in
theorem n_orders  (l : Launch) {D : va_G} {K : Nat → ClassId} (o : Nat) (r : Nat → Nat) (f : Nat → Int32) (a : Nat → Nat → Int32) (g : Nat → Int64) (hI : mI f a)   (DD : Nat → tE) (P : pS) (Dt : tE) (hp0 : kK (a 2)) (hp1 : lM (a 2) DD) (hp2 : mPs (f 33) (a 31) P) (hp3 : (a 2 22).toInt ≤ 999) (hp4 : rdD true (a 11) (f 13).toInt.toNat Dt) : kI l yX12_orders (Cond.code yX12_orders cX12_orders 5 (some .int) :: kG) (rmD 54 0 0) D (tysK K) [.ref o] (mW K o r f a g) (fun v (u : mS) => kb (-2147483648) v 2147483647 ∧ mI u.1 u.2.1 ∧ mF (XR [(0, 23), (107, 6000)]) f a u.1 u.2.1 ∧ u.1 13 = 0 ∧ ordP (a 11) (f 13) (u.1 14) ∧ ((v = -6 ∧ (∃ p, txR true (a 11) (f 13).toInt.toNat false p) ∧ u.1 0 = -6 ∧ u.2.1 1 = rfS (-6) (a 1) ∧ u.1 37 = -1 ∧ u.2.1 2 = a 2 ∧ mPs (u.1 33) (u.2.1 31) P) ∨ ((∃ p, txR true (a 11) (f 13).toInt.toNat true p) ∧ ∃ k6 : Nat → Int32, (∀ i, i < 107 → k6 i = a 2 i) ∧ lM k6 DD ∧ ordM DD Dt k6 P (a 1) v u.1 u.2.1)) ∧ mZ [0, 8, 9, 10, 13, 14, 18, 19, 20, 21, 22, 23, 24, 25, 27, 28, 33, 37, 38, 39, 40, 41, 42] [1, 2, 5, 15, 16, 17, 26, 29, 30, 31, 32] f a u.1 u.2.1) (fun u => mW K o r u.1 u.2.1 u.2.2) 0 0 := by
  refine kI.of (cc := cX12_orders) (maxL := 5) (ret := (some .int)) (by decide) rfl (Nat.le_of_ble_eq_true rfl) ?_
  intro p e s m below meth c A hx hb hr hml hown hts hlocks hnm hK hP hD hS hA ls hl
  have hE : mF (XR [(0, 23), (107, 6000)]) f a f a := mF_rf
  have hZ : mZ [0, 8, 9, 10, 13, 14, 18, 19, 20, 21, 22, 23, 24, 25, 27, 28, 33, 37, 38, 39, 40, 41, 42] [1, 2, 5, 15, 16, 17, 26, 29, 30, 31, 32] f a f a := mZ_rf
  have hg : ∀ w ∈ kG, w.before _ s = true := fun w h => hts w (List.mem_cons_of_mem _ h)
  have hown : s.vm.findClass RX12 = some m.cls := hown
  have hl : lv_has ls 5 [(0, .ref o)] := hl
  have hI0 := hI
  obtain ⟨c13_f, ec13_f⟩ : ∃ z : Int32, z = f 13 := ⟨_, rfl⟩
  have b1 : kb 0 c13_f 400 := kb_eq ec13_f (fI_at hI.1 13 (by decide) (by decide))
  obtain ⟨c14_f, ec14_f⟩ : ∃ z : Int32, z = f 14 := ⟨_, rfl⟩
  refine lv_aload_n hx hb dX12_orders_0 rfl (lv_at hl 0 rfl) ?_
  refine lv_iconst (v := (-1)) hx hb dX12_orders_1 (by decide) ?_
  refine va_put (D := D) (ci := 12) (v := .int (-1)) (ty := .int) (C := RX12) (T := TX12) (N := 48) hx hb hg inC12 tyX12 tyX12_ok nmX12 hown hK hP hD hS 0 rfl rfl 37 (by decide) (hg _ wt5_197) (fun _ h9 => h9) rfl (by decide +kernel) rfl rfl (Nat.le_of_ble_eq_true rfl) dX12_orders_2 (fun H locs hP hD hS => ?_)
  have hP : va_P D vwCl (mW K o r (upd f 37 (-1)) a g) H := hP
  have hD : va_D A (mW K o r (upd f 37 (-1)) a g) := hD
  refine k_gen (P := fun z => va_P D vwCl (mW K o r z a g) H ∧ va_D A (mW K o r z a g) ∧ (mI z a) ∧ (mF (XR [(0, 23), (107, 6000)]) f a z a) ∧ (mZ [0, 8, 9, 10, 13, 14, 18, 19, 20, 21, 22, 23, 24, 25, 27, 28, 33, 37, 38, 39, 40, 41, 42] [1, 2, 5, 15, 16, 17, 26, 29, 30, 31, 32] f a z a)) (upd f 37 (-1)) ⟨hP, hD, (mI_f hI (fI_st hI.1 37 (kb_any _) (by decide) (by decide))), (mF_f hE), (mZ_f hZ rfl)⟩ (fun f_2 ef_2 hq => ?_)
  obtain ⟨hP, hD, hI, hE, hZ⟩ := hq
  refine lv_aload_n hx hb dX12_orders_5 rfl (lv_at hl 0 rfl) ?_
  refine lv_iconst (v := 1) hx hb dX12_orders_6 (by decide) ?_
  have hm37 : f_2 37 = -1 := (show f_2 37 = (-1) from by rw [← ef_2]; rfl)
  refine kI.callV (As := [.int 1]) (rest := []) ⟨hx, hb, hml, hown, hg⟩ (q_readsAs l o r f_2 a g hI 1 (kb_w kc_1 (by decide) (by decide)) ) (cwV 1 hg (kgV wt6_169 wt6_171 wp4_0 wt1_14 wt6_172) rfl rfl rfl (by decide +kernel) ⟨by decide, by decide⟩) hK hP hD hS hA mIs [] rfl (wr := []) rfl rfl rfl (fun i h => by cases h) 0 12 rfl rfl rfl hl.1 rfl (Nat.le_of_ble_eq_true rfl) dX12_orders_7 ⟨Nat.le_refl _, Nat.le_refl _⟩ (fun v4 u5 H locs hw3 hP hD hS => ?_)
  obtain ⟨f6, a7, g8⟩ := u5
  have hP : va_P D vwCl (mW K o r f6 a7 g8) H := hP
  have hD : va_D A (mW K o r f6 a7 g8) := hD
  have hI : mI f6 a7 := hw3.2.1
  have hE : mF (XR [(0, 23), (107, 6000)]) f a f6 a7 := mF_tr hE (mF_w (XR_w (by decide)) hw3.2.2.1)
  have eE9 : mF (XR []) f_2 a f6 a7 := hw3.2.2.1
  have eZ10 : mZ [8, 9, 10, 13, 14, 18, 19, 20, 21] [15, 16, 17] f_2 a f6 a7 := hw3.2.2.2.2.2.2.2.2.2
  have hZ : mZ [0, 8, 9, 10, 13, 14, 18, 19, 20, 21, 22, 23, 24, 25, 27, 28, 33, 37, 38, 39, 40, 41, 42] [1, 2, 5, 15, 16, 17, 26, 29, 30, 31, 32] f a f6 a7 := mZ_tr hZ (mZ_w (by decide) (by decide) eZ10)
  obtain ⟨N, hN1, hN2, hN3⟩ := hw3.2.2.2.2.1
  obtain ⟨b7, htx7, hv7⟩ := hw3.2.2.2.2.2.2.2.1 true (if_pos rfl).symm
  have hrq := hw3.2.2.2.2.2.2.2.2.1 N hN1
  rw [show f_2 13 = f 13 from (show f_2 13 = f 13 from by rw [← ef_2]; rfl)] at htx7 hrq
  have hrq : rqP a7 (a 11) (f 13).toInt.toNat N := hrq
  have htx7 : txR true (a 11) (f 13).toInt.toNat b7 (f6 14) := htx7
  refine lv_if_ne (tgt := 20) hx hb dX12_orders_10 (by decide) (fun c11 => ?_) (fun c11 => ?_)
  · have b12 : kb 1 v4 1 := kr_nel c11 hw3.1 kc_0 (by decide)
    have hb7 : b7 = true := bv_1 hv7 (kb_one b12)
    rw [hb7] at htx7
    have htx := rd_tx hp4 htx7 hrq
    refine lv_aload_n hx hb dX12_orders_20 rfl (lv_at hl 0 rfl) ?_
    refine lv_iconst (v := 1) hx hb dX12_orders_21 (by decide) ?_
    refine kV.callV (As := [.int 1]) (rest := []) ⟨hx, hb, hml, hown, hg⟩ (m_laysAside l o r f6 a7 g8 hI 1 (kb_w kc_1 (by decide) (by decide)) ) (cwV 1 hg (kgV wt7_207 wt7_209 wp7_5 wt1_14 wt7_210) rfl rfl rfl (by decide +kernel) ⟨by decide, by decide⟩) hK hP hD hS hA mIs [] rfl (wr := []) rfl rfl rfl (fun i h => by cases h) 0 12 rfl rfl rfl hl.1 rfl (Nat.le_of_ble_eq_true rfl) dX12_orders_22 ⟨Nat.le_refl _, Nat.le_refl _⟩ (fun u15 H locs hw13 hP hD hS => ?_)
    obtain ⟨f16, a17, g18⟩ := u15
    have hP : va_P D vwCl (mW K o r f16 a17 g18) H := hP
    have hD : va_D A (mW K o r f16 a17 g18) := hD
    have hI : mI f16 a17 := hw13.1
    have hE : mF (XR [(0, 23), (107, 6000)]) f a f16 a17 := mF_tr hE (mF_w (XR_w (by decide)) (mF_of hw13.2.1))
    have eE19 : mE (XR []) f6 a7 f16 a17 := hw13.2.1
    have eZ20 : mZ [] [5] f6 a7 f16 a17 := hw13.2.2.2.2.2
    have hZ : mZ [0, 8, 9, 10, 13, 14, 18, 19, 20, 21, 22, 23, 24, 25, 27, 28, 33, 37, 38, 39, 40, 41, 42] [1, 2, 5, 15, 16, 17, 26, 29, 30, 31, 32] f a f16 a17 := mZ_tr hZ (mZ_w (by decide) (by decide) eZ20)
    refine lv_iconst (v := 0) hx hb dX12_orders_25 (by decide) ?_
    refine lv_istore_n (lv' := [(1, .int 0), (0, .ref o)]) hx hb dX12_orders_26 rfl hl (by decide) rfl (fun ls hl => ?_)
    have lp23 : ∀ (n24 : Nat) (n1 : Nat) (B22 : Nat → Nat → Int32) (H : Heap) (locs : List Loc) (ls : Array Slot) (y21 : Int32), (384 < y21.toInt + (n24 : Int)) → (mI f16 B22) → (mF (XR [(0, 23), (107, 6000)]) f a f16 B22) → (mZ [0, 8, 9, 10, 13, 14, 18, 19, 20, 21, 22, 23, 24, 25, 27, 28, 33, 37, 38, 39, 40, 41, 42] [1, 2, 5, 15, 16, 17, 26, 29, 30, 31, 32] f a f16 B22) → (kb 0 y21 384) → (y21.toInt = (n1 : Int)) → (∀ q, q < n1 → B22 32 q = a 31 q) → (n1 ≤ 384) → (B22 31 = a17 31 ∧ B22 2 = a17 2 ∧ B22 5 = a17 5 ∧ B22 15 = a17 15 ∧ B22 16 = a17 16 ∧ B22 1 = a17 1) → va_P D vwCl (mW K o r f16 B22 g18) H → va_D A (mW K o r f16 B22 g18) → va_S A s.heap H locs → lv_has ls 5 [(1, .int y21), (0, .ref o)] → W p l e (rmD 54 0 0) s m ([.ref o] : List Value).toArray below meth c H locs 0 0 (kQi D (tysK K) (fun v (u : mS) => kb (-2147483648) v 2147483647 ∧ mI u.1 u.2.1 ∧ mF (XR [(0, 23), (107, 6000)]) f a u.1 u.2.1 ∧ u.1 13 = 0 ∧ ordP (a 11) (f 13) (u.1 14) ∧ ((v = -6 ∧ (∃ p, txR true (a 11) (f 13).toInt.toNat false p) ∧ u.1 0 = -6 ∧ u.2.1 1 = rfS (-6) (a 1) ∧ u.1 37 = -1 ∧ u.2.1 2 = a 2 ∧ mPs (u.1 33) (u.2.1 31) P) ∨ ((∃ p, txR true (a 11) (f 13).toInt.toNat true p) ∧ ∃ k6 : Nat → Int32, (∀ i, i < 107 → k6 i = a 2 i) ∧ lM k6 DD ∧ ordM DD Dt k6 P (a 1) v u.1 u.2.1)) ∧ mZ [0, 8, 9, 10, 13, 14, 18, 19, 20, 21, 22, 23, 24, 25, 27, 28, 33, 37, 38, 39, 40, 41, 42] [1, 2, 5, 15, 16, 17, 26, 29, 30, 31, 32] f a u.1 u.2.1) (fun u => mW K o r u.1 u.2.1 u.2.2) A below ([.ref o] : List Value).toArray s 0 0) (F0 m 27 ls []) := by
      intro n24
      induction n24 with
      | zero =>
        intro n1 B22  H locs ls y21 hmlp23 hI hE hZ b25 hvlp23_0 hvlp23_1 hvlp23_2 hvlp23_3 hP hD hS hl
        exact (by have h1 := b25.2; have h2 := hmlp23; omega : False).elim
      | succ n24 ihlp23 =>
        intro n1 B22  H locs ls y21 hmlp23 hI hE hZ b25 hvlp23_0 hvlp23_1 hvlp23_2 hvlp23_3 hP hD hS hl
        have hnn : y21 = nI n1 := nI_q hvlp23_0
        have hZB := hZ
        have hcp := hvlp23_1
        have hstA := hvlp23_3
        refine lv_iload_n hx hb dX12_orders_27 rfl (lv_at hl 0 rfl) ?_
        refine lv_sipush (v := 384) hx hb dX12_orders_28 (by decide) ?_
        refine lv_icmp_ge (tgt := 52) hx hb dX12_orders_31 (by decide) (fun c26 => ?_) (fun c26 => ?_)
        · have h27 := (kc_le c26)
          have b28 : kb 384 y21 384 := kr_le2 h27 kc_384 b25
          have hal : ∀ q, q < 384 → B22 32 q = a 31 q := by have w9 := hcp; rw [(by have w1 := hvlp23_0; have w2 := (b28).1; have w3 := hvlp23_3; omega : n1 = 384)] at w9; exact w9
          refine lv_aload_n hx hb dX12_orders_52 rfl (lv_at hl 1 rfl) ?_
          refine va_get (D := D) (ci := 12) (v := .int (f16 33)) (C := RX12) (T := TX12) (N := 48) hx hb hg inC12 hown hK hP 0 rfl rfl 33 (by decide) (hg _ wt5_193) (fun _ h9 => h9) rfl dX12_orders_53 ?_
          refine lv_topi (fun t29 et29 => ?_)
          have b30 : kb 0 t29 16 := kb_eq et29 (fI_at hI.1 33 (by decide) (by decide))
          refine lv_istore_n (lv' := [(1, .int t29), (0, .ref o)]) hx hb dX12_orders_56 rfl hl (by decide) rfl (fun ls hl => ?_)
          refine lv_aload_n hx hb dX12_orders_57 rfl (lv_at hl 1 rfl) ?_
          refine lv_bipush (v := 6) hx hb dX12_orders_58 (by decide) ?_
          refine kV.callV (As := [.int 6]) (rest := []) ⟨hx, hb, hml, hown, hg⟩ (m_lays l o r f16 B22 g18 hI 6 (kb_w kc_6 (by decide) (by decide)) N trivial (by rw [show f16 18 = f6 18 from (eZ20.1 18 rfl)]; exact hN1) hN2 (fun q => absurd q (by decide +kernel))) (cwV 1 hg (kgV wt7_15 wt7_17 wp5_3 wt1_14 wt7_18) rfl rfl rfl (by decide +kernel) ⟨by decide, by decide⟩) hK hP hD hS hA mIs [] rfl (wr := []) rfl rfl rfl (fun i h => by cases h) 0 12 rfl rfl rfl hl.1 rfl (Nat.le_of_ble_eq_true rfl) dX12_orders_60 ⟨Nat.le_refl _, Nat.le_refl _⟩ (fun u33 H locs hw31 hP hD hS => ?_)
          obtain ⟨f34, a35, g36⟩ := u33
          have hP : va_P D vwCl (mW K o r f34 a35 g36) H := hP
          have hD : va_D A (mW K o r f34 a35 g36) := hD
          have hI : mI f34 a35 := hw31.1
          have hE : mF (XR [(0, 23), (107, 6000)]) f a f34 a35 := mF_tr hE (mF_w (XR_w (by decide)) (mF_of hw31.2.1))
          have eE37 : mE (XR [(107, 6000)]) f16 B22 f34 a35 := hw31.2.1
          have eZ38 : mZ [] [2] f16 B22 f34 a35 := hw31.2.2.2.2
          have hZ : mZ [0, 8, 9, 10, 13, 14, 18, 19, 20, 21, 22, 23, 24, 25, 27, 28, 33, 37, 38, 39, 40, 41, 42] [1, 2, 5, 15, 16, 17, 26, 29, 30, 31, 32] f a f34 a35 := mZ_tr hZ (mZ_w (by decide) (by decide) eZ38)
          obtain ⟨t6, ht6, ht66, hlay⟩ := hw31.2.2.1
          have ht6e : t6 = 6 := by have w1 : (6 : Int32).toInt = 6 := (by decide +kernel); omega
          rw [ht6e] at hlay
          obtain ⟨k6, ek6⟩ : ∃ k6 : Nat → Int32, k6 = a35 2 := ⟨_, rfl⟩
          have hk6 : k6 = mLay (a 2) (a7 15) (a7 16) 6 N (f16 18) := by rw [ek6, show a35 2 = mLay (B22 2) (B22 15) (B22 16) 6 N (f16 18) from hlay, show B22 2 = a 2 from (hstA.2.1.trans ((eZ20.2 2 rfl).trans (eZ10.2 2 rfl))), show B22 15 = a7 15 from (hstA.2.2.2.1.trans (eZ20.2 15 rfl)), show B22 16 = a7 16 from (hstA.2.2.2.2.1.trans (eZ20.2 16 rfl))]
          have hn18 : (f16 18).toInt = (N : Int) := by rw [show f16 18 = f6 18 from (eZ20.1 18 rfl)]; exact hN1
          have hsz0 : ∀ t9, t9 < 7 → (a 2 (107 + t9)).toInt ≤ 400 := szB hI0.2.1
          have hlo : ∀ i, i < 107 → k6 i = a 2 i := fun i hi => by rw [hk6]; exact mLay_lo hi
          have hkk : kK k6 := kK_lo hlo hp0
          have hlM : lM k6 DD := by rw [hk6]; exact lM_lay hp0 hp1 hN2 hsz0
          have hT6 : tQ k6 6 (tkT (a 11) (f 13).toInt.toNat) := by rw [hk6]; exact tQ_lay hrq.1 (Nat.le_refl 6) hN2 hn18
          have hsz : (k6 (107 + 6)).toInt = (N : Int) := by rw [hk6]; exact mLay_6 (Nat.le_refl 6) hn18
          have hT4 := hrq.1.2
          have hr2 : a35 2 = k6 := ek6.symm
          refine lv_aload_n hx hb dX12_orders_63 rfl (lv_at hl 1 rfl) ?_
          refine lv_iconst (v := 0) hx hb dX12_orders_64 (by decide) ?_
          refine va_put (D := D) (ci := 12) (v := .int 0) (ty := .int) (C := RX12) (T := TX12) (N := 48) hx hb hg inC12 tyX12 tyX12_ok nmX12 hown hK hP hD hS 0 rfl rfl 27 (by decide) (hg _ wt5_187) (fun _ h9 => h9) rfl (by decide +kernel) rfl rfl (Nat.le_of_ble_eq_true rfl) dX12_orders_65 (fun H locs hP hD hS => ?_)
          have hP : va_P D vwCl (mW K o r (upd f34 27 0) a35 g36) H := hP
          have hD : va_D A (mW K o r (upd f34 27 0) a35 g36) := hD
          refine k_gen (P := fun z => va_P D vwCl (mW K o r z a35 g36) H ∧ va_D A (mW K o r z a35 g36) ∧ (mI z a35) ∧ (mF (XR [(0, 23), (107, 6000)]) f a z a35) ∧ (mZ [0, 8, 9, 10, 13, 14, 18, 19, 20, 21, 22, 23, 24, 25, 27, 28, 33, 37, 38, 39, 40, 41, 42] [1, 2, 5, 15, 16, 17, 26, 29, 30, 31, 32] f a z a35)) (upd f34 27 0) ⟨hP, hD, (mI_f hI (fI_st hI.1 27 (kb_any _) (by decide) (by decide))), (mF_f hE), (mZ_f hZ rfl)⟩ (fun f_39 ef_39 hq => ?_)
          obtain ⟨hP, hD, hI, hE, hZ⟩ := hq
          refine lv_aload_n hx hb dX12_orders_68 rfl (lv_at hl 1 rfl) ?_
          refine lv_iconst (v := (-1)) hx hb dX12_orders_69 (by decide) ?_
          refine va_put (D := D) (ci := 12) (v := .int (-1)) (ty := .int) (C := RX12) (T := TX12) (N := 48) hx hb hg inC12 tyX12 tyX12_ok nmX12 hown hK hP hD hS 0 rfl rfl 28 (by decide) (hg _ wt5_188) (fun _ h9 => h9) rfl (by decide +kernel) rfl rfl (Nat.le_of_ble_eq_true rfl) dX12_orders_70 (fun H locs hP hD hS => ?_)
          have hP : va_P D vwCl (mW K o r (upd f_39 28 (-1)) a35 g36) H := hP
          have hD : va_D A (mW K o r (upd f_39 28 (-1)) a35 g36) := hD
          refine k_gen (P := fun z => va_P D vwCl (mW K o r z a35 g36) H ∧ va_D A (mW K o r z a35 g36) ∧ (mI z a35) ∧ (mF (XR [(0, 23), (107, 6000)]) f a z a35) ∧ (mZ [0, 8, 9, 10, 13, 14, 18, 19, 20, 21, 22, 23, 24, 25, 27, 28, 33, 37, 38, 39, 40, 41, 42] [1, 2, 5, 15, 16, 17, 26, 29, 30, 31, 32] f a z a35)) (upd f_39 28 (-1)) ⟨hP, hD, (mI_f hI (fI_st hI.1 28 (kb_any _) (by decide) (by decide))), (mF_f hE), (mZ_f hZ rfl)⟩ (fun f_40 ef_40 hq => ?_)
          obtain ⟨hP, hD, hI, hE, hZ⟩ := hq
          refine lv_aload_n hx hb dX12_orders_73 rfl (lv_at hl 1 rfl) ?_
          refine lv_sipush (v := 2400) hx hb dX12_orders_74 (by decide) ?_
          refine va_put (D := D) (ci := 12) (v := .int 2400) (ty := .int) (C := RX12) (T := TX12) (N := 48) hx hb hg inC12 tyX12 tyX12_ok nmX12 hown hK hP hD hS 0 rfl rfl 38 (by decide) (hg _ wt5_198) (fun _ h9 => h9) rfl (by decide +kernel) rfl rfl (Nat.le_of_ble_eq_true rfl) dX12_orders_77 (fun H locs hP hD hS => ?_)
          have hP : va_P D vwCl (mW K o r (upd f_40 38 2400) a35 g36) H := hP
          have hD : va_D A (mW K o r (upd f_40 38 2400) a35 g36) := hD
          refine k_gen (P := fun z => va_P D vwCl (mW K o r z a35 g36) H ∧ va_D A (mW K o r z a35 g36) ∧ (mI z a35) ∧ (mF (XR [(0, 23), (107, 6000)]) f a z a35) ∧ (mZ [0, 8, 9, 10, 13, 14, 18, 19, 20, 21, 22, 23, 24, 25, 27, 28, 33, 37, 38, 39, 40, 41, 42] [1, 2, 5, 15, 16, 17, 26, 29, 30, 31, 32] f a z a35)) (upd f_40 38 2400) ⟨hP, hD, (mI_f hI (fI_st hI.1 38 (kb_any _) (by decide) (by decide))), (mF_f hE), (mZ_f hZ rfl)⟩ (fun f_41 ef_41 hq => ?_)
          obtain ⟨hP, hD, hI, hE, hZ⟩ := hq
          refine lv_aload_n hx hb dX12_orders_80 rfl (lv_at hl 1 rfl) ?_
          refine va_get (D := D) (ci := 12) (v := .int (f_41 38)) (C := RX12) (T := TX12) (N := 48) hx hb hg inC12 hown hK hP 0 rfl rfl 38 (by decide) (hg _ wt5_198) (fun _ h9 => h9) rfl dX12_orders_81 ?_
          refine k_top (z := 2400) (show f_41 38 = 2400 from by rw [← ef_41]; rfl) ?_
          refine lv_aload_n hx hb dX12_orders_84 rfl (lv_at hl 1 rfl) ?_
          refine va_get (D := D) (ci := 12) (v := .ref (r 2)) (C := RX12) (T := TX12) (N := 48) hx hb hg inC12 hown hK hP 0 rfl rfl 2 (by decide) (hg _ wt5_162) (fun _ h9 => h9) rfl dX12_orders_85 ?_
          refine lv_bipush (v := 113) hx hb dX12_orders_88 (by decide) ?_
          refine va_iald hx hb hK hP 2 0 rfl rfl (kb_in kc_113 (by decide) (by decide)) dX12_orders_90 ?_
          refine lv_topi (fun t42 et42 => ?_)
          rw [cl_113] at et42
          have b43 : kb 0 t42 400 := kb_eq et42 (aI_at hI.2.1 2 113 (by decide) (by decide))
          refine lv_iadd hx hb dX12_orders_91 ?_
          refine lv_topi (fun t44 et44 => ?_)
          have b45 : kb 2400 t44 2800 := kb_eq et44 (kb_add kc_2400 b43 (by decide) (by decide))
          have qt44 : t44.toInt = 2400 + t42.toInt := by rw [et44]; exact kt_cadd kc_2400 b43 (by decide) (by decide)
          refine lv_istore_n (lv' := [(2, .int t44), (1, .int t29), (0, .ref o)]) hx hb dX12_orders_92 rfl hl (by decide) rfl (fun ls hl => ?_)
          refine lv_iconst (v := 0) hx hb dX12_orders_93 (by decide) ?_
          refine lv_istore_n (lv' := [(3, .int 0), (2, .int t44), (1, .int t29), (0, .ref o)]) hx hb dX12_orders_94 rfl hl (by decide) rfl (fun ls hl => ?_)
          have hen : t44.toInt = 2400 + (N : Int) := by have w1 := hsz; rw [← hr2, (show a35 2 (107 + 6) = _ from et42.symm)] at w1; have w2 := qt44; omega
          have lp50 : ∀ (n51 : Nat) (cc : Nat) (s_ : oSt) (F47 : Nat → Int32) (B48 : Nat → Nat → Int32) (G49 : Nat → Int64) (H : Heap) (locs : List Loc) (ls : Array Slot) (y46 : Int32), ((Dt.1 : Int) < (cc : Int) + (n51 : Int)) → (mI F47 B48) → (mF (XR [(0, 23), (107, 6000)]) f a F47 B48) → (mZ [0, 8, 9, 10, 13, 14, 18, 19, 20, 21, 22, 23, 24, 25, 27, 28, 33, 37, 38, 39, 40, 41, 42] [1, 2, 5, 15, 16, 17, 26, 29, 30, 31, 32] f a F47 B48) → (kb 0 y46 12) → (y46.toInt = (cc : Int)) → (clB Dt N cc (F47 38).toInt) → (cc ≤ Dt.1 ∧ ordA DD Dt ((k6, P, 0, -1) : oSt) cc = .inr s_) → (oG k6 s_ (20 * (cc : Int))) → ((s_.1 22).toInt ≤ 999) → (B48 2 = s_.1 ∧ mPs (F47 33) (B48 31) s_.2.1) → (F47 27 = s_.2.2.1 ∧ F47 28 = s_.2.2.2) → (F47 13 = f_41 13 ∧ F47 14 = f_41 14 ∧ F47 37 = f_41 37 ∧ B48 1 = a35 1 ∧ B48 5 = a35 5 ∧ B48 32 = a35 32) → va_P D vwCl (mW K o r F47 B48 G49) H → va_D A (mW K o r F47 B48 G49) → va_S A s.heap H locs → lv_has ls 5 [(3, .int y46), (2, .int t44), (1, .int t29), (0, .ref o)] → W p l e (rmD 54 0 0) s m ([.ref o] : List Value).toArray below meth c H locs 0 0 (kQi D (tysK K) (fun v (u : mS) => kb (-2147483648) v 2147483647 ∧ mI u.1 u.2.1 ∧ mF (XR [(0, 23), (107, 6000)]) f a u.1 u.2.1 ∧ u.1 13 = 0 ∧ ordP (a 11) (f 13) (u.1 14) ∧ ((v = -6 ∧ (∃ p, txR true (a 11) (f 13).toInt.toNat false p) ∧ u.1 0 = -6 ∧ u.2.1 1 = rfS (-6) (a 1) ∧ u.1 37 = -1 ∧ u.2.1 2 = a 2 ∧ mPs (u.1 33) (u.2.1 31) P) ∨ ((∃ p, txR true (a 11) (f 13).toInt.toNat true p) ∧ ∃ k6 : Nat → Int32, (∀ i, i < 107 → k6 i = a 2 i) ∧ lM k6 DD ∧ ordM DD Dt k6 P (a 1) v u.1 u.2.1)) ∧ mZ [0, 8, 9, 10, 13, 14, 18, 19, 20, 21, 22, 23, 24, 25, 27, 28, 33, 37, 38, 39, 40, 41, 42] [1, 2, 5, 15, 16, 17, 26, 29, 30, 31, 32] f a u.1 u.2.1) (fun u => mW K o r u.1 u.2.1 u.2.2) A below ([.ref o] : List Value).toArray s 0 0) (F0 m 95 ls []) := by
            intro n51
            induction n51 with
            | zero =>
              intro cc s_ F47 B48 G49  H locs ls y46 hmlp50 hI hE hZ b52 hvlp50_0 hvlp50_1 hvlp50_2 hvlp50_3 hvlp50_4 hvlp50_5 hvlp50_6 hvlp50_7 hP hD hS hl
              exact (by have w1 := hmlp50; have w2 := (hvlp50_2).1; omega : False).elim
            | succ n51 ihlp50 =>
              intro cc s_ F47 B48 G49  H locs ls y46 hmlp50 hI hE hZ b52 hvlp50_0 hvlp50_1 hvlp50_2 hvlp50_3 hvlp50_4 hvlp50_5 hvlp50_6 hvlp50_7 hP hD hS hl
              have hod := hvlp50_2
              have hog := hvlp50_3
              have h22 := hvlp50_4
              have hst := hvlp50_5
              have hfd := hvlp50_6
              have hstB := hvlp50_7
              obtain ⟨c38, ec38⟩ : ∃ z : Int32, z = F47 38 := ⟨_, rfl⟩
              have hZB := hZ
              rcases hvlp50_1 with ⟨hc1, hc2⟩ | ⟨hc1, hc2⟩
              · have hg38 : (F47 38).toInt = 2400 + (Dt.2.1 cc : Int) := hc2
                have hcl := htx.2.2.2 cc hc1
                obtain ⟨jj, hcl, hnx⟩ := hcl
                have hjN := cl_end hT4 hnx
                have hD12 := htx.2.1
                have hiN : Dt.2.1 cc < N := cl_iN hT4 hcl
                have b53 : kb 0 y46 11 := ⟨by have w1 := hvlp50_0; omega, by have w1 := hvlp50_0; omega⟩
                refine lv_aload_n hx hb dX12_orders_95 rfl (lv_at hl 3 rfl) ?_
                refine va_get (D := D) (ci := 12) (v := .int (F47 38)) (C := RX12) (T := TX12) (N := 48) hx hb hg inC12 hown hK hP 0 rfl rfl 38 (by decide) (hg _ wt5_198) (fun _ h9 => h9) rfl dX12_orders_96 ?_
                refine k_top (z := c38) ec38.symm ?_
                refine lv_iload_n hx hb dX12_orders_99 rfl (lv_at hl 1 rfl) ?_
                refine lv_icmp_ge (tgt := 173) hx hb dX12_orders_100 (by decide) (fun c54 => ?_) (fun c54 => ?_)
                · exact absurd (kc_le c54) (by rw [ec38]; have w1 := hg38; have w2 := hen; have w3 := hiN; omega)
                · have h55 := (kc_nle c54)
                  have b56 : kb (-2147483648) c38 2799 := kr_lt1 h55 (kb_any c38) b45 (by decide)
                  refine lv_aload_n hx hb dX12_orders_103 rfl (lv_at hl 3 rfl) ?_
                  refine lv_iload_n hx hb dX12_orders_104 rfl (lv_at hl 1 rfl) ?_
                  have hi9 : ∀ i9, 23 ≤ i9 → B48 2 i9 = k6 i9 := fun i9 h9 => by rw [show B48 2 = s_.1 from (rfl).trans hst.1]; exact hog.2.1 i9 h9
                  refine kI.callV (As := [.int t44]) (rest := []) ⟨hx, hb, hml, hown, hg⟩ (n_runs l o r F47 B48 G49 hI t44  DD s_.2.1 Dt cc 6 (Dt.2.1 cc) jj (tkT (a 11) (f 13).toInt.toNat) (20 * (cc : Int)) ⟨by decide, by rw [show B48 2 = s_.1 from (rfl).trans hst.1, hog.2.1 (107 + 6) (by decide), hsz]; have w1 := hen; omega, by rw [show B48 2 = s_.1 from (rfl).trans hst.1, hog.2.1 (107 + 6) (by decide), hsz]; omega, by rw [show B48 2 = s_.1 from (rfl).trans hst.1, hog.2.1 (107 + 6) (by decide), hsz]; omega, by omega⟩ (by rw [show F47 38 = F47 38 from rfl]; have w1 := hg38; omega) (tQ_k (fun i9 h9 => hi9 i9 (by omega)) hT6) hcl (by rw [show B48 2 = s_.1 from (rfl).trans hst.1]; exact hog.1) (lM_k hi9 hlM) (by rw [show F47 33 = F47 33 from rfl, show B48 31 = B48 31 from rfl]; exact hst.2) (by rw [show B48 2 = s_.1 from (rfl).trans hst.1]; exact h22) ⟨by rw [show F47 27 = F47 27 from rfl, hfd.1]; exact hog.2.2.1, by omega⟩ (by rw [show F47 28 = F47 28 from rfl, hfd.2]; exact hog.2.2.2)) (cwV 1 hg (kgV wt8_51 wt8_53 wp8_0 wt1_14 wt8_54) rfl rfl rfl (by decide +kernel) ⟨by decide, by decide⟩) hK hP hD hS hA mIs [] rfl (wr := []) rfl rfl rfl (fun i h => by cases h) 0 12 rfl rfl rfl hl.1 rfl (Nat.le_of_ble_eq_true rfl) dX12_orders_105 ⟨Nat.le_refl _, Nat.le_refl _⟩ (fun v58 u59 H locs hw57 hP hD hS => ?_)
                  obtain ⟨f60, a61, g62⟩ := u59
                  have hP : va_P D vwCl (mW K o r f60 a61 g62) H := hP
                  have hD : va_D A (mW K o r f60 a61 g62) := hD
                  have hI : mI f60 a61 := hw57.2.1
                  have hE : mF (XR [(0, 23), (107, 6000)]) f a f60 a61 := mF_tr hE (mF_w (XR_w (by decide)) hw57.2.2.1)
                  have eE63 : mF (XR [(0, 23)]) F47 B48 f60 a61 := hw57.2.2.1
                  have eZ64 : mZ [22, 23, 24, 25, 27, 28, 33, 38, 39, 40, 41, 42] [2, 26, 29, 30, 31] F47 B48 f60 a61 := hw57.2.2.2.2
                  have hZ : mZ [0, 8, 9, 10, 13, 14, 18, 19, 20, 21, 22, 23, 24, 25, 27, 28, 33, 37, 38, 39, 40, 41, 42] [1, 2, 5, 15, 16, 17, 26, 29, 30, 31, 32] f a f60 a61 := mZ_tr hZ (mZ_w (by decide) (by decide) eZ64)
                  rcases hw57.2.2.2.1 with ⟨hv1, s9, ho, q2, qP, q27, q28, q22, qG, q38⟩ | ⟨hv1, ho⟩
                  · refine k_top (z := 1) hv1 ?_
                    rw [show B48 2 = s_.1 from (rfl).trans hst.1, show F47 27 = s_.2.2.1 from (rfl).trans hfd.1, show F47 28 = s_.2.2.2 from (rfl).trans hfd.2] at ho
                    have q2 : a61 2 = s9.1 := q2
                    have qP : mPs (f60 33) (a61 31) s9.2.1 := qP
                    have q27 : f60 27 = s9.2.2.1 := q27
                    have q28 : f60 28 = s9.2.2.2 := q28
                    have q38 : (f60 38).toInt = 400 * ((6 : Nat) : Int) + ((jj + 1 : Nat) : Int) := q38
                    rw [show B48 2 = s_.1 from (rfl).trans hst.1] at qG
                    refine lv_if_eq (tgt := 114) hx hb dX12_orders_108 (by decide) (fun c65 => ?_) (fun c65 => ?_)
                    · exact kb_dj c65 kc_1 kc_0 (by decide)
                    · refine lv_goto (tgt := 167) hx hb dX12_orders_111 (by decide) ?_
                      obtain ⟨t66, et66⟩ : ∃ z : Int32, z = y46 + Int32.ofInt 1 := ⟨_, rfl⟩
                      have qt66 : t66.toInt = y46.toInt + 1 := by rw [et66]; exact km_inc b53 (by decide) (by decide)
                      have b67 : kb 1 t66 12 := kb_inc (k := 1) qt66 b53
                      refine lv_iinc (v := t66) (lv' := [(3, .int t66), (2, .int t44), (1, .int t29), (0, .ref o)]) hx hb dX12_orders_167 hl (k := 0) rfl et66.symm (by decide) rfl (fun ls hl => ?_)
                      refine lv_goto (tgt := 95) hx hb dX12_orders_170 (by decide) ?_
                      exact ihlp50 (cc + 1) s9 f60 a61 g62 _ _ _ t66 (by omega) hI hE hZ (kb_w b67 (by decide) (by decide)) (by have w1 := hvlp50_0; have w2 := qt66; omega) ((clB_s hnx q38)) (⟨hc1, oA_g hod.2 ho⟩) (⟨qG.1, fun i hi => (qG.2.1 i hi).trans (hog.2.1 i hi), kb_w qG.2.2.1 (by decide) (by omega), qG.2.2.2⟩) (q22) (⟨q2, qP⟩) (⟨q27, q28⟩) (⟨(((eZ64.1 13 rfl)).trans hstB.1), (((eZ64.1 14 rfl)).trans hstB.2.1), (((eZ64.1 37 rfl)).trans hstB.2.2.1), (((eZ64.2 1 rfl)).trans hstB.2.2.2.1), (((eZ64.2 5 rfl)).trans hstB.2.2.2.2.1), (((eZ64.2 32 rfl)).trans hstB.2.2.2.2.2)⟩) hP hD hS (lv_sub hl [0, 1, 2, 3] rfl)
                  · refine k_top (z := 0) hv1 ?_
                    rw [show B48 2 = s_.1 from (rfl).trans hst.1, show F47 27 = s_.2.2.1 from (rfl).trans hfd.1, show F47 28 = s_.2.2.2 from (rfl).trans hfd.2] at ho
                    refine lv_if_eq (tgt := 114) hx hb dX12_orders_108 (by decide) (fun c68 => ?_) (fun c68 => ?_)
                    · refine lv_aload_n hx hb dX12_orders_114 rfl (lv_at hl 3 rfl) ?_
                      refine lv_iconst (v := 1) hx hb dX12_orders_115 (by decide) ?_
                      refine kV.callV (As := [.int 1]) (rest := []) ⟨hx, hb, hml, hown, hg⟩ (m_takesBack l o r f60 a61 g62 hI 1 (kb_w kc_1 (by decide) (by decide)) ) (cwV 1 hg (kgV wt7_223 wt7_225 wp7_9 wt1_14 wt7_226) rfl rfl rfl (by decide +kernel) ⟨by decide, by decide⟩) hK hP hD hS hA mIs [] rfl (wr := []) rfl rfl rfl (fun i h => by cases h) 0 12 rfl rfl rfl hl.1 rfl (Nat.le_of_ble_eq_true rfl) dX12_orders_116 ⟨Nat.le_refl _, Nat.le_refl _⟩ (fun u71 H locs hw69 hP hD hS => ?_)
                      obtain ⟨f72, a73, g74⟩ := u71
                      have hP : va_P D vwCl (mW K o r f72 a73 g74) H := hP
                      have hD : va_D A (mW K o r f72 a73 g74) := hD
                      have hI : mI f72 a73 := hw69.1
                      have hE : mF (XR [(0, 23), (107, 6000)]) f a f72 a73 := mF_tr hE (mF_w (XR_w (by decide)) (mF_of hw69.2.1))
                      have eE75 : mE (XR [(0, 23)]) f60 a61 f72 a73 := hw69.2.1
                      have eZ76 : mZ [] [2] f60 a61 f72 a73 := hw69.2.2.2
                      have hZ : mZ [0, 8, 9, 10, 13, 14, 18, 19, 20, 21, 22, 23, 24, 25, 27, 28, 33, 37, 38, 39, 40, 41, 42] [1, 2, 5, 15, 16, 17, 26, 29, 30, 31, 32] f a f72 a73 := mZ_tr hZ (mZ_w (by decide) (by decide) eZ76)
                      refine lv_iconst (v := 0) hx hb dX12_orders_119 (by decide) ?_
                      refine lv_istore (lv' := [(4, .int 0), (3, .int y46), (2, .int t44), (1, .int t29), (0, .ref o)]) hx hb dX12_orders_120 hl (by decide) rfl (fun ls hl => ?_)
                      have lp79 : ∀ (n80 : Nat) (n4 : Nat) (B78 : Nat → Nat → Int32) (H : Heap) (locs : List Loc) (ls : Array Slot) (y77 : Int32), (384 < y77.toInt + (n80 : Int)) → (mI f72 B78) → (mF (XR [(0, 23), (107, 6000)]) f a f72 B78) → (mZ [0, 8, 9, 10, 13, 14, 18, 19, 20, 21, 22, 23, 24, 25, 27, 28, 33, 37, 38, 39, 40, 41, 42] [1, 2, 5, 15, 16, 17, 26, 29, 30, 31, 32] f a f72 B78) → (kb 0 y77 384) → (y77.toInt = (n4 : Int)) → (∀ q, q < n4 → B78 31 q = a73 32 q) → (n4 ≤ 384) → (f72 13 = f72 13 ∧ f72 14 = f72 14 ∧ f72 37 = f72 37 ∧ f72 27 = f72 27 ∧ B78 1 = a73 1 ∧ B78 2 = a73 2 ∧ B78 32 = a73 32) → va_P D vwCl (mW K o r f72 B78 g74) H → va_D A (mW K o r f72 B78 g74) → va_S A s.heap H locs → lv_has ls 5 [(4, .int y77), (3, .int y46), (2, .int t44), (1, .int t29), (0, .ref o)] → W p l e (rmD 54 0 0) s m ([.ref o] : List Value).toArray below meth c H locs 0 0 (kQi D (tysK K) (fun v (u : mS) => kb (-2147483648) v 2147483647 ∧ mI u.1 u.2.1 ∧ mF (XR [(0, 23), (107, 6000)]) f a u.1 u.2.1 ∧ u.1 13 = 0 ∧ ordP (a 11) (f 13) (u.1 14) ∧ ((v = -6 ∧ (∃ p, txR true (a 11) (f 13).toInt.toNat false p) ∧ u.1 0 = -6 ∧ u.2.1 1 = rfS (-6) (a 1) ∧ u.1 37 = -1 ∧ u.2.1 2 = a 2 ∧ mPs (u.1 33) (u.2.1 31) P) ∨ ((∃ p, txR true (a 11) (f 13).toInt.toNat true p) ∧ ∃ k6 : Nat → Int32, (∀ i, i < 107 → k6 i = a 2 i) ∧ lM k6 DD ∧ ordM DD Dt k6 P (a 1) v u.1 u.2.1)) ∧ mZ [0, 8, 9, 10, 13, 14, 18, 19, 20, 21, 22, 23, 24, 25, 27, 28, 33, 37, 38, 39, 40, 41, 42] [1, 2, 5, 15, 16, 17, 26, 29, 30, 31, 32] f a u.1 u.2.1) (fun u => mW K o r u.1 u.2.1 u.2.2) A below ([.ref o] : List Value).toArray s 0 0) (F0 m 122 ls []) := by
                        intro n80
                        induction n80 with
                        | zero =>
                          intro n4 B78  H locs ls y77 hmlp79 hI hE hZ b81 hvlp79_0 hvlp79_1 hvlp79_2 hvlp79_3 hP hD hS hl
                          exact (by have h1 := b81.2; have h2 := hmlp79; omega : False).elim
                        | succ n80 ihlp79 =>
                          intro n4 B78  H locs ls y77 hmlp79 hI hE hZ b81 hvlp79_0 hvlp79_1 hvlp79_2 hvlp79_3 hP hD hS hl
                          have hnn : y77 = nI n4 := nI_q hvlp79_0
                          have hZB := hZ
                          have hcq := hvlp79_1
                          have hstC := hvlp79_3
                          refine lv_iload hx hb dX12_orders_122 (lv_at hl 0 rfl) ?_
                          refine lv_sipush (v := 384) hx hb dX12_orders_124 (by decide) ?_
                          refine lv_icmp_ge (tgt := 150) hx hb dX12_orders_127 (by decide) (fun c82 => ?_) (fun c82 => ?_)
                          · have h83 := (kc_le c82)
                            have b84 : kb 384 y77 384 := kr_le2 h83 kc_384 b81
                            refine lv_aload_n hx hb dX12_orders_150 rfl (lv_at hl 4 rfl) ?_
                            refine lv_iload_n hx hb dX12_orders_151 rfl (lv_at hl 3 rfl) ?_
                            refine va_put (D := D) (ci := 12) (v := .int t29) (ty := .int) (C := RX12) (T := TX12) (N := 48) hx hb hg inC12 tyX12 tyX12_ok nmX12 hown hK hP hD hS 0 rfl rfl 33 (by decide) (hg _ wt5_193) (fun _ h9 => h9) rfl (by decide +kernel) rfl rfl (Nat.le_of_ble_eq_true rfl) dX12_orders_152 (fun H locs hP hD hS => ?_)
                            have hP : va_P D vwCl (mW K o r (upd f72 33 t29) B78 g74) H := hP
                            have hD : va_D A (mW K o r (upd f72 33 t29) B78 g74) := hD
                            refine k_gen (P := fun z => va_P D vwCl (mW K o r z B78 g74) H ∧ va_D A (mW K o r z B78 g74) ∧ (mI z B78) ∧ (mF (XR [(0, 23), (107, 6000)]) f a z B78) ∧ (mZ [0, 8, 9, 10, 13, 14, 18, 19, 20, 21, 22, 23, 24, 25, 27, 28, 33, 37, 38, 39, 40, 41, 42] [1, 2, 5, 15, 16, 17, 26, 29, 30, 31, 32] f a z B78)) (upd f72 33 t29) ⟨hP, hD, (mI_f hI (fI_st hI.1 33 b30 (by decide) (by decide))), (mF_f hE), (mZ_f hZ rfl)⟩ (fun f_85 ef_85 hq => ?_)
                            obtain ⟨hP, hD, hI, hE, hZ⟩ := hq
                            refine lv_aload_n hx hb dX12_orders_155 rfl (lv_at hl 4 rfl) ?_
                            refine lv_iload_n hx hb dX12_orders_156 rfl (lv_at hl 1 rfl) ?_
                            refine va_put (D := D) (ci := 12) (v := .int y46) (ty := .int) (C := RX12) (T := TX12) (N := 48) hx hb hg inC12 tyX12 tyX12_ok nmX12 hown hK hP hD hS 0 rfl rfl 37 (by decide) (hg _ wt5_197) (fun _ h9 => h9) rfl (by decide +kernel) rfl rfl (Nat.le_of_ble_eq_true rfl) dX12_orders_157 (fun H locs hP hD hS => ?_)
                            have hP : va_P D vwCl (mW K o r (upd f_85 37 y46) B78 g74) H := hP
                            have hD : va_D A (mW K o r (upd f_85 37 y46) B78 g74) := hD
                            refine k_gen (P := fun z => va_P D vwCl (mW K o r z B78 g74) H ∧ va_D A (mW K o r z B78 g74) ∧ (mI z B78) ∧ (mF (XR [(0, 23), (107, 6000)]) f a z B78) ∧ (mZ [0, 8, 9, 10, 13, 14, 18, 19, 20, 21, 22, 23, 24, 25, 27, 28, 33, 37, 38, 39, 40, 41, 42] [1, 2, 5, 15, 16, 17, 26, 29, 30, 31, 32] f a z B78)) (upd f_85 37 y46) ⟨hP, hD, (mI_f hI (fI_st hI.1 37 (kb_any _) (by decide) (by decide))), (mF_f hE), (mZ_f hZ rfl)⟩ (fun f_86 ef_86 hq => ?_)
                            obtain ⟨hP, hD, hI, hE, hZ⟩ := hq
                            refine lv_aload_n hx hb dX12_orders_160 rfl (lv_at hl 4 rfl) ?_
                            refine lv_bipush (v := (-3)) hx hb dX12_orders_161 (by decide) ?_
                            refine kI.callV (As := [.int (-3)]) (rest := []) ⟨hx, hb, hml, hown, hg⟩ (n_refuses l o r f_86 B78 g74 hI (-3) (kb_w kc_m3 (by decide) (by decide)) ) (cwV 1 hg (kgV wt6_72 wt6_74 wp3_5 wt1_14 wt6_75) rfl rfl rfl (by decide +kernel) ⟨by decide, by decide⟩) hK hP hD hS hA mIs [] rfl (wr := []) rfl rfl rfl (fun i h => by cases h) 0 12 rfl rfl rfl hl.1 rfl (Nat.le_of_ble_eq_true rfl) dX12_orders_163 ⟨Nat.le_refl _, Nat.le_refl _⟩ (fun v88 u89 H locs hw87 hP hD hS => ?_)
                            obtain ⟨f90, a91, g92⟩ := u89
                            have hP : va_P D vwCl (mW K o r f90 a91 g92) H := hP
                            have hD : va_D A (mW K o r f90 a91 g92) := hD
                            have hI : mI f90 a91 := hw87.2.1
                            have hE : mF (XR [(0, 23), (107, 6000)]) f a f90 a91 := mF_tr hE (mF_w (XR_w (by decide)) (mF_of hw87.2.2.1))
                            have eE93 : mE (XR []) f_86 B78 f90 a91 := hw87.2.2.1
                            have eZ94 : mZ [0] [1] f_86 B78 f90 a91 := hw87.2.2.2.2.2.2
                            have hZ : mZ [0, 8, 9, 10, 13, 14, 18, 19, 20, 21, 22, 23, 24, 25, 27, 28, 33, 37, 38, 39, 40, 41, 42] [1, 2, 5, 15, 16, 17, 26, 29, 30, 31, 32] f a f90 a91 := mZ_tr hZ (mZ_w (by decide) (by decide) eZ94)
                            refine k_top (z := (-3)) hw87.2.2.2.1 ?_
                            exact kI_ret (v := (-3)) hx hb hr hlocks rfl hK hS dX12_orders_166 (f90, a91, g92) hP hD ⟨(kb_w kc_m3 (by decide) (by decide)), hI, hE, (((((eZ94.1 13 rfl).trans ((show f_86 13 = f_85 13 from by rw [← ef_86]; rfl).trans (show f_85 13 = f72 13 from by rw [← ef_85]; rfl))).trans (hstC.1.trans (((eZ76.1 13 rfl).trans (eZ64.1 13 rfl)).trans (hstB.1.trans ((show f_41 13 = f_40 13 from by rw [← ef_41]; rfl).trans ((show f_40 13 = f_39 13 from by rw [← ef_40]; rfl).trans ((show f_39 13 = f34 13 from by rw [← ef_39]; rfl).trans ((eZ38.1 13 rfl).trans (eZ20.1 13 rfl)))))))))).trans hw3.2.2.2.1), (show ordP (a 11) (f 13) (f90 14) from ⟨_, by rw [show f90 14 = f6 14 from (((eZ94.1 14 rfl).trans ((show f_86 14 = f_85 14 from by rw [← ef_86]; rfl).trans (show f_85 14 = f72 14 from by rw [← ef_85]; rfl))).trans (hstC.2.1.trans (((eZ76.1 14 rfl).trans (eZ64.1 14 rfl)).trans (hstB.2.1.trans ((show f_41 14 = f_40 14 from by rw [← ef_41]; rfl).trans ((show f_40 14 = f_39 14 from by rw [← ef_40]; rfl).trans ((show f_39 14 = f34 14 from by rw [← ef_39]; rfl).trans ((eZ38.1 14 rfl).trans (eZ20.1 14 rfl)))))))))]; exact htx7⟩), (Or.inr ⟨⟨_, htx7⟩, k6, hlo, hlM, Or.inr ⟨cc, (by have w9 := oA_k (oA_f hod.2 ho) (Dt.1 - (cc + 1)); rw [show cc + 1 + (Dt.1 - (cc + 1)) = Dt.1 by omega] at w9; exact w9), rfl, hw87.2.2.2.2.1, (by (try dsimp only); rw [show a91 1 = rfS (-3 : Int32).toInt (B78 1) from hw87.2.2.2.2.2.1, show (-3 : Int32).toInt = -3 from by decide +kernel, show B78 1 = a 1 from (hstC.2.2.2.2.1.trans (((eZ76.2 1 rfl).trans (eZ64.2 1 rfl)).trans (hstB.2.2.2.1.trans ((eZ38.2 1 rfl).trans (hstA.2.2.2.2.2.trans ((eZ20.2 1 rfl).trans (eZ10.2 1 rfl)))))))]), by show (f90 37).toInt = _; rw [((eZ94.1 37 rfl).trans (show f_86 37 = y46 from by rw [← ef_86]; rfl))]; exact hvlp50_0, ((((eZ94.2 2 rfl).trans hstC.2.2.2.2.2.1)).trans (funext (fun i => by by_cases hi : i < 23; (exact (hw69.2.2.1 i hi).trans ((congrFun (show a61 5 = a17 5 from ((eZ64.2 5 rfl).trans (hstB.2.2.2.2.1.trans ((eZ38.2 5 rfl).trans hstA.2.2.1)))) _).trans ((hw13.2.2.2.2.1 i hi).trans ((congrFun (show a7 2 = a 2 from (eZ10.2 2 rfl)) i).trans (hlo i (by omega)).symm)))); (exact (eE75.2.2.1 i (XR23 hi)).trans ((eE63.1 i (XR23 hi)).trans ((congrFun ((rfl).trans hst.1) i).trans (hog.2.1 i (by omega)))))))), by (try dsimp only); rw [show f90 33 = f 33 from (((eZ94.1 33 rfl).trans ((show f_86 33 = f_85 33 from by rw [← ef_86]; rfl).trans (show f_85 33 = t29 from by rw [← ef_85]; rfl)))).trans (et29.trans ((eZ20.1 33 rfl).trans ((eZ10.1 33 rfl).trans (show f_2 33 = f 33 from by rw [← ef_2]; rfl))))]; exact mP_c hp2 (fun q hq => by (try dsimp only); rw [show a91 31 = B78 31 from (eZ94.2 31 rfl)]; have w9 := hcq; rw [(show n4 = 384 from (by have w1 := hvlp79_0; have w2 := (b84).1; have w3 := hvlp79_3; omega : n4 = 384))] at w9; rw [w9 q hq, show a73 32 = B22 32 from (((eZ76.2 32 rfl).trans (eZ64.2 32 rfl)).trans (hstB.2.2.2.2.2.trans (eZ38.2 32 rfl)))]; exact hal q hq)⟩⟩), hZ⟩
                          · have h95 := (kc_nle c82)
                            have b96 : kb 0 y77 383 := kr_lt1 h95 b81 kc_384 (by decide)
                            refine lv_aload_n hx hb dX12_orders_130 rfl (lv_at hl 4 rfl) ?_
                            refine va_get (D := D) (ci := 12) (v := .ref (r 31)) (C := RX12) (T := TX12) (N := 48) hx hb hg inC12 hown hK hP 0 rfl rfl 31 (by decide) (hg _ wt5_191) (fun _ h9 => h9) rfl dX12_orders_131 ?_
                            refine lv_iload hx hb dX12_orders_134 (lv_at hl 0 rfl) ?_
                            refine lv_aload_n hx hb dX12_orders_136 rfl (lv_at hl 4 rfl) ?_
                            refine va_get (D := D) (ci := 12) (v := .ref (r 32)) (C := RX12) (T := TX12) (N := 48) hx hb hg inC12 hown hK hP 0 rfl rfl 32 (by decide) (hg _ wt5_192) (fun _ h9 => h9) rfl dX12_orders_137 ?_
                            refine lv_iload hx hb dX12_orders_140 (lv_at hl 0 rfl) ?_
                            refine va_iald hx hb hK hP 16 0 rfl rfl (kb_in b96 (by decide) (by decide)) dX12_orders_142 ?_
                            refine lv_topi (fun t97 et97 => ?_)
                            refine va_iast hx hb hK hP hD hS 15 0 rfl rfl (kb_in b96 (by decide) (by decide)) dX12_orders_143 (fun H locs hP hD hS => ?_)
                            have hP : va_P D vwCl (mW K o r f72 (va_up B78 31 (upd (B78 31) y77.toNatClampNeg t97)) g74) H := hP
                            have hD : va_D A (mW K o r f72 (va_up B78 31 (upd (B78 31) y77.toNatClampNeg t97)) g74) := hD
                            refine k_gen (P := fun z => va_P D vwCl (mW K o r f72 z g74) H ∧ va_D A (mW K o r f72 z g74) ∧ (mI f72 z) ∧ (mF (XR [(0, 23), (107, 6000)]) f a f72 z) ∧ (mZ [0, 8, 9, 10, 13, 14, 18, 19, 20, 21, 22, 23, 24, 25, 27, 28, 33, 37, 38, 39, 40, 41, 42] [1, 2, 5, 15, 16, 17, 26, 29, 30, 31, 32] f a f72 z)) (va_up B78 31 (upd (B78 31) y77.toNatClampNeg t97)) ⟨hP, hD, (mI_s hI (aI_mv hI.2.1 31 _ 32 _ et97 rfl) (by decide) (by decide)), (mF_s hE (by decide) (by decide) (by decide)), (mZ_a hZ rfl)⟩ (fun a_98 ea_98 hq => ?_)
                            obtain ⟨hP, hD, hI, hE, hZ⟩ := hq
                            obtain ⟨t99, et99⟩ : ∃ z : Int32, z = y77 + Int32.ofInt 1 := ⟨_, rfl⟩
                            have qt99 : t99.toInt = y77.toInt + 1 := by rw [et99]; exact km_inc b96 (by decide) (by decide)
                            have b100 : kb 1 t99 384 := kb_inc (k := 1) qt99 b96
                            refine lv_iinc (v := t99) (lv' := [(4, .int t99), (3, .int y46), (2, .int t44), (1, .int t29), (0, .ref o)]) hx hb dX12_orders_144 hl (k := 0) rfl et99.symm (by decide) rfl (fun ls hl => ?_)
                            refine lv_goto (tgt := 122) hx hb dX12_orders_147 (by decide) ?_
                            exact ihlp79 (n4 + 1) a_98 _ _ _ t99 (km_up hmlp79 qt99) hI hE hZ (kb_w b100 (by decide) (by decide)) (by have w1 := hvlp79_0; have w2 := qt99; omega) (cp_s0 hvlp79_1 (show a_98 31 = upd (B78 31) y77.toNatClampNeg t97 from by rw [← ea_98]; rfl) (cl_nat hvlp79_0) (et97.trans (by rw [cl_nat hvlp79_0]; exact congrFun (hstC.2.2.2.2.2.2) n4))) (by have w1 := hvlp79_0; have w2 := (b96).2; omega) (⟨((rfl).trans hstC.1), ((rfl).trans hstC.2.1), ((rfl).trans hstC.2.2.1), ((rfl).trans hstC.2.2.2.1), (((show a_98 1 = B78 1 from by rw [← ea_98]; rfl)).trans hstC.2.2.2.2.1), (((show a_98 2 = B78 2 from by rw [← ea_98]; rfl)).trans hstC.2.2.2.2.2.1), (((show a_98 32 = B78 32 from by rw [← ea_98]; rfl)).trans hstC.2.2.2.2.2.2)⟩) hP hD hS (lv_sub hl [0, 1, 2, 3, 4] rfl)
                      exact lp79 (385) 0 a73 _ _ _ 0 (by have h1 := (kc_0); unfold kb at h1; omega) hI hE hZ (kb_w kc_0 (by decide) (by decide)) (by decide +kernel) (fun q h => absurd h (Nat.not_lt_zero q)) (Nat.zero_le _) (⟨rfl, rfl, rfl, rfl, rfl, rfl, rfl⟩) hP hD hS (lv_sub hl [0, 1, 2, 3, 4] rfl)
                    · exact kb_nsame c68 kc_0 kc_0
              · have hg38 : 2400 + (N : Int) ≤ c38.toInt := by rw [ec38]; exact hc2
                refine lv_aload_n hx hb dX12_orders_95 rfl (lv_at hl 3 rfl) ?_
                refine va_get (D := D) (ci := 12) (v := .int (F47 38)) (C := RX12) (T := TX12) (N := 48) hx hb hg inC12 hown hK hP 0 rfl rfl 38 (by decide) (hg _ wt5_198) (fun _ h9 => h9) rfl dX12_orders_96 ?_
                refine k_top (z := c38) ec38.symm ?_
                refine lv_iload_n hx hb dX12_orders_99 rfl (lv_at hl 1 rfl) ?_
                refine lv_icmp_ge (tgt := 173) hx hb dX12_orders_100 (by decide) (fun c101 => ?_) (fun c101 => ?_)
                · have h102 := (kc_le c101)
                  have b103 : kb 2400 c38 2147483647 := kr_le2 h102 b45 (kb_any c38)
                  refine lv_aload_n hx hb dX12_orders_173 rfl (lv_at hl 3 rfl) ?_
                  refine lv_aload_n hx hb dX12_orders_174 rfl (lv_at hl 3 rfl) ?_
                  refine va_get (D := D) (ci := 12) (v := .int (F47 27)) (C := RX12) (T := TX12) (N := 48) hx hb hg inC12 hown hK hP 0 rfl rfl 27 (by decide) (hg _ wt5_187) (fun _ h9 => h9) rfl dX12_orders_175 ?_
                  refine lv_topi (fun t104 et104 => ?_)
                  refine kI.callV (As := [.int t104]) (rest := []) ⟨hx, hb, hml, hown, hg⟩ (n_good l o r F47 B48 G49 hI t104  ) (cwV 1 hg (kgV wt6_76 wt6_78 wp3_6 wt1_14 wt6_79) rfl rfl rfl (by decide +kernel) ⟨by decide, by decide⟩) hK hP hD hS hA mIs [] rfl (wr := []) rfl rfl rfl (fun i h => by cases h) 0 12 rfl rfl rfl hl.1 rfl (Nat.le_of_ble_eq_true rfl) dX12_orders_178 ⟨Nat.le_refl _, Nat.le_refl _⟩ (fun v106 u107 H locs hw105 hP hD hS => ?_)
                  obtain ⟨f108, a109, g110⟩ := u107
                  have hP : va_P D vwCl (mW K o r f108 a109 g110) H := hP
                  have hD : va_D A (mW K o r f108 a109 g110) := hD
                  have hI : mI f108 a109 := hw105.2.1
                  have hE : mF (XR [(0, 23), (107, 6000)]) f a f108 a109 := mF_tr hE (mF_w (XR_w (by decide)) (mF_of hw105.2.2.1))
                  have eE111 : mE (XR []) F47 B48 f108 a109 := hw105.2.2.1
                  have eZ112 : mZ [0] [] F47 B48 f108 a109 := hw105.2.2.2.2.2
                  have hZ : mZ [0, 8, 9, 10, 13, 14, 18, 19, 20, 21, 22, 23, 24, 25, 27, 28, 33, 37, 38, 39, 40, 41, 42] [1, 2, 5, 15, 16, 17, 26, 29, 30, 31, 32] f a f108 a109 := mZ_tr hZ (mZ_w (by decide) (by decide) eZ112)
                  refine k_top (z := t104) hw105.2.2.2.1 ?_
                  exact kI_ret (v := t104) hx hb hr hlocks rfl hK hS dX12_orders_181 (f108, a109, g110) hP hD ⟨(kb_any t104), hI, hE, ((((eZ112.1 13 rfl).trans (hstB.1.trans ((show f_41 13 = f_40 13 from by rw [← ef_41]; rfl).trans ((show f_40 13 = f_39 13 from by rw [← ef_40]; rfl).trans ((show f_39 13 = f34 13 from by rw [← ef_39]; rfl).trans ((eZ38.1 13 rfl).trans (eZ20.1 13 rfl)))))))).trans hw3.2.2.2.1), (show ordP (a 11) (f 13) (f108 14) from ⟨_, by rw [show f108 14 = f6 14 from ((eZ112.1 14 rfl).trans (hstB.2.1.trans ((show f_41 14 = f_40 14 from by rw [← ef_41]; rfl).trans ((show f_40 14 = f_39 14 from by rw [← ef_40]; rfl).trans ((show f_39 14 = f34 14 from by rw [← ef_39]; rfl).trans ((eZ38.1 14 rfl).trans (eZ20.1 14 rfl)))))))]; exact htx7⟩), (Or.inr ⟨⟨_, htx7⟩, k6, hlo, hlM, Or.inl ⟨s_, by have w9 := hod.2; rw [hc1] at w9; exact w9, (et104.trans ((rfl).trans hfd.1)), hw105.2.2.2.2.1, ((eZ112.2 1 rfl).trans (hstB.2.2.2.1.trans ((eZ38.2 1 rfl).trans (hstA.2.2.2.2.2.trans ((eZ20.2 1 rfl).trans (eZ10.2 1 rfl)))))), (((eZ112.1 37 rfl).trans (hstB.2.2.1.trans ((show f_41 37 = f_40 37 from by rw [← ef_41]; rfl).trans ((show f_40 37 = f_39 37 from by rw [← ef_40]; rfl).trans ((show f_39 37 = f34 37 from by rw [← ef_39]; rfl).trans ((eZ38.1 37 rfl).trans ((eZ20.1 37 rfl).trans (eZ10.1 37 rfl))))))))).trans hm37, ((eZ112.2 2 rfl)).trans hst.1, by (try dsimp only); rw [show f108 33 = F47 33 from (eZ112.1 33 rfl), show a109 31 = B48 31 from (eZ112.2 31 rfl)]; exact hst.2, h22, ⟨hog.1, hog.2.1, kb_w hog.2.2.1 (by decide) (by have w1 := htx.2.1; omega), hog.2.2.2⟩⟩⟩), hZ⟩
                · exact absurd (kc_nle c101) (by have w1 := hg38; have w2 := hen; omega)
          exact lp50 ((Dt.1 + 1)) 0 ((k6, P, 0, -1) : oSt) f_41 a35 g36 _ _ _ 0 (by omega) hI hE hZ (kb_w kc_0 (by decide) (by decide)) (by decide +kernel) ((clB_0 htx (by rw [(show f_41 38 = 2400 from by rw [← ef_41]; rfl)]; decide +kernel))) (⟨Nat.zero_le _, rfl⟩) ((oG_0 hkk)) ((by show (k6 22).toInt ≤ 999; rw [hlo 22 (by decide)]; exact hp3)) (⟨(rfl).trans hr2, by (try dsimp only); rw [show f_41 33 = f 33 from ((show f_41 33 = f_40 33 from by rw [← ef_41]; rfl).trans ((show f_40 33 = f_39 33 from by rw [← ef_40]; rfl).trans ((show f_39 33 = f34 33 from by rw [← ef_39]; rfl).trans ((eZ38.1 33 rfl).trans ((eZ20.1 33 rfl).trans ((eZ10.1 33 rfl).trans (show f_2 33 = f 33 from by rw [← ef_2]; rfl))))))), show a35 31 = a 31 from ((eZ38.2 31 rfl).trans (hstA.1.trans ((eZ20.2 31 rfl).trans (eZ10.2 31 rfl))))]; exact hp2⟩) (⟨((show f_41 27 = f_40 27 from by rw [← ef_41]; rfl).trans ((show f_40 27 = f_39 27 from by rw [← ef_40]; rfl).trans (show f_39 27 = 0 from by rw [← ef_39]; rfl))), ((show f_41 28 = f_40 28 from by rw [← ef_41]; rfl).trans (show f_40 28 = (-1) from by rw [← ef_40]; rfl))⟩) (⟨rfl, rfl, rfl, rfl, rfl, rfl⟩) hP hD hS (lv_sub hl [0, 1, 2, 3] rfl)
        · have h113 := (kc_nle c26)
          have b114 : kb 0 y21 383 := kr_lt1 h113 b25 kc_384 (by decide)
          refine lv_aload_n hx hb dX12_orders_34 rfl (lv_at hl 1 rfl) ?_
          refine va_get (D := D) (ci := 12) (v := .ref (r 32)) (C := RX12) (T := TX12) (N := 48) hx hb hg inC12 hown hK hP 0 rfl rfl 32 (by decide) (hg _ wt5_192) (fun _ h9 => h9) rfl dX12_orders_35 ?_
          refine lv_iload_n hx hb dX12_orders_38 rfl (lv_at hl 0 rfl) ?_
          refine lv_aload_n hx hb dX12_orders_39 rfl (lv_at hl 1 rfl) ?_
          refine va_get (D := D) (ci := 12) (v := .ref (r 31)) (C := RX12) (T := TX12) (N := 48) hx hb hg inC12 hown hK hP 0 rfl rfl 31 (by decide) (hg _ wt5_191) (fun _ h9 => h9) rfl dX12_orders_40 ?_
          refine lv_iload_n hx hb dX12_orders_43 rfl (lv_at hl 0 rfl) ?_
          refine va_iald hx hb hK hP 15 0 rfl rfl (kb_in b114 (by decide) (by decide)) dX12_orders_44 ?_
          refine lv_topi (fun t115 et115 => ?_)
          refine va_iast hx hb hK hP hD hS 16 0 rfl rfl (kb_in b114 (by decide) (by decide)) dX12_orders_45 (fun H locs hP hD hS => ?_)
          have hP : va_P D vwCl (mW K o r f16 (va_up B22 32 (upd (B22 32) y21.toNatClampNeg t115)) g18) H := hP
          have hD : va_D A (mW K o r f16 (va_up B22 32 (upd (B22 32) y21.toNatClampNeg t115)) g18) := hD
          refine k_gen (P := fun z => va_P D vwCl (mW K o r f16 z g18) H ∧ va_D A (mW K o r f16 z g18) ∧ (mI f16 z) ∧ (mF (XR [(0, 23), (107, 6000)]) f a f16 z) ∧ (mZ [0, 8, 9, 10, 13, 14, 18, 19, 20, 21, 22, 23, 24, 25, 27, 28, 33, 37, 38, 39, 40, 41, 42] [1, 2, 5, 15, 16, 17, 26, 29, 30, 31, 32] f a f16 z)) (va_up B22 32 (upd (B22 32) y21.toNatClampNeg t115)) ⟨hP, hD, (mI_s hI (aI_mv hI.2.1 32 _ 31 _ et115 rfl) (by decide) (by decide)), (mF_s hE (by decide) (by decide) (by decide)), (mZ_a hZ rfl)⟩ (fun a_116 ea_116 hq => ?_)
          obtain ⟨hP, hD, hI, hE, hZ⟩ := hq
          obtain ⟨t117, et117⟩ : ∃ z : Int32, z = y21 + Int32.ofInt 1 := ⟨_, rfl⟩
          have qt117 : t117.toInt = y21.toInt + 1 := by rw [et117]; exact km_inc b114 (by decide) (by decide)
          have b118 : kb 1 t117 384 := kb_inc (k := 1) qt117 b114
          refine lv_iinc (v := t117) (lv' := [(1, .int t117), (0, .ref o)]) hx hb dX12_orders_46 hl (k := 0) rfl et117.symm (by decide) rfl (fun ls hl => ?_)
          refine lv_goto (tgt := 27) hx hb dX12_orders_49 (by decide) ?_
          exact ihlp23 (n1 + 1) a_116 _ _ _ t117 (km_up hmlp23 qt117) hI hE hZ (kb_w b118 (by decide) (by decide)) (by have w1 := hvlp23_0; have w2 := qt117; omega) (cp_s0 hvlp23_1 (show a_116 32 = upd (B22 32) y21.toNatClampNeg t115 from by rw [← ea_116]; rfl) (cl_nat hvlp23_0) (et115.trans (by rw [cl_nat hvlp23_0]; exact congrFun ((hstA.1.trans ((eZ20.2 31 rfl).trans (eZ10.2 31 rfl)))) n1))) (by have w1 := hvlp23_0; have w2 := (b114).2; omega) (⟨(((show a_116 31 = B22 31 from by rw [← ea_116]; rfl)).trans hstA.1), (((show a_116 2 = B22 2 from by rw [← ea_116]; rfl)).trans hstA.2.1), (((show a_116 5 = B22 5 from by rw [← ea_116]; rfl)).trans hstA.2.2.1), (((show a_116 15 = B22 15 from by rw [← ea_116]; rfl)).trans hstA.2.2.2.1), (((show a_116 16 = B22 16 from by rw [← ea_116]; rfl)).trans hstA.2.2.2.2.1), (((show a_116 1 = B22 1 from by rw [← ea_116]; rfl)).trans hstA.2.2.2.2.2)⟩) hP hD hS (lv_sub hl [0, 1] rfl)
    exact lp23 (385) 0 a17 _ _ _ 0 (by have h1 := (kc_0); unfold kb at h1; omega) hI hE hZ (kb_w kc_0 (by decide) (by decide)) (by decide +kernel) (fun q h => absurd h (Nat.not_lt_zero q)) (Nat.zero_le _) (⟨rfl, rfl, rfl, rfl, rfl, rfl⟩) hP hD hS (lv_sub hl [0, 1] rfl)
  · have b119 : kb 0 v4 0 := kb_eq c11 kc_0
    refine lv_aload_n hx hb dX12_orders_13 rfl (lv_at hl 0 rfl) ?_
    refine lv_bipush (v := (-6)) hx hb dX12_orders_14 (by decide) ?_
    refine kI.callV (As := [.int (-6)]) (rest := []) ⟨hx, hb, hml, hown, hg⟩ (n_refuses l o r f6 a7 g8 hI (-6) (kb_w kc_m6 (by decide) (by decide)) ) (cwV 1 hg (kgV wt6_72 wt6_74 wp3_5 wt1_14 wt6_75) rfl rfl rfl (by decide +kernel) ⟨by decide, by decide⟩) hK hP hD hS hA mIs [] rfl (wr := []) rfl rfl rfl (fun i h => by cases h) 0 12 rfl rfl rfl hl.1 rfl (Nat.le_of_ble_eq_true rfl) dX12_orders_16 ⟨Nat.le_refl _, Nat.le_refl _⟩ (fun v121 u122 H locs hw120 hP hD hS => ?_)
    obtain ⟨f123, a124, g125⟩ := u122
    have hP : va_P D vwCl (mW K o r f123 a124 g125) H := hP
    have hD : va_D A (mW K o r f123 a124 g125) := hD
    have hI : mI f123 a124 := hw120.2.1
    have hE : mF (XR [(0, 23), (107, 6000)]) f a f123 a124 := mF_tr hE (mF_w (XR_w (by decide)) (mF_of hw120.2.2.1))
    have eE126 : mE (XR []) f6 a7 f123 a124 := hw120.2.2.1
    have eZ127 : mZ [0] [1] f6 a7 f123 a124 := hw120.2.2.2.2.2.2
    have hZ : mZ [0, 8, 9, 10, 13, 14, 18, 19, 20, 21, 22, 23, 24, 25, 27, 28, 33, 37, 38, 39, 40, 41, 42] [1, 2, 5, 15, 16, 17, 26, 29, 30, 31, 32] f a f123 a124 := mZ_tr hZ (mZ_w (by decide) (by decide) eZ127)
    refine k_top (z := (-6)) hw120.2.2.2.1 ?_
    exact kI_ret (v := (-6)) hx hb hr hlocks rfl hK hS dX12_orders_19 (f123, a124, g125) hP hD ⟨(kb_w kc_m6 (by decide) (by decide)), hI, hE, (((eZ127.1 13 rfl)).trans hw3.2.2.2.1), (show ordP (a 11) (f 13) (f123 14) from ⟨_, by rw [show f123 14 = f6 14 from (eZ127.1 14 rfl)]; exact htx7⟩), (Or.inl ⟨rfl, ⟨_, by have w1 := htx7; rw [bv_0 hv7 (fun z => absurd (c11.symm.trans z) (by decide +kernel))] at w1; exact w1⟩, hw120.2.2.2.2.1, (by (try dsimp only); rw [show a124 1 = rfS (-6 : Int32).toInt (a7 1) from hw120.2.2.2.2.2.1, show (-6 : Int32).toInt = -6 from by decide +kernel, show a7 1 = a 1 from (eZ10.2 1 rfl)]), ((((eZ127.1 37 rfl).trans (eZ10.1 37 rfl))).trans hm37), ((eZ127.2 2 rfl).trans (eZ10.2 2 rfl)), by (try dsimp only); rw [show f123 33 = f 33 from ((eZ127.1 33 rfl).trans ((eZ10.1 33 rfl).trans (show f_2 33 = f 33 from by rw [← ef_2]; rfl))), show a124 31 = a 31 from ((eZ127.2 31 rfl).trans (eZ10.2 31 rfl))]; exact hp2⟩), hZ⟩
