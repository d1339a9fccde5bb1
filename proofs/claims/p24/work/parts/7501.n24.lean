/-! in how many orders: both sides' numbers are one -/
def wOR (k : Nat → Int32) (N up : Nat) (O : Nat → Int32) : Prop := O (2 ^ N - 1) = 1 ∧ ∀ s, s < 2 ^ N - 1 → s &&& up = up → (O s).toInt = pSr k O s N
theorem or_sup {s t up : Nat} (h : s &&& up = up) : (s ||| t) &&& up = up := by
  refine Nat.eq_of_testBit_eq (fun i => ?_)
  have w : Nat.testBit (s &&& up) i = Nat.testBit up i := by rw [h]
  rw [Nat.testBit_and] at w
  rw [Nat.testBit_and, Nat.testBit_or]
  cases hs : Nat.testBit s i <;> cases hu : Nat.testBit up i <;> cases ht : Nat.testBit t i <;> rw [hs, hu] at w <;> first | rfl | exact absurd w (by decide)
section WO
variable {k O O' : Nat → Int32} {N up : Nat}
theorem pSr_eq {s : Nat} (h : ∀ q, q < N → fB k s q = true → O' (s ||| 2 ^ q) = O (s ||| 2 ^ q)) : ∀ q, q ≤ N → pSr k O' s q = pSr k O s q
  | 0, _ => rfl
  | q + 1, hq => by
    show pSr k O' s q + _ = pSr k O s q + _
    rw [pSr_eq h q (by omega)]
    by_cases c : fB k s q = true
    · rw [if_pos c, if_pos c, h q (by omega) c]
    · rw [if_neg c, if_neg c]
theorem wO_eq (hN : N ≤ 10) (h : wOR k N up O) (h' : wOR k N up O') : ∀ d s, s + d = 2 ^ N - 1 → s &&& up = up → O' s = O s := by
  have hp := p2 hN
  intro d
  induction d using Nat.strongRecOn with
  | ind d ih =>
    intro s hs hu
    by_cases c : d = 0
    · rw [show s = 2 ^ N - 1 by omega, h.1, h'.1]
    · have e := h.2 s (by omega) hu
      have e' := h'.2 s (by omega) hu
      have q : pSr k O' s N = pSr k O s N := pSr_eq (fun q hq hf => by
        have g := or_gt (fB_t (by omega) (by omega) hf)
        have l := or_lt (N := N) (s := s) (q := q) (by omega) hq
        exact ih (2 ^ N - 1 - (s ||| 2 ^ q)) (by omega) _ (by omega) (or_sup hu)) N (Nat.le_refl _)
      exact Int32.toInt_inj.mp (by rw [e, e', q])
theorem wO_e (hN : N ≤ 10) (h : wOR k N up O) (h' : wOR k N up O') {s : Nat} (hs : s < 2 ^ N) (hu : s &&& up = up) : O' s = O s := wO_eq hN h h' (2 ^ N - 1 - s) s (by omega) hu
end WO
/-- the next one of the i-th order -/
def isF (k O : Nat → Int32) (s : Nat) (l : Int) (p : Nat) : Prop := fB k s p = true ∧ l - pSr k O s p < (O (s ||| 2 ^ p)).toInt ∧ ∀ q, q < p → fB k s q = true → (O (s ||| 2 ^ q)).toInt ≤ l - pSr k O s q
/-- the first n of the i-th order: what stands then, the number that is left, the last -/
def Pth (k O : Nat → Int32) (N s0 : Nat) (l0 : Int) : Nat → Nat → Int → Nat → Prop
  | 0, s, l, _ => s = s0 ∧ l = l0
  | n + 1, s, l, p => ∃ s' l' p', Pth k O N s0 l0 n s' l' p' ∧ p < N ∧ isF k O s' l' p ∧ s = s' ||| 2 ^ p ∧ l = l' - pSr k O s' p
section PT
variable {k O O' : Nat → Int32} {N up s0 : Nat} {l0 : Int}
theorem isF_det {s : Nat} {l : Int} {p p' : Nat} (h : isF k O s l p) (h' : isF k O s l p') : p = p' := by
  obtain ⟨a, b, c⟩ := h
  obtain ⟨a', b', c'⟩ := h'
  by_cases x : p < p'
  · have w := c' p x a
    omega
  · by_cases y : p' < p
    · have w := c p' y a'
      omega
    · omega
theorem Pth_det : ∀ n s l p s' l' p', Pth k O N s0 l0 n s l p → Pth k O N s0 l0 n s' l' p' → s = s' ∧ l = l' ∧ (0 < n → p = p')
  | 0, s, l, p, s', l', p', h, h' => ⟨h.1.trans h'.1.symm, h.2.trans h'.2.symm, fun z => absurd z (Nat.lt_irrefl 0)⟩
  | n + 1, s, l, p, s', l', p', h, h' => by
    obtain ⟨t, m, r, h1, h2, h3, h4, h5⟩ := h
    obtain ⟨t', m', r', g1, g2, g3, g4, g5⟩ := h'
    obtain ⟨e1, e2, -⟩ := Pth_det n t m r t' m' r' h1 g1
    subst e1 e2
    have e3 := isF_det h3 g3
    subst e3
    exact ⟨h4.trans g4.symm, h5.trans g5.symm, fun _ => rfl⟩
theorem Pth_b (h0 : s0 < 2 ^ N) (hu : s0 &&& up = up) : ∀ n s l p, Pth k O N s0 l0 n s l p → s < 2 ^ N ∧ s &&& up = up
  | 0, s, l, p, h => by rw [h.1]; exact ⟨h0, hu⟩
  | n + 1, s, l, p, h => by
    obtain ⟨t, m, r, h1, h2, h3, h4, h5⟩ := h
    have w := Pth_b h0 hu n t m r h1
    rw [h4]
    exact ⟨or_lt w.1 h2, or_sup w.2⟩
theorem Pth_cg (hN : N ≤ 10) (he : ∀ s, s < 2 ^ N → s &&& up = up → O' s = O s) (h0 : s0 < 2 ^ N) (hu : s0 &&& up = up) : ∀ n s l p, Pth k O N s0 l0 n s l p → Pth k O' N s0 l0 n s l p
  | 0, s, l, p, h => h
  | n + 1, s, l, p, h => by
    obtain ⟨t, m, r, h1, h2, h3, h4, h5⟩ := h
    have w := Pth_b h0 hu n t m r h1
    have q : ∀ q, q ≤ N → pSr k O' t q = pSr k O t q := pSr_eq (fun q hq _ => he _ (or_lt w.1 hq) (or_sup w.2))
    refine ⟨t, m, r, Pth_cg hN he h0 hu n t m r h1, h2, ?_, h4, by rw [q p (by omega)]; exact h5⟩
    obtain ⟨a, b, c⟩ := h3
    refine ⟨a, by rw [q p (by omega), he _ (or_lt w.1 h2) (or_sup w.2)]; exact b, fun j hj hf => ?_⟩
    rw [q j (by omega), he _ (or_lt w.1 (by omega)) (or_sup w.2)]
    exact c j hj hf
end PT
def rwN (k O : Nat → Int32) (x y : Int32) : Prop := 0 ≤ x.toInt ∧ x.toInt < (O (bM (upB k) (kPn k))).toInt ∧ 0 ≤ y.toInt ∧ y.toInt < (kPn k : Int) - (pop (bM (upB k) (kPn k)) : Int)
/-- what rows answers -/
def rowsR (k O : Nat → Int32) (x y v : Int32) : Prop := (x = -1 ∧ v = O (bM (upB k) (kPn k))) ∨ (¬ x = -1 ∧ rwN k O x y ∧ ∃ s l p, Pth k O (kPn k) (bM (upB k) (kPn k)) x.toInt (y.toInt.toNat + 1) s l p ∧ v.toInt = (p : Int)) ∨ (¬ x = -1 ∧ ¬ rwN k O x y ∧ v = -1)
theorem and_self_ (s : Nat) : s &&& s = s := by
  refine Nat.eq_of_testBit_eq (fun i => ?_)
  rw [Nat.testBit_and]
  cases Nat.testBit s i <;> rfl
theorem rows_eq {k O O' : Nat → Int32} {x y v v' : Int32} (hk : kK k) (h : wOR k (kPn k) (bM (upB k) (kPn k)) O) (h' : wOR k (kPn k) (bM (upB k) (kPn k)) O') (hr : rowsR k O x y v) (hr' : rowsR k O' x y v') : v = v' := by
  have hN := (kPn_b hk).1
  have hs := bM_lt (upB k) (kPn k)
  have hu := and_self_ (bM (upB k) (kPn k))
  have e := wO_e hN h h' hs hu
  have ew : rwN k O' x y ↔ rwN k O x y := by unfold rwN; rw [e]
  rcases hr with ⟨a, b⟩ | ⟨a, b, s, l, p, c, d⟩ | ⟨a, b, c⟩ <;> rcases hr' with ⟨a', b'⟩ | ⟨a', b', s', l', p', c', d'⟩ | ⟨a', b', c'⟩
  · rw [b, b', e]
  · exact absurd a a'
  · exact absurd a a'
  · exact absurd a' a
  · have g := Pth_cg hN (fun s hs hu => (wO_e hN h h' hs hu).symm) hs hu _ _ _ _ c'
    have w := (Pth_det _ _ _ _ _ _ _ c g).2.2 (by omega)
    exact Int32.toInt_inj.mp (by rw [d, d', w])
  · exact absurd (ew.mpr b) b'
  · exact absurd a' a
  · exact absurd (ew.mp b') b
  · rw [c, c']
/-! the class's numbers of orders: of what holds all that stands -/
def cDn (k : Nat → Int32) (N up : Nat) (O : Nat → Int32) (m : Nat) : Prop := ∀ s, m ≤ s → s < 2 ^ N → s &&& up = up → (s < 2 ^ N - 1 → (O s).toInt = pSr k O s N) ∧ (s = 2 ^ N - 1 → O s = 1) ∧ 0 ≤ (O s).toInt ∧ (O s).toInt ≤ (oB s : Int)
section CD
variable {k O : Nat → Int32} {N up s m : Nat} {v : Int32}
theorem cDn_z : cDn k N up O (2 ^ N) := fun s h1 h2 _ => by omega
theorem cDn_n (h : cDn k N up O (s + 1)) (hu : ¬ s &&& up = up) : cDn k N up O s := fun t h1 h2 h3 => by
  by_cases c : t = s
  · rw [c] at h3; exact absurd h3 hu
  · exact h t (by omega) h2 h3
theorem cS_bd (hN : N ≤ 10) (h : cDn k N up O m) (hm : m ≤ s + 1) (hs : s < 2 ^ N) (hu : s &&& up = up) : ∀ q, q ≤ N → 0 ≤ pSr k O s q ∧ pSr k O s q ≤ (pB s q : Int) := by
  have hp := p2 hN
  intro q
  induction q with
  | zero => intro _; exact ⟨Int.le_refl _, Int.le_refl _⟩
  | succ q ih =>
    intro hq
    obtain ⟨i1, i2⟩ := ih (by omega)
    show 0 ≤ pSr k O s q + _ ∧ pSr k O s q + _ ≤ ((pB s q + _ : Nat) : Int)
    by_cases hf : fB k s q = true
    · have ht := fB_t (by omega) (by omega) hf
      obtain ⟨-, -, h1, h2⟩ := h (s ||| 2 ^ q) (by have := or_gt ht; omega) (or_lt hs (by omega)) (or_sup hu)
      rw [if_pos hf, if_neg (by rw [ht]; decide)]
      omega
    · rw [if_neg hf]
      omega
theorem cS_10 (hN : N ≤ 10) (h : cDn k N up O m) (hm : m ≤ s + 1) (hs : s < 2 ^ N) (hu : s &&& up = up) (q : Nat) (hq : q ≤ N) : 0 ≤ pSr k O s q ∧ pSr k O s q ≤ 3628800 ∧ (s < 2 ^ N - 1 → pSr k O s q ≤ (oB s : Int)) := by
  have hp := p2 hN
  have w := cS_bd hN h hm hs hu q hq
  have hmn := pB_mono s q (10 - q)
  rw [show q + (10 - q) = 10 by omega] at hmn
  have hf : oB s ≤ 3628800 := (chkF ⟨s, by omega⟩).1
  by_cases c : s = 1023
  · have e : pB 1023 10 = 0 := by decide +kernel
    rw [c] at hmn w ⊢
    exact ⟨w.1, by omega, fun _ => by omega⟩
  · have hk : pB s 10 ≤ oB s := chkB ⟨s, by omega⟩
    exact ⟨w.1, by omega, fun _ => by omega⟩
theorem cDn_s (hN : N ≤ 10) (h : cDn k N up O (s + 1)) (hs : s < 2 ^ N) (hv : s < 2 ^ N - 1 → v.toInt = pSr k O s N) (h1 : s = 2 ^ N - 1 → v = 1) : cDn k N up (upd O s v) s := by
  have hp := p2 hN
  have hc : ∀ j, s < j → upd O s v j = O j := fun j hj => pk_un (by omega)
  have e1 : (1 : Int32).toInt = 1 := by decide +kernel
  intro t g1 g2 g3
  by_cases e : t = s
  · subst e
    rw [pk_us, pS_cg hc (Nat.le_refl _) (by omega) N hN]
    by_cases c : t = 2 ^ N - 1
    · have h9 : 1 ≤ oB t := (chkF ⟨t, by omega⟩).2
      rw [h1 c, e1]
      exact ⟨fun q => by omega, fun _ => rfl, by decide, by omega⟩
    · have w := cS_10 hN h (Nat.le_refl _) g2 g3 N (Nat.le_refl _)
      have w2 := w.2.2 (by omega)
      have w3 := hv (by omega)
      exact ⟨fun _ => w3, fun q => absurd q c, by omega, by omega⟩
  · have w := h t (by omega) g2 g3
    rw [pS_cg hc (by omega) (by omega) N hN, hc t (by omega)]
    exact w
theorem and_all (h : up < 2 ^ N) : (2 ^ N - 1) &&& up = up := by
  refine Nat.eq_of_testBit_eq (fun i => ?_)
  rw [Nat.testBit_and, Nat.testBit_two_pow_sub_one]
  by_cases c : i < N
  · rw [decide_eq_true c, Bool.true_and]
  · rw [decide_eq_false c, Bool.false_and]
    exact (Nat.testBit_lt_two_pow (Nat.lt_of_lt_of_le h (Nat.pow_le_pow_right (by decide) (by omega)))).symm
theorem cDn_w (hN : N ≤ 10) (hu : up < 2 ^ N) (h : cDn k N up O 0) : wOR k N up O := by
  have hp := p2 hN
  exact ⟨(h (2 ^ N - 1) (Nat.zero_le _) (by omega) (and_all hu)).2.1 rfl, fun s hs g => (h s (Nat.zero_le _) (by omega) g).1 hs⟩
theorem pSr_all (hN : N ≤ 10) : ∀ q, q ≤ N → pSr k O (2 ^ N - 1) q = 0 := by
  have hp := p2 hN
  intro q
  induction q with
  | zero => intro _; rfl
  | succ q ih =>
    intro hq
    show pSr k O (2 ^ N - 1) q + _ = 0
    rw [ih (by omega), if_neg]
    · rfl
    · intro hf
      have w := fB_t (by omega) (by omega) hf
      rw [Nat.testBit_two_pow_sub_one, decide_eq_true (show q < N by omega)] at w
      cases w
end CD
theorem fB_iff {k : Nat → Int32} {s q : Nat} (hs : s < 1024) (hq : q < 10) : fB k s q = true ↔ ((nI s >>> (nI q &&& 31)) &&& 1) = 0 ∧ k (33 + q) &&& (nI s ^^^ (-1)) = 0 := by
  have h1 : nI s >>> (nI q &&& 31) = nI (s / 2 ^ q) := by
    refine pk_shrN (by omega) _ q ?_
    have : ∀ q : Fin 10, (((nI q.val) &&& 31).toBitVec.smod 32).toNat = q.val := by decide +kernel
    exact this ⟨q, hq⟩
  have h2 : nI (s / 2 ^ q) &&& 1 = nI (s / 2 ^ q % 2 ^ 1) := pk_andN (Nat.lt_of_le_of_lt (Nat.div_le_self _ _) (by omega)) 1 (by decide)
  have e : (33 + nI q).toNatClampNeg = 33 + q := by
    have w : ∀ q : Fin 10, (33 + nI q.val).toNatClampNeg = 33 + q.val := by decide +kernel
    exact w ⟨q, hq⟩
  have hb : (nI s >>> (nI q &&& 31)) &&& 1 = 0 ∨ (nI s >>> (nI q &&& 31)) &&& 1 = 1 := by
    rw [h1, h2]
    have h3 : s / 2 ^ q % 2 ^ 1 = 0 ∨ s / 2 ^ q % 2 ^ 1 = 1 := by omega
    rcases h3 with h3 | h3
    · rw [h3]; exact Or.inl (by decide +kernel)
    · rw [h3]; exact Or.inr (by decide +kernel)
  unfold fB
  rw [decide_eq_true_iff]
  unfold mCF mBit
  rw [e]
  rcases hb with hb | hb
  · rw [hb, if_neg (by decide +kernel : ¬ (0 : Int32) = 1), if_pos rfl]
    by_cases c : k (33 + q) &&& (nI s ^^^ (-1)) = 0
    · rw [if_pos c]; exact ⟨fun _ => ⟨rfl, c⟩, fun _ => rfl⟩
    · rw [if_neg c]; exact ⟨fun h => absurd h (by decide +kernel), fun h => absurd h.2 c⟩
  · rw [hb, if_pos rfl, if_neg (by decide +kernel : ¬ (1 : Int32) = 0)]
    exact ⟨fun h => absurd h (by decide +kernel), fun h => absurd h.1 (by decide +kernel)⟩
theorem nI_and {a b : Nat} (ha : a < 1024) (hb : b < 1024) : nI a &&& nI b = nI (a &&& b) := by
  apply Int32.toBitVec_inj.mp
  apply BitVec.eq_of_toNat_eq
  have hab : a &&& b < 1024 := Nat.lt_of_le_of_lt Nat.and_le_left ha
  rw [kn_bv (by omega), Int32.toBitVec_and, BitVec.toNat_and, kn_bv (by omega), kn_bv (by omega)]
theorem nI_inj {a b : Nat} (ha : a < 1024) (hb : b < 1024) (h : nI a = nI b) : a = b := by
  have w := congrArg Int32.toInt h
  rw [kn_to (by omega), kn_to (by omega)] at w
  omega
theorem cO_b {k O : Nat → Int32} {N up m s : Nat} (h : cDn k N up O m) (h1 : m ≤ s) (h2 : s < 2 ^ N) (h3 : s &&& up = up) : kb 0 (O s) 3628800 := by
  have w := (h s h1 h2 h3).2.2
  have f : oB s ≤ 3628800 := by
    unfold oB
    have g : ∀ n : Fin 11, fac n.val ≤ 3628800 := by decide
    exact g ⟨10 - pop s, by omega⟩
  exact ⟨w.1, by omega⟩
theorem upM_cl {k : Nat → Int32} (hk : kK k) : (upM k).toNatClampNeg = bM (upB k) (kPn k) := by
  have w := bM_10 (upB k) (kPn_b hk).1
  unfold upM Int32.toNatClampNeg
  rw [kn_to (by omega)]
  omega
theorem pop_leN {N s : Nat} (hN : N ≤ 10) (h : s < 2 ^ N) : pop s ≤ N := by
  have hp := p2 hN
  have w : ∀ (n : Fin 11) (s : Fin 1024), s.val < 2 ^ n.val → pop s.val ≤ n.val := by decide +kernel
  exact w ⟨N, by omega⟩ ⟨s, by omega⟩ h
theorem rows_eq2 {k O O' : Nat → Int32} {x y v v' : Int32} (hk : kK k) (h : (x.toInt < -1 ∧ v = -1) ∨ (wOR k (kPn k) (bM (upB k) (kPn k)) O ∧ rowsR k O x y v)) (h' : (x.toInt < -1 ∧ v' = -1) ∨ (wOR k (kPn k) (bM (upB k) (kPn k)) O' ∧ rowsR k O' x y v')) : v = v' := by
  have zn : (-1 : Int32).toInt = -1 := by decide +kernel
  have key : ∀ {O : Nat → Int32} {v : Int32}, x.toInt < -1 → rowsR k O x y v → v = -1 := by
    intro O v hx hr
    rcases hr with ⟨a, _⟩ | ⟨_, a, _⟩ | ⟨_, _, a⟩
    · rw [a, zn] at hx; omega
    · have w := a.1; omega
    · exact a
  rcases h with ⟨a, b⟩ | ⟨a, b⟩ <;> rcases h' with ⟨a', b'⟩ | ⟨a', b'⟩
  · rw [b, b']
  · rw [b, key a b']
  · rw [b', key a' b]
  · exact rows_eq hk a a' b b'
theorem wO_c {k O : Nat → Int32} {N up : Nat} (hN : N ≤ 10) (h : wOR k N up O) : cDn k N up O 0 := by
  have hp := p2 hN
  have e1 : (1 : Int32).toInt = 1 := by decide +kernel
  have key : ∀ d, d ≤ 2 ^ N → cDn k N up O (2 ^ N - d) := by
    intro d
    induction d with
    | zero => intro _; exact cDn_z
    | succ d ih =>
      intro hd
      have w := ih (by omega)
      intro t g1 g2 g3
      by_cases c : t = 2 ^ N - (d + 1)
      · have hs : 2 ^ N - d = t + 1 := by omega
        rw [hs] at w
        by_cases c2 : t = 2 ^ N - 1
        · have h9 : 1 ≤ oB t := (chkF ⟨t, by omega⟩).2
          have ho : O t = 1 := by rw [c2]; exact h.1
          rw [ho, e1]
          exact ⟨fun q => by omega, fun _ => rfl, by decide, by omega⟩
        · have v1 := cS_10 hN w (Nat.le_refl _) g2 g3 N (Nat.le_refl _)
          have v2 := v1.2.2 (by omega)
          have v3 := h.2 t (by omega) g3
          exact ⟨fun _ => v3, fun q => absurd q c2, by omega, by omega⟩
      · exact w t (by omega) g2 g3
  have w := key (2 ^ N) (Nat.le_refl _)
  rw [Nat.sub_self] at w
  exact w
set_option maxHeartbeats 4000000 in
set_option maxRecDepth 100000 in
theorem n_laysOrders  (l : Launch) {D : va_G} {K : Nat → ClassId} (o : Nat) (r : Nat → Nat) (f : Nat → Int32) (a : Nat → Nat → Int32) (g : Nat → Int64) (hI : mI f a)     : kV l yX12_laysOrders (Cond.code yX12_laysOrders cX12_laysOrders 5 none :: kG) (rmD 3 0 0) D (tysK K) [.ref o] (mW K o r f a g) (fun (u : mS) => mI u.1 u.2.1 ∧ mE (XR []) f a u.1 u.2.1 ∧ oDn (a 2) (a 2 102).toInt.toNat (u.2.1 35) 0 ∧ u.2.1 35 (2 ^ (a 2 102).toInt.toNat - 1) = 1 ∧ mZ [] [35] f a u.1 u.2.1) (fun u => mW K o r u.1 u.2.1 u.2.2) 0 0 := by
  refine kV.of (cc := cX12_laysOrders) (maxL := 5) (ret := none) (by decide) rfl (Nat.le_of_ble_eq_true rfl) ?_
  intro p e s m below meth c A hx hb hr hml hown hts hlocks hnm hK hP hD hS hA ls hl
  have hE : mE (XR []) f a f a := mE_rf
  have hZ : mZ [] [35] f a f a := mZ_rf
  have hg : ∀ w ∈ kG, w.before _ s = true := fun w h => hts w (List.mem_cons_of_mem _ h)
  have hown : s.vm.findClass RX12 = some m.cls := hown
  have hl : lv_has ls 5 [(0, .ref o)] := hl
  obtain ⟨cN, ecN⟩ : ∃ z : Int32, z = a 2 102 := ⟨_, rfl⟩
  have b1 : kb 0 cN 10 := kb_eq ecN (aI_at hI.2.1 2 102 (by decide) (by decide))
  obtain ⟨N, hN⟩ : ∃ N : Nat, (N : Int) = cN.toInt := ⟨cN.toInt.toNat, by have w1 := (b1).1; omega⟩
  have hN10 : N ≤ 10 := by have w1 := (b1).2; omega
  have hp2 := p2 hN10
  refine lv_aload_n hx hb dX12_laysOrders_0 rfl (lv_at hl 0 rfl) ?_
  refine kI.callV (As := []) (rest := []) ⟨hx, hb, hml, hown, hg⟩ (m2_allParts l o r f a g hI   ) (cwV 0 hg (kgV wt7_187 wt7_189 wp7_1 wt1_14 wt7_190) rfl rfl rfl (by decide +kernel) ⟨by decide, by decide⟩) hK hP hD hS hA mIs [] rfl (wr := []) rfl rfl rfl (fun i h => by cases h) 0 12 rfl rfl rfl hl.1 rfl (Nat.le_of_ble_eq_true rfl) dX12_laysOrders_1 ⟨Nat.le_refl _, Nat.le_refl _⟩ (fun v3 u4 H locs hw2 hP hD hS => ?_)
  have hP : va_P D vwCl (mW K o r f a g) H := hP
  have hD : va_D A (mW K o r f a g) := hD
  refine lv_istore_n (lv' := [(1, .int v3), (0, .ref o)]) hx hb dX12_laysOrders_4 rfl hl (by decide) rfl (fun ls hl => ?_)
  refine lv_aload_n hx hb dX12_laysOrders_5 rfl (lv_at hl 1 rfl) ?_
  refine va_get (D := D) (ci := 12) (v := .ref (r 35)) (C := RX12) (T := TX12) (N := 48) hx hb hg inC12 hown hK hP 0 rfl rfl 35 (by decide) (hg _ wt5_195) (fun _ h9 => h9) rfl dX12_laysOrders_6 ?_
  refine lv_iload_n hx hb dX12_laysOrders_9 rfl (lv_at hl 0 rfl) ?_
  refine lv_iconst (v := 1) hx hb dX12_laysOrders_10 (by decide) ?_
  refine va_iast hx hb hK hP hD hS 18 0 rfl rfl (kb_in hw2.1 (by decide) (by decide)) dX12_laysOrders_11 (fun H locs hP hD hS => ?_)
  have hP : va_P D vwCl (mW K o r f (va_up a 35 (upd (a 35) v3.toNatClampNeg 1)) g) H := hP
  have hD : va_D A (mW K o r f (va_up a 35 (upd (a 35) v3.toNatClampNeg 1)) g) := hD
  refine k_gen (P := fun z => va_P D vwCl (mW K o r f z g) H ∧ va_D A (mW K o r f z g) ∧ (mI f z) ∧ (mE (XR []) f a f z) ∧ (mZ [] [35] f a f z)) (va_up a 35 (upd (a 35) v3.toNatClampNeg 1)) ⟨hP, hD, (mI_s hI (aI_free hI.2.1 35 _ (fun j => ⟨by show (mBa 35 j).1 ≤ _; exact Int.le_refl _, by show _ ≤ (mBa 35 j).2; exact Int.le_refl _⟩)) (by decide) (by decide)), (mE_s hE (by decide) (by decide) (by decide) (by decide)), (mZ_a hZ rfl)⟩ (fun a_5 ea_5 hq => ?_)
  obtain ⟨hP, hD, hI, hE, hZ⟩ := hq
  have hNN : (a 2 102).toInt.toNat = N := by rw [← ecN]; omega
  have hall : v3.toInt = ((2 ^ N - 1 : Nat) : Int) := by rw [← hNN]; exact hw2.2
  have hO0 : oDn (a 2) N (a_5 35) (2 ^ N - 1) := by refine oDn_0 hN10 ?_; rw [← ea_5]; have w1 : v3.toNatClampNeg = 2 ^ N - 1 := (by unfold Int32.toNatClampNeg; omega); show upd (a 35) v3.toNatClampNeg 1 (2 ^ N - 1) = 1; rw [w1]; exact pk_us
  have hK2 : a_5 2 = a 2 := mE_all hE
  have hO1 : a_5 35 (2 ^ N - 1) = 1 := by rw [← ea_5]; have w1 : v3.toNatClampNeg = 2 ^ N - 1 := (by unfold Int32.toNatClampNeg; omega); show upd (a 35) v3.toNatClampNeg 1 (2 ^ N - 1) = 1; rw [w1]; exact pk_us
  refine lv_iload_n hx hb dX12_laysOrders_12 rfl (lv_at hl 0 rfl) ?_
  refine lv_iconst (v := 1) hx hb dX12_laysOrders_13 (by decide) ?_
  refine lv_isub hx hb dX12_laysOrders_14 ?_
  refine lv_topi (fun t6 et6 => ?_)
  have b7 : kb (-1) t6 1022 := kb_eq et6 (kb_sub hw2.1 kc_1 (by decide) (by decide))
  have qt6 : t6.toInt = v3.toInt - 1 := by rw [et6]; exact kt_subc hw2.1 kc_1 (by decide) (by decide)
  refine lv_istore_n (lv' := [(2, .int t6), (1, .int v3), (0, .ref o)]) hx hb dX12_laysOrders_15 rfl hl (by decide) rfl (fun ls hl => ?_)
  have lp10 : ∀ (n11 : Nat) (mz : Nat) (B9 : Nat → Nat → Int32) (H : Heap) (locs : List Loc) (ls : Array Slot) (y8 : Int32), ((mz : Int) < (n11 : Int)) → (mI f B9) → (mE (XR []) f a f B9) → (mZ [] [35] f a f B9) → (kb (-1) y8 1022) → (y8.toInt = (mz : Int) - 1) → (oDn (a 2) N (B9 35) mz) → (mz ≤ 2 ^ N - 1) → (B9 2 = a 2) → (B9 35 (2 ^ N - 1) = 1) → va_P D vwCl (mW K o r f B9 g) H → va_D A (mW K o r f B9 g) → va_S A s.heap H locs → lv_has ls 5 [(2, .int y8), (1, .int v3), (0, .ref o)] → W p l e (rmD 3 0 0) s m ([.ref o] : List Value).toArray below meth c H locs 0 0 (kQv D (tysK K) (fun (u : mS) => mI u.1 u.2.1 ∧ mE (XR []) f a u.1 u.2.1 ∧ oDn (a 2) (a 2 102).toInt.toNat (u.2.1 35) 0 ∧ u.2.1 35 (2 ^ (a 2 102).toInt.toNat - 1) = 1 ∧ mZ [] [35] f a u.1 u.2.1) (fun u => mW K o r u.1 u.2.1 u.2.2) A below ([.ref o] : List Value).toArray s 0 0) (F0 m 16 ls []) := by
    intro n11
    induction n11 with
    | zero =>
      intro mz B9  H locs ls y8 hmlp10 hI hE hZ b12 hvlp10_0 hvlp10_1 hvlp10_2 hvlp10_3 hvlp10_4 hP hD hS hl
      exact (by have w1 := hmlp10; omega : False).elim
    | succ n11 ihlp10 =>
      intro mz B9  H locs ls y8 hmlp10 hI hE hZ b12 hvlp10_0 hvlp10_1 hvlp10_2 hvlp10_3 hvlp10_4 hP hD hS hl
      have hK2 := hvlp10_3
      refine lv_iload_n hx hb dX12_laysOrders_16 rfl (lv_at hl 0 rfl) ?_
      refine lv_if_lt (tgt := 84) hx hb dX12_laysOrders_17 (by decide) (fun c13 => ?_) (fun c13 => ?_)
      · have h14 := (kc_lt c13)
        have b15 : kb (-1) y8 (-1) := kr_lt1 h14 b12 kc_0 (by decide)
        exact kV_ret hx hb hr hlocks hK hS dX12_laysOrders_84 (f, B9, g) hP hD ⟨hI, hE, (by rw [← ecN]; have w1 : mz = 0 := (by have w2 := hvlp10_0; have w3 := (b15); unfold kb at w3; omega); have w4 := hvlp10_1; rw [w1] at w4; rw [show cN.toInt.toNat = N by omega]; exact w4), (by rw [← ecN]; rw [show cN.toInt.toNat = N by omega]; exact hvlp10_4), hZ⟩
      · have h16 := (kc_nlt c13)
        have b17 : kb 0 y8 1022 := kr_le2 h16 kc_0 b12
        have hm1 : 1 ≤ mz := by have w1 := (b17).1; have w2 := hvlp10_0; omega
        have hms : y8.toInt = ((mz - 1 : Nat) : Int) := by have w2 := hvlp10_0; omega
        refine lv_iconst (v := 0) hx hb dX12_laysOrders_20 (by decide) ?_
        refine lv_istore_n (lv' := [(3, .int 0), (2, .int y8), (1, .int v3), (0, .ref o)]) hx hb dX12_laysOrders_21 rfl hl (by decide) rfl (fun ls hl => ?_)
        refine lv_iconst (v := 0) hx hb dX12_laysOrders_22 (by decide) ?_
        refine lv_istore (lv' := [(4, .int 0), (3, .int 0), (2, .int y8), (1, .int v3), (0, .ref o)]) hx hb dX12_laysOrders_23 hl (by decide) rfl (fun ls hl => ?_)
        have lp20 : ∀ (n21 : Nat) (q : Nat) (H : Heap) (locs : List Loc) (ls : Array Slot) (y18 : Int32) (y19 : Int32), ((N : Int) < (q : Int) + (n21 : Int)) → (kb 0 y18 10) → (kb 0 y19 3628800) → (y19.toInt = pSr (a 2) (B9 35) (mz - 1) q) → (y18.toInt = (q : Int)) → (q ≤ N) → va_P D vwCl (mW K o r f B9 g) H → va_D A (mW K o r f B9 g) → va_S A s.heap H locs → lv_has ls 5 [(4, .int y18), (3, .int y19), (2, .int y8), (1, .int v3), (0, .ref o)] → W p l e (rmD 3 0 0) s m ([.ref o] : List Value).toArray below meth c H locs 0 0 (kQv D (tysK K) (fun (u : mS) => mI u.1 u.2.1 ∧ mE (XR []) f a u.1 u.2.1 ∧ oDn (a 2) (a 2 102).toInt.toNat (u.2.1 35) 0 ∧ u.2.1 35 (2 ^ (a 2 102).toInt.toNat - 1) = 1 ∧ mZ [] [35] f a u.1 u.2.1) (fun u => mW K o r u.1 u.2.1 u.2.2) A below ([.ref o] : List Value).toArray s 0 0) (F0 m 25 ls []) := by
          intro n21
          induction n21 with
          | zero =>
            intro q  H locs ls y18 y19 hmlp20 b22 b23 hvlp20_0 hvlp20_1 hvlp20_2 hP hD hS hl
            exact (by have w1 := hmlp20; have w2 := hvlp20_2; omega : False).elim
          | succ n21 ihlp20 =>
            intro q  H locs ls y18 y19 hmlp20 b22 b23 hvlp20_0 hvlp20_1 hvlp20_2 hP hD hS hl
            refine lv_iload hx hb dX12_laysOrders_25 (lv_at hl 0 rfl) ?_
            refine lv_aload_n hx hb dX12_laysOrders_27 rfl (lv_at hl 4 rfl) ?_
            refine va_get (D := D) (ci := 12) (v := .ref (r 2)) (C := RX12) (T := TX12) (N := 48) hx hb hg inC12 hown hK hP 0 rfl rfl 2 (by decide) (hg _ wt5_162) (fun _ h9 => h9) rfl dX12_laysOrders_28 ?_
            refine lv_bipush (v := 102) hx hb dX12_laysOrders_31 (by decide) ?_
            refine va_iald hx hb hK hP 2 0 rfl rfl (kb_in kc_102 (by decide) (by decide)) dX12_laysOrders_33 ?_
            refine k_top (z := cN) (by rw [cl_102]; exact ((congrFun hK2 102).trans ecN.symm)) ?_
            refine lv_icmp_ge (tgt := 71) hx hb dX12_laysOrders_34 (by decide) (fun c24 => ?_) (fun c24 => ?_)
            · have h25 := (kc_le c24)
              have hqN : q = N := by have w1 := hvlp20_1; have w2 := hvlp20_2; omega
              have hin0 := hvlp20_0
              refine lv_aload_n hx hb dX12_laysOrders_71 rfl (lv_at hl 4 rfl) ?_
              refine va_get (D := D) (ci := 12) (v := .ref (r 35)) (C := RX12) (T := TX12) (N := 48) hx hb hg inC12 hown hK hP 0 rfl rfl 35 (by decide) (hg _ wt5_195) (fun _ h9 => h9) rfl dX12_laysOrders_72 ?_
              refine lv_iload_n hx hb dX12_laysOrders_75 rfl (lv_at hl 2 rfl) ?_
              refine lv_iload_n hx hb dX12_laysOrders_76 rfl (lv_at hl 1 rfl) ?_
              refine va_iast hx hb hK hP hD hS 18 0 rfl rfl (kb_in b17 (by decide) (by decide)) dX12_laysOrders_77 (fun H locs hP hD hS => ?_)
              have hP : va_P D vwCl (mW K o r f (va_up B9 35 (upd (B9 35) y8.toNatClampNeg y19)) g) H := hP
              have hD : va_D A (mW K o r f (va_up B9 35 (upd (B9 35) y8.toNatClampNeg y19)) g) := hD
              refine k_gen (P := fun z => va_P D vwCl (mW K o r f z g) H ∧ va_D A (mW K o r f z g) ∧ (mI f z) ∧ (mE (XR []) f a f z) ∧ (mZ [] [35] f a f z)) (va_up B9 35 (upd (B9 35) y8.toNatClampNeg y19)) ⟨hP, hD, (mI_s hI (aI_free hI.2.1 35 _ (fun j => ⟨by show (mBa 35 j).1 ≤ _; exact Int.le_refl _, by show _ ≤ (mBa 35 j).2; exact Int.le_refl _⟩)) (by decide) (by decide)), (mE_s hE (by decide) (by decide) (by decide) (by decide)), (mZ_a hZ rfl)⟩ (fun a_26 ea_26 hq => ?_)
              obtain ⟨hP, hD, hI, hE, hZ⟩ := hq
              obtain ⟨t27, et27⟩ : ∃ z : Int32, z = y8 + Int32.ofInt (-1) := ⟨_, rfl⟩
              have qt27 : t27.toInt = y8.toInt - 1 := by rw [et27]; exact km_dec b17 (by decide)
              have b28 : kb (-1) t27 1021 := kb_inc (k := (-1)) qt27 b17
              refine lv_iinc (v := t27) (lv' := [(2, .int t27), (4, .int y18), (3, .int y19), (1, .int v3), (0, .ref o)]) hx hb dX12_laysOrders_78 hl (k := 2) rfl et27.symm (by decide) rfl (fun ls hl => ?_)
              refine lv_goto (tgt := 16) hx hb dX12_laysOrders_81 (by decide) ?_
              exact ihlp10 (mz - 1) a_26 _ _ _ t27 (by omega) hI hE hZ (kb_w b28 (by decide) (by decide)) (by have w1 := qt27; have w2 := hvlp10_0; omega) (by rw [← ea_26]; have w1 : y8.toNatClampNeg = mz - 1 := (by have w2 := hvlp10_0; unfold Int32.toNatClampNeg; omega); show oDn (a 2) N (upd (B9 35) y8.toNatClampNeg y19) (mz - 1); rw [w1]; refine oDn_s hN10 (by rw [show mz - 1 + 1 = mz by omega]; exact hvlp10_1) (by omega) ?_; have w3 := hin0; rw [hqN] at w3; exact w3) (by have w1 := hvlp10_2; omega) (mE_all hE) (by rw [← ea_26]; have w1 : y8.toNatClampNeg = mz - 1 := (by have w2 := hvlp10_0; unfold Int32.toNatClampNeg; omega); show upd (B9 35) y8.toNatClampNeg y19 (2 ^ N - 1) = 1; rw [w1, pk_un (by have w3 := hvlp10_2; have w4 := hm1; omega)]; exact hvlp10_4) hP hD hS (lv_sub hl [0, 3, 4] rfl)
            · have h29 := (kc_nle c24)
              have b30 : kb 0 y18 9 := kr_lt1 h29 b22 b1 (by decide)
              have b31 : kb 1 cN 10 := kr_lt2 h29 b22 b1 (by decide)
              have hqN1 : q < N := by have w1 := hvlp20_1; omega
              refine lv_iload_n hx hb dX12_laysOrders_37 rfl (lv_at hl 1 rfl) ?_
              refine lv_aload_n hx hb dX12_laysOrders_38 rfl (lv_at hl 4 rfl) ?_
              refine lv_iload_n hx hb dX12_laysOrders_39 rfl (lv_at hl 2 rfl) ?_
              refine lv_iload hx hb dX12_laysOrders_40 (lv_at hl 0 rfl) ?_
              refine kI.callV (As := [.int y8, .int y18]) (rest := [.int y19]) ⟨hx, hb, hml, hown, hg⟩ (m2_canFollow l o r f B9 g hI y8 y18 (kb_w b17 (by decide) (by decide)) b30 ) (cwV 2 hg (kgV wt7_191 wt7_193 wp7_2 wt1_14 wt7_194) rfl rfl rfl (by decide +kernel) ⟨by decide, by decide⟩) hK hP hD hS hA mIs [] rfl (wr := []) rfl rfl rfl (fun i h => by cases h) 0 12 rfl rfl rfl hl.1 rfl (Nat.le_of_ble_eq_true rfl) dX12_laysOrders_42 ⟨Nat.le_refl _, Nat.le_refl _⟩ (fun v33 u34 H locs hw32 hP hD hS => ?_)
              have hP : va_P D vwCl (mW K o r f B9 g) H := hP
              have hD : va_D A (mW K o r f B9 g) := hD
              refine lv_if_eq (tgt := 62) hx hb dX12_laysOrders_45 (by decide) (fun c35 => ?_) (fun c35 => ?_)
              · have b36 : kb 0 v33 0 := kb_eq c35 kc_0
                have hfn37 : ¬ fB (a 2) (mz - 1) q = true := fB_n (by rw [hw32.2, hK2]) hms hvlp20_1 (by omega) (by omega) c35
                refine lv_iconst (v := 0) hx hb dX12_laysOrders_62 (by decide) ?_
                refine lv_iadd hx hb dX12_laysOrders_63 ?_
                refine lv_topi (fun t38 et38 => ?_)
                have b39 : kb 0 t38 3628800 := kb_eq et38 (kb_add b23 kc_0 (by decide) (by decide))
                have qt38 : t38.toInt = y19.toInt + 0 := by rw [et38]; exact kt_addc b23 kc_0 (by decide) (by decide)
                refine lv_istore_n (lv' := [(3, .int t38), (4, .int y18), (2, .int y8), (1, .int v3), (0, .ref o)]) hx hb dX12_laysOrders_64 rfl hl (by decide) rfl (fun ls hl => ?_)
                obtain ⟨t40, et40⟩ : ∃ z : Int32, z = y18 + Int32.ofInt 1 := ⟨_, rfl⟩
                have qt40 : t40.toInt = y18.toInt + 1 := by rw [et40]; exact km_inc b30 (by decide) (by decide)
                have b41 : kb 1 t40 10 := kb_inc (k := 1) qt40 b30
                refine lv_iinc (v := t40) (lv' := [(4, .int t40), (3, .int t38), (2, .int y8), (1, .int v3), (0, .ref o)]) hx hb dX12_laysOrders_65 hl (k := 1) rfl et40.symm (by decide) rfl (fun ls hl => ?_)
                refine lv_goto (tgt := 25) hx hb dX12_laysOrders_68 (by decide) ?_
                exact ihlp20 (q + 1) _ _ _ t40 t38 (by omega) (kb_w b41 (by decide) (by decide)) b39 (by rw [pS_n hfn37]; have w1 := qt38; have w2 := hvlp20_0; omega) (by have w1 := hvlp20_1; omega) (by omega) hP hD hS (lv_sub hl [0, 1, 2, 3, 4] rfl)
              · have b42 : kb 1 v33 1 := kr_nel c35 hw32.1 kc_0 (by decide)
                have hfy43 : fB (a 2) (mz - 1) q = true := fB_y (by rw [hw32.2, hK2]) hms hvlp20_1 (by omega) (by omega) c35 hw32.1
                refine lv_aload_n hx hb dX12_laysOrders_48 rfl (lv_at hl 4 rfl) ?_
                refine va_get (D := D) (ci := 12) (v := .ref (r 35)) (C := RX12) (T := TX12) (N := 48) hx hb hg inC12 hown hK hP 0 rfl rfl 35 (by decide) (hg _ wt5_195) (fun _ h9 => h9) rfl dX12_laysOrders_49 ?_
                refine lv_iload_n hx hb dX12_laysOrders_52 rfl (lv_at hl 2 rfl) ?_
                refine lv_iconst (v := 1) hx hb dX12_laysOrders_53 (by decide) ?_
                refine lv_iload hx hb dX12_laysOrders_54 (lv_at hl 0 rfl) ?_
                refine lv_ishl hx hb dX12_laysOrders_56 ?_
                refine lv_topi (fun t44 et44 => ?_)
                have b45 : kb 1 t44 512 := kb_eq et44 (kb_shl (l := 0) (h := 9) b30 (by decide))
                refine lv_ior hx hb dX12_laysOrders_57 ?_
                refine lv_topi (fun t46 et46 => ?_)
                have b47 : kb 0 t46 1023 := kb_eq et46 (kb_or 10 b17 b45 (by decide) (by decide) (by decide) (by decide) (by decide))
                refine va_iald hx hb hK hP 18 0 rfl rfl (kb_in b47 (by decide) (by decide)) dX12_laysOrders_58 ?_
                refine lv_topi (fun t48 et48 => ?_)
                have hix := cl_or (t := t46) (by rw [et46, et44]) hms hvlp20_1 (by omega) (by omega)
                have hoo : B9 35 (mz - 1 ||| 2 ^ q) = t48 := by rw [← hix.1]; exact et48.symm
                have b49 : kb 0 t48 3628800 := kb_eq hoo.symm (oDn_b hN10 hvlp10_1 (by have w1 := or_gt (fB_t (by omega) (by omega) hfy43); omega) (or_lt (by omega) hqN1))
                refine lv_goto (tgt := 63) hx hb dX12_laysOrders_59 (by decide) ?_
                refine lv_iadd hx hb dX12_laysOrders_63 ?_
                refine lv_topi (fun t50 et50 => ?_)
                have b51 : kb 0 t50 7257600 := kb_eq et50 (kb_add b23 b49 (by decide) (by decide))
                have qt50 : t50.toInt = y19.toInt + t48.toInt := by rw [et50]; exact kt_add b23 b49 (by decide) (by decide)
                refine lv_istore_n (lv' := [(3, .int t50), (4, .int y18), (2, .int y8), (1, .int v3), (0, .ref o)]) hx hb dX12_laysOrders_64 rfl hl (by decide) rfl (fun ls hl => ?_)
                have hnq : t50.toInt = pSr (a 2) (B9 35) (mz - 1) (q + 1) := by rw [pS_y hfy43]; have w1 := qt50; have w2 := hvlp20_0; have w3 : (B9 35 (mz - 1 ||| 2 ^ q)).toInt = t48.toInt := (by rw [← hoo]); omega
                have b52 : kb 0 t50 3628800 := pS_kb hN10 hvlp10_1 (by omega) (by omega) (by omega) hnq
                obtain ⟨t53, et53⟩ : ∃ z : Int32, z = y18 + Int32.ofInt 1 := ⟨_, rfl⟩
                have qt53 : t53.toInt = y18.toInt + 1 := by rw [et53]; exact km_inc b30 (by decide) (by decide)
                have b54 : kb 1 t53 10 := kb_inc (k := 1) qt53 b30
                refine lv_iinc (v := t53) (lv' := [(4, .int t53), (3, .int t50), (2, .int y8), (1, .int v3), (0, .ref o)]) hx hb dX12_laysOrders_65 hl (k := 1) rfl et53.symm (by decide) rfl (fun ls hl => ?_)
                refine lv_goto (tgt := 25) hx hb dX12_laysOrders_68 (by decide) ?_
                exact ihlp20 (q + 1) _ _ _ t53 t50 (by omega) (kb_w b54 (by decide) (by decide)) b52 (by rw [pS_y hfy43]; have w1 := qt50; have w2 := hvlp20_0; have w3 : (B9 35 (mz - 1 ||| 2 ^ q)).toInt = t48.toInt := (by rw [← hoo]); omega) (by have w1 := hvlp20_1; omega) (by omega) hP hD hS (lv_sub hl [0, 1, 2, 3, 4] rfl)
        exact lp20 (N + 1) 0 _ _ _ 0 0 (by omega) (kb_w kc_0 (by decide) (by decide)) (kb_w kc_0 (by decide) (by decide)) (by show (0 : Int32).toInt = 0; decide +kernel) (by decide +kernel) (Nat.zero_le _) hP hD hS (lv_sub hl [0, 1, 2, 3, 4] rfl)
  exact lp10 (2 ^ N) (2 ^ N - 1) a_5 _ _ _ t6 (by omega) hI hE hZ b7 (by have w1 := qt6; omega) (hO0) (Nat.le_refl _) (hK2) (hO1) hP hD hS (lv_sub hl [0, 1, 2] rfl)
set_option maxHeartbeats 4000000 in
set_option maxRecDepth 100000 in
theorem n_rows  (l : Launch) {D : va_G} {K : Nat → ClassId} (o : Nat) (r : Nat → Nat) (f : Nat → Int32) (a : Nat → Nat → Int32) (g : Nat → Int64) (hI : mI f a) (x : Int32) (y : Int32)   (hp0 : kK (a 2)) : kI l yX12_rows (Cond.code yX12_rows cX12_rows 7 (some .int) :: kG) (rmD 4 0 0) D (tysK K) [.ref o, .int x, .int y] (mW K o r f a g) (fun v (u : mS) => kb (-2147483648) v 2147483647 ∧ mI u.1 u.2.1 ∧ mE (XR []) f a u.1 u.2.1 ∧ ((x.toInt < -1 ∧ v = -1) ∨ (wOR (a 2) (kPn (a 2)) (bM (upB (a 2)) (kPn (a 2))) (u.2.1 35) ∧ rowsR (a 2) (u.2.1 35) x y v)) ∧ mZ [] [35] f a u.1 u.2.1) (fun u => mW K o r u.1 u.2.1 u.2.2) 0 0 := by
  refine kI.of (cc := cX12_rows) (maxL := 7) (ret := (some .int)) (by decide) rfl (Nat.le_of_ble_eq_true rfl) ?_
  intro p e s m below meth c A hx hb hr hml hown hts hlocks hnm hK hP hD hS hA ls hl
  have hE : mE (XR []) f a f a := mE_rf
  have hZ : mZ [] [35] f a f a := mZ_rf
  have hg : ∀ w ∈ kG, w.before _ s = true := fun w h => hts w (List.mem_cons_of_mem _ h)
  have hown : s.vm.findClass RX12 = some m.cls := hown
  have hl : lv_has ls 7 [(0, .ref o), (1, .int x), (2, .int y)] := hl
  have e00 : (0 : Int32).toInt = 0 := by decide +kernel
  obtain ⟨cN, ecN⟩ : ∃ z : Int32, z = a 2 102 := ⟨_, rfl⟩
  have b1 : kb 0 cN 10 := kb_eq ecN (aI_at hI.2.1 2 102 (by decide) (by decide))
  obtain ⟨N, hN⟩ : ∃ N : Nat, (N : Int) = cN.toInt := ⟨cN.toInt.toNat, by have w1 := (b1).1; omega⟩
  have hN10 : N ≤ 10 := by have w1 := (b1).2; omega
  have hp2 := p2 hN10
  obtain ⟨s0, es0⟩ : ∃ s0 : Nat, s0 = bM (upB (a 2)) N := ⟨_, rfl⟩
  have hs1 : s0 < 2 ^ N := by rw [es0]; exact bM_lt _ _
  refine lv_iload_n hx hb dX12_rows_0 rfl (lv_at hl 1 rfl) ?_
  refine lv_iconst (v := (-1)) hx hb dX12_rows_1 (by decide) ?_
  refine lv_icmp_ge (tgt := 7) hx hb dX12_rows_2 (by decide) (fun c2 => ?_) (fun c2 => ?_)
  · have h3 := (kc_le c2)
    have b4 : kb (-1) x 2147483647 := kr_le2 h3 kc_m1 (kb_any x)
    refine lv_aload_n hx hb dX12_rows_7 rfl (lv_at hl 0 rfl) ?_
    refine kV.callV (As := []) (rest := []) ⟨hx, hb, hml, hown, hg⟩ (n_laysOrders l o r f a g hI   ) (cwV 0 hg (kgV wt7_183 wt7_185 wp7_0 wt1_14 wt7_186) rfl rfl rfl (by decide +kernel) ⟨by decide, by decide⟩) hK hP hD hS hA mIs [] rfl (wr := []) rfl rfl rfl (fun i h => by cases h) 0 12 rfl rfl rfl hl.1 rfl (Nat.le_of_ble_eq_true rfl) dX12_rows_8 ⟨Nat.le_refl _, Nat.le_refl _⟩ (fun u7 H locs hw5 hP hD hS => ?_)
    obtain ⟨f8, a9, g10⟩ := u7
    have hP : va_P D vwCl (mW K o r f8 a9 g10) H := hP
    have hD : va_D A (mW K o r f8 a9 g10) := hD
    have hI : mI f8 a9 := hw5.1
    have hE : mE (XR []) f a f8 a9 := mE_tr hE hw5.2.1
    have eE11 : mE (XR []) f a f8 a9 := hw5.2.1
    have eZ12 : mZ [] [35] f a f8 a9 := hw5.2.2.2.2
    have hZ : mZ [] [35] f a f8 a9 := mZ_tr hZ (mZ_w (by decide) (by decide) eZ12)
    have hK2 : a9 2 = a 2 := mE_all eE11
    have hNN : (a 2 102).toInt.toNat = N := by rw [← ecN]; omega
    have hO : oDn (a 2) N (a9 35) 0 := by rw [← hNN]; exact hw5.2.2.1
    have hO1 : a9 35 (2 ^ N - 1) = 1 := by rw [← hNN]; exact hw5.2.2.2.1
    have hwO : wOR (a 2) N s0 (a9 35) := ⟨hO1, fun s hs _ => (hO s (Nat.zero_le _) (by omega)).1 hs⟩
    refine lv_aload_n hx hb dX12_rows_11 rfl (lv_at hl 0 rfl) ?_
    refine kI.callV (As := []) (rest := []) ⟨hx, hb, hml, hown, hg⟩ (n_standing l o r f8 a9 g10 hI   (by rw [hK2]; exact hp0)) (cwV 0 hg (kgV wt6_116 wt6_118 wp3_13 wt1_14 wt6_119) rfl rfl rfl (by decide +kernel) ⟨by decide, by decide⟩) hK hP hD hS hA mIs [] rfl (wr := []) rfl rfl rfl (fun i h => by cases h) 0 12 rfl rfl rfl hl.1 rfl (Nat.le_of_ble_eq_true rfl) dX12_rows_12 ⟨Nat.le_refl _, Nat.le_refl _⟩ (fun v14 u15 H locs hw13 hP hD hS => ?_)
    have hP : va_P D vwCl (mW K o r f8 a9 g10) H := hP
    have hD : va_D A (mW K o r f8 a9 g10) := hD
    refine lv_istore_n (lv' := [(3, .int v14), (0, .ref o), (1, .int x), (2, .int y)]) hx hb dX12_rows_15 rfl hl (by decide) rfl (fun ls hl => ?_)
    have hs0 : v14.toInt = (s0 : Int) := by rw [hw13.2, hK2]; unfold upM; rw [show kPn (a 2) = N from hNN, ← es0]; exact kn_to (by omega)
    refine lv_iload_n hx hb dX12_rows_16 rfl (lv_at hl 2 rfl) ?_
    refine lv_iconst (v := (-1)) hx hb dX12_rows_17 (by decide) ?_
    refine lv_icmp_ne (tgt := 28) hx hb dX12_rows_18 (by decide) (fun c16 => ?_) (fun c16 => ?_)
    · have b17 : kb 0 x 2147483647 := kr_nel c16 b4 kc_m1 (by decide)
      refine lv_iload_n hx hb dX12_rows_28 rfl (lv_at hl 2 rfl) ?_
      refine lv_istore (lv' := [(4, .int x), (3, .int v14), (0, .ref o), (1, .int x), (2, .int y)]) hx hb dX12_rows_29 hl (by decide) rfl (fun ls hl => ?_)
      refine lv_iload_n hx hb dX12_rows_31 rfl (lv_at hl 3 rfl) ?_
      refine lv_aload_n hx hb dX12_rows_32 rfl (lv_at hl 2 rfl) ?_
      refine va_get (D := D) (ci := 12) (v := .ref (r 35)) (C := RX12) (T := TX12) (N := 48) hx hb hg inC12 hown hK hP 0 rfl rfl 35 (by decide) (hg _ wt5_195) (fun _ h9 => h9) rfl dX12_rows_33 ?_
      refine lv_iload_n hx hb dX12_rows_36 rfl (lv_at hl 1 rfl) ?_
      refine va_iald hx hb hK hP 18 0 rfl rfl (kb_in hw13.1 (by decide) (by decide)) dX12_rows_37 ?_
      refine lv_topi (fun t18 et18 => ?_)
      have ho0 : a9 35 s0 = t18 := by have w1 : v14.toNatClampNeg = s0 := (by unfold Int32.toNatClampNeg; omega); rw [← w1]; exact et18.symm
      refine lv_icmp_ge (tgt := 63) hx hb dX12_rows_38 (by decide) (fun c19 => ?_) (fun c19 => ?_)
      · have h20 := (kc_le c19)
        refine lv_iconst (v := (-1)) hx hb dX12_rows_63 (by decide) ?_
        exact kI_ret (v := (-1)) hx hb hr hlocks rfl hK hS dX12_rows_64 (f8, a9, g10) hP hD ⟨(kb_w kc_m1 (by decide) (by decide)), hI, hE, (Or.inr (by have e1 : kPn (a 2) = N := hNN; have zn : (-1 : Int32).toInt = -1 := (by decide +kernel); unfold rowsR rwN; rw [e1, ← es0]; exact ⟨hwO, Or.inr (Or.inr ⟨c16, (fun q9 => by have w1 : x.toInt < (a9 35 s0).toInt := q9.2.1; have w2 := kc_le c19; rw [ho0] at w1; omega), rfl⟩)⟩)), hZ⟩
      · have h21 := (kc_nle c19)
        have b22 : kb 0 x 2147483646 := kr_lt1 h21 b17 (kb_any t18) (by decide)
        have b23 : kb 1 t18 2147483647 := kr_lt2 h21 b17 (kb_any t18) (by decide)
        refine lv_iload_n hx hb dX12_rows_41 rfl (lv_at hl 4 rfl) ?_
        refine lv_iconst (v := 0) hx hb dX12_rows_42 (by decide) ?_
        refine lv_aload_n hx hb dX12_rows_43 rfl (lv_at hl 2 rfl) ?_
        refine va_get (D := D) (ci := 12) (v := .ref (r 2)) (C := RX12) (T := TX12) (N := 48) hx hb hg inC12 hown hK hP 0 rfl rfl 2 (by decide) (hg _ wt5_162) (fun _ h9 => h9) rfl dX12_rows_44 ?_
        refine lv_bipush (v := 102) hx hb dX12_rows_47 (by decide) ?_
        refine va_iald hx hb hK hP 2 0 rfl rfl (kb_in kc_102 (by decide) (by decide)) dX12_rows_49 ?_
        refine k_top (z := cN) (by rw [cl_102]; exact ((congrFun (eZ12.2 2 rfl) 102).trans ecN.symm)) ?_
        refine lv_iload_n hx hb dX12_rows_50 rfl (lv_at hl 1 rfl) ?_
        refine kN.callS (As := [.int v14]) (rest := [.int cN, .int 0, .int y]) ⟨hx, hb, hml, hown, hg⟩ (m2_ones l v14 hw13.1) (va_cwS 1 hg (kgS wt7_71 wt7_72 wt1_14 wt7_73) rfl rfl rfl (by decide +kernel) ⟨by decide, by decide⟩) hP hS rfl hl.1 rfl (Nat.le_of_ble_eq_true rfl) dX12_rows_51 ⟨Nat.le_refl _, Nat.le_refl _⟩ (fun v25 H locs hw24 hP hS => ?_)
        refine lv_isub hx hb dX12_rows_54 ?_
        refine lv_topi (fun t27 et27 => ?_)
        have b28 : kb (-10) t27 10 := kb_eq et27 (kb_sub b1 hw24.1 (by decide) (by decide))
        have qt27 : t27.toInt = cN.toInt - v25.toInt := by rw [et27]; exact kt_sub b1 hw24.1 (by decide) (by decide)
        refine lv_iconst (v := 1) hx hb dX12_rows_55 (by decide) ?_
        refine lv_isub hx hb dX12_rows_56 ?_
        refine lv_topi (fun t29 et29 => ?_)
        have b30 : kb (-11) t29 9 := kb_eq et29 (kb_sub b28 kc_1 (by decide) (by decide))
        have qt29 : t29.toInt = t27.toInt - 1 := by rw [et29]; exact kt_subc b28 kc_1 (by decide) (by decide)
        refine kN.callS (As := [.int y, .int 0, .int t29]) (rest := []) ⟨hx, hb, hml, hown, hg⟩ (m_lies l y 0 t29 ) (va_cwS 3 hg (kgS wt6_69 wt6_70 wt1_14 wt6_71) rfl rfl rfl (by decide +kernel) ⟨by decide, by decide⟩) hP hS rfl hl.1 rfl (Nat.le_of_ble_eq_true rfl) dX12_rows_57 ⟨Nat.le_refl _, Nat.le_refl _⟩ (fun v32 H locs hw31 hP hS => ?_)
        refine lv_if_ne (tgt := 65) hx hb dX12_rows_60 (by decide) (fun c34 => ?_) (fun c34 => ?_)
        · have b35 : kb 1 v32 1 := kr_nel c34 hw31.1 kc_0 (by decide)
          have h36 := mLies_ne (hw31.2 ▸ c34)
          have b37 : kb 0 y 2147483647 := kr_le2 h36.1 kc_0 (kb_any y)
          have b38 : kb 0 y 9 := kr_le1 h36.2 b37 b30
          have hli := mLies_ne (hw31.2 ▸ c34)
          have hpop : (v25).toInt = ((pop s0 : Nat) : Int) := by have w1 := hw24.2; rw [show v14.toInt.toNat = s0 by omega] at w1; exact w1
          have hx0 : x.toInt < (a9 35 s0).toInt := by rw [ho0]; exact (kc_nle c19)
          refine lv_iconst (v := (-1)) hx hb dX12_rows_65 (by decide) ?_
          refine lv_istore (lv' := [(5, .int (-1)), (4, .int x), (3, .int v14), (0, .ref o), (1, .int x), (2, .int y)]) hx hb dX12_rows_66 hl (by decide) rfl (fun ls hl => ?_)
          refine lv_iconst (v := 0) hx hb dX12_rows_68 (by decide) ?_
          refine lv_istore (lv' := [(6, .int 0), (5, .int (-1)), (4, .int x), (3, .int v14), (0, .ref o), (1, .int x), (2, .int y)]) hx hb dX12_rows_69 hl (by decide) rfl (fun ls hl => ?_)
          have lp43 : ∀ (n44 : Nat) (sz : Nat) (j : Nat) (lp : Nat) (H : Heap) (locs : List Loc) (ls : Array Slot) (y39 : Int32) (y40 : Int32) (y41 : Int32) (y42 : Int32), (y.toInt + 1 < (j : Int) + (n44 : Int)) → (kb 0 y39 10) → (kb (-1) y40 9) → (kb 0 y41 2147483647) → (kb 0 y42 1023) → (y42.toInt = (sz : Int) ∧ sz < 2 ^ N) → (y39.toInt = (j : Int)) → (pop sz = pop s0 + j) → (0 ≤ y41.toInt ∧ ((j : Int) ≤ y.toInt → y41.toInt < (a9 35 sz).toInt)) → (Pth (a 2) (a9 35) N s0 x.toInt j sz y41.toInt lp ∧ (0 < j → y40.toInt = (lp : Int))) → ((j : Int) ≤ y.toInt + 1) → va_P D vwCl (mW K o r f8 a9 g10) H → va_D A (mW K o r f8 a9 g10) → va_S A s.heap H locs → lv_has ls 7 [(6, .int y39), (5, .int y40), (4, .int y41), (3, .int y42), (0, .ref o), (1, .int x), (2, .int y)] → W p l e (rmD 4 0 0) s m ([.ref o, .int x, .int y] : List Value).toArray below meth c H locs 0 0 (kQi D (tysK K) (fun v (u : mS) => kb (-2147483648) v 2147483647 ∧ mI u.1 u.2.1 ∧ mE (XR []) f a u.1 u.2.1 ∧ ((x.toInt < -1 ∧ v = -1) ∨ (wOR (a 2) (kPn (a 2)) (bM (upB (a 2)) (kPn (a 2))) (u.2.1 35) ∧ rowsR (a 2) (u.2.1 35) x y v)) ∧ mZ [] [35] f a u.1 u.2.1) (fun u => mW K o r u.1 u.2.1 u.2.2) A below ([.ref o, .int x, .int y] : List Value).toArray s 0 0) (F0 m 71 ls []) := by
            intro n44
            induction n44 with
            | zero =>
              intro sz j lp  H locs ls y39 y40 y41 y42 hmlp43 b45 b46 b47 b48 hvlp43_0 hvlp43_1 hvlp43_2 hvlp43_3 hvlp43_4 hvlp43_5 hP hD hS hl
              exact (by have w1 := hmlp43; have w2 := hvlp43_5; omega : False).elim
            | succ n44 ihlp43 =>
              intro sz j lp  H locs ls y39 y40 y41 y42 hmlp43 b45 b46 b47 b48 hvlp43_0 hvlp43_1 hvlp43_2 hvlp43_3 hvlp43_4 hvlp43_5 hP hD hS hl
              refine lv_iload hx hb dX12_rows_71 (lv_at hl 0 rfl) ?_
              refine lv_iload_n hx hb dX12_rows_73 rfl (lv_at hl 6 rfl) ?_
              refine lv_icmp_gt (tgt := 155) hx hb dX12_rows_74 (by decide) (fun c49 => ?_) (fun c49 => ?_)
              · have h50 := (kc_lt c49)
                have b51 : kb 1 y39 10 := kr_lt2 h50 b38 b45 (by decide)
                refine lv_iload hx hb dX12_rows_155 (lv_at hl 1 rfl) ?_
                exact kI_ret (v := y40) hx hb hr hlocks rfl hK hS dX12_rows_157 (f8, a9, g10) hP hD ⟨(kb_w b46 (by decide) (by decide)), hI, hE, (Or.inr (by have e1 : kPn (a 2) = N := hNN; have zn : (-1 : Int32).toInt = -1 := (by decide +kernel); unfold rowsR rwN; rw [e1, ← es0]; exact ⟨hwO, Or.inr (Or.inl ⟨c16, ⟨(by have w9 : ¬ x.toInt = -1 := (fun z9 => c16 (Int32.toInt_inj.mp (z9.trans zn.symm))); have w8 := kc_le c2; omega), hx0, hli.1, (by have w1 := hli.2; have w2 := qt29; have w3 := qt27; have w4 := hpop; omega)⟩, _, _, lp, (by have w9 := hvlp43_4.1; rw [show j = y.toInt.toNat + 1 by have w1 := hvlp43_1; have w2 := kc_lt c49; have w3 := hvlp43_5; omega] at w9; exact w9), hvlp43_4.2 (by have w1 := kc_lt c49; have w2 := hvlp43_1; have w3 := hli.1; omega)⟩)⟩)), hZ⟩
              · have h52 := (kc_nlt c49)
                have b53 : kb 0 y39 9 := kr_le1 h52 b45 b38
                have hjy : (j : Int) ≤ y.toInt := by have w1 := hvlp43_1; omega
                have hsA : sz < 2 ^ N - 1 := by
                  by_cases w1 : sz = 2 ^ N - 1
                  · exfalso
                    have w2 := chkA ⟨N, by omega⟩
                    have w3 : pop (2 ^ N - 1) = N := w2
                    have w4 := hvlp43_2
                    rw [w1, w3] at w4
                    have w5 := qt29
                    have w6 := qt27
                    omega
                  · have w2 := hvlp43_0; omega
                have hOs : (a9 35 sz).toInt = pSr (a 2) (a9 35) sz N := (hO sz (Nat.zero_le _) hvlp43_0.2).1 hsA
                refine lv_iconst (v := 0) hx hb dX12_rows_77 (by decide) ?_
                refine lv_istore (lv' := [(5, .int 0), (6, .int y39), (4, .int y41), (3, .int y42), (0, .ref o), (1, .int x), (2, .int y)]) hx hb dX12_rows_78 hl (by decide) rfl (fun ls hl => ?_)
                have lp56 : ∀ (n57 : Nat) (q : Nat) (H : Heap) (locs : List Loc) (ls : Array Slot) (y54 : Int32) (y55 : Int32), ((N : Int) < (q : Int) + (n57 : Int)) → (kb 0 y54 10) → (kb 0 y55 2147483647) → (y54.toInt = (q : Int)) → (y55.toInt + pSr (a 2) (a9 35) sz q = y41.toInt) → (0 ≤ y55.toInt) → (∀ q2, q2 < q → fB (a 2) sz q2 = true → (a9 35 (sz ||| 2 ^ q2)).toInt ≤ y41.toInt - pSr (a 2) (a9 35) sz q2) → (q ≤ N) → va_P D vwCl (mW K o r f8 a9 g10) H → va_D A (mW K o r f8 a9 g10) → va_S A s.heap H locs → lv_has ls 7 [(5, .int y54), (6, .int y39), (4, .int y55), (3, .int y42), (0, .ref o), (1, .int x), (2, .int y)] → W p l e (rmD 4 0 0) s m ([.ref o, .int x, .int y] : List Value).toArray below meth c H locs 0 0 (kQi D (tysK K) (fun v (u : mS) => kb (-2147483648) v 2147483647 ∧ mI u.1 u.2.1 ∧ mE (XR []) f a u.1 u.2.1 ∧ ((x.toInt < -1 ∧ v = -1) ∨ (wOR (a 2) (kPn (a 2)) (bM (upB (a 2)) (kPn (a 2))) (u.2.1 35) ∧ rowsR (a 2) (u.2.1 35) x y v)) ∧ mZ [] [35] f a u.1 u.2.1) (fun u => mW K o r u.1 u.2.1 u.2.2) A below ([.ref o, .int x, .int y] : List Value).toArray s 0 0) (F0 m 80 ls []) := by
                  intro n57
                  induction n57 with
                  | zero =>
                    intro q  H locs ls y54 y55 hmlp56 b58 b59 hvlp56_0 hvlp56_1 hvlp56_2 hvlp56_3 hvlp56_4 hP hD hS hl
                    exact (by have w1 := hmlp56; have w2 := hvlp56_4; omega : False).elim
                  | succ n57 ihlp56 =>
                    intro q  H locs ls y54 y55 hmlp56 b58 b59 hvlp56_0 hvlp56_1 hvlp56_2 hvlp56_3 hvlp56_4 hP hD hS hl
                    have hqN1 : q < N := by
                      by_cases w1 : q = N
                      · exfalso
                        have w2 := hvlp56_1
                        rw [w1, ← hOs] at w2
                        have w3 := hvlp43_3.2 hjy
                        have w4 := hvlp56_2
                        omega
                      · have w2 := hvlp56_4; omega
                    have b60 : kb 0 y54 9 := ⟨(b58).1, by have w1 := hvlp56_0; omega⟩
                    refine lv_aload_n hx hb dX12_rows_80 rfl (lv_at hl 4 rfl) ?_
                    refine lv_iload_n hx hb dX12_rows_81 rfl (lv_at hl 3 rfl) ?_
                    refine lv_iload hx hb dX12_rows_82 (lv_at hl 0 rfl) ?_
                    refine kI.callV (As := [.int y42, .int y54]) (rest := []) ⟨hx, hb, hml, hown, hg⟩ (m2_canFollow l o r f8 a9 g10 hI y42 y54 b48 b60 ) (cwV 2 hg (kgV wt7_191 wt7_193 wp7_2 wt1_14 wt7_194) rfl rfl rfl (by decide +kernel) ⟨by decide, by decide⟩) hK hP hD hS hA mIs [] rfl (wr := []) rfl rfl rfl (fun i h => by cases h) 0 12 rfl rfl rfl hl.1 rfl (Nat.le_of_ble_eq_true rfl) dX12_rows_84 ⟨Nat.le_refl _, Nat.le_refl _⟩ (fun v62 u63 H locs hw61 hP hD hS => ?_)
                    have hP : va_P D vwCl (mW K o r f8 a9 g10) H := hP
                    have hD : va_D A (mW K o r f8 a9 g10) := hD
                    refine lv_if_eq (tgt := 106) hx hb dX12_rows_87 (by decide) (fun c64 => ?_) (fun c64 => ?_)
                    · have b65 : kb 0 v62 0 := kb_eq c64 kc_0
                      have hfn66 : ¬ fB (a 2) sz q = true := fB_n (by rw [hw61.2, hK2]) hvlp43_0.1 hvlp56_0 (by omega) (by omega) c64
                      refine lv_iload hx hb dX12_rows_106 (lv_at hl 2 rfl) ?_
                      refine lv_aload_n hx hb dX12_rows_108 rfl (lv_at hl 4 rfl) ?_
                      refine lv_iload_n hx hb dX12_rows_109 rfl (lv_at hl 3 rfl) ?_
                      refine lv_iload hx hb dX12_rows_110 (lv_at hl 0 rfl) ?_
                      refine kI.callV (As := [.int y42, .int y54]) (rest := [.int y55]) ⟨hx, hb, hml, hown, hg⟩ (m2_canFollow l o r f8 a9 g10 hI y42 y54 b48 b60 ) (cwV 2 hg (kgV wt7_191 wt7_193 wp7_2 wt1_14 wt7_194) rfl rfl rfl (by decide +kernel) ⟨by decide, by decide⟩) hK hP hD hS hA mIs [] rfl (wr := []) rfl rfl rfl (fun i h => by cases h) 0 12 rfl rfl rfl hl.1 rfl (Nat.le_of_ble_eq_true rfl) dX12_rows_112 ⟨Nat.le_refl _, Nat.le_refl _⟩ (fun v68 u69 H locs hw67 hP hD hS => ?_)
                      have hP : va_P D vwCl (mW K o r f8 a9 g10) H := hP
                      have hD : va_D A (mW K o r f8 a9 g10) := hD
                      refine k_top (z := v62) (hw67.2.trans hw61.2.symm) ?_
                      refine lv_if_eq (tgt := 132) hx hb dX12_rows_115 (by decide) (fun c70 => ?_) (fun c70 => ?_)
                      · refine lv_iconst (v := 0) hx hb dX12_rows_132 (by decide) ?_
                        refine lv_isub hx hb dX12_rows_133 ?_
                        refine lv_topi (fun t71 et71 => ?_)
                        have b72 : kb 0 t71 2147483647 := kb_eq et71 (kb_sub b59 kc_0 (by decide) (by decide))
                        have qt71 : t71.toInt = y55.toInt - 0 := by rw [et71]; exact kt_subc b59 kc_0 (by decide) (by decide)
                        refine lv_istore (lv' := [(4, .int t71), (5, .int y54), (6, .int y39), (3, .int y42), (0, .ref o), (1, .int x), (2, .int y)]) hx hb dX12_rows_134 hl (by decide) rfl (fun ls hl => ?_)
                        obtain ⟨t73, et73⟩ : ∃ z : Int32, z = y54 + Int32.ofInt 1 := ⟨_, rfl⟩
                        have qt73 : t73.toInt = y54.toInt + 1 := by rw [et73]; exact km_inc b60 (by decide) (by decide)
                        have b74 : kb 1 t73 10 := kb_inc (k := 1) qt73 b60
                        refine lv_iinc (v := t73) (lv' := [(5, .int t73), (4, .int t71), (6, .int y39), (3, .int y42), (0, .ref o), (1, .int x), (2, .int y)]) hx hb dX12_rows_136 hl (k := 1) rfl et73.symm (by decide) rfl (fun ls hl => ?_)
                        refine lv_goto (tgt := 80) hx hb dX12_rows_139 (by decide) ?_
                        exact ihlp56 (q + 1) _ _ _ t73 t71 (by omega) (kb_w b74 (by decide) (by decide)) b72 (by have w1 := hvlp56_0; omega) (by rw [pS_n hfn66]; have w1 := qt71; have w2 := hvlp56_1; omega) (by have w1 := qt71; have w2 := hvlp56_2; omega) ((fun q2 h2 hf => by by_cases c9 : q2 = q; (rw [c9] at hf; exact absurd hf hfn66); exact hvlp56_3 q2 (by omega) hf)) (by omega) hP hD hS (lv_sub hl [0, 2, 1, 3, 4, 5, 6] rfl)
                      · exact kb_nsame c70 b65 kc_0
                    · have b75 : kb 1 v62 1 := kr_nel c64 hw61.1 kc_0 (by decide)
                      have hfy76 : fB (a 2) sz q = true := fB_y (by rw [hw61.2, hK2]) hvlp43_0.1 hvlp56_0 (by omega) (by omega) c64 hw61.1
                      refine lv_iload hx hb dX12_rows_90 (lv_at hl 2 rfl) ?_
                      refine lv_aload_n hx hb dX12_rows_92 rfl (lv_at hl 4 rfl) ?_
                      refine va_get (D := D) (ci := 12) (v := .ref (r 35)) (C := RX12) (T := TX12) (N := 48) hx hb hg inC12 hown hK hP 0 rfl rfl 35 (by decide) (hg _ wt5_195) (fun _ h9 => h9) rfl dX12_rows_93 ?_
                      refine lv_iload_n hx hb dX12_rows_96 rfl (lv_at hl 3 rfl) ?_
                      refine lv_iconst (v := 1) hx hb dX12_rows_97 (by decide) ?_
                      refine lv_iload hx hb dX12_rows_98 (lv_at hl 0 rfl) ?_
                      refine lv_ishl hx hb dX12_rows_100 ?_
                      refine lv_topi (fun t77 et77 => ?_)
                      have b78 : kb 1 t77 512 := kb_eq et77 (kb_shl (l := 0) (h := 9) b60 (by decide))
                      refine lv_ior hx hb dX12_rows_101 ?_
                      refine lv_topi (fun t79 et79 => ?_)
                      have b80 : kb 0 t79 1023 := kb_eq et79 (kb_or 10 b48 b78 (by decide) (by decide) (by decide) (by decide) (by decide))
                      refine va_iald hx hb hK hP 18 0 rfl rfl (kb_in b80 (by decide) (by decide)) dX12_rows_102 ?_
                      refine lv_topi (fun t81 et81 => ?_)
                      have hix := cl_or (t := t79) (by rw [et79, et77]) hvlp43_0.1 hvlp56_0 (by omega) (by omega)
                      have hoo : a9 35 (sz ||| 2 ^ q) = t81 := by rw [← hix.1]; exact et81.symm
                      have b82 : kb 0 t81 3628800 := kb_eq hoo.symm (oDn_b hN10 hO (Nat.zero_le _) (or_lt hvlp43_0.2 hqN1))
                      refine lv_icmp_lt (tgt := 142) hx hb dX12_rows_103 (by decide) (fun c83 => ?_) (fun c83 => ?_)
                      · have h84 := (kc_lt c83)
                        have b85 : kb 0 y55 3628799 := kr_lt1 h84 b59 b82 (by decide)
                        have b86 : kb 1 t81 3628800 := kr_lt2 h84 b59 b82 (by decide)
                        refine lv_iload_n hx hb dX12_rows_142 rfl (lv_at hl 3 rfl) ?_
                        refine lv_iconst (v := 1) hx hb dX12_rows_143 (by decide) ?_
                        refine lv_iload hx hb dX12_rows_144 (lv_at hl 0 rfl) ?_
                        refine lv_ishl hx hb dX12_rows_146 ?_
                        refine k_top (z := t77) et77.symm ?_
                        refine lv_ior hx hb dX12_rows_147 ?_
                        refine k_top (z := t79) et79.symm ?_
                        refine lv_istore_n (lv' := [(3, .int t79), (5, .int y54), (6, .int y39), (4, .int y55), (0, .ref o), (1, .int x), (2, .int y)]) hx hb dX12_rows_148 rfl hl (by decide) rfl (fun ls hl => ?_)
                        obtain ⟨t87, et87⟩ : ∃ z : Int32, z = y39 + Int32.ofInt 1 := ⟨_, rfl⟩
                        have qt87 : t87.toInt = y39.toInt + 1 := by rw [et87]; exact km_inc b53 (by decide) (by decide)
                        have b88 : kb 1 t87 10 := kb_inc (k := 1) qt87 b53
                        refine lv_iinc (v := t87) (lv' := [(6, .int t87), (3, .int t79), (5, .int y54), (4, .int y55), (0, .ref o), (1, .int x), (2, .int y)]) hx hb dX12_rows_149 hl (k := 2) rfl et87.symm (by decide) rfl (fun ls hl => ?_)
                        refine lv_goto (tgt := 71) hx hb dX12_rows_152 (by decide) ?_
                        exact ihlp43 (sz ||| 2 ^ q) (j + 1) q _ _ _ t87 y54 y55 t79 (by omega) (kb_w b88 (by decide) (by decide)) (kb_w b60 (by decide) (by decide)) (kb_w b85 (by decide) (by decide)) b80 (⟨(cl_or (t := t79) (by rw [et79, et77]) hvlp43_0.1 hvlp56_0 (by omega) (by omega)).2, or_lt hvlp43_0.2 hqN1⟩) (by have w1 := hvlp43_1; omega) (by have w1 := chkP ⟨sz, by omega⟩ ⟨q, by omega⟩ (fB_t (by omega) (by omega) hfy76); have w2 : pop (sz ||| 2 ^ q) = pop sz + 1 := w1; omega) (⟨by have w1 := hvlp56_2; omega, fun _ => by rw [hoo]; exact kc_lt c83⟩) (⟨⟨sz, y41.toInt, lp, hvlp43_4.1, hqN1, ⟨hfy76, (by rw [hoo]; have w1 := kc_lt c83; have w2 := hvlp56_1; omega), hvlp56_3⟩, rfl, (by have w2 := hvlp56_1; omega)⟩, fun _ => hvlp56_0⟩) (by omega) hP hD hS (lv_sub hl [0, 2, 3, 1, 4, 5, 6] rfl)
                      · have h89 := (kc_nlt c83)
                        refine lv_iload hx hb dX12_rows_106 (lv_at hl 2 rfl) ?_
                        refine lv_aload_n hx hb dX12_rows_108 rfl (lv_at hl 4 rfl) ?_
                        refine lv_iload_n hx hb dX12_rows_109 rfl (lv_at hl 3 rfl) ?_
                        refine lv_iload hx hb dX12_rows_110 (lv_at hl 0 rfl) ?_
                        refine kI.callV (As := [.int y42, .int y54]) (rest := [.int y55]) ⟨hx, hb, hml, hown, hg⟩ (m2_canFollow l o r f8 a9 g10 hI y42 y54 b48 b60 ) (cwV 2 hg (kgV wt7_191 wt7_193 wp7_2 wt1_14 wt7_194) rfl rfl rfl (by decide +kernel) ⟨by decide, by decide⟩) hK hP hD hS hA mIs [] rfl (wr := []) rfl rfl rfl (fun i h => by cases h) 0 12 rfl rfl rfl hl.1 rfl (Nat.le_of_ble_eq_true rfl) dX12_rows_112 ⟨Nat.le_refl _, Nat.le_refl _⟩ (fun v91 u92 H locs hw90 hP hD hS => ?_)
                        have hP : va_P D vwCl (mW K o r f8 a9 g10) H := hP
                        have hD : va_D A (mW K o r f8 a9 g10) := hD
                        refine k_top (z := v62) (hw90.2.trans hw61.2.symm) ?_
                        refine lv_if_eq (tgt := 132) hx hb dX12_rows_115 (by decide) (fun c93 => ?_) (fun c93 => ?_)
                        · exact kb_dj c93 b75 kc_0 (by decide)
                        · refine lv_aload_n hx hb dX12_rows_118 rfl (lv_at hl 4 rfl) ?_
                          refine va_get (D := D) (ci := 12) (v := .ref (r 35)) (C := RX12) (T := TX12) (N := 48) hx hb hg inC12 hown hK hP 0 rfl rfl 35 (by decide) (hg _ wt5_195) (fun _ h9 => h9) rfl dX12_rows_119 ?_
                          refine lv_iload_n hx hb dX12_rows_122 rfl (lv_at hl 3 rfl) ?_
                          refine lv_iconst (v := 1) hx hb dX12_rows_123 (by decide) ?_
                          refine lv_iload hx hb dX12_rows_124 (lv_at hl 0 rfl) ?_
                          refine lv_ishl hx hb dX12_rows_126 ?_
                          refine k_top (z := t77) et77.symm ?_
                          refine lv_ior hx hb dX12_rows_127 ?_
                          refine k_top (z := t79) et79.symm ?_
                          refine va_iald hx hb hK hP 18 0 rfl rfl (kb_in b80 (by decide) (by decide)) dX12_rows_128 ?_
                          refine k_top (z := t81) et81.symm ?_
                          refine lv_goto (tgt := 133) hx hb dX12_rows_129 (by decide) ?_
                          refine lv_isub hx hb dX12_rows_133 ?_
                          refine lv_topi (fun t94 et94 => ?_)
                          have b95 : kb (-3628800) t94 2147483647 := kb_eq et94 (kb_sub b59 b82 (by decide) (by decide))
                          have qt94 : t94.toInt = y55.toInt - t81.toInt := by rw [et94]; exact kt_sub b59 b82 (by decide) (by decide)
                          refine lv_istore (lv' := [(4, .int t94), (5, .int y54), (6, .int y39), (3, .int y42), (0, .ref o), (1, .int x), (2, .int y)]) hx hb dX12_rows_134 hl (by decide) rfl (fun ls hl => ?_)
                          have b96 : kb 0 t94 2147483647 := ⟨by have w1 := qt94; have w2 := kc_nlt c83; omega, (b95).2⟩
                          obtain ⟨t97, et97⟩ : ∃ z : Int32, z = y54 + Int32.ofInt 1 := ⟨_, rfl⟩
                          have qt97 : t97.toInt = y54.toInt + 1 := by rw [et97]; exact km_inc b60 (by decide) (by decide)
                          have b98 : kb 1 t97 10 := kb_inc (k := 1) qt97 b60
                          refine lv_iinc (v := t97) (lv' := [(5, .int t97), (4, .int t94), (6, .int y39), (3, .int y42), (0, .ref o), (1, .int x), (2, .int y)]) hx hb dX12_rows_136 hl (k := 1) rfl et97.symm (by decide) rfl (fun ls hl => ?_)
                          refine lv_goto (tgt := 80) hx hb dX12_rows_139 (by decide) ?_
                          exact ihlp56 (q + 1) _ _ _ t97 t94 (by omega) (kb_w b98 (by decide) (by decide)) b96 (by have w1 := hvlp56_0; omega) (by rw [pS_y hfy76, hoo]; have w1 := qt94; have w2 := hvlp56_1; omega) (by have w1 := qt94; have w2 := kc_nlt c83; omega) ((fun q2 h2 hf => by by_cases c9 : q2 = q; (rw [c9, hoo]; have w1 := kc_nlt c83; have w2 := hvlp56_1; omega); exact hvlp56_3 q2 (by omega) hf)) (by omega) hP hD hS (lv_sub hl [0, 2, 1, 3, 4, 5, 6] rfl)
                exact lp56 (N + 1) 0 _ _ _ 0 y41 (by omega) (kb_w kc_0 (by decide) (by decide)) b47 (by decide +kernel) (by show y41.toInt + 0 = y41.toInt; omega) (by exact hvlp43_3.1) (fun q2 h2 => absurd h2 (Nat.not_lt_zero q2)) (Nat.zero_le _) hP hD hS (lv_sub hl [0, 1, 2, 3, 4, 5, 6] rfl)
          exact lp43 (12) s0 0 0 _ _ _ 0 (-1) x v14 (by have w1 := (b38).2; omega) (kb_w kc_0 (by decide) (by decide)) (kb_w kc_m1 (by decide) (by decide)) (kb_w b22 (by decide) (by decide)) hw13.1 (⟨by omega, hs1⟩) (by decide +kernel) (by omega) (⟨by have w1 := (b22).1; omega, fun _ => hx0⟩) (⟨⟨rfl, rfl⟩, fun z9 => absurd z9 (Nat.lt_irrefl 0)⟩) (by omega) hP hD hS (lv_sub hl [0, 1, 2, 3, 4, 5, 6] rfl)
        · have b99 : kb 0 v32 0 := kb_eq c34 kc_0
          refine lv_iconst (v := (-1)) hx hb dX12_rows_63 (by decide) ?_
          exact kI_ret (v := (-1)) hx hb hr hlocks rfl hK hS dX12_rows_64 (f8, a9, g10) hP hD ⟨(kb_w kc_m1 (by decide) (by decide)), hI, hE, (Or.inr (by have e1 : kPn (a 2) = N := hNN; have zn : (-1 : Int32).toInt = -1 := (by decide +kernel); unfold rowsR rwN; rw [e1, ← es0]; exact ⟨hwO, Or.inr (Or.inr ⟨c16, (fun q9 => mLies_z (hw31.2.symm.trans c34) (by decide +kernel) (show t29.toInt = _ from rfl) ⟨q9.2.2.1, by have w1 := q9.2.2.2; have w2 := qt29; have w3 := qt27; have w4 := hw24.2; rw [show v14.toInt.toNat = s0 by omega] at w4; omega⟩), rfl⟩)⟩)), hZ⟩
    · have b100 : kb (-1) x (-1) := kb_eq c16 kc_m1
      refine lv_aload_n hx hb dX12_rows_21 rfl (lv_at hl 1 rfl) ?_
      refine va_get (D := D) (ci := 12) (v := .ref (r 35)) (C := RX12) (T := TX12) (N := 48) hx hb hg inC12 hown hK hP 0 rfl rfl 35 (by decide) (hg _ wt5_195) (fun _ h9 => h9) rfl dX12_rows_22 ?_
      refine lv_iload_n hx hb dX12_rows_25 rfl (lv_at hl 0 rfl) ?_
      refine va_iald hx hb hK hP 18 0 rfl rfl (kb_in hw13.1 (by decide) (by decide)) dX12_rows_26 ?_
      refine lv_topi (fun t101 et101 => ?_)
      exact kI_ret (v := t101) hx hb hr hlocks rfl hK hS dX12_rows_27 (f8, a9, g10) hP hD ⟨(kb_any t101), hI, hE, (Or.inr (by have e1 : kPn (a 2) = N := hNN; have zn : (-1 : Int32).toInt = -1 := (by decide +kernel); unfold rowsR rwN; rw [e1, ← es0]; exact ⟨hwO, Or.inl ⟨c16, (by have w1 : v14.toNatClampNeg = s0 := (by have w2 := hs0; unfold Int32.toNatClampNeg; omega); rw [← w1]; exact et101)⟩⟩)), hZ⟩
  · have h102 := (kc_nle c2)
    have b103 : kb (-2147483648) x (-2) := kr_lt1 h102 (kb_any x) kc_m1 (by decide)
    refine lv_iconst (v := (-1)) hx hb dX12_rows_5 (by decide) ?_
    exact kI_ret (v := (-1)) hx hb hr hlocks rfl hK hS dX12_rows_6 (f, a, g) hP hD ⟨(kb_w kc_m1 (by decide) (by decide)), hI, hE, (Or.inl ⟨(by have w1 := kc_nle c2; have w2 : (-1 : Int32).toInt = -1 := (by decide +kernel); omega), rfl⟩), hZ⟩
