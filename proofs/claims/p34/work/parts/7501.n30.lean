/-! nights by draws -/
def bgF (k : Nat → Int32) : Nat → Int32 := fun i => if 16 ≤ i ∧ i < 22 then -1 else k i
/-- the best part for b among the first n -/
def bsF (DD : Nat → tE) (k : Nat → Int32) (R : Nat → Int) (b : Int32) : Nat → Int32
  | 0 => -1
  | n + 1 => if (rdB k n = true ∧ (bsF DD k R b n = -1 ∨ R (bsF DD k R b n).toNatClampNeg < R n)) ∧ (¬ askF DD k 3 b (nI n) = 1 ∧ 0 < askF DD k 0 b (nI n)) then nI n else bsF DD k R b n
/-- the first n builders, those who are free are sent -/
def sdF (DD : Nat → tE) (k : Nat → Int32) (R : Nat → Int) : Nat → Nat → Int32
  | 0 => k
  | n + 1 => if sdF DD k R n (16 + n) = -1 then upd (sdF DD k R n) (16 + n) (bsF DD (sdF DD k R n) R (nI n) (kPn k)) else sdF DD k R n
def chA (k : Nat → Int32) : Nat → Int := chR k (kPn k) (kPn k)
def sdA (DD : Nat → tE) (k : Nat → Int32) : Nat → Int32 := sdF DD k (chA k) (kBn k)
def drI (z : Int) : Int := (z * 1103 + 12345) % 1000003
def ntT (DD : Nat → tE) (s : (Nat → Int32) × Int) : (Nat → Int32) × Int := if drI s.2 % 10 < (s.1 100).toInt then (upd (sdA DD s.1) 22 (sdA DD s.1 22 + 1), drI s.2) else (tkF DD (sdA DD s.1), drI s.2)
def ntN (DD : Nat → tE) (s : (Nat → Int32) × Int) : Nat → (Nat → Int32) × Int
  | 0 => s
  | n + 1 => ntT DD (ntN DD s n)
def alS (k : Nat → Int32) : Bool := decide (bM (upB k) (kPn k) = 2 ^ kPn k - 1)
def ntE (DD : Nat → tE) (k : Nat → Int32) (z : Int) : (Nat → Int32) × Int := ntN DD (bgF k, z) (k 99).toInt.toNat
/-- n nights: how many have all standing, the last one's end, the draw -/
def nsF (DD : Nat → tE) (k : Nat → Int32) (z : Int) : Nat → Nat × ((Nat → Int32) × Int)
  | 0 => (0, (k, z))
  | n + 1 => ((nsF DD k z n).1 + (if alS (ntE DD k (nsF DD k z n).2.2).1 = true then 1 else 0), ntE DD k (nsF DD k z n).2.2)
def bgN (k : Nat → Int32) (n : Nat) : Nat → Int32 := fun i => if 16 ≤ i ∧ i < 16 + n then -1 else k i
theorem bgN_s {k : Nat → Int32} {n : Nat} : upd (bgN k n) (16 + n) (-1) = bgN k (n + 1) := by
  funext i
  by_cases c : i = 16 + n
  · rw [c, pk_us]; unfold bgN; rw [if_pos (by omega)]
  · rw [pk_un c]
    unfold bgN
    by_cases d : 16 ≤ i ∧ i < 16 + n
    · rw [if_pos d, if_pos (by omega)]
    · rw [if_neg d, if_neg (by omega)]
/-- what is told of the last night -/
def dwF (P B : Int32) (D : Nat → Int32) (x y : Int32) : Int32 := if P = -1 then -1 else if y = 0 then (if 0 ≤ x.toInt ∧ x.toInt ≤ P.toInt - 1 then D x.toNatClampNeg else -1) else if y = 1 then (if 0 ≤ x.toInt ∧ x.toInt ≤ B.toInt - 1 then D (10 + x.toNatClampNeg) else -1) else -1
section DR
variable {DD : Nat → tE} {k k' : Nat → Int32} {R : Nat → Int} {b v : Int32} {n : Nat}
theorem bs_y (h1 : rdB k n = true) (h2 : bsF DD k R b n = -1 ∨ R (bsF DD k R b n).toNatClampNeg < R n) (h3 : ¬ askF DD k 3 b (nI n) = 1) (h4 : 0 < askF DD k 0 b (nI n)) : nI n = bsF DD k R b (n + 1) := by
  show _ = (if _ then _ else _)
  rw [if_pos ⟨⟨h1, h2⟩, h3, h4⟩]
theorem bs_r (h : ¬ rdB k n = true) : bsF DD k R b n = bsF DD k R b (n + 1) := by
  show _ = (if _ then _ else _)
  rw [if_neg (fun q => h q.1.1)]
theorem bs_l (h : ¬ bsF DD k R b n = -1) (h2 : ¬ R (bsF DD k R b n).toNatClampNeg < R n) : bsF DD k R b n = bsF DD k R b (n + 1) := by
  show _ = (if _ then _ else _)
  rw [if_neg (fun q => q.1.2.elim h h2)]
theorem bs_b (h : askF DD k 3 b (nI n) = 1) : bsF DD k R b n = bsF DD k R b (n + 1) := by
  show _ = (if _ then _ else _)
  rw [if_neg (fun q => q.2.1 h)]
theorem bs_w (h : ¬ 0 < askF DD k 0 b (nI n)) : bsF DD k R b n = bsF DD k R b (n + 1) := by
  show _ = (if _ then _ else _)
  rw [if_neg (fun q => h q.2.2)]
theorem bs_i : ∀ n, bsF DD k R b n = -1 ∨ ∃ q, q < n ∧ bsF DD k R b n = nI q
  | 0 => Or.inl rfl
  | n + 1 => by
    have ih := bs_i n
    by_cases c : (rdB k n = true ∧ (bsF DD k R b n = -1 ∨ R (bsF DD k R b n).toNatClampNeg < R n)) ∧ (¬ askF DD k 3 b (nI n) = 1 ∧ 0 < askF DD k 0 b (nI n))
    · exact Or.inr ⟨n, by omega, if_pos c⟩
    · have e : bsF DD k R b (n + 1) = bsF DD k R b n := if_neg c
      rw [e]
      exact ih.imp id (fun ⟨q, h, e⟩ => ⟨q, by omega, e⟩)
theorem bs_k (hk : kK k) (hn : n ≤ kPn k) : kb (-1) (bsF DD k R b n) 9 ∧ (bsF DD k R b n).toInt < (k 102).toInt := by
  have w := kPn_b hk
  rcases bs_i (DD := DD) (k := k) (R := R) (b := b) n with h | ⟨q, h, e⟩
  · rw [h]; exact m1_b hk
  · have e2 : (nI q).toInt = (q : Int) := kn_to (by omega)
    rw [e]
    exact ⟨⟨by rw [e2]; omega, by rw [e2]; omega⟩, by rw [e2]; omega⟩
/-- all but the places -/
def nE (k k' : Nat → Int32) : Prop := ∀ i, i < 16 ∨ 22 ≤ i → k' i = k i
theorem ne_pn (e : nE k k') : kPn k' = kPn k := by unfold kPn; rw [e 102 (Or.inr (by decide))]
theorem ne_up (e : nE k k') {q : Nat} (h : q < 10) : upB k' q = upB k q := by unfold upB; rw [e (0 + q) (Or.inl (by omega))]
theorem ne_upM (e : nE k k') (hk : kK k) : upM k' = upM k := by
  unfold upM
  have w := (kPn_b hk).1
  rw [ne_pn e, ce_bM (U := upB k) (V := upB k') _ (fun i hi => ne_up e (by omega))]
theorem ne_rd (e : nE k k') (hk : kK k) {q : Nat} (h : q < 10) : rdB k' q = rdB k q := by
  unfold rdB
  rw [ne_up e h, ne_upM e hk, e (33 + q) (Or.inr (by omega))]
theorem ne_rdM (e : nE k k') (hk : kK k) : rdM k' = rdM k := by
  unfold rdM
  have w := (kPn_b hk).1
  rw [ne_pn e, ce_bM (U := rdB k) (V := rdB k') _ (fun i hi => ne_rd e hk (by omega))]
theorem ne_cM (e : nE k k') {p : Nat} : ∀ m, p + m ≤ 14 → chM k' R p m = chM k R p m
  | 0, _ => rfl
  | m + 1, h => by
    have ih := ne_cM e (p := p) m (by omega)
    show (if (k' (33 + (p + 1 + m)) >>> (nI p &&& 31)) &&& 1 = 1 ∧ ¬ k' (0 + (p + 1 + m)) = 0 ∧ chM k' R p m < R (p + 1 + m) then R (p + 1 + m) else chM k' R p m) = (if (k (33 + (p + 1 + m)) >>> (nI p &&& 31)) &&& 1 = 1 ∧ ¬ k (0 + (p + 1 + m)) = 0 ∧ chM k R p m < R (p + 1 + m) then R (p + 1 + m) else chM k R p m)
    rw [ih, e (33 + (p + 1 + m)) (Or.inr (by omega)), e (0 + (p + 1 + m)) (Or.inl (by omega))]
theorem ne_cR (e : nE k k') {n : Nat} (hn : n ≤ 10) : ∀ m, m ≤ n → chR k' n m = chR k n m
  | 0, _ => rfl
  | m + 1, h => by
    have ih := ne_cR e hn m (by omega)
    funext i
    show (if i = n - 1 - m then (k' (0 + (n - 1 - m))).toInt + chM k' (chR k' n m) (n - 1 - m) m else chR k' n m i) = (if i = n - 1 - m then (k (0 + (n - 1 - m))).toInt + chM k (chR k n m) (n - 1 - m) m else chR k n m i)
    rw [ih, ne_cM e m (by omega), e (0 + (n - 1 - m)) (Or.inl (by omega))]
theorem ne_cA (e : nE k k') (hk : kK k) : chA k' = chA k := by
  unfold chA
  rw [ne_pn e]
  exact ne_cR e (kPn_b hk).1 _ (Nat.le_refl _)
theorem sd_o : ∀ n i, (i < 16 ∨ 16 + n ≤ i) → sdF DD k R n i = k i
  | 0, _, _ => rfl
  | n + 1, i, hi => by
    have ih := sd_o n i (by omega)
    by_cases c : sdF DD k R n (16 + n) = -1
    · have e : sdF DD k R (n + 1) = upd (sdF DD k R n) (16 + n) (bsF DD (sdF DD k R n) R (nI n) (kPn k)) := if_pos c
      rw [e, pk_un (by omega)]; exact ih
    · have e : sdF DD k R (n + 1) = sdF DD k R n := if_neg c
      rw [e]; exact ih
theorem sd_E (h : n ≤ 6) : nE k (sdF DD k R n) := fun i hi => sd_o n i (by omega)
theorem sd_k (hk : kK k) : ∀ n, n ≤ 6 → kK (sdF DD k R n)
  | 0, _ => hk
  | n + 1, hn => by
    have ih := sd_k hk n (by omega)
    have e := ne_pn (sd_E (DD := DD) (k := k) (R := R) (n := n) (by omega))
    by_cases c : sdF DD k R n (16 + n) = -1
    · have e2 : sdF DD k R (n + 1) = upd (sdF DD k R n) (16 + n) (bsF DD (sdF DD k R n) R (nI n) (kPn k)) := if_pos c
      have w := bs_k (DD := DD) (R := R) (b := nI n) (n := kPn k) ih (by omega)
      rw [e2]
      exact kK_pl ih (by omega) w.1 w.2
    · have e2 : sdF DD k R (n + 1) = sdF DD k R n := if_neg c
      rw [e2]; exact ih
theorem sd_y (c : sdF DD k R n (16 + n) = -1) (hv : v = bsF DD (sdF DD k R n) R (nI n) (kPn k)) : upd (sdF DD k R n) (16 + n) v = sdF DD k R (n + 1) := by
  have e2 : sdF DD k R (n + 1) = upd (sdF DD k R n) (16 + n) (bsF DD (sdF DD k R n) R (nI n) (kPn k)) := if_pos c
  rw [e2, hv]
theorem sd_n (c : ¬ sdF DD k R n (16 + n) = -1) : sdF DD k R n = sdF DD k R (n + 1) := by
  have e2 : sdF DD k R (n + 1) = sdF DD k R n := if_neg c
  exact e2.symm
theorem sA_E (hk : kK k) : nE k (sdA DD k) := sd_E (kBn_b hk).1
theorem sA_k (hk : kK k) : kK (sdA DD k) := sd_k hk _ (kBn_b hk).1
theorem dr_b (z : Int) : 0 ≤ drI z ∧ drI z ≤ 1000002 := by unfold drI; omega
theorem bg_E : nE k (bgF k) := fun i hi => by unfold bgF; rw [if_neg (by omega)]
theorem bg_p {i : Nat} (hi : i < 6) : bgF k (16 + i) = -1 := by unfold bgF; rw [if_pos (by omega)]
theorem kK_bg (hk : kK k) : kK (bgF k) := by
  have w := m1_b hk
  refine ⟨fun i hi => ?_, fun j hj => ?_, ?_⟩
  · by_cases c : 16 ≤ i ∧ i < 22
    · have e : kBd i = (-1, 9) := by unfold kBd; rw [if_neg (by omega), if_pos (by omega)]
      unfold bgF
      rw [if_pos c, e]; exact w.1
    · rw [bg_E i (by omega)]; exact hk.1 i hi
  · rw [bg_p hj, bg_E 102 (Or.inr (by decide))]; exact w.2
  · rw [bg_E 106 (Or.inr (by decide)), bg_E 105 (Or.inr (by decide))]; exact hk.2.2
theorem kK_h1 (hk : kK k) (h : (k 22).toInt ≤ 5000) : kK (upd k 22 (k 22 + 1)) ∧ (upd k 22 (k 22 + 1) 22).toInt = (k 22).toInt + 1 := by
  have b := kK_r hk 22 0 1000000 (by decide) (by decide)
  have b1 := b.1
  have a := kad1 b (by decide) (by decide)
  have f0 : kBd 22 = (0, 1000000) := by decide
  refine ⟨⟨fun i hi => ?_, fun q hq => ?_, ?_⟩, by rw [pk_us]; exact a⟩
  · by_cases c : i = 22
    · rw [c, pk_us, f0]; exact ⟨by omega, by omega⟩
    · rw [pk_un c]; exact hk.1 i hi
  · rw [pk_un (show 16 + q ≠ 22 by omega), pk_un (show (102 : Nat) ≠ 22 by decide)]
    exact hk.2.1 q hq
  · rw [pk_un (show (105 : Nat) ≠ 22 by decide), pk_un (show (106 : Nat) ≠ 22 by decide)]
    exact hk.2.2
theorem tk_22 : tkF DD k 22 = k 22 + 1 := pk_us
/-- what holds in a night: behind n ticks -/
def ntI (k0 : Nat → Int32) (n : Nat) (s : (Nat → Int32) × Int) : Prop := kK s.1 ∧ (s.1 22).toInt = (k0 22).toInt + (n : Int) ∧ (∀ i, 23 ≤ i → s.1 i = k0 i) ∧ 0 ≤ s.2 ∧ s.2 ≤ 1000002
theorem nt_b {z : Int} (hk : kK k) (hz : 0 ≤ z ∧ z ≤ 1000002) : ntI k 0 (bgF k, z) := ⟨kK_bg hk, by show (bgF k 22).toInt = _; rw [bg_E 22 (Or.inr (by decide))]; show _ = _ + ((0 : Nat) : Int); omega, fun i hi => bg_E i (by omega), hz⟩
theorem nt_s {k0 : Nat → Int32} {s : (Nat → Int32) × Int} (h : ntI k0 n s) (hh : (k0 22).toInt + (n : Int) ≤ 5000) : ntI k0 (n + 1) (ntT DD s) := by
  obtain ⟨h1, h2, h3, h4, h5⟩ := h
  have E := sA_E (DD := DD) h1
  have hK := sA_k (DD := DD) h1
  have e22 : sdA DD s.1 22 = s.1 22 := E 22 (Or.inr (by decide))
  have g5 : (sdA DD s.1 22).toInt ≤ 5000 := by rw [e22]; omega
  have a := kad1 (kK_r hK 22 0 1000000 (by decide) (by decide)) (by decide) (by decide)
  have d := dr_b s.2
  unfold ntT
  split
  · have w := kK_h1 hK g5
    exact ⟨w.1, by rw [w.2, e22, h2]; omega, fun i hi => (pk_un (show i ≠ 22 by omega)).trans ((E i (by omega)).trans (h3 i hi)), d.1, d.2⟩
  · refine ⟨kK_tk hK g5, ?_, fun i hi => (tkF_hi hK hi).trans ((E i (by omega)).trans (h3 i hi)), d.1, d.2⟩
    show (tkF DD (sdA DD s.1) 22).toInt = _
    rw [tk_22, a, e22, h2]
    omega
theorem nt_r {s : (Nat → Int32) × Int} (c : drI s.2 % 10 < (s.1 100).toInt) : ntT DD s = (upd (sdA DD s.1) 22 (sdA DD s.1 22 + 1), drI s.2) := if_pos c
theorem nt_w {s : (Nat → Int32) × Int} (c : ¬ drI s.2 % 10 < (s.1 100).toInt) : ntT DD s = (tkF DD (sdA DD s.1), drI s.2) := if_neg c
theorem nt_N {k0 : Nat → Int32} {s : (Nat → Int32) × Int} (h : ntI k0 0 s) (hh : (k0 22).toInt ≤ 2000) : ∀ n, n ≤ 200 → ntI k0 n (ntN DD s n)
  | 0, _ => h
  | n + 1, hn => nt_s (nt_N h hh n (by omega)) (by omega)
theorem nt_E {z : Int} (hk : kK k) (hh : (k 22).toInt ≤ 2000) (hz : 0 ≤ z ∧ z ≤ 1000002) : ntI k (k 99).toInt.toNat (ntE DD k z) := by
  have w := (kK_r hk 99 1 99 (by decide) (by decide)).2
  exact nt_N (nt_b hk hz) hh _ (by omega)
theorem ns_z {z : Int} (hk : kK k) (hh : (k 22).toInt ≤ 2000) (hz : 0 ≤ z ∧ z ≤ 1000002) : ∀ n, 0 ≤ (nsF DD k z n).2.2 ∧ (nsF DD k z n).2.2 ≤ 1000002
  | 0 => hz
  | n + 1 => (nt_E hk hh (ns_z hk hh hz n)).2.2.2
theorem ns_I {z : Int} (hk : kK k) (hh : (k 22).toInt ≤ 2000) (hz : 0 ≤ z ∧ z ≤ 1000002) (hn : 0 < n) : kK (nsF DD k z n).2.1 ∧ ∀ i, 23 ≤ i → (nsF DD k z n).2.1 i = k i := by
  obtain ⟨m, rfl⟩ : ∃ m, n = m + 1 := ⟨n - 1, by omega⟩
  have w := nt_E (DD := DD) hk hh (ns_z (DD := DD) hk hh hz m)
  exact ⟨w.1, w.2.2.1⟩
theorem ns_1 {z : Int} : ∀ n, (nsF DD k z n).1 ≤ n
  | 0 => Nat.le_refl 0
  | n + 1 => by
    have ih := ns_1 (z := z) n
    show (nsF DD k z n).1 + _ ≤ n + 1
    split <;> omega
/-- the draw -/
theorem dr_x {x t1 t2 t3 : Int32} {M : Int} (b : kb 0 t2 M) (e1 : t1.toInt = x.toInt * 1103) (e2 : t2.toInt = t1.toInt + 12345) (e3 : t3 = t2 - t2 / 1000003 * 1000003) : t3.toInt = drI x.toInt := by
  rw [e3, kt_rem (d := 1000003) b (by decide) (by decide +kernel) (by decide) (by decide), e2, e1]
  rfl
theorem dr_10 {x t : Int32} {M : Int} (b : kb 0 x M) (e : t = x - x / 10 * 10) : t.toInt = x.toInt % 10 := by
  rw [e, kt_rem (d := 10) b (by decide) (by decide +kernel) (by decide) (by decide)]
  rfl
theorem dr_m {x v : Int32} {t0 t1 t2 t3 : Int64} (b : kb 0 x 1000002) (e0 : t0 = x.toInt64) (e1 : t1 = 1103 * t0) (e2 : t2 = t1 + 12345) (e3 : t3 = t2 - t2 / 1000003 * 1000003) (ev : v = t3.toInt32) : v.toInt = drI x.toInt := by
  have b1 := b.1
  have b2 := b.2
  have c1 : (1103 : Int64).toInt = 1103 := by decide +kernel
  have c2 : (12345 : Int64).toInt = 12345 := by decide +kernel
  have c3 : (1000003 : Int64).toInt = 1000003 := by decide +kernel
  have h0 : t0.toInt = x.toInt := by rw [e0]; exact kt_i2l _
  have h1 : t1.toInt = 1103 * x.toInt := by rw [e1, l_mul (by rw [c1]; unfold oBd; omega) (by rw [h0]; unfold oBd; omega), c1, h0]
  have h2 : t2.toInt = 1103 * x.toInt + 12345 := by rw [e2, l_add (by rw [h1]; unfold oBd; omega) (by rw [c2]; unfold oBd; omega), c2, h1]
  have h3 : t3.toInt = (1103 * x.toInt + 12345) % 1000003 := by rw [e3, l_rem (by rw [h2]; unfold oBd; omega) (by rw [c3]; unfold oBd; omega), c3, h2, Int.tmod_eq_emod_of_nonneg (by omega)]
  have h4 : v.toInt = t3.toInt := by
    rw [ev, Int64.toInt_toInt32, Int.bmod_eq_of_le] <;> omega
  rw [h4, h3]
  unfold drI
  rw [Int.mul_comm]
/-- do all stand -/
theorem al_m : ∀ n : Fin 11, ∀ m : Fin 1024, m.val < 2 ^ n.val → ((nI (2 ^ n.val - 1) &&& (nI m.val ^^^ (-1)) = 0) ↔ m.val = 2 ^ n.val - 1) := by decide +kernel
theorem al_r {x t : Int32} (hk : kK k) (hx : x = nI (2 ^ kPn k - 1)) (ht : t = x &&& (upM k ^^^ (-1))) : (t = 0) ↔ alS k = true := by
  have w := (kPn_b hk).1
  have e := al_m ⟨kPn k, by omega⟩ ⟨bM (upB k) (kPn k), bM_10 _ w⟩ (bM_lt _ _)
  rw [ht, hx]
  unfold alS
  rw [decide_eq_true_iff]
  exact e
theorem al_v {n : Nat} {c t v : Int32} (hn : n ≤ 10) (hc : c = nI n) (ht : t = (1 : Int32) <<< (c &&& 31)) (hv : v = t - 1) : v = nI (2 ^ n - 1) := by
  have h : ∀ n : Fin 11, ((1 : Int32) <<< (nI n.val &&& 31)) - 1 = nI (2 ^ n.val - 1) := by decide +kernel
  rw [hv, ht, hc]
  exact h ⟨n, by omega⟩
theorem al_x {x : Int32} (hk : kK k) (hx : x = nI (2 ^ kPn k - 1)) : (upM k = x) ↔ alS k = true := by
  have w := (kPn_b hk).1
  have l1 := bM_10 (upB k) w
  have l2 : 2 ^ kPn k ≤ 2 ^ 10 := Nat.pow_le_pow_right (by decide) w
  unfold alS
  rw [decide_eq_true_iff, hx]
  unfold upM
  constructor
  · intro h
    have h2 := congrArg Int32.toInt h
    rw [kn_to (by omega), kn_to (by omega)] at h2
    omega
  · intro h
    rw [h]
end DR
set_option maxHeartbeats 4000000 in
set_option maxRecDepth 100000 in
theorem n_bestPart  (l : Launch) {D : va_G} {K : Nat → ClassId} (o : Nat) (r : Nat → Nat) (f : Nat → Int32) (a : Nat → Nat → Int32) (g : Nat → Int64) (hI : mI f a) (bd : Int32) (bbd : kb 0 bd 5) (DD : Nat → tE) (R : Nat → Int) (hp0 : kK (a 2)) (hp1 : lM (a 2) DD) (hp2 : ∀ i, i < kPn (a 2) → (a 34 i).toInt = R i) : kI l yX12_bestPart (Cond.code yX12_bestPart cX12_bestPart 4 (some .int) :: kG) (rmD 50 0 0) D (tysK K) [.ref o, .int bd] (mW K o r f a g) (fun v (u : mS) => kb (-1) v 9 ∧ mI u.1 u.2.1 ∧ mE (XR []) f a u.1 u.2.1 ∧ v = bsF DD (a 2) R bd (kPn (a 2)) ∧ mZ [22, 23, 24, 25] [26] f a u.1 u.2.1) (fun u => mW K o r u.1 u.2.1 u.2.2) 0 0 := by
  refine kI.of (cc := cX12_bestPart) (maxL := 4) (ret := (some .int)) (by decide) rfl (Nat.le_of_ble_eq_true rfl) ?_
  intro p e s m below meth c A hx hb hr hml hown hts hlocks hnm hK hP hD hS hA ls hl
  have hE : mE (XR []) f a f a := mE_rf
  have hZ : mZ [22, 23, 24, 25] [26] f a f a := mZ_rf
  have hg : ∀ w ∈ kG, w.before _ s = true := fun w h => hts w (List.mem_cons_of_mem _ h)
  have hown : s.vm.findClass RX12 = some m.cls := hown
  have hl : lv_has ls 4 [(0, .ref o), (1, .int bd)] := hl
  have hk0 : a 2 = a 2 := rfl
  refine lv_iconst (v := (-1)) hx hb dX12_bestPart_0 (by decide) ?_
  refine lv_istore_n (lv' := [(2, .int (-1)), (0, .ref o), (1, .int bd)]) hx hb dX12_bestPart_1 rfl hl (by decide) rfl (fun ls hl => ?_)
  refine lv_iconst (v := 0) hx hb dX12_bestPart_2 (by decide) ?_
  refine lv_istore_n (lv' := [(3, .int 0), (2, .int (-1)), (0, .ref o), (1, .int bd)]) hx hb dX12_bestPart_3 rfl hl (by decide) rfl (fun ls hl => ?_)
  have lp6 : ∀ (n7 : Nat) (nn : Nat) (F3 : Nat → Int32) (B4 : Nat → Nat → Int32) (G5 : Nat → Int64) (H : Heap) (locs : List Loc) (ls : Array Slot) (y1 : Int32) (y2 : Int32), (10 < y1.toInt + (n7 : Int)) → (mI F3 B4) → (mE (XR []) f a F3 B4) → (mZ [22, 23, 24, 25] [26] f a F3 B4) → (B4 2 = a 2) → (kb 0 y1 10) → (kb (-1) y2 9) → (y1.toInt = (nn : Int)) → (y2 = bsF DD (a 2) R bd nn) → (nn ≤ kPn (a 2)) → va_P D vwCl (mW K o r F3 B4 G5) H → va_D A (mW K o r F3 B4 G5) → va_S A s.heap H locs → lv_has ls 4 [(3, .int y1), (2, .int y2), (0, .ref o), (1, .int bd)] → W p l e (rmD 50 0 0) s m ([.ref o, .int bd] : List Value).toArray below meth c H locs 0 0 (kQi D (tysK K) (fun v (u : mS) => kb (-1) v 9 ∧ mI u.1 u.2.1 ∧ mE (XR []) f a u.1 u.2.1 ∧ v = bsF DD (a 2) R bd (kPn (a 2)) ∧ mZ [22, 23, 24, 25] [26] f a u.1 u.2.1) (fun u => mW K o r u.1 u.2.1 u.2.2) A below ([.ref o, .int bd] : List Value).toArray s 0 0) (F0 m 4 ls []) := by
    intro n7
    induction n7 with
    | zero =>
      intro nn F3 B4 G5  H locs ls y1 y2 hmlp6 hI hE hZ hk0 b8 b9 hvlp6_0 hvlp6_1 hvlp6_2 hP hD hS hl
      exact (by have h1 := b8.2; have h2 := hmlp6; omega : False).elim
    | succ n7 ihlp6 =>
      intro nn F3 B4 G5  H locs ls y1 y2 hmlp6 hI hE hZ hk0 b8 b9 hvlp6_0 hvlp6_1 hvlp6_2 hP hD hS hl
      have hnn : y1 = nI nn := nI_q hvlp6_0
      have hZB := hZ
      have hZL := hZ
      have hbs := hvlp6_1
      have hkB := hk0
      refine lv_iload_n hx hb dX12_bestPart_4 rfl (lv_at hl 0 rfl) ?_
      refine lv_aload_n hx hb dX12_bestPart_5 rfl (lv_at hl 2 rfl) ?_
      refine va_get (D := D) (ci := 12) (v := .ref (r 2)) (C := RX12) (T := TX12) (N := 48) hx hb hg inC12 hown hK hP 0 rfl rfl 2 (by decide) (hg _ wt5_162) (fun _ h9 => h9) rfl dX12_bestPart_6 ?_
      refine lv_bipush (v := 102) hx hb dX12_bestPart_9 (by decide) ?_
      refine va_iald hx hb hK hP 2 0 rfl rfl (kb_in kc_102 (by decide) (by decide)) dX12_bestPart_11 ?_
      refine lv_topi (fun t10 et10 => ?_)
      rw [cl_102] at et10
      have b11 : kb 0 t10 10 := kb_eq et10 (aI_at hI.2.1 2 102 (by decide) (by decide))
      refine lv_icmp_ge (tgt := 72) hx hb dX12_bestPart_12 (by decide) (fun c12 => ?_) (fun c12 => ?_)
      · have h13 := (kc_le c12)
        refine lv_iload_n hx hb dX12_bestPart_72 rfl (lv_at hl 1 rfl) ?_
        exact kI_ret (v := y2) hx hb hr hlocks rfl hK hS dX12_bestPart_73 (F3, B4, G5) hP hD ⟨b9, hI, hE, (by have hn : nn = kPn (a 2) := (by have w1 := hvlp6_0; have w2 := kc_le c12; have w3 := (congrArg Int32.toInt (et10.trans (congrFun (show B4 2 = a 2 from (hZL.2 2 rfl)) 102))); have w4 := (kPn_b hp0).2; have w5 := hvlp6_2; omega); rw [← hn]; exact hbs), hZ⟩
      · have h14 := (kc_nle c12)
        have b15 : kb 0 y1 9 := kr_lt1 h14 b8 b11 (by decide)
        have b16 : kb 1 t10 10 := kr_lt2 h14 b8 b11 (by decide)
        refine lv_aload_n hx hb dX12_bestPart_15 rfl (lv_at hl 2 rfl) ?_
        refine lv_iload_n hx hb dX12_bestPart_16 rfl (lv_at hl 0 rfl) ?_
        refine kI.callV (As := [.int y1]) (rest := []) ⟨hx, hb, hml, hown, hg⟩ (n_isReady l o r F3 B4 G5 hI y1 b15 (by rw [hk0]; exact hp0)) (cwV 1 hg (kgV wt6_108 wt6_110 wp3_11 wt1_14 wt6_111) rfl rfl rfl (by decide +kernel) ⟨by decide, by decide⟩) hK hP hD hS hA mIs [] rfl (wr := []) rfl rfl rfl (fun i h => by cases h) 0 12 rfl rfl rfl hl.1 rfl (Nat.le_of_ble_eq_true rfl) dX12_bestPart_17 ⟨Nat.le_refl _, Nat.le_refl _⟩ (fun v18 u19 H locs hw17 hP hD hS => ?_)
        have hP : va_P D vwCl (mW K o r F3 B4 G5) H := hP
        have hD : va_D A (mW K o r F3 B4 G5) := hD
        have hlt := (by have w1 := hvlp6_0; have w2 := kc_nle c12; have w3 := (congrArg Int32.toInt (et10.trans (congrFun (show B4 2 = a 2 from (hZL.2 2 rfl)) 102))); have w4 := (kPn_b hp0).2; omega : nn < kPn (a 2))
        have hry := hw17.2
        rw [hk0, cl_nat hvlp6_0] at hry
        refine lv_if_eq (tgt := 66) hx hb dX12_bestPart_20 (by decide) (fun c20 => ?_) (fun c20 => ?_)
        · have b21 : kb 0 v18 0 := kb_eq c20 kc_0
          obtain ⟨t22, et22⟩ : ∃ z : Int32, z = y1 + Int32.ofInt 1 := ⟨_, rfl⟩
          have qt22 : t22.toInt = y1.toInt + 1 := by rw [et22]; exact km_inc b15 (by decide) (by decide)
          have b23 : kb 1 t22 10 := kb_inc (k := 1) qt22 b15
          refine lv_iinc (v := t22) (lv' := [(3, .int t22), (2, .int y2), (0, .ref o), (1, .int bd)]) hx hb dX12_bestPart_66 hl (k := 0) rfl et22.symm (by decide) rfl (fun ls hl => ?_)
          refine lv_goto (tgt := 4) hx hb dX12_bestPart_69 (by decide) ?_
          exact ihlp6 (nn + 1) F3 B4 G5 _ _ _ t22 y2 (km_up hmlp6 qt22) hI hE hZ hk0 (kb_w b23 (by decide) (by decide)) b9 (by have w1 := hvlp6_0; have w2 := qt22; omega) ((hvlp6_1.trans (bs_r (bit1_n hry c20)))) ((by have w1 := hvlp6_0; have w2 := kc_nle c12; have w3 := (congrArg Int32.toInt (et10.trans (congrFun (show B4 2 = a 2 from (hZL.2 2 rfl)) 102))); have w4 := (kPn_b hp0).2; omega : nn < kPn (a 2))) hP hD hS (lv_sub hl [0, 1, 2, 3] rfl)
        · have b24 : kb 1 v18 1 := kr_nel c20 hw17.1 kc_0 (by decide)
          refine lv_iload_n hx hb dX12_bestPart_23 rfl (lv_at hl 1 rfl) ?_
          refine lv_iconst (v := (-1)) hx hb dX12_bestPart_24 (by decide) ?_
          refine lv_icmp_eq (tgt := 46) hx hb dX12_bestPart_25 (by decide) (fun c25 => ?_) (fun c25 => ?_)
          · have b26 : kb (-1) y2 (-1) := kb_eq c25 kc_m1
            refine lv_aload_n hx hb dX12_bestPart_46 rfl (lv_at hl 2 rfl) ?_
            refine lv_iload_n hx hb dX12_bestPart_47 rfl (lv_at hl 3 rfl) ?_
            refine lv_iload_n hx hb dX12_bestPart_48 rfl (lv_at hl 0 rfl) ?_
            refine kI.callV (As := [.int bd, .int y1]) (rest := []) ⟨hx, hb, hml, hown, hg⟩ (n_isBarred l o r F3 B4 G5 hI bd y1 bbd b15 DD (by rw [hk0]; exact hp0) (by rw [hk0]; exact hp1)) (cwV 2 hg (kgV wt7_104 wt7_106 wp6_5 wt1_14 wt7_107) rfl rfl rfl (by decide +kernel) ⟨by decide, by decide⟩) hK hP hD hS hA mIs [] rfl (wr := []) rfl rfl rfl (fun i h => by cases h) 0 12 rfl rfl rfl hl.1 rfl (Nat.le_of_ble_eq_true rfl) dX12_bestPart_49 ⟨Nat.le_refl _, Nat.le_refl _⟩ (fun v28 u29 H locs hw27 hP hD hS => ?_)
            obtain ⟨f30, a31, g32⟩ := u29
            have hP : va_P D vwCl (mW K o r f30 a31 g32) H := hP
            have hD : va_D A (mW K o r f30 a31 g32) := hD
            have hI : mI f30 a31 := hw27.2.1
            have hE : mE (XR []) f a f30 a31 := mE_tr hE hw27.2.2.1
            have eE33 : mE (XR []) F3 B4 f30 a31 := hw27.2.2.1
            have eZ34 : mZ [22, 23, 24, 25] [26] F3 B4 f30 a31 := hw27.2.2.2.2
            have hZ : mZ [22, 23, 24, 25] [26] f a f30 a31 := mZ_tr hZ (mZ_w (by decide) (by decide) eZ34)
            have hk0 : a31 2 = a 2 := ((eZ34.2 2 rfl).trans hk0)
            have hby35 := hw27.2.2.2.1
            rw [show B4 2 = a 2 from (eZ34.2 2 rfl).symm.trans hk0, hnn] at hby35
            refine lv_if_ne (tgt := 66) hx hb dX12_bestPart_52 (by decide) (fun c36 => ?_) (fun c36 => ?_)
            · have b37 : kb 1 v28 1 := kr_nel c36 hw27.1 kc_0 (by decide)
              obtain ⟨t38, et38⟩ : ∃ z : Int32, z = y1 + Int32.ofInt 1 := ⟨_, rfl⟩
              have qt38 : t38.toInt = y1.toInt + 1 := by rw [et38]; exact km_inc b15 (by decide) (by decide)
              have b39 : kb 1 t38 10 := kb_inc (k := 1) qt38 b15
              refine lv_iinc (v := t38) (lv' := [(3, .int t38), (2, .int y2), (0, .ref o), (1, .int bd)]) hx hb dX12_bestPart_66 hl (k := 0) rfl et38.symm (by decide) rfl (fun ls hl => ?_)
              refine lv_goto (tgt := 4) hx hb dX12_bestPart_69 (by decide) ?_
              exact ihlp6 (nn + 1) f30 a31 g32 _ _ _ t38 y2 (km_up hmlp6 qt38) hI hE hZ hk0 (kb_w b39 (by decide) (by decide)) (kb_w b26 (by decide) (by decide)) (by have w1 := hvlp6_0; have w2 := qt38; omega) ((hvlp6_1.trans (bs_b (bit_y1 hby35 c36)))) ((by have w1 := hvlp6_0; have w2 := kc_nle c12; have w3 := (congrArg Int32.toInt (et10.trans (congrFun (show B4 2 = a 2 from (hZL.2 2 rfl)) 102))); have w4 := (kPn_b hp0).2; omega : nn < kPn (a 2))) hP hD hS (lv_sub hl [0, 1, 2, 3] rfl)
            · have b40 : kb 0 v28 0 := kb_eq c36 kc_0
              refine lv_aload_n hx hb dX12_bestPart_55 rfl (lv_at hl 2 rfl) ?_
              refine lv_iload_n hx hb dX12_bestPart_56 rfl (lv_at hl 3 rfl) ?_
              refine lv_iload_n hx hb dX12_bestPart_57 rfl (lv_at hl 0 rfl) ?_
              refine kI.callV (As := [.int bd, .int y1]) (rest := []) ⟨hx, hb, hml, hown, hg⟩ (n_worksBy l o r f30 a31 g32 hI bd y1 bbd b15 DD (by rw [hk0]; exact hp0) (by rw [hk0]; exact hp1)) (cwV 2 hg (kgV wt7_31 wt7_33 wp5_4 wt1_14 wt7_34) rfl rfl rfl (by decide +kernel) ⟨by decide, by decide⟩) hK hP hD hS hA mIs [] rfl (wr := []) rfl rfl rfl (fun i h => by cases h) 0 12 rfl rfl rfl hl.1 rfl (Nat.le_of_ble_eq_true rfl) dX12_bestPart_58 ⟨Nat.le_refl _, Nat.le_refl _⟩ (fun v42 u43 H locs hw41 hP hD hS => ?_)
              obtain ⟨f44, a45, g46⟩ := u43
              have hP : va_P D vwCl (mW K o r f44 a45 g46) H := hP
              have hD : va_D A (mW K o r f44 a45 g46) := hD
              have hI : mI f44 a45 := hw41.2.1
              have hE : mE (XR []) f a f44 a45 := mE_tr hE hw41.2.2.1
              have eE47 : mE (XR []) f30 a31 f44 a45 := hw41.2.2.1
              have eZ48 : mZ [22, 23, 24, 25] [26] f30 a31 f44 a45 := hw41.2.2.2.2
              have hZ : mZ [22, 23, 24, 25] [26] f a f44 a45 := mZ_tr hZ (mZ_w (by decide) (by decide) eZ48)
              have hk0 : a45 2 = a 2 := ((eZ48.2 2 rfl).trans hk0)
              have hby49 := hw41.2.2.2.1
              rw [show a31 2 = a 2 from (eZ48.2 2 rfl).symm.trans hk0, hnn] at hby49
              refine lv_if_le (tgt := 66) hx hb dX12_bestPart_61 (by decide) (fun c50 => ?_) (fun c50 => ?_)
              · have h51 := (kc_le c50)
                have b52 : kb 0 v42 0 := kr_le1 h51 hw41.1 kc_0
                obtain ⟨t53, et53⟩ : ∃ z : Int32, z = y1 + Int32.ofInt 1 := ⟨_, rfl⟩
                have qt53 : t53.toInt = y1.toInt + 1 := by rw [et53]; exact km_inc b15 (by decide) (by decide)
                have b54 : kb 1 t53 10 := kb_inc (k := 1) qt53 b15
                refine lv_iinc (v := t53) (lv' := [(3, .int t53), (2, .int y2), (0, .ref o), (1, .int bd)]) hx hb dX12_bestPart_66 hl (k := 0) rfl et53.symm (by decide) rfl (fun ls hl => ?_)
                refine lv_goto (tgt := 4) hx hb dX12_bestPart_69 (by decide) ?_
                exact ihlp6 (nn + 1) f44 a45 g46 _ _ _ t53 y2 (km_up hmlp6 qt53) hI hE hZ hk0 (kb_w b54 (by decide) (by decide)) (kb_w b26 (by decide) (by decide)) (by have w1 := hvlp6_0; have w2 := qt53; omega) ((hvlp6_1.trans (bs_w (by have z0 : (0 : Int32).toInt = 0 := (by decide +kernel); have w1 := hby49; have w2 := kc_le c50; omega)))) ((by have w1 := hvlp6_0; have w2 := kc_nle c12; have w3 := (congrArg Int32.toInt (et10.trans (congrFun (show B4 2 = a 2 from (hZL.2 2 rfl)) 102))); have w4 := (kPn_b hp0).2; omega : nn < kPn (a 2))) hP hD hS (lv_sub hl [0, 1, 2, 3] rfl)
              · have h55 := (kc_nle c50)
                have b56 : kb 1 v42 20 := kr_lt2 h55 kc_0 hw41.1 (by decide)
                refine lv_iload_n hx hb dX12_bestPart_64 rfl (lv_at hl 0 rfl) ?_
                refine lv_istore_n (lv' := [(2, .int y1), (3, .int y1), (0, .ref o), (1, .int bd)]) hx hb dX12_bestPart_65 rfl hl (by decide) rfl (fun ls hl => ?_)
                obtain ⟨t57, et57⟩ : ∃ z : Int32, z = y1 + Int32.ofInt 1 := ⟨_, rfl⟩
                have qt57 : t57.toInt = y1.toInt + 1 := by rw [et57]; exact km_inc b15 (by decide) (by decide)
                have b58 : kb 1 t57 10 := kb_inc (k := 1) qt57 b15
                refine lv_iinc (v := t57) (lv' := [(3, .int t57), (2, .int y1), (0, .ref o), (1, .int bd)]) hx hb dX12_bestPart_66 hl (k := 1) rfl et57.symm (by decide) rfl (fun ls hl => ?_)
                refine lv_goto (tgt := 4) hx hb dX12_bestPart_69 (by decide) ?_
                exact ihlp6 (nn + 1) f44 a45 g46 _ _ _ t57 y1 (km_up hmlp6 qt57) hI hE hZ hk0 (kb_w b58 (by decide) (by decide)) (kb_w b15 (by decide) (by decide)) (by have w1 := hvlp6_0; have w2 := qt57; omega) ((hnn.trans (bs_y (bit1_y hry c20) (Or.inl (hbs.symm.trans c25)) (bit_n1 hby35 c36) (by have z0 : (0 : Int32).toInt = 0 := (by decide +kernel); have w1 := hby49; have w2 := kc_nle c50; omega)))) ((by have w1 := hvlp6_0; have w2 := kc_nle c12; have w3 := (congrArg Int32.toInt (et10.trans (congrFun (show B4 2 = a 2 from (hZL.2 2 rfl)) 102))); have w4 := (kPn_b hp0).2; omega : nn < kPn (a 2))) hP hD hS (lv_sub hl [0, 1, 2, 3] rfl)
          · have b59 : kb 0 y2 9 := kr_nel c25 b9 kc_m1 (by decide)
            refine lv_aload_n hx hb dX12_bestPart_28 rfl (lv_at hl 2 rfl) ?_
            refine va_get (D := D) (ci := 12) (v := .ref (r 34)) (C := RX12) (T := TX12) (N := 48) hx hb hg inC12 hown hK hP 0 rfl rfl 34 (by decide) (hg _ wt5_194) (fun _ h9 => h9) rfl dX12_bestPart_29 ?_
            refine lv_iload_n hx hb dX12_bestPart_32 rfl (lv_at hl 0 rfl) ?_
            refine va_iald hx hb hK hP 17 0 rfl rfl (kb_in b15 (by decide) (by decide)) dX12_bestPart_33 ?_
            refine lv_topi (fun t60 et60 => ?_)
            refine lv_aload_n hx hb dX12_bestPart_34 rfl (lv_at hl 2 rfl) ?_
            refine va_get (D := D) (ci := 12) (v := .ref (r 34)) (C := RX12) (T := TX12) (N := 48) hx hb hg inC12 hown hK hP 0 rfl rfl 34 (by decide) (hg _ wt5_194) (fun _ h9 => h9) rfl dX12_bestPart_35 ?_
            refine lv_iload_n hx hb dX12_bestPart_38 rfl (lv_at hl 1 rfl) ?_
            refine va_iald hx hb hK hP 17 0 rfl rfl (kb_in b59 (by decide) (by decide)) dX12_bestPart_39 ?_
            refine lv_topi (fun t61 et61 => ?_)
            refine lv_icmp_gt (tgt := 46) hx hb dX12_bestPart_40 (by decide) (fun c62 => ?_) (fun c62 => ?_)
            · have h63 := (kc_lt c62)
              have b64 : kb (-2147483648) t61 2147483646 := kr_lt1 h63 (kb_any t61) (kb_any t60) (by decide)
              have b65 : kb (-2147483647) t60 2147483647 := kr_lt2 h63 (kb_any t61) (kb_any t60) (by decide)
              refine lv_aload_n hx hb dX12_bestPart_46 rfl (lv_at hl 2 rfl) ?_
              refine lv_iload_n hx hb dX12_bestPart_47 rfl (lv_at hl 3 rfl) ?_
              refine lv_iload_n hx hb dX12_bestPart_48 rfl (lv_at hl 0 rfl) ?_
              refine kI.callV (As := [.int bd, .int y1]) (rest := []) ⟨hx, hb, hml, hown, hg⟩ (n_isBarred l o r F3 B4 G5 hI bd y1 bbd b15 DD (by rw [hk0]; exact hp0) (by rw [hk0]; exact hp1)) (cwV 2 hg (kgV wt7_104 wt7_106 wp6_5 wt1_14 wt7_107) rfl rfl rfl (by decide +kernel) ⟨by decide, by decide⟩) hK hP hD hS hA mIs [] rfl (wr := []) rfl rfl rfl (fun i h => by cases h) 0 12 rfl rfl rfl hl.1 rfl (Nat.le_of_ble_eq_true rfl) dX12_bestPart_49 ⟨Nat.le_refl _, Nat.le_refl _⟩ (fun v67 u68 H locs hw66 hP hD hS => ?_)
              obtain ⟨f69, a70, g71⟩ := u68
              have hP : va_P D vwCl (mW K o r f69 a70 g71) H := hP
              have hD : va_D A (mW K o r f69 a70 g71) := hD
              have hI : mI f69 a70 := hw66.2.1
              have hE : mE (XR []) f a f69 a70 := mE_tr hE hw66.2.2.1
              have eE72 : mE (XR []) F3 B4 f69 a70 := hw66.2.2.1
              have eZ73 : mZ [22, 23, 24, 25] [26] F3 B4 f69 a70 := hw66.2.2.2.2
              have hZ : mZ [22, 23, 24, 25] [26] f a f69 a70 := mZ_tr hZ (mZ_w (by decide) (by decide) eZ73)
              have hk0 : a70 2 = a 2 := ((eZ73.2 2 rfl).trans hk0)
              have hby74 := hw66.2.2.2.1
              rw [show B4 2 = a 2 from (eZ73.2 2 rfl).symm.trans hk0, hnn] at hby74
              refine lv_if_ne (tgt := 66) hx hb dX12_bestPart_52 (by decide) (fun c75 => ?_) (fun c75 => ?_)
              · have b76 : kb 1 v67 1 := kr_nel c75 hw66.1 kc_0 (by decide)
                obtain ⟨t77, et77⟩ : ∃ z : Int32, z = y1 + Int32.ofInt 1 := ⟨_, rfl⟩
                have qt77 : t77.toInt = y1.toInt + 1 := by rw [et77]; exact km_inc b15 (by decide) (by decide)
                have b78 : kb 1 t77 10 := kb_inc (k := 1) qt77 b15
                refine lv_iinc (v := t77) (lv' := [(3, .int t77), (2, .int y2), (0, .ref o), (1, .int bd)]) hx hb dX12_bestPart_66 hl (k := 0) rfl et77.symm (by decide) rfl (fun ls hl => ?_)
                refine lv_goto (tgt := 4) hx hb dX12_bestPart_69 (by decide) ?_
                exact ihlp6 (nn + 1) f69 a70 g71 _ _ _ t77 y2 (km_up hmlp6 qt77) hI hE hZ hk0 (kb_w b78 (by decide) (by decide)) (kb_w b59 (by decide) (by decide)) (by have w1 := hvlp6_0; have w2 := qt77; omega) ((hvlp6_1.trans (bs_b (bit_y1 hby74 c75)))) ((by have w1 := hvlp6_0; have w2 := kc_nle c12; have w3 := (congrArg Int32.toInt (et10.trans (congrFun (show B4 2 = a 2 from (hZL.2 2 rfl)) 102))); have w4 := (kPn_b hp0).2; omega : nn < kPn (a 2))) hP hD hS (lv_sub hl [0, 1, 2, 3] rfl)
              · have b79 : kb 0 v67 0 := kb_eq c75 kc_0
                refine lv_aload_n hx hb dX12_bestPart_55 rfl (lv_at hl 2 rfl) ?_
                refine lv_iload_n hx hb dX12_bestPart_56 rfl (lv_at hl 3 rfl) ?_
                refine lv_iload_n hx hb dX12_bestPart_57 rfl (lv_at hl 0 rfl) ?_
                refine kI.callV (As := [.int bd, .int y1]) (rest := []) ⟨hx, hb, hml, hown, hg⟩ (n_worksBy l o r f69 a70 g71 hI bd y1 bbd b15 DD (by rw [hk0]; exact hp0) (by rw [hk0]; exact hp1)) (cwV 2 hg (kgV wt7_31 wt7_33 wp5_4 wt1_14 wt7_34) rfl rfl rfl (by decide +kernel) ⟨by decide, by decide⟩) hK hP hD hS hA mIs [] rfl (wr := []) rfl rfl rfl (fun i h => by cases h) 0 12 rfl rfl rfl hl.1 rfl (Nat.le_of_ble_eq_true rfl) dX12_bestPart_58 ⟨Nat.le_refl _, Nat.le_refl _⟩ (fun v81 u82 H locs hw80 hP hD hS => ?_)
                obtain ⟨f83, a84, g85⟩ := u82
                have hP : va_P D vwCl (mW K o r f83 a84 g85) H := hP
                have hD : va_D A (mW K o r f83 a84 g85) := hD
                have hI : mI f83 a84 := hw80.2.1
                have hE : mE (XR []) f a f83 a84 := mE_tr hE hw80.2.2.1
                have eE86 : mE (XR []) f69 a70 f83 a84 := hw80.2.2.1
                have eZ87 : mZ [22, 23, 24, 25] [26] f69 a70 f83 a84 := hw80.2.2.2.2
                have hZ : mZ [22, 23, 24, 25] [26] f a f83 a84 := mZ_tr hZ (mZ_w (by decide) (by decide) eZ87)
                have hk0 : a84 2 = a 2 := ((eZ87.2 2 rfl).trans hk0)
                have hby88 := hw80.2.2.2.1
                rw [show a70 2 = a 2 from (eZ87.2 2 rfl).symm.trans hk0, hnn] at hby88
                refine lv_if_le (tgt := 66) hx hb dX12_bestPart_61 (by decide) (fun c89 => ?_) (fun c89 => ?_)
                · have h90 := (kc_le c89)
                  have b91 : kb 0 v81 0 := kr_le1 h90 hw80.1 kc_0
                  obtain ⟨t92, et92⟩ : ∃ z : Int32, z = y1 + Int32.ofInt 1 := ⟨_, rfl⟩
                  have qt92 : t92.toInt = y1.toInt + 1 := by rw [et92]; exact km_inc b15 (by decide) (by decide)
                  have b93 : kb 1 t92 10 := kb_inc (k := 1) qt92 b15
                  refine lv_iinc (v := t92) (lv' := [(3, .int t92), (2, .int y2), (0, .ref o), (1, .int bd)]) hx hb dX12_bestPart_66 hl (k := 0) rfl et92.symm (by decide) rfl (fun ls hl => ?_)
                  refine lv_goto (tgt := 4) hx hb dX12_bestPart_69 (by decide) ?_
                  exact ihlp6 (nn + 1) f83 a84 g85 _ _ _ t92 y2 (km_up hmlp6 qt92) hI hE hZ hk0 (kb_w b93 (by decide) (by decide)) (kb_w b59 (by decide) (by decide)) (by have w1 := hvlp6_0; have w2 := qt92; omega) ((hvlp6_1.trans (bs_w (by have z0 : (0 : Int32).toInt = 0 := (by decide +kernel); have w1 := hby88; have w2 := kc_le c89; omega)))) ((by have w1 := hvlp6_0; have w2 := kc_nle c12; have w3 := (congrArg Int32.toInt (et10.trans (congrFun (show B4 2 = a 2 from (hZL.2 2 rfl)) 102))); have w4 := (kPn_b hp0).2; omega : nn < kPn (a 2))) hP hD hS (lv_sub hl [0, 1, 2, 3] rfl)
                · have h94 := (kc_nle c89)
                  have b95 : kb 1 v81 20 := kr_lt2 h94 kc_0 hw80.1 (by decide)
                  refine lv_iload_n hx hb dX12_bestPart_64 rfl (lv_at hl 0 rfl) ?_
                  refine lv_istore_n (lv' := [(2, .int y1), (3, .int y1), (0, .ref o), (1, .int bd)]) hx hb dX12_bestPart_65 rfl hl (by decide) rfl (fun ls hl => ?_)
                  obtain ⟨t96, et96⟩ : ∃ z : Int32, z = y1 + Int32.ofInt 1 := ⟨_, rfl⟩
                  have qt96 : t96.toInt = y1.toInt + 1 := by rw [et96]; exact km_inc b15 (by decide) (by decide)
                  have b97 : kb 1 t96 10 := kb_inc (k := 1) qt96 b15
                  refine lv_iinc (v := t96) (lv' := [(3, .int t96), (2, .int y1), (0, .ref o), (1, .int bd)]) hx hb dX12_bestPart_66 hl (k := 1) rfl et96.symm (by decide) rfl (fun ls hl => ?_)
                  refine lv_goto (tgt := 4) hx hb dX12_bestPart_69 (by decide) ?_
                  exact ihlp6 (nn + 1) f83 a84 g85 _ _ _ t96 y1 (km_up hmlp6 qt96) hI hE hZ hk0 (kb_w b97 (by decide) (by decide)) (kb_w b15 (by decide) (by decide)) (by have w1 := hvlp6_0; have w2 := qt96; omega) ((hnn.trans (bs_y (bit1_y hry c20) (Or.inr (by have w1 := (show t60.toInt = R nn from by rw [show t60 = a 34 nn from (et60.trans (congrFun (hZL.2 34 rfl) (y1.toNatClampNeg))).trans (congrArg (a 34) (cl_nat hvlp6_0))]; exact hp2 nn hlt); have w2 := (show t61.toInt = R (bsF DD (a 2) R bd nn).toNatClampNeg from by rw [show t61 = _ from (et61.trans (congrFun (hZL.2 34 rfl) (y2.toNatClampNeg))), ← hbs]; exact hp2 _ (by have w1 := (bs_k (DD := DD) (R := R) (b := bd) (n := nn) hp0 (by omega)).2; rw [← hbs] at w1; have w2 := (kPn_b hp0).2; have w3 := (b59).1; unfold Int32.toNatClampNeg; omega)); have w3 := kc_lt c62; omega)) (bit_n1 hby74 c75) (by have z0 : (0 : Int32).toInt = 0 := (by decide +kernel); have w1 := hby88; have w2 := kc_nle c89; omega)))) ((by have w1 := hvlp6_0; have w2 := kc_nle c12; have w3 := (congrArg Int32.toInt (et10.trans (congrFun (show B4 2 = a 2 from (hZL.2 2 rfl)) 102))); have w4 := (kPn_b hp0).2; omega : nn < kPn (a 2))) hP hD hS (lv_sub hl [0, 1, 2, 3] rfl)
            · have h98 := (kc_nlt c62)
              refine lv_goto (tgt := 66) hx hb dX12_bestPart_43 (by decide) ?_
              obtain ⟨t99, et99⟩ : ∃ z : Int32, z = y1 + Int32.ofInt 1 := ⟨_, rfl⟩
              have qt99 : t99.toInt = y1.toInt + 1 := by rw [et99]; exact km_inc b15 (by decide) (by decide)
              have b100 : kb 1 t99 10 := kb_inc (k := 1) qt99 b15
              refine lv_iinc (v := t99) (lv' := [(3, .int t99), (2, .int y2), (0, .ref o), (1, .int bd)]) hx hb dX12_bestPart_66 hl (k := 0) rfl et99.symm (by decide) rfl (fun ls hl => ?_)
              refine lv_goto (tgt := 4) hx hb dX12_bestPart_69 (by decide) ?_
              exact ihlp6 (nn + 1) F3 B4 G5 _ _ _ t99 y2 (km_up hmlp6 qt99) hI hE hZ hk0 (kb_w b100 (by decide) (by decide)) (kb_w b59 (by decide) (by decide)) (by have w1 := hvlp6_0; have w2 := qt99; omega) ((hvlp6_1.trans (bs_l (fun q => c25 (hbs.trans q)) (by have w1 := (show t60.toInt = R nn from by rw [show t60 = a 34 nn from (et60.trans (congrFun (hZL.2 34 rfl) (y1.toNatClampNeg))).trans (congrArg (a 34) (cl_nat hvlp6_0))]; exact hp2 nn hlt); have w2 := (show t61.toInt = R (bsF DD (a 2) R bd nn).toNatClampNeg from by rw [show t61 = _ from (et61.trans (congrFun (hZL.2 34 rfl) (y2.toNatClampNeg))), ← hbs]; exact hp2 _ (by have w1 := (bs_k (DD := DD) (R := R) (b := bd) (n := nn) hp0 (by omega)).2; rw [← hbs] at w1; have w2 := (kPn_b hp0).2; have w3 := (b59).1; unfold Int32.toNatClampNeg; omega)); have w3 := kc_nlt c62; omega)))) ((by have w1 := hvlp6_0; have w2 := kc_nle c12; have w3 := (congrArg Int32.toInt (et10.trans (congrFun (show B4 2 = a 2 from (hZL.2 2 rfl)) 102))); have w4 := (kPn_b hp0).2; omega : nn < kPn (a 2))) hP hD hS (lv_sub hl [0, 1, 2, 3] rfl)
  exact lp6 (11) 0 f a g _ _ _ 0 (-1) (by have h1 := (kc_0); unfold kb at h1; omega) hI hE hZ hk0 (kb_w kc_0 (by decide) (by decide)) (kb_w kc_m1 (by decide) (by decide)) (by decide +kernel) (rfl) (Nat.zero_le _) hP hD hS (lv_sub hl [0, 1, 2, 3] rfl)
set_option maxHeartbeats 4000000 in
set_option maxRecDepth 100000 in
theorem n_sendsAll  (l : Launch) {D : va_G} {K : Nat → ClassId} (o : Nat) (r : Nat → Nat) (f : Nat → Int32) (a : Nat → Nat → Int32) (g : Nat → Int64) (hI : mI f a) (who : Int32)  (DD : Nat → tE) (hp0 : kK (a 2)) (hp1 : lM (a 2) DD) (hp2 : who = nI (2 ^ kBn (a 2) - 1)) : kV l yX12_sendsAll (Cond.code yX12_sendsAll cX12_sendsAll 3 none :: kG) (rmD 51 0 0) D (tysK K) [.ref o, .int who] (mW K o r f a g) (fun (u : mS) => mI u.1 u.2.1 ∧ mE (XR [(0, 23)]) f a u.1 u.2.1 ∧ u.2.1 2 = sdA DD (a 2) ∧ mZ [22, 23, 24, 25] [2, 26, 34] f a u.1 u.2.1) (fun u => mW K o r u.1 u.2.1 u.2.2) 0 0 := by
  refine kV.of (cc := cX12_sendsAll) (maxL := 3) (ret := none) (by decide) rfl (Nat.le_of_ble_eq_true rfl) ?_
  intro p e s m below meth c A hx hb hr hml hown hts hlocks hnm hK hP hD hS hA ls hl
  have hE : mE (XR [(0, 23)]) f a f a := mE_rf
  have hZ : mZ [22, 23, 24, 25] [2, 26, 34] f a f a := mZ_rf
  have hg : ∀ w ∈ kG, w.before _ s = true := fun w h => hts w (List.mem_cons_of_mem _ h)
  have hown : s.vm.findClass RX12 = some m.cls := hown
  have hl : lv_has ls 3 [(0, .ref o), (1, .int who)] := hl
  refine lv_aload_n hx hb dX12_sendsAll_0 rfl (lv_at hl 0 rfl) ?_
  refine kV.callV (As := []) (rest := []) ⟨hx, hb, hml, hown, hg⟩ (n_laysChains l o r f a g hI   hp0) (cwV 0 hg (kgV wt6_120 wt6_122 wp3_14 wt1_14 wt6_123) rfl rfl rfl (by decide +kernel) ⟨by decide, by decide⟩) hK hP hD hS hA mIs [] rfl (wr := []) rfl rfl rfl (fun i h => by cases h) 0 12 rfl rfl rfl hl.1 rfl (Nat.le_of_ble_eq_true rfl) dX12_sendsAll_1 ⟨Nat.le_refl _, Nat.le_refl _⟩ (fun u3 H locs hw1 hP hD hS => ?_)
  obtain ⟨f4, a5, g6⟩ := u3
  have hP : va_P D vwCl (mW K o r f4 a5 g6) H := hP
  have hD : va_D A (mW K o r f4 a5 g6) := hD
  have hI : mI f4 a5 := hw1.1
  have hE : mE (XR [(0, 23)]) f a f4 a5 := mE_tr hE (mE_w (XR_w (by decide)) hw1.2.1)
  have eE7 : mE (XR []) f a f4 a5 := hw1.2.1
  have eZ8 : mZ [] [34] f a f4 a5 := hw1.2.2.2
  have hZ : mZ [22, 23, 24, 25] [2, 26, 34] f a f4 a5 := mZ_tr hZ (mZ_w (by decide) (by decide) eZ8)
  have hchn := hw1.2.2.1
  refine lv_iconst (v := 0) hx hb dX12_sendsAll_4 (by decide) ?_
  refine lv_istore_n (lv' := [(2, .int 0), (0, .ref o), (1, .int who)]) hx hb dX12_sendsAll_5 rfl hl (by decide) rfl (fun ls hl => ?_)
  have lp13 : ∀ (n14 : Nat) (nn : Nat) (F10 : Nat → Int32) (B11 : Nat → Nat → Int32) (G12 : Nat → Int64) (H : Heap) (locs : List Loc) (ls : Array Slot) (y9 : Int32), (6 < y9.toInt + (n14 : Int)) → (mI F10 B11) → (mE (XR [(0, 23)]) f a F10 B11) → (mZ [22, 23, 24, 25] [2, 26, 34] f a F10 B11) → (kb 0 y9 6) → (y9.toInt = (nn : Int)) → (B11 2 = (sdF DD (a 2) (chA (a 2)) nn)) → (∀ i, i < kPn (a 2) → (B11 34 i).toInt = chA (a 2) i) → (nn ≤ kBn (a 2)) → va_P D vwCl (mW K o r F10 B11 G12) H → va_D A (mW K o r F10 B11 G12) → va_S A s.heap H locs → lv_has ls 3 [(2, .int y9), (0, .ref o), (1, .int who)] → W p l e (rmD 51 0 0) s m ([.ref o, .int who] : List Value).toArray below meth c H locs 0 0 (kQv D (tysK K) (fun (u : mS) => mI u.1 u.2.1 ∧ mE (XR [(0, 23)]) f a u.1 u.2.1 ∧ u.2.1 2 = sdA DD (a 2) ∧ mZ [22, 23, 24, 25] [2, 26, 34] f a u.1 u.2.1) (fun u => mW K o r u.1 u.2.1 u.2.2) A below ([.ref o, .int who] : List Value).toArray s 0 0) (F0 m 6 ls []) := by
    intro n14
    induction n14 with
    | zero =>
      intro nn F10 B11 G12  H locs ls y9 hmlp13 hI hE hZ b15 hvlp13_0 hvlp13_1 hvlp13_2 hvlp13_3 hP hD hS hl
      exact (by have h1 := b15.2; have h2 := hmlp13; omega : False).elim
    | succ n14 ihlp13 =>
      intro nn F10 B11 G12  H locs ls y9 hmlp13 hI hE hZ b15 hvlp13_0 hvlp13_1 hvlp13_2 hvlp13_3 hP hD hS hl
      have hnn : y9 = nI nn := nI_q hvlp13_0
      have hZB := hZ
      have hZL := hZ
      have hB2 := hvlp13_1
      have hB34 := hvlp13_2
      refine lv_iload_n hx hb dX12_sendsAll_6 rfl (lv_at hl 0 rfl) ?_
      refine lv_aload_n hx hb dX12_sendsAll_7 rfl (lv_at hl 1 rfl) ?_
      refine va_get (D := D) (ci := 12) (v := .ref (r 2)) (C := RX12) (T := TX12) (N := 48) hx hb hg inC12 hown hK hP 0 rfl rfl 2 (by decide) (hg _ wt5_162) (fun _ h9 => h9) rfl dX12_sendsAll_8 ?_
      refine lv_bipush (v := 103) hx hb dX12_sendsAll_11 (by decide) ?_
      refine va_iald hx hb hK hP 2 0 rfl rfl (kb_in kc_103 (by decide) (by decide)) dX12_sendsAll_13 ?_
      refine lv_topi (fun t16 et16 => ?_)
      rw [cl_103] at et16
      have b17 : kb 0 t16 6 := kb_eq et16 (aI_at hI.2.1 2 103 (by decide) (by decide))
      refine lv_icmp_ge (tgt := 58) hx hb dX12_sendsAll_14 (by decide) (fun c18 => ?_) (fun c18 => ?_)
      · have h19 := (kc_le c18)
        exact kV_ret hx hb hr hlocks hK hS dX12_sendsAll_58 (F10, B11, G12) hP hD ⟨hI, hE, (by (try dsimp only); unfold sdA; rw [← (by have w1 := hvlp13_0; have w2 := kc_le c18; have w3 := (show t16.toInt = (kBn (a 2) : Int) from by rw [et16, hB2, sd_o nn 103 (by have w8 := (kBn_b hp0).1; have w9 := hvlp13_3; omega)]; exact (kBn_b hp0).2); have w4 := hvlp13_3; omega : nn = kBn (a 2))]; exact hB2), hZ⟩
      · have h20 := (kc_nle c18)
        have b21 : kb 0 y9 5 := kr_lt1 h20 b15 b17 (by decide)
        have b22 : kb 1 t16 6 := kr_lt2 h20 b15 b17 (by decide)
        have hlt := (by have w1 := hvlp13_0; have w2 := kc_nle c18; have w3 := (show t16.toInt = (kBn (a 2) : Int) from by rw [et16, hB2, sd_o nn 103 (by have w8 := (kBn_b hp0).1; have w9 := hvlp13_3; omega)]; exact (kBn_b hp0).2); omega : nn < kBn (a 2))
        refine lv_iload_n hx hb dX12_sendsAll_17 rfl (lv_at hl 2 rfl) ?_
        refine lv_iload_n hx hb dX12_sendsAll_18 rfl (lv_at hl 0 rfl) ?_
        refine kN.callS (As := [.int who, .int y9]) (rest := []) ⟨hx, hb, hml, hown, hg⟩ (n_isIn l who y9 ) (va_cwS 2 hg (kgS wt6_124 wt6_125 wt1_14 wt6_126) rfl rfl rfl (by decide +kernel) ⟨by decide, by decide⟩) hP hS rfl hl.1 rfl (Nat.le_of_ble_eq_true rfl) dX12_sendsAll_19 ⟨Nat.le_refl _, Nat.le_refl _⟩ (fun v24 H locs hw23 hP hS => ?_)
        refine k_top (z := 1) (hw23.2.trans (if_pos (allb (kBn_b hp0).1 hlt hp2 hnn))) ?_
        refine lv_if_eq (tgt := 52) hx hb dX12_sendsAll_22 (by decide) (fun c26 => ?_) (fun c26 => ?_)
        · exact kb_dj c26 kc_1 kc_0 (by decide)
        · refine lv_aload_n hx hb dX12_sendsAll_25 rfl (lv_at hl 1 rfl) ?_
          refine va_get (D := D) (ci := 12) (v := .ref (r 2)) (C := RX12) (T := TX12) (N := 48) hx hb hg inC12 hown hK hP 0 rfl rfl 2 (by decide) (hg _ wt5_162) (fun _ h9 => h9) rfl dX12_sendsAll_26 ?_
          refine lv_bipush (v := 16) hx hb dX12_sendsAll_29 (by decide) ?_
          refine lv_iload_n hx hb dX12_sendsAll_31 rfl (lv_at hl 0 rfl) ?_
          refine lv_iadd hx hb dX12_sendsAll_32 ?_
          refine lv_topi (fun t27 et27 => ?_)
          have b28 : kb 16 t27 21 := kb_eq et27 (kb_add kc_16 b21 (by decide) (by decide))
          have qt27 : t27.toInt = 16 + y9.toInt := by rw [et27]; exact kt_cadd kc_16 b21 (by decide) (by decide)
          refine va_iald hx hb hK hP 2 0 rfl rfl (kb_in b28 (by decide) (by decide)) dX12_sendsAll_33 ?_
          refine lv_topi (fun t29 et29 => ?_)
          have b30 : kb (-1) t29 9 := kb_eq et29 (aI_ld hI.2.1 2 16 6 b28 (by decide) (by decide) (by decide +kernel))
          refine lv_iconst (v := (-1)) hx hb dX12_sendsAll_34 (by decide) ?_
          refine lv_icmp_ne (tgt := 52) hx hb dX12_sendsAll_35 (by decide) (fun c31 => ?_) (fun c31 => ?_)
          · have b32 : kb 0 t29 9 := kr_nel c31 b30 kc_m1 (by decide)
            obtain ⟨t33, et33⟩ : ∃ z : Int32, z = y9 + Int32.ofInt 1 := ⟨_, rfl⟩
            have qt33 : t33.toInt = y9.toInt + 1 := by rw [et33]; exact km_inc b21 (by decide) (by decide)
            have b34 : kb 1 t33 6 := kb_inc (k := 1) qt33 b21
            refine lv_iinc (v := t33) (lv' := [(2, .int t33), (0, .ref o), (1, .int who)]) hx hb dX12_sendsAll_52 hl (k := 0) rfl et33.symm (by decide) rfl (fun ls hl => ?_)
            refine lv_goto (tgt := 6) hx hb dX12_sendsAll_55 (by decide) ?_
            exact ihlp13 (nn + 1) F10 B11 G12 _ _ _ t33 (km_up hmlp13 qt33) hI hE hZ (kb_w b34 (by decide) (by decide)) (by have w1 := hvlp13_0; have w2 := qt33; omega) ((by rw [hB2]; exact sd_n (fun q => c31 ((show t29 = (sdF DD (a 2) (chA (a 2)) nn) (16 + nn) from et29.trans (by rw [hB2, show t27.toNatClampNeg = 16 + nn from (by have w1 := hvlp13_0; have w2 := qt27; unfold Int32.toNatClampNeg; omega)])).trans q)))) ((by exact hB34)) (hlt) hP hD hS (lv_sub hl [0, 1, 2] rfl)
          · have b35 : kb (-1) t29 (-1) := kb_eq c31 kc_m1
            refine lv_aload_n hx hb dX12_sendsAll_38 rfl (lv_at hl 1 rfl) ?_
            refine va_get (D := D) (ci := 12) (v := .ref (r 2)) (C := RX12) (T := TX12) (N := 48) hx hb hg inC12 hown hK hP 0 rfl rfl 2 (by decide) (hg _ wt5_162) (fun _ h9 => h9) rfl dX12_sendsAll_39 ?_
            refine lv_bipush (v := 16) hx hb dX12_sendsAll_42 (by decide) ?_
            refine lv_iload_n hx hb dX12_sendsAll_44 rfl (lv_at hl 0 rfl) ?_
            refine lv_iadd hx hb dX12_sendsAll_45 ?_
            refine k_top (z := t27) et27.symm ?_
            refine lv_aload_n hx hb dX12_sendsAll_46 rfl (lv_at hl 1 rfl) ?_
            refine lv_iload_n hx hb dX12_sendsAll_47 rfl (lv_at hl 0 rfl) ?_
            refine kI.callV (As := [.int y9]) (rest := [.int t27, .ref (r 2)]) ⟨hx, hb, hml, hown, hg⟩ (n_bestPart l o r F10 B11 G12 hI y9 b21 DD (chA (a 2)) (by rw [hB2]; exact sd_k hp0 nn (by have w8 := (kBn_b hp0).1; omega)) (by rw [hB2]; exact lM_k (fun i hi => sd_o nn i (by have w8 := (kBn_b hp0).1; omega)) hp1) (by rw [hB2, ne_pn (sd_E (by have w8 := (kBn_b hp0).1; omega))]; exact hB34)) (cwV 1 hg (kgV wt7_219 wt7_221 wp7_8 wt1_14 wt7_222) rfl rfl rfl (by decide +kernel) ⟨by decide, by decide⟩) hK hP hD hS hA mIs [] rfl (wr := []) rfl rfl rfl (fun i h => by cases h) 0 12 rfl rfl rfl hl.1 rfl (Nat.le_of_ble_eq_true rfl) dX12_sendsAll_48 ⟨Nat.le_refl _, Nat.le_refl _⟩ (fun v37 u38 H locs hw36 hP hD hS => ?_)
            obtain ⟨f39, a40, g41⟩ := u38
            have hP : va_P D vwCl (mW K o r f39 a40 g41) H := hP
            have hD : va_D A (mW K o r f39 a40 g41) := hD
            have hI : mI f39 a40 := hw36.2.1
            have hE : mE (XR [(0, 23)]) f a f39 a40 := mE_tr hE (mE_w (XR_w (by decide)) hw36.2.2.1)
            have eE42 : mE (XR []) F10 B11 f39 a40 := hw36.2.2.1
            have eZ43 : mZ [22, 23, 24, 25] [26] F10 B11 f39 a40 := hw36.2.2.2.2
            have hZ : mZ [22, 23, 24, 25] [2, 26, 34] f a f39 a40 := mZ_tr hZ (mZ_w (by decide) (by decide) eZ43)
            refine va_iast hx hb hK hP hD hS 2 0 rfl rfl (kb_in b28 (by decide) (by decide)) dX12_sendsAll_51 (fun H locs hP hD hS => ?_)
            have hP : va_P D vwCl (mW K o r f39 (va_up a40 2 (upd (a40 2) t27.toNatClampNeg v37)) g41) H := hP
            have hD : va_D A (mW K o r f39 (va_up a40 2 (upd (a40 2) t27.toNatClampNeg v37)) g41) := hD
            refine k_gen (P := fun z => va_P D vwCl (mW K o r f39 z g41) H ∧ va_D A (mW K o r f39 z g41) ∧ (mI f39 z) ∧ (mE (XR [(0, 23)]) f a f39 z) ∧ (mZ [22, 23, 24, 25] [2, 26, 34] f a f39 z)) (va_up a40 2 (upd (a40 2) t27.toNatClampNeg v37)) ⟨hP, hD, (mI_2 hI (aI_sx hI.2.1 2 16 6 b28 (by decide) (by decide) hw36.1 (by decide +kernel)) (kb_clt b28 (by decide) (by decide))), (mE_2 hE (bX_at 16 6 b28 (by decide) (by decide) (by decide))), (mZ_a hZ rfl)⟩ (fun a_44 ea_44 hq => ?_)
            obtain ⟨hP, hD, hI, hE, hZ⟩ := hq
            obtain ⟨t45, et45⟩ : ∃ z : Int32, z = y9 + Int32.ofInt 1 := ⟨_, rfl⟩
            have qt45 : t45.toInt = y9.toInt + 1 := by rw [et45]; exact km_inc b21 (by decide) (by decide)
            have b46 : kb 1 t45 6 := kb_inc (k := 1) qt45 b21
            refine lv_iinc (v := t45) (lv' := [(2, .int t45), (0, .ref o), (1, .int who)]) hx hb dX12_sendsAll_52 hl (k := 0) rfl et45.symm (by decide) rfl (fun ls hl => ?_)
            refine lv_goto (tgt := 6) hx hb dX12_sendsAll_55 (by decide) ?_
            exact ihlp13 (nn + 1) f39 a_44 g41 _ _ _ t45 (km_up hmlp13 qt45) hI hE hZ (kb_w b46 (by decide) (by decide)) (by have w1 := hvlp13_0; have w2 := qt45; omega) ((by rw [show a_44 2 = _ from ((show a_44 2 = upd (a40 2) t27.toNatClampNeg v37 from by rw [← ea_44]; rfl).trans (congrArg (fun zz_ => upd zz_ t27.toNatClampNeg v37) (eZ43.2 2 rfl))), hB2, show t27.toNatClampNeg = 16 + nn from (by have w1 := hvlp13_0; have w2 := qt27; unfold Int32.toNatClampNeg; omega)]; exact sd_y ((show t29 = (sdF DD (a 2) (chA (a 2)) nn) (16 + nn) from et29.trans (by rw [hB2, show t27.toNatClampNeg = 16 + nn from (by have w1 := hvlp13_0; have w2 := qt27; unfold Int32.toNatClampNeg; omega)])).symm.trans c31) (by have w1 := hw36.2.2.2.1; rw [hB2, ne_pn (sd_E (by have w8 := (kBn_b hp0).1; omega)), hnn] at w1; exact w1))) ((by rw [show a_44 34 = B11 34 from ((show a_44 34 = a40 34 from by rw [← ea_44]; rfl).trans (eZ43.2 34 rfl))]; exact hB34)) (hlt) hP hD hS (lv_sub hl [0, 1, 2] rfl)
  exact lp13 (7) 0 f4 a5 g6 _ _ _ 0 (by have h1 := (kc_0); unfold kb at h1; omega) hI hE hZ (kb_w kc_0 (by decide) (by decide)) (by decide +kernel) (((eZ8.2 2 rfl))) (hchn) (Nat.zero_le _) hP hD hS (lv_sub hl [0, 1, 2] rfl)
set_option maxHeartbeats 4000000 in
set_option maxRecDepth 100000 in
theorem n_begins  (l : Launch) {D : va_G} {K : Nat → ClassId} (o : Nat) (r : Nat → Nat) (f : Nat → Int32) (a : Nat → Nat → Int32) (g : Nat → Int64) (hI : mI f a)     : kV l yX12_begins (Cond.code yX12_begins cX12_begins 2 none :: kG) (rmD 2 0 0) D (tysK K) [.ref o] (mW K o r f a g) (fun (u : mS) => mI u.1 u.2.1 ∧ mE (XR [(0, 23)]) f a u.1 u.2.1 ∧ (∀ i, i < 23 → u.2.1 5 i = a 2 i) ∧ u.2.1 2 = bgF (a 2) ∧ mZ [] [2, 5] f a u.1 u.2.1) (fun u => mW K o r u.1 u.2.1 u.2.2) 0 0 := by
  refine kV.of (cc := cX12_begins) (maxL := 2) (ret := none) (by decide) rfl (Nat.le_of_ble_eq_true rfl) ?_
  intro p e s m below meth c A hx hb hr hml hown hts hlocks hnm hK hP hD hS hA ls hl
  have hE : mE (XR [(0, 23)]) f a f a := mE_rf
  have hZ : mZ [] [2, 5] f a f a := mZ_rf
  have hg : ∀ w ∈ kG, w.before _ s = true := fun w h => hts w (List.mem_cons_of_mem _ h)
  have hown : s.vm.findClass RX12 = some m.cls := hown
  have hl : lv_has ls 2 [(0, .ref o)] := hl
  refine lv_aload_n hx hb dX12_begins_0 rfl (lv_at hl 0 rfl) ?_
  refine lv_iconst (v := 0) hx hb dX12_begins_1 (by decide) ?_
  refine kV.callV (As := [.int 0]) (rest := []) ⟨hx, hb, hml, hown, hg⟩ (m_laysAside l o r f a g hI 0 (kb_w kc_0 (by decide) (by decide)) ) (cwV 1 hg (kgV wt7_207 wt7_209 wp7_5 wt1_14 wt7_210) rfl rfl rfl (by decide +kernel) ⟨by decide, by decide⟩) hK hP hD hS hA mIs [] rfl (wr := []) rfl rfl rfl (fun i h => by cases h) 0 12 rfl rfl rfl hl.1 rfl (Nat.le_of_ble_eq_true rfl) dX12_begins_2 ⟨Nat.le_refl _, Nat.le_refl _⟩ (fun u3 H locs hw1 hP hD hS => ?_)
  obtain ⟨f4, a5, g6⟩ := u3
  have hP : va_P D vwCl (mW K o r f4 a5 g6) H := hP
  have hD : va_D A (mW K o r f4 a5 g6) := hD
  have hI : mI f4 a5 := hw1.1
  have hE : mE (XR [(0, 23)]) f a f4 a5 := mE_tr hE (mE_w (XR_w (by decide)) hw1.2.1)
  have eE7 : mE (XR []) f a f4 a5 := hw1.2.1
  have eZ8 : mZ [] [5] f a f4 a5 := hw1.2.2.2.2.2
  have hZ : mZ [] [2, 5] f a f4 a5 := mZ_tr hZ (mZ_w (by decide) (by decide) eZ8)
  have hk0 : ∀ i, i < 23 → a5 5 i = a 2 i := fun i hi => by have w1 := (hw1.2.2.2.2.1) i hi; rw [show 23 * (0 : Int32).toInt.toNat + i = i from (by rw [show (0 : Int32).toInt.toNat = 0 from by decide +kernel]; omega)] at w1; exact w1
  refine lv_iconst (v := 0) hx hb dX12_begins_5 (by decide) ?_
  refine lv_istore_n (lv' := [(1, .int 0), (0, .ref o)]) hx hb dX12_begins_6 rfl hl (by decide) rfl (fun ls hl => ?_)
  have lp11 : ∀ (n12 : Nat) (nn : Nat) (B10 : Nat → Nat → Int32) (H : Heap) (locs : List Loc) (ls : Array Slot) (y9 : Int32), (6 < y9.toInt + (n12 : Int)) → (mI f4 B10) → (mE (XR [(0, 23)]) f a f4 B10) → (mZ [] [2, 5] f a f4 B10) → (∀ i, i < 23 → B10 5 i = a 2 i) → (kb 0 y9 6) → (y9.toInt = (nn : Int)) → (B10 2 = bgN (a 2) nn) → va_P D vwCl (mW K o r f4 B10 g6) H → va_D A (mW K o r f4 B10 g6) → va_S A s.heap H locs → lv_has ls 2 [(1, .int y9), (0, .ref o)] → W p l e (rmD 2 0 0) s m ([.ref o] : List Value).toArray below meth c H locs 0 0 (kQv D (tysK K) (fun (u : mS) => mI u.1 u.2.1 ∧ mE (XR [(0, 23)]) f a u.1 u.2.1 ∧ (∀ i, i < 23 → u.2.1 5 i = a 2 i) ∧ u.2.1 2 = bgF (a 2) ∧ mZ [] [2, 5] f a u.1 u.2.1) (fun u => mW K o r u.1 u.2.1 u.2.2) A below ([.ref o] : List Value).toArray s 0 0) (F0 m 7 ls []) := by
    intro n12
    induction n12 with
    | zero =>
      intro nn B10  H locs ls y9 hmlp11 hI hE hZ hk0 b13 hvlp11_0 hvlp11_1 hP hD hS hl
      exact (by have h1 := b13.2; have h2 := hmlp11; omega : False).elim
    | succ n12 ihlp11 =>
      intro nn B10  H locs ls y9 hmlp11 hI hE hZ hk0 b13 hvlp11_0 hvlp11_1 hP hD hS hl
      have hnn : y9 = nI nn := nI_q hvlp11_0
      have hZB := hZ
      have hZL := hZ
      refine lv_iload_n hx hb dX12_begins_7 rfl (lv_at hl 0 rfl) ?_
      refine lv_bipush (v := 6) hx hb dX12_begins_8 (by decide) ?_
      refine lv_icmp_ge (tgt := 29) hx hb dX12_begins_10 (by decide) (fun c14 => ?_) (fun c14 => ?_)
      · have h15 := (kc_le c14)
        have b16 : kb 6 y9 6 := kr_le2 h15 kc_6 b13
        exact kV_ret hx hb hr hlocks hK hS dX12_begins_29 (f4, B10, g6) hP hD ⟨hI, hE, hk0, (by have w9 := hvlp11_1; rw [show nn = 6 from (by have w1 := hvlp11_0; have w2 := kc_le c14; have w3 : (6 : Int32).toInt = 6 := (by decide +kernel); have w4 := (b16).2; omega)] at w9; exact w9), hZ⟩
      · have h17 := (kc_nle c14)
        have b18 : kb 0 y9 5 := kr_lt1 h17 b13 kc_6 (by decide)
        refine lv_aload_n hx hb dX12_begins_13 rfl (lv_at hl 1 rfl) ?_
        refine va_get (D := D) (ci := 12) (v := .ref (r 2)) (C := RX12) (T := TX12) (N := 48) hx hb hg inC12 hown hK hP 0 rfl rfl 2 (by decide) (hg _ wt5_162) (fun _ h9 => h9) rfl dX12_begins_14 ?_
        refine lv_bipush (v := 16) hx hb dX12_begins_17 (by decide) ?_
        refine lv_iload_n hx hb dX12_begins_19 rfl (lv_at hl 0 rfl) ?_
        refine lv_iadd hx hb dX12_begins_20 ?_
        refine lv_topi (fun t19 et19 => ?_)
        have b20 : kb 16 t19 21 := kb_eq et19 (kb_add kc_16 b18 (by decide) (by decide))
        have qt19 : t19.toInt = 16 + y9.toInt := by rw [et19]; exact kt_cadd kc_16 b18 (by decide) (by decide)
        refine lv_iconst (v := (-1)) hx hb dX12_begins_21 (by decide) ?_
        refine va_iast hx hb hK hP hD hS 2 0 rfl rfl (kb_in b20 (by decide) (by decide)) dX12_begins_22 (fun H locs hP hD hS => ?_)
        have hP : va_P D vwCl (mW K o r f4 (va_up B10 2 (upd (B10 2) t19.toNatClampNeg (-1))) g6) H := hP
        have hD : va_D A (mW K o r f4 (va_up B10 2 (upd (B10 2) t19.toNatClampNeg (-1))) g6) := hD
        refine k_gen (P := fun z => va_P D vwCl (mW K o r f4 z g6) H ∧ va_D A (mW K o r f4 z g6) ∧ (mI f4 z) ∧ (mE (XR [(0, 23)]) f a f4 z) ∧ (mZ [] [2, 5] f a f4 z) ∧ (∀ i, i < 23 → z 5 i = a 2 i)) (va_up B10 2 (upd (B10 2) t19.toNatClampNeg (-1))) ⟨hP, hD, (mI_2 hI (aI_sx hI.2.1 2 16 6 b20 (by decide) (by decide) kc_m1 (by decide +kernel)) (kb_clt b20 (by decide) (by decide))), (mE_2 hE (bX_at 16 6 b20 (by decide) (by decide) (by decide))), (mZ_a hZ rfl), hk0⟩ (fun a_21 ea_21 hq => ?_)
        obtain ⟨hP, hD, hI, hE, hZ, hk0⟩ := hq
        obtain ⟨t22, et22⟩ : ∃ z : Int32, z = y9 + Int32.ofInt 1 := ⟨_, rfl⟩
        have qt22 : t22.toInt = y9.toInt + 1 := by rw [et22]; exact km_inc b18 (by decide) (by decide)
        have b23 : kb 1 t22 6 := kb_inc (k := 1) qt22 b18
        refine lv_iinc (v := t22) (lv' := [(1, .int t22), (0, .ref o)]) hx hb dX12_begins_23 hl (k := 0) rfl et22.symm (by decide) rfl (fun ls hl => ?_)
        refine lv_goto (tgt := 7) hx hb dX12_begins_26 (by decide) ?_
        exact ihlp11 (nn + 1) a_21 _ _ _ t22 (km_up hmlp11 qt22) hI hE hZ hk0 (kb_w b23 (by decide) (by decide)) (by have w1 := hvlp11_0; have w2 := qt22; omega) ((by rw [show a_21 2 = _ from (show a_21 2 = upd (B10 2) t19.toNatClampNeg (-1) from by rw [← ea_21]; rfl), hvlp11_1, show t19.toNatClampNeg = 16 + nn from (by have w1 := hvlp11_0; have w2 := qt19; unfold Int32.toNatClampNeg; omega)]; exact bgN_s)) hP hD hS (lv_sub hl [0, 1] rfl)
  exact lp11 (7) 0 a5 _ _ _ 0 (by have h1 := (kc_0); unfold kb at h1; omega) hI hE hZ hk0 (kb_w kc_0 (by decide) (by decide)) (by decide +kernel) ((funext fun i => by rw [show a5 2 = a 2 from (eZ8.2 2 rfl)]; unfold bgN; rw [if_neg (by omega)])) hP hD hS (lv_sub hl [0, 1] rfl)
set_option maxHeartbeats 4000000 in
set_option maxRecDepth 100000 in
theorem n_areStanding  (l : Launch) {D : va_G} {K : Nat → ClassId} (o : Nat) (r : Nat → Nat) (f : Nat → Int32) (a : Nat → Nat → Int32) (g : Nat → Int64) (hI : mI f a) (x : Int32)   (hp0 : kK (a 2)) (hp1 : x = nI (2 ^ kPn (a 2) - 1)) : kI l yX12_areStanding (Cond.code yX12_areStanding cX12_areStanding 2 (some .boolean) :: kG) (rmD 3 0 0) D (tysK K) [.ref o, .int x] (mW K o r f a g) (fun v (_ : Unit) => kb 0 v 1 ∧ v = (if alS (a 2) = true then 1 else 0)) (fun _ => mW K o r f a g) 0 0 := by
  refine kI.of (cc := cX12_areStanding) (maxL := 2) (ret := (some .boolean)) (by decide) rfl (Nat.le_of_ble_eq_true rfl) ?_
  intro p e s m below meth c A hx hb hr hml hown hts hlocks hnm hK hP hD hS hA ls hl
  have hg : ∀ w ∈ kG, w.before _ s = true := fun w h => hts w (List.mem_cons_of_mem _ h)
  have hown : s.vm.findClass RX12 = some m.cls := hown
  have hl : lv_has ls 2 [(0, .ref o), (1, .int x)] := hl
  refine lv_iload_n hx hb dX12_areStanding_0 rfl (lv_at hl 1 rfl) ?_
  refine lv_aload_n hx hb dX12_areStanding_1 rfl (lv_at hl 0 rfl) ?_
  refine kI.callV (As := []) (rest := [.int x]) ⟨hx, hb, hml, hown, hg⟩ (n_standing l o r f a g hI   hp0) (cwV 0 hg (kgV wt6_116 wt6_118 wp3_13 wt1_14 wt6_119) rfl rfl rfl (by decide +kernel) ⟨by decide, by decide⟩) hK hP hD hS hA mIs [] rfl (wr := []) rfl rfl rfl (fun i h => by cases h) 0 12 rfl rfl rfl hl.1 rfl (Nat.le_of_ble_eq_true rfl) dX12_areStanding_2 ⟨Nat.le_refl _, Nat.le_refl _⟩ (fun v2 u3 H locs hw1 hP hD hS => ?_)
  have hP : va_P D vwCl (mW K o r f a g) H := hP
  have hD : va_D A (mW K o r f a g) := hD
  refine lv_iconst (v := (-1)) hx hb dX12_areStanding_5 (by decide) ?_
  refine lv_ixor hx hb dX12_areStanding_6 ?_
  refine lv_topi (fun t4 et4 => ?_)
  refine lv_iand hx hb dX12_areStanding_7 ?_
  refine lv_topi (fun t5 et5 => ?_)
  refine lv_if_ne (tgt := 15) hx hb dX12_areStanding_8 (by decide) (fun c6 => ?_) (fun c6 => ?_)
  · refine lv_iconst (v := 0) hx hb dX12_areStanding_15 (by decide) ?_
    exact kI_ret (v := 0) hx hb hr hlocks (by decide +kernel) hK hS dX12_areStanding_16 () hP hD ⟨(kb_w kc_0 (by decide) (by decide)), (by rw [if_neg (fun w9 => c6 ((al_r hp0 hp1 (show t5 = x &&& (upM (a 2) ^^^ (-1)) from by rw [et5, et4, hw1.2])).mpr w9))])⟩
  · have b7 : kb 0 t5 0 := kb_eq c6 kc_0
    refine lv_iconst (v := 1) hx hb dX12_areStanding_11 (by decide) ?_
    refine lv_goto (tgt := 16) hx hb dX12_areStanding_12 (by decide) ?_
    exact kI_ret (v := 1) hx hb hr hlocks (by decide +kernel) hK hS dX12_areStanding_16 () hP hD ⟨(kb_w kc_1 (by decide) (by decide)), (by rw [if_pos ((al_r hp0 hp1 (show t5 = x &&& (upM (a 2) ^^^ (-1)) from by rw [et5, et4, hw1.2])).mp c6)])⟩
set_option maxHeartbeats 4000000 in
set_option maxRecDepth 100000 in
theorem n_draws  (l : Launch) {D : va_G} {K : Nat → ClassId} (o : Nat) (r : Nat → Nat) (f : Nat → Int32) (a : Nat → Nat → Int32) (g : Nat → Int64) (hI : mI f a) (kk : Int32) (bkk : kb 10 kk 10)  (hp0 : kb 0 (f 47) 1000002) : kI l yX12_draws (Cond.code yX12_draws cX12_draws 2 (some .int) :: kG) (rmD 1 0 0) D (tysK K) [.ref o, .int kk] (mW K o r f a g) (fun v (u : mS) => kb (-2147483648) v 2147483647 ∧ mI u.1 u.2.1 ∧ mE (XR []) f a u.1 u.2.1 ∧ v.toInt = drI (f 47).toInt % 10 ∧ (u.1 47).toInt = drI (f 47).toInt ∧ mZ [47] [] f a u.1 u.2.1) (fun u => mW K o r u.1 u.2.1 u.2.2) 0 0 := by
  refine kI.of (cc := cX12_draws) (maxL := 2) (ret := (some .int)) (by decide) rfl (Nat.le_of_ble_eq_true rfl) ?_
  intro p e s m below meth c A hx hb hr hml hown hts hlocks hnm hK hP hD hS hA ls hl
  have hE : mE (XR []) f a f a := mE_rf
  have hZ : mZ [47] [] f a f a := mZ_rf
  have hg : ∀ w ∈ kG, w.before _ s = true := fun w h => hts w (List.mem_cons_of_mem _ h)
  have hown : s.vm.findClass RX12 = some m.cls := hown
  have hl : lv_has ls 2 [(0, .ref o), (1, .int kk)] := hl
  obtain ⟨c47_f, ec47_f⟩ : ∃ z : Int32, z = f 47 := ⟨_, rfl⟩
  have b1 : kb 0 c47_f 1000002 := kb_eq ec47_f hp0
  refine lv_aload_n hx hb dX12_draws_0 rfl (lv_at hl 0 rfl) ?_
  refine lv_ldc2 (v := (1103)) hx hb hown (hg _ wt8_75) dX12_draws_1 ?_
  refine lv_aload_n hx hb dX12_draws_4 rfl (lv_at hl 0 rfl) ?_
  refine va_get (D := D) (ci := 12) (v := .int (f 47)) (C := RX12) (T := TX12) (N := 48) hx hb hg inC12 hown hK hP 0 rfl rfl 47 (by decide) (hg _ wt5_207) (fun _ h9 => h9) rfl dX12_draws_5 ?_
  refine k_top (z := c47_f) ec47_f.symm ?_
  refine lv_i2l hx hb dX12_draws_8 rfl ?_
  refine lv_topl (fun t2 et2 => ?_)
  have b3 : kbl 0 t2 1000002 := kbl_eq et2 (kbl_i2l b1)
  refine lv_lmul hx hb dX12_draws_9 ?_
  refine lv_topl (fun t4 et4 => ?_)
  refine lv_ldc2 (v := (12345)) hx hb hown (hg _ wt8_76) dX12_draws_10 ?_
  refine lv_ladd hx hb dX12_draws_13 ?_
  refine lv_topl (fun t5 et5 => ?_)
  refine lv_ldc2 (v := (1000003)) hx hb hown (hg _ wt8_77) dX12_draws_14 ?_
  refine lv_lrem hx hb dX12_draws_17 (by decide +kernel) ?_
  refine lv_topl (fun t6 et6 => ?_)
  refine lv_l2i hx hb dX12_draws_18 rfl ?_
  refine lv_topi (fun t7 et7 => ?_)
  refine va_put (D := D) (ci := 12) (v := .int t7) (ty := .int) (C := RX12) (T := TX12) (N := 48) hx hb hg inC12 tyX12 tyX12_ok nmX12 hown hK hP hD hS 0 rfl rfl 47 (by decide) (hg _ wt5_207) (fun _ h9 => h9) rfl (by decide +kernel) rfl rfl (Nat.le_of_ble_eq_true rfl) dX12_draws_19 (fun H locs hP hD hS => ?_)
  have hP : va_P D vwCl (mW K o r (upd f 47 t7) a g) H := hP
  have hD : va_D A (mW K o r (upd f 47 t7) a g) := hD
  refine k_gen (P := fun z => va_P D vwCl (mW K o r z a g) H ∧ va_D A (mW K o r z a g) ∧ (mI z a) ∧ (mE (XR []) f a z a) ∧ (mZ [47] [] f a z a)) (upd f 47 t7) ⟨hP, hD, (mI_f hI (fI_st hI.1 47 (kb_any _) (by decide) (by decide))), (mE_f hE (by decide)), (mZ_f hZ rfl)⟩ (fun f_8 ef_8 hq => ?_)
  obtain ⟨hP, hD, hI, hE, hZ⟩ := hq
  have hdr : t7.toInt = drI c47_f.toInt := dr_m b1 et2 et4 et5 et6 et7
  have b9 : kb 0 t7 1000002 := ⟨by have w1 := dr_b c47_f.toInt; omega, by have w1 := dr_b c47_f.toInt; omega⟩
  refine lv_aload_n hx hb dX12_draws_22 rfl (lv_at hl 0 rfl) ?_
  refine va_get (D := D) (ci := 12) (v := .int (f_8 47)) (C := RX12) (T := TX12) (N := 48) hx hb hg inC12 hown hK hP 0 rfl rfl 47 (by decide) (hg _ wt5_207) (fun _ h9 => h9) rfl dX12_draws_23 ?_
  refine k_top (z := t7) (show f_8 47 = t7 from by rw [← ef_8]; rfl) ?_
  refine lv_iload_n hx hb dX12_draws_26 rfl (lv_at hl 1 rfl) ?_
  refine lv_irem hx hb dX12_draws_27 (kb_nz bkk (by decide)) ?_
  refine lv_topi (fun t10 et10 => ?_)
  exact kI_ret (v := t10) hx hb hr hlocks rfl hK hS dX12_draws_28 (f_8, a, g) hP hD ⟨(kb_any t10), hI, hE, (by have w1 : kk = 10 := Int32.toInt_inj.mp ((kb_c bkk).trans (by decide +kernel)); have w2 := dr_10 b9 (show t10 = t7 - t7 / 10 * 10 from by rw [et10, w1]); rw [w2, hdr, ec47_f]), (by (try dsimp only); rw [show f_8 47 = t7 from (show f_8 47 = t7 from by rw [← ef_8]; rfl), hdr, ec47_f]), hZ⟩
set_option maxHeartbeats 4000000 in
set_option maxRecDepth 100000 in
theorem n_nights3  (l : Launch) {D : va_G} {K : Nat → ClassId} (o : Nat) (r : Nat → Nat) (f : Nat → Int32) (a : Nat → Nat → Int32) (g : Nat → Int64) (hI : mI f a) (x : Int32) (y : Int32)  (DD : Nat → tE) (hp0 : kK (a 2)) (hp1 : lM (a 2) DD) (hp2 : (a 2 22).toInt ≤ 999) : kI l yX12_nights (Cond.code yX12_nights cX12_nights 6 (some .int) :: kG) (rmD 52 0 0) D (tysK K) [.ref o, .int x, .int y] (mW K o r f a g) (fun v (u : mS) => kb (-2147483648) v 2147483647 ∧ mI u.1 u.2.1 ∧ mE (XR []) f a u.1 u.2.1 ∧ ((¬ ngtO x y ∧ v = -1 ∧ u.1 0 = -1 ∧ u.2.1 1 = rfS (-1 : Int32).toInt (a 1) ∧ u.1 45 = f 45 ∧ u.1 46 = f 46 ∧ u.2.1 44 = a 44) ∨ (ngtO x y ∧ u.1 0 = 0 ∧ u.2.1 1 = a 1 ∧ v.toInt = ((nsF DD (a 2) x.toInt y.toInt.toNat).1 : Int) ∧ u.1 45 = a 2 102 ∧ u.1 46 = a 2 103 ∧ ∀ i, i < 23 → u.2.1 44 i = (nsF DD (a 2) x.toInt y.toInt.toNat).2.1 i)) ∧ mZ [0, 22, 23, 24, 25, 45, 46, 47] [1, 2, 5, 26, 29, 30, 34, 44] f a u.1 u.2.1) (fun u => mW K o r u.1 u.2.1 u.2.2) 0 0 := by
  refine kI.of (cc := cX12_nights) (maxL := 6) (ret := (some .int)) (by decide) rfl (Nat.le_of_ble_eq_true rfl) ?_
  intro p e s m below meth c A hx hb hr hml hown hts hlocks hnm hK hP hD hS hA ls hl
  have hE : mE (XR [(0, 23)]) f a f a := mE_rf
  have hZ : mZ [0, 22, 23, 24, 25, 45, 46, 47] [1, 2, 5, 26, 29, 30, 34, 44] f a f a := mZ_rf
  have hg : ∀ w ∈ kG, w.before _ s = true := fun w h => hts w (List.mem_cons_of_mem _ h)
  have hown : s.vm.findClass RX12 = some m.cls := hown
  have hl : lv_has ls 6 [(0, .ref o), (1, .int x), (2, .int y)] := hl
  refine lv_iload_n hx hb dX12_nights_0 rfl (lv_at hl 1 rfl) ?_
  refine lv_iconst (v := 0) hx hb dX12_nights_1 (by decide) ?_
  refine lv_ldc (v := (1000000)) hx hb hown (hg _ wt6_191) dX12_nights_2 ?_
  refine kN.callS (As := [.int x, .int 0, .int 1000000]) (rest := []) ⟨hx, hb, hml, hown, hg⟩ (m_lies l x 0 1000000 ) (va_cwS 3 hg (kgS wt6_69 wt6_70 wt1_14 wt6_71) rfl rfl rfl (by decide +kernel) ⟨by decide, by decide⟩) hP hS rfl hl.1 rfl (Nat.le_of_ble_eq_true rfl) dX12_nights_4 ⟨Nat.le_refl _, Nat.le_refl _⟩ (fun v2 H locs hw1 hP hS => ?_)
  refine lv_if_eq (tgt := 20) hx hb dX12_nights_7 (by decide) (fun c4 => ?_) (fun c4 => ?_)
  · have b5 : kb 0 v2 0 := kb_eq c4 kc_0
    refine lv_aload_n hx hb dX12_nights_20 rfl (lv_at hl 0 rfl) ?_
    refine lv_iconst (v := (-1)) hx hb dX12_nights_21 (by decide) ?_
    refine kI.callV (As := [.int (-1)]) (rest := []) ⟨hx, hb, hml, hown, hg⟩ (n_refuses l o r f a g hI (-1) (kb_w kc_m1 (by decide) (by decide)) ) (cwV 1 hg (kgV wt6_72 wt6_74 wp3_5 wt1_14 wt6_75) rfl rfl rfl (by decide +kernel) ⟨by decide, by decide⟩) hK hP hD hS hA mIs [] rfl (wr := []) rfl rfl rfl (fun i h => by cases h) 0 12 rfl rfl rfl hl.1 rfl (Nat.le_of_ble_eq_true rfl) dX12_nights_22 ⟨Nat.le_refl _, Nat.le_refl _⟩ (fun v7 u8 H locs hw6 hP hD hS => ?_)
    obtain ⟨f9, a10, g11⟩ := u8
    have hP : va_P D vwCl (mW K o r f9 a10 g11) H := hP
    have hD : va_D A (mW K o r f9 a10 g11) := hD
    have hI : mI f9 a10 := hw6.2.1
    have hE : mE (XR [(0, 23)]) f a f9 a10 := mE_tr hE (mE_w (XR_w (by decide)) hw6.2.2.1)
    have eE12 : mE (XR []) f a f9 a10 := hw6.2.2.1
    have eZ13 : mZ [0] [1] f a f9 a10 := hw6.2.2.2.2.2.2
    have hZ : mZ [0, 22, 23, 24, 25, 45, 46, 47] [1, 2, 5, 26, 29, 30, 34, 44] f a f9 a10 := mZ_tr hZ (mZ_w (by decide) (by decide) eZ13)
    refine k_top (z := (-1)) hw6.2.2.2.1 ?_
    exact kI_ret (v := (-1)) hx hb hr hlocks rfl hK hS dX12_nights_25 (f9, a10, g11) hP hD ⟨(kb_w kc_m1 (by decide) (by decide)), hI, ⟨hE.1, hE.2.1, fun i _ => (hw6.2.2.1).2.2.1 i rfl, hE.2.2.2.1, hE.2.2.2.2⟩, (Or.inl ⟨(fun q => mLies_z (hw1.2.symm.trans c4) (by decide +kernel) (by decide +kernel) q.1), rfl, hw6.2.2.2.2.1, hw6.2.2.2.2.2.1.trans (by rw [show a 1 = a 1 from rfl]), (eZ13.1 45 rfl), (eZ13.1 46 rfl), (eZ13.2 44 rfl)⟩), hZ⟩
  · have b14 : kb 1 v2 1 := kr_nel c4 hw1.1 kc_0 (by decide)
    have h15 := mLies_ne (hw1.2 ▸ c4)
    have b16 : kb 0 x 2147483647 := kr_le2 h15.1 kc_0 (kb_any x)
    have b17 : kb 0 x 1000000 := kr_le1 h15.2 b16 kc_1000000
    refine lv_iload_n hx hb dX12_nights_10 rfl (lv_at hl 2 rfl) ?_
    refine lv_iconst (v := 1) hx hb dX12_nights_11 (by decide) ?_
    refine lv_bipush (v := 20) hx hb dX12_nights_12 (by decide) ?_
    refine kN.callS (As := [.int y, .int 1, .int 20]) (rest := []) ⟨hx, hb, hml, hown, hg⟩ (m_lies l y 1 20 ) (va_cwS 3 hg (kgS wt6_69 wt6_70 wt1_14 wt6_71) rfl rfl rfl (by decide +kernel) ⟨by decide, by decide⟩) hP hS rfl hl.1 rfl (Nat.le_of_ble_eq_true rfl) dX12_nights_14 ⟨Nat.le_refl _, Nat.le_refl _⟩ (fun v19 H locs hw18 hP hS => ?_)
    refine lv_if_ne (tgt := 26) hx hb dX12_nights_17 (by decide) (fun c21 => ?_) (fun c21 => ?_)
    · have b22 : kb 1 v19 1 := kr_nel c21 hw18.1 kc_0 (by decide)
      have h23 := mLies_ne (hw18.2 ▸ c21)
      have b24 : kb 1 y 2147483647 := kr_le2 h23.1 kc_1 (kb_any y)
      have b25 : kb 1 y 20 := kr_le1 h23.2 b24 kc_20
      have hxb : 0 ≤ x.toInt ∧ x.toInt ≤ 1000002 := ⟨by have w1 := (b17).1; omega, by have w1 := (b17).2; omega⟩
      refine lv_aload_n hx hb dX12_nights_26 rfl (lv_at hl 0 rfl) ?_
      refine lv_iload_n hx hb dX12_nights_27 rfl (lv_at hl 1 rfl) ?_
      refine va_put (D := D) (ci := 12) (v := .int x) (ty := .int) (C := RX12) (T := TX12) (N := 48) hx hb hg inC12 tyX12 tyX12_ok nmX12 hown hK hP hD hS 0 rfl rfl 47 (by decide) (hg _ wt5_207) (fun _ h9 => h9) rfl (by decide +kernel) rfl rfl (Nat.le_of_ble_eq_true rfl) dX12_nights_28 (fun H locs hP hD hS => ?_)
      have hP : va_P D vwCl (mW K o r (upd f 47 x) a g) H := hP
      have hD : va_D A (mW K o r (upd f 47 x) a g) := hD
      refine k_gen (P := fun z => va_P D vwCl (mW K o r z a g) H ∧ va_D A (mW K o r z a g) ∧ (mI z a) ∧ (mE (XR [(0, 23)]) f a z a) ∧ (mZ [0, 22, 23, 24, 25, 45, 46, 47] [1, 2, 5, 26, 29, 30, 34, 44] f a z a)) (upd f 47 x) ⟨hP, hD, (mI_f hI (fI_st hI.1 47 (kb_any _) (by decide) (by decide))), (mE_f hE (by decide)), (mZ_f hZ rfl)⟩ (fun f_26 ef_26 hq => ?_)
      obtain ⟨hP, hD, hI, hE, hZ⟩ := hq
      refine lv_aload_n hx hb dX12_nights_31 rfl (lv_at hl 0 rfl) ?_
      refine lv_aload_n hx hb dX12_nights_32 rfl (lv_at hl 0 rfl) ?_
      refine va_get (D := D) (ci := 12) (v := .ref (r 2)) (C := RX12) (T := TX12) (N := 48) hx hb hg inC12 hown hK hP 0 rfl rfl 2 (by decide) (hg _ wt5_162) (fun _ h9 => h9) rfl dX12_nights_33 ?_
      refine lv_bipush (v := 102) hx hb dX12_nights_36 (by decide) ?_
      refine va_iald hx hb hK hP 2 0 rfl rfl (kb_in kc_102 (by decide) (by decide)) dX12_nights_38 ?_
      refine lv_topi (fun t27 et27 => ?_)
      rw [cl_102] at et27
      have b28 : kb 0 t27 10 := kb_eq et27 (aI_at hI.2.1 2 102 (by decide) (by decide))
      refine va_put (D := D) (ci := 12) (v := .int t27) (ty := .int) (C := RX12) (T := TX12) (N := 48) hx hb hg inC12 tyX12 tyX12_ok nmX12 hown hK hP hD hS 0 rfl rfl 45 (by decide) (hg _ wt5_205) (fun _ h9 => h9) rfl (by decide +kernel) rfl rfl (Nat.le_of_ble_eq_true rfl) dX12_nights_39 (fun H locs hP hD hS => ?_)
      have hP : va_P D vwCl (mW K o r (upd f_26 45 t27) a g) H := hP
      have hD : va_D A (mW K o r (upd f_26 45 t27) a g) := hD
      refine k_gen (P := fun z => va_P D vwCl (mW K o r z a g) H ∧ va_D A (mW K o r z a g) ∧ (mI z a) ∧ (mE (XR [(0, 23)]) f a z a) ∧ (mZ [0, 22, 23, 24, 25, 45, 46, 47] [1, 2, 5, 26, 29, 30, 34, 44] f a z a)) (upd f_26 45 t27) ⟨hP, hD, (mI_f hI (fI_st hI.1 45 b28 (by decide) (by decide))), (mE_f hE (by decide)), (mZ_f hZ rfl)⟩ (fun f_29 ef_29 hq => ?_)
      obtain ⟨hP, hD, hI, hE, hZ⟩ := hq
      refine lv_aload_n hx hb dX12_nights_42 rfl (lv_at hl 0 rfl) ?_
      refine lv_aload_n hx hb dX12_nights_43 rfl (lv_at hl 0 rfl) ?_
      refine va_get (D := D) (ci := 12) (v := .ref (r 2)) (C := RX12) (T := TX12) (N := 48) hx hb hg inC12 hown hK hP 0 rfl rfl 2 (by decide) (hg _ wt5_162) (fun _ h9 => h9) rfl dX12_nights_44 ?_
      refine lv_bipush (v := 103) hx hb dX12_nights_47 (by decide) ?_
      refine va_iald hx hb hK hP 2 0 rfl rfl (kb_in kc_103 (by decide) (by decide)) dX12_nights_49 ?_
      refine lv_topi (fun t30 et30 => ?_)
      rw [cl_103] at et30
      have b31 : kb 0 t30 6 := kb_eq et30 (aI_at hI.2.1 2 103 (by decide) (by decide))
      refine va_put (D := D) (ci := 12) (v := .int t30) (ty := .int) (C := RX12) (T := TX12) (N := 48) hx hb hg inC12 tyX12 tyX12_ok nmX12 hown hK hP hD hS 0 rfl rfl 46 (by decide) (hg _ wt5_206) (fun _ h9 => h9) rfl (by decide +kernel) rfl rfl (Nat.le_of_ble_eq_true rfl) dX12_nights_50 (fun H locs hP hD hS => ?_)
      have hP : va_P D vwCl (mW K o r (upd f_29 46 t30) a g) H := hP
      have hD : va_D A (mW K o r (upd f_29 46 t30) a g) := hD
      refine k_gen (P := fun z => va_P D vwCl (mW K o r z a g) H ∧ va_D A (mW K o r z a g) ∧ (mI z a) ∧ (mE (XR [(0, 23)]) f a z a) ∧ (mZ [0, 22, 23, 24, 25, 45, 46, 47] [1, 2, 5, 26, 29, 30, 34, 44] f a z a)) (upd f_29 46 t30) ⟨hP, hD, (mI_f hI (fI_st hI.1 46 b31 (by decide) (by decide))), (mE_f hE (by decide)), (mZ_f hZ rfl)⟩ (fun f_32 ef_32 hq => ?_)
      obtain ⟨hP, hD, hI, hE, hZ⟩ := hq
      have hk0 : a 2 = a 2 := rfl
      refine lv_iconst (v := 0) hx hb dX12_nights_53 (by decide) ?_
      refine lv_istore_n (lv' := [(3, .int 0), (0, .ref o), (1, .int x), (2, .int y)]) hx hb dX12_nights_54 rfl hl (by decide) rfl (fun ls hl => ?_)
      refine lv_iconst (v := 0) hx hb dX12_nights_55 (by decide) ?_
      refine lv_istore (lv' := [(4, .int 0), (3, .int 0), (0, .ref o), (1, .int x), (2, .int y)]) hx hb dX12_nights_56 hl (by decide) rfl (fun ls hl => ?_)
      have lp38 : ∀ (n39 : Nat) (nn : Nat) (F35 : Nat → Int32) (B36 : Nat → Nat → Int32) (G37 : Nat → Int64) (H : Heap) (locs : List Loc) (ls : Array Slot) (y33 : Int32) (y34 : Int32), (20 < y33.toInt + (n39 : Int)) → (mI F35 B36) → (mE (XR [(0, 23)]) f a F35 B36) → (mZ [0, 22, 23, 24, 25, 45, 46, 47] [1, 2, 5, 26, 29, 30, 34, 44] f a F35 B36) → (B36 2 = a 2) → (kb 0 y33 20) → (kb 0 y34 20) → (y33.toInt = (nn : Int)) → (y34.toInt = ((nsF DD (a 2) x.toInt nn).1 : Int)) → (nn ≤ y.toInt.toNat) → (F35 45 = a 2 102) → (F35 46 = a 2 103) → (B36 1 = a 1) → (0 < nn → ∀ i, i < 23 → B36 44 i = (nsF DD (a 2) x.toInt nn).2.1 i) → ((F35 47).toInt = (nsF DD (a 2) x.toInt nn).2.2) → va_P D vwCl (mW K o r F35 B36 G37) H → va_D A (mW K o r F35 B36 G37) → va_S A s.heap H locs → lv_has ls 6 [(4, .int y33), (3, .int y34), (0, .ref o), (1, .int x), (2, .int y)] → W p l e (rmD 52 0 0) s m ([.ref o, .int x, .int y] : List Value).toArray below meth c H locs 0 0 (kQi D (tysK K) (fun v (u : mS) => kb (-2147483648) v 2147483647 ∧ mI u.1 u.2.1 ∧ mE (XR []) f a u.1 u.2.1 ∧ ((¬ ngtO x y ∧ v = -1 ∧ u.1 0 = -1 ∧ u.2.1 1 = rfS (-1 : Int32).toInt (a 1) ∧ u.1 45 = f 45 ∧ u.1 46 = f 46 ∧ u.2.1 44 = a 44) ∨ (ngtO x y ∧ u.1 0 = 0 ∧ u.2.1 1 = a 1 ∧ v.toInt = ((nsF DD (a 2) x.toInt y.toInt.toNat).1 : Int) ∧ u.1 45 = a 2 102 ∧ u.1 46 = a 2 103 ∧ ∀ i, i < 23 → u.2.1 44 i = (nsF DD (a 2) x.toInt y.toInt.toNat).2.1 i)) ∧ mZ [0, 22, 23, 24, 25, 45, 46, 47] [1, 2, 5, 26, 29, 30, 34, 44] f a u.1 u.2.1) (fun u => mW K o r u.1 u.2.1 u.2.2) A below ([.ref o, .int x, .int y] : List Value).toArray s 0 0) (F0 m 58 ls []) := by
        intro n39
        induction n39 with
        | zero =>
          intro nn F35 B36 G37  H locs ls y33 y34 hmlp38 hI hE hZ hk0 b40 b41 hvlp38_0 hvlp38_1 hvlp38_2 hvlp38_3 hvlp38_4 hvlp38_5 hvlp38_6 hvlp38_7 hP hD hS hl
          exact (by have h1 := b40.2; have h2 := hmlp38; omega : False).elim
        | succ n39 ihlp38 =>
          intro nn F35 B36 G37  H locs ls y33 y34 hmlp38 hI hE hZ hk0 b40 b41 hvlp38_0 hvlp38_1 hvlp38_2 hvlp38_3 hvlp38_4 hvlp38_5 hvlp38_6 hvlp38_7 hP hD hS hl
          have hnn : y33 = nI nn := nI_q hvlp38_0
          have hZB := hZ
          have hal := hvlp38_1
          have hlt0 := hvlp38_2
          refine lv_iload hx hb dX12_nights_58 (lv_at hl 0 rfl) ?_
          refine lv_iload_n hx hb dX12_nights_60 rfl (lv_at hl 4 rfl) ?_
          refine lv_icmp_ge (tgt := 196) hx hb dX12_nights_61 (by decide) (fun c42 => ?_) (fun c42 => ?_)
          · have h43 := (kc_le c42)
            have b44 : kb 1 y33 20 := kr_le2 h43 b25 b40
            refine lv_aload_n hx hb dX12_nights_196 rfl (lv_at hl 2 rfl) ?_
            refine lv_iload_n hx hb dX12_nights_197 rfl (lv_at hl 1 rfl) ?_
            refine kI.callV (As := [.int y34]) (rest := []) ⟨hx, hb, hml, hown, hg⟩ (n_good l o r F35 B36 G37 hI y34  ) (cwV 1 hg (kgV wt6_76 wt6_78 wp3_6 wt1_14 wt6_79) rfl rfl rfl (by decide +kernel) ⟨by decide, by decide⟩) hK hP hD hS hA mIs [] rfl (wr := []) rfl rfl rfl (fun i h => by cases h) 0 12 rfl rfl rfl hl.1 rfl (Nat.le_of_ble_eq_true rfl) dX12_nights_198 ⟨Nat.le_refl _, Nat.le_refl _⟩ (fun v46 u47 H locs hw45 hP hD hS => ?_)
            obtain ⟨f48, a49, g50⟩ := u47
            have hP : va_P D vwCl (mW K o r f48 a49 g50) H := hP
            have hD : va_D A (mW K o r f48 a49 g50) := hD
            have hI : mI f48 a49 := hw45.2.1
            have hE : mE (XR [(0, 23)]) f a f48 a49 := mE_tr hE (mE_w (XR_w (by decide)) hw45.2.2.1)
            have eE51 : mE (XR []) F35 B36 f48 a49 := hw45.2.2.1
            have eZ52 : mZ [0] [] F35 B36 f48 a49 := hw45.2.2.2.2.2
            have hZ : mZ [0, 22, 23, 24, 25, 45, 46, 47] [1, 2, 5, 26, 29, 30, 34, 44] f a f48 a49 := mZ_tr hZ (mZ_w (by decide) (by decide) eZ52)
            have hk0 : a49 2 = a 2 := ((eZ52.2 2 rfl).trans hk0)
            refine k_top (z := y34) hw45.2.2.2.1 ?_
            exact kI_ret (v := y34) hx hb hr hlocks rfl hK hS dX12_nights_201 (f48, a49, g50) hP hD ⟨(kb_w b41 (by decide) (by decide)), hI, ⟨hE.1, hE.2.1, fun i _ => congrFun hk0 i, hE.2.2.2.1, hE.2.2.2.2⟩, (Or.inr ⟨⟨b17, b25⟩, hw45.2.2.2.2.1, ((eZ52.2 1 rfl).trans hvlp38_5), (by rw [← (show nn = y.toInt.toNat from (by have w1 := hvlp38_0; have w2 := kc_le c42; have w3 := (b25).1; have w4 := hvlp38_2; omega))]; exact hal), (((eZ52.1 45 rfl)).trans hvlp38_3), (((eZ52.1 46 rfl)).trans hvlp38_4), (by rw [← (show nn = y.toInt.toNat from (by have w1 := hvlp38_0; have w2 := kc_le c42; have w3 := (b25).1; have w4 := hvlp38_2; omega))]; intro i hi; (try dsimp only); rw [show a49 44 = B36 44 from (eZ52.2 44 rfl)]; exact hvlp38_6 (by have w1 := (b25).1; have w2 := (by have w1 := hvlp38_0; have w2 := kc_le c42; have w3 := (b25).1; have w4 := hvlp38_2; omega); omega) i hi)⟩), hZ⟩
          · have h53 := (kc_nle c42)
            have b54 : kb 0 y33 19 := kr_lt1 h53 b40 b25 (by decide)
            have h2b := hk0
            have hny : nn < y.toInt.toNat := by have w1 := hvlp38_0; have w2 := kc_nle c42; have w3 := (b25).1; omega
            refine lv_aload_n hx hb dX12_nights_64 rfl (lv_at hl 2 rfl) ?_
            refine kV.callV (As := []) (rest := []) ⟨hx, hb, hml, hown, hg⟩ (n_begins l o r F35 B36 G37 hI   ) (cwV 0 hg (kgV wt7_203 wt7_205 wp7_4 wt1_14 wt7_206) rfl rfl rfl (by decide +kernel) ⟨by decide, by decide⟩) hK hP hD hS hA mIs [] rfl (wr := []) rfl rfl rfl (fun i h => by cases h) 0 12 rfl rfl rfl hl.1 rfl (Nat.le_of_ble_eq_true rfl) dX12_nights_65 ⟨Nat.le_refl _, Nat.le_refl _⟩ (fun u57 H locs hw55 hP hD hS => ?_)
            obtain ⟨f58, a59, g60⟩ := u57
            have hP : va_P D vwCl (mW K o r f58 a59 g60) H := hP
            have hD : va_D A (mW K o r f58 a59 g60) := hD
            have hI : mI f58 a59 := hw55.1
            have hE : mE (XR [(0, 23)]) f a f58 a59 := mE_tr hE hw55.2.1
            have eE61 : mE (XR [(0, 23)]) F35 B36 f58 a59 := hw55.2.1
            have eZ62 : mZ [] [2, 5] F35 B36 f58 a59 := hw55.2.2.2.2
            have hZ : mZ [0, 22, 23, 24, 25, 45, 46, 47] [1, 2, 5, 26, 29, 30, 34, 44] f a f58 a59 := mZ_tr hZ (mZ_w (by decide) (by decide) eZ62)
            have hbg := hw55.2.2.2.1
            rw [h2b] at hbg
            have hk0 : ∀ i, i < 23 → a59 5 i = a 2 i := fun i hi => ((hw55.2.2.1) i hi).trans (congrFun h2b i)
            have hnb := nt_b (z := (nsF DD (a 2) x.toInt nn).2.2) hp0 (ns_z (DD := DD) hp0 (by have w1 := hp2; omega) hxb nn)
            refine lv_iconst (v := 0) hx hb dX12_nights_68 (by decide) ?_
            refine lv_istore (lv' := [(5, .int 0), (4, .int y33), (3, .int y34), (0, .ref o), (1, .int x), (2, .int y)]) hx hb dX12_nights_69 hl (by decide) rfl (fun ls hl => ?_)
            have lp67 : ∀ (n68 : Nat) (mm : Nat) (F64 : Nat → Int32) (B65 : Nat → Nat → Int32) (G66 : Nat → Int64) (H : Heap) (locs : List Loc) (ls : Array Slot) (y63 : Int32), (99 < y63.toInt + (n68 : Int)) → (mI F64 B65) → (mE (XR [(0, 23)]) f a F64 B65) → (mZ [0, 22, 23, 24, 25, 45, 46, 47] [1, 2, 5, 26, 29, 30, 34, 44] f a F64 B65) → (∀ i, i < 23 → B65 5 i = a 2 i) → (kb 0 y63 99) → (y63.toInt = (mm : Int)) → (B65 2 = (ntN DD (bgF (a 2), (nsF DD (a 2) x.toInt nn).2.2) mm).1) → ((F64 47).toInt = (ntN DD (bgF (a 2), (nsF DD (a 2) x.toInt nn).2.2) mm).2) → (F64 45 = a 2 102) → (F64 46 = a 2 103) → (B65 1 = a 1) → (mm ≤ (a 2 99).toInt.toNat) → va_P D vwCl (mW K o r F64 B65 G66) H → va_D A (mW K o r F64 B65 G66) → va_S A s.heap H locs → lv_has ls 6 [(5, .int y63), (4, .int y33), (3, .int y34), (0, .ref o), (1, .int x), (2, .int y)] → W p l e (rmD 52 0 0) s m ([.ref o, .int x, .int y] : List Value).toArray below meth c H locs 0 0 (kQi D (tysK K) (fun v (u : mS) => kb (-2147483648) v 2147483647 ∧ mI u.1 u.2.1 ∧ mE (XR []) f a u.1 u.2.1 ∧ ((¬ ngtO x y ∧ v = -1 ∧ u.1 0 = -1 ∧ u.2.1 1 = rfS (-1 : Int32).toInt (a 1) ∧ u.1 45 = f 45 ∧ u.1 46 = f 46 ∧ u.2.1 44 = a 44) ∨ (ngtO x y ∧ u.1 0 = 0 ∧ u.2.1 1 = a 1 ∧ v.toInt = ((nsF DD (a 2) x.toInt y.toInt.toNat).1 : Int) ∧ u.1 45 = a 2 102 ∧ u.1 46 = a 2 103 ∧ ∀ i, i < 23 → u.2.1 44 i = (nsF DD (a 2) x.toInt y.toInt.toNat).2.1 i)) ∧ mZ [0, 22, 23, 24, 25, 45, 46, 47] [1, 2, 5, 26, 29, 30, 34, 44] f a u.1 u.2.1) (fun u => mW K o r u.1 u.2.1 u.2.2) A below ([.ref o, .int x, .int y] : List Value).toArray s 0 0) (F0 m 71 ls []) := by
              intro n68
              induction n68 with
              | zero =>
                intro mm F64 B65 G66  H locs ls y63 hmlp67 hI hE hZ hk0 b69 hvlp67_0 hvlp67_1 hvlp67_2 hvlp67_3 hvlp67_4 hvlp67_5 hvlp67_6 hP hD hS hl
                exact (by have h1 := b69.2; have h2 := hmlp67; omega : False).elim
              | succ n68 ihlp67 =>
                intro mm F64 B65 G66  H locs ls y63 hmlp67 hI hE hZ hk0 b69 hvlp67_0 hvlp67_1 hvlp67_2 hvlp67_3 hvlp67_4 hvlp67_5 hvlp67_6 hP hD hS hl
                have hnn : y63 = nI mm := nI_q hvlp67_0
                have hZB := hZ
                have hS2 := hvlp67_1
                have hSz := hvlp67_2
                have hmI := fun (hm9 : mm ≤ 200) => nt_N (DD := DD) hnb (by have w1 := hp2; omega) mm hm9
                refine lv_iload hx hb dX12_nights_71 (lv_at hl 0 rfl) ?_
                refine lv_aload_n hx hb dX12_nights_73 rfl (lv_at hl 3 rfl) ?_
                refine va_get (D := D) (ci := 12) (v := .ref (r 2)) (C := RX12) (T := TX12) (N := 48) hx hb hg inC12 hown hK hP 0 rfl rfl 2 (by decide) (hg _ wt5_162) (fun _ h9 => h9) rfl dX12_nights_74 ?_
                refine lv_bipush (v := 99) hx hb dX12_nights_77 (by decide) ?_
                refine va_iald hx hb hK hP 2 0 rfl rfl (kb_in kc_99 (by decide) (by decide)) dX12_nights_79 ?_
                refine lv_topi (fun t70 et70 => ?_)
                rw [cl_99] at et70
                have b71 : kb 0 t70 99 := kb_eq et70 (aI_at hI.2.1 2 99 (by decide) (by decide))
                refine lv_icmp_ge (tgt := 136) hx hb dX12_nights_80 (by decide) (fun c72 => ?_) (fun c72 => ?_)
                · have h73 := (kc_le c72)
                  have hmm : mm = (a 2 99).toInt.toNat := by have w1 := hvlp67_0; have w2 := kc_le c72; have w3 := (show t70.toInt = (a 2 99).toInt from congrArg Int32.toInt (et70.trans (by rw [hS2]; exact (hmI (by have w9 := hvlp67_6; have w8 := (kK_r hp0 99 1 99 (by decide) (by decide)).2; omega)).2.2.1 99 (by decide)))); have w4 := hvlp67_6; omega
                  have hE2 : B65 2 = (ntE DD (a 2) (nsF DD (a 2) x.toInt nn).2.2).1 := by have w9 := hS2; rw [hmm] at w9; exact w9
                  have hEz : (F64 47).toInt = (ntE DD (a 2) (nsF DD (a 2) x.toInt nn).2.2).2 := by have w9 := hSz; rw [hmm] at w9; exact w9
                  have hEI := nt_E (DD := DD) hp0 (by have w1 := hp2; omega) (ns_z (DD := DD) hp0 (by have w1 := hp2; omega) hxb nn)
                  refine lv_iload_n hx hb dX12_nights_136 rfl (lv_at hl 2 rfl) ?_
                  refine lv_aload_n hx hb dX12_nights_137 rfl (lv_at hl 3 rfl) ?_
                  refine lv_aload_n hx hb dX12_nights_138 rfl (lv_at hl 3 rfl) ?_
                  refine kI.callV (As := []) (rest := [.ref o, .int y34]) ⟨hx, hb, hml, hown, hg⟩ (m2_allParts l o r F64 B65 G66 hI   ) (cwV 0 hg (kgV wt7_187 wt7_189 wp7_1 wt1_14 wt7_190) rfl rfl rfl (by decide +kernel) ⟨by decide, by decide⟩) hK hP hD hS hA mIs [] rfl (wr := []) rfl rfl rfl (fun i h => by cases h) 0 12 rfl rfl rfl hl.1 rfl (Nat.le_of_ble_eq_true rfl) dX12_nights_139 ⟨Nat.le_refl _, Nat.le_refl _⟩ (fun v75 u76 H locs hw74 hP hD hS => ?_)
                  have hP : va_P D vwCl (mW K o r F64 B65 G66) H := hP
                  have hD : va_D A (mW K o r F64 B65 G66) := hD
                  refine kI.callV (As := [.int v75]) (rest := [.int y34]) ⟨hx, hb, hml, hown, hg⟩ (n_areStanding l o r F64 B65 G66 hI v75  (by rw [hE2]; exact hEI.1) (nI_q (by exact hw74.2))) (cwV 1 hg (kgV wt7_211 wt7_213 wp7_6 wt1_14 wt7_214) rfl rfl rfl (by decide +kernel) ⟨by decide, by decide⟩) hK hP hD hS hA mIs [] rfl (wr := []) rfl rfl rfl (fun i h => by cases h) 0 12 rfl rfl rfl hl.1 rfl (Nat.le_of_ble_eq_true rfl) dX12_nights_142 ⟨Nat.le_refl _, Nat.le_refl _⟩ (fun v78 u79 H locs hw77 hP hD hS => ?_)
                  have hP : va_P D vwCl (mW K o r F64 B65 G66) H := hP
                  have hD : va_D A (mW K o r F64 B65 G66) := hD
                  refine lv_if_eq (tgt := 152) hx hb dX12_nights_145 (by decide) (fun c80 => ?_) (fun c80 => ?_)
                  · have b81 : kb 0 v78 0 := kb_eq c80 kc_0
                    refine lv_iconst (v := 0) hx hb dX12_nights_152 (by decide) ?_
                    refine lv_iadd hx hb dX12_nights_153 ?_
                    refine lv_topi (fun t82 et82 => ?_)
                    have b83 : kb 0 t82 20 := kb_eq et82 (kb_add b41 kc_0 (by decide) (by decide))
                    have qt82 : t82.toInt = y34.toInt + 0 := by rw [et82]; exact kt_addc b41 kc_0 (by decide) (by decide)
                    refine lv_istore_n (lv' := [(3, .int t82), (5, .int y63), (4, .int y33), (0, .ref o), (1, .int x), (2, .int y)]) hx hb dX12_nights_154 rfl hl (by decide) rfl (fun ls hl => ?_)
                    have hal2 : t82.toInt = ((nsF DD (a 2) x.toInt (nn + 1)).1 : Int) := by show _ = (((nsF DD (a 2) x.toInt nn).1 + (if alS (ntE DD (a 2) (nsF DD (a 2) x.toInt nn).2.2).1 = true then 1 else 0) : Nat) : Int); rw [if_neg (by have w9 := hw77.2; rw [hE2] at w9; exact bit1_n w9 c80)]; have w1 := hal; have w2 := qt82; omega
                    have b84 : kb 0 t82 20 := ⟨by omega, by have w1 := ns_1 (DD := DD) (k := a 2) (z := x.toInt) (nn + 1); have w2 := (b25).2; omega⟩
                    refine lv_iconst (v := 0) hx hb dX12_nights_155 (by decide) ?_
                    refine lv_istore (lv' := [(5, .int 0), (3, .int t82), (4, .int y33), (0, .ref o), (1, .int x), (2, .int y)]) hx hb dX12_nights_156 hl (by decide) rfl (fun ls hl => ?_)
                    have lp87 : ∀ (n88 : Nat) (cc : Nat) (B86 : Nat → Nat → Int32) (H : Heap) (locs : List Loc) (ls : Array Slot) (y85 : Int32), (23 < y85.toInt + (n88 : Int)) → (mI F64 B86) → (mE (XR [(0, 23)]) f a F64 B86) → (mZ [0, 22, 23, 24, 25, 45, 46, 47] [1, 2, 5, 26, 29, 30, 34, 44] f a F64 B86) → (∀ i, i < 23 → B86 5 i = a 2 i) → (kb 0 y85 23) → (y85.toInt = (cc : Int)) → (∀ i, i < cc → B86 44 i = (ntE DD (a 2) (nsF DD (a 2) x.toInt nn).2.2).1 i) → (B86 2 = (ntE DD (a 2) (nsF DD (a 2) x.toInt nn).2.2).1) → ((F64 47).toInt = (ntE DD (a 2) (nsF DD (a 2) x.toInt nn).2.2).2) → (F64 45 = a 2 102) → (F64 46 = a 2 103) → (B86 1 = a 1) → va_P D vwCl (mW K o r F64 B86 G66) H → va_D A (mW K o r F64 B86 G66) → va_S A s.heap H locs → lv_has ls 6 [(5, .int y85), (3, .int t82), (4, .int y33), (0, .ref o), (1, .int x), (2, .int y)] → W p l e (rmD 52 0 0) s m ([.ref o, .int x, .int y] : List Value).toArray below meth c H locs 0 0 (kQi D (tysK K) (fun v (u : mS) => kb (-2147483648) v 2147483647 ∧ mI u.1 u.2.1 ∧ mE (XR []) f a u.1 u.2.1 ∧ ((¬ ngtO x y ∧ v = -1 ∧ u.1 0 = -1 ∧ u.2.1 1 = rfS (-1 : Int32).toInt (a 1) ∧ u.1 45 = f 45 ∧ u.1 46 = f 46 ∧ u.2.1 44 = a 44) ∨ (ngtO x y ∧ u.1 0 = 0 ∧ u.2.1 1 = a 1 ∧ v.toInt = ((nsF DD (a 2) x.toInt y.toInt.toNat).1 : Int) ∧ u.1 45 = a 2 102 ∧ u.1 46 = a 2 103 ∧ ∀ i, i < 23 → u.2.1 44 i = (nsF DD (a 2) x.toInt y.toInt.toNat).2.1 i)) ∧ mZ [0, 22, 23, 24, 25, 45, 46, 47] [1, 2, 5, 26, 29, 30, 34, 44] f a u.1 u.2.1) (fun u => mW K o r u.1 u.2.1 u.2.2) A below ([.ref o, .int x, .int y] : List Value).toArray s 0 0) (F0 m 158 ls []) := by
                      intro n88
                      induction n88 with
                      | zero =>
                        intro cc B86  H locs ls y85 hmlp87 hI hE hZ hk0 b89 hvlp87_0 hvlp87_1 hvlp87_2 hvlp87_3 hvlp87_4 hvlp87_5 hvlp87_6 hP hD hS hl
                        exact (by have h1 := b89.2; have h2 := hmlp87; omega : False).elim
                      | succ n88 ihlp87 =>
                        intro cc B86  H locs ls y85 hmlp87 hI hE hZ hk0 b89 hvlp87_0 hvlp87_1 hvlp87_2 hvlp87_3 hvlp87_4 hvlp87_5 hvlp87_6 hP hD hS hl
                        have hnn : y85 = nI cc := nI_q hvlp87_0
                        have hZB := hZ
                        have hc2 := hvlp87_2
                        have hcz0 := hvlp87_3
                        refine lv_iload hx hb dX12_nights_158 (lv_at hl 0 rfl) ?_
                        refine lv_bipush (v := 23) hx hb dX12_nights_160 (by decide) ?_
                        refine lv_icmp_ge (tgt := 185) hx hb dX12_nights_162 (by decide) (fun c90 => ?_) (fun c90 => ?_)
                        · have h91 := (kc_le c90)
                          have b92 : kb 23 y85 23 := kr_le2 h91 kc_23 b89
                          have hcc : cc = 23 := by have w1 := hvlp87_0; have w2 := kc_le c90; have w3 : (23 : Int32).toInt = 23 := (by decide +kernel); have w4 := (b92).2; omega
                          have hcpd : ∀ i, i < 23 → B86 44 i = (nsF DD (a 2) x.toInt (nn + 1)).2.1 i := by have w9 := hvlp87_1; rw [hcc] at w9; exact w9
                          have hcz : (F64 47).toInt = (nsF DD (a 2) x.toInt (nn + 1)).2.2 := hcz0
                          refine lv_aload_n hx hb dX12_nights_185 rfl (lv_at hl 3 rfl) ?_
                          refine lv_iconst (v := 0) hx hb dX12_nights_186 (by decide) ?_
                          refine kV.callV (As := [.int 0]) (rest := []) ⟨hx, hb, hml, hown, hg⟩ (m_takesBack l o r F64 B86 G66 hI 0 (kb_w kc_0 (by decide) (by decide)) ) (cwV 1 hg (kgV wt7_223 wt7_225 wp7_9 wt1_14 wt7_226) rfl rfl rfl (by decide +kernel) ⟨by decide, by decide⟩) hK hP hD hS hA mIs [] rfl (wr := []) rfl rfl rfl (fun i h => by cases h) 0 12 rfl rfl rfl hl.1 rfl (Nat.le_of_ble_eq_true rfl) dX12_nights_187 ⟨Nat.le_refl _, Nat.le_refl _⟩ (fun u95 H locs hw93 hP hD hS => ?_)
                          obtain ⟨f96, a97, g98⟩ := u95
                          have hP : va_P D vwCl (mW K o r f96 a97 g98) H := hP
                          have hD : va_D A (mW K o r f96 a97 g98) := hD
                          have hI : mI f96 a97 := hw93.1
                          have hE : mE (XR [(0, 23)]) f a f96 a97 := mE_tr hE hw93.2.1
                          have eE99 : mE (XR [(0, 23)]) F64 B86 f96 a97 := hw93.2.1
                          have eZ100 : mZ [] [2] F64 B86 f96 a97 := hw93.2.2.2
                          have hZ : mZ [0, 22, 23, 24, 25, 45, 46, 47] [1, 2, 5, 26, 29, 30, 34, 44] f a f96 a97 := mZ_tr hZ (mZ_w (by decide) (by decide) eZ100)
                          have hk0 : ∀ i, i < 23 → a97 5 i = a 2 i := (fun i hi => (congrFun (eZ100.2 5 rfl) i).trans (hk0 i hi))
                          have htb : ∀ i, a97 2 i = a 2 i := fun i => by by_cases hi : i < 23; (exact (hw93.2.2.1 i hi).trans (by rw [show 23 * (0 : Int32).toInt.toNat + i = i from (by rw [show (0 : Int32).toInt.toNat = 0 from by decide +kernel]; omega)]; exact (congrFun (eZ100.2 5 rfl) i).symm.trans (hk0 i hi))); (exact hE.2.2.1 i (XR23 hi))
                          have hk0 : a97 2 = a 2 := funext htb
                          obtain ⟨t101, et101⟩ : ∃ z : Int32, z = y33 + Int32.ofInt 1 := ⟨_, rfl⟩
                          have qt101 : t101.toInt = y33.toInt + 1 := by rw [et101]; exact km_inc b54 (by decide) (by decide)
                          have b102 : kb 1 t101 20 := kb_inc (k := 1) qt101 b54
                          refine lv_iinc (v := t101) (lv' := [(4, .int t101), (5, .int y85), (3, .int t82), (0, .ref o), (1, .int x), (2, .int y)]) hx hb dX12_nights_190 hl (k := 2) rfl et101.symm (by decide) rfl (fun ls hl => ?_)
                          refine lv_goto (tgt := 58) hx hb dX12_nights_193 (by decide) ?_
                          exact ihlp38 (nn + 1) f96 a97 g98 _ _ _ t101 t82 (km_up hmlp38 qt101) hI hE hZ hk0 (kb_w b102 (by decide) (by decide)) b84 (by have w1 := hvlp38_0; have w2 := qt101; omega) (hal2) (hny) ((((eZ100.1 45 rfl)).trans hvlp87_4)) ((((eZ100.1 46 rfl)).trans hvlp87_5)) ((((eZ100.2 1 rfl)).trans hvlp87_6)) ((fun _ i hi => by rw [show a97 44 = B86 44 from (eZ100.2 44 rfl)]; exact hcpd i hi)) ((by rw [show f96 47 = F64 47 from (eZ100.1 47 rfl)]; exact hcz)) hP hD hS (lv_sub hl [0, 2, 3, 4, 5] rfl)
                        · have h103 := (kc_nle c90)
                          have b104 : kb 0 y85 22 := kr_lt1 h103 b89 kc_23 (by decide)
                          refine lv_aload_n hx hb dX12_nights_165 rfl (lv_at hl 3 rfl) ?_
                          refine va_get (D := D) (ci := 12) (v := .ref (r 44)) (C := RX12) (T := TX12) (N := 48) hx hb hg inC12 hown hK hP 0 rfl rfl 44 (by decide) (hg _ wt5_204) (fun _ h9 => h9) rfl dX12_nights_166 ?_
                          refine lv_iload hx hb dX12_nights_169 (lv_at hl 0 rfl) ?_
                          refine lv_aload_n hx hb dX12_nights_171 rfl (lv_at hl 3 rfl) ?_
                          refine va_get (D := D) (ci := 12) (v := .ref (r 2)) (C := RX12) (T := TX12) (N := 48) hx hb hg inC12 hown hK hP 0 rfl rfl 2 (by decide) (hg _ wt5_162) (fun _ h9 => h9) rfl dX12_nights_172 ?_
                          refine lv_iload hx hb dX12_nights_175 (lv_at hl 0 rfl) ?_
                          refine va_iald hx hb hK hP 2 0 rfl rfl (kb_in b104 (by decide) (by decide)) dX12_nights_177 ?_
                          refine lv_topi (fun t105 et105 => ?_)
                          refine va_iast hx hb hK hP hD hS 21 0 rfl rfl (kb_in b104 (by decide) (by decide)) dX12_nights_178 (fun H locs hP hD hS => ?_)
                          have hP : va_P D vwCl (mW K o r F64 (va_up B86 44 (upd (B86 44) y85.toNatClampNeg t105)) G66) H := hP
                          have hD : va_D A (mW K o r F64 (va_up B86 44 (upd (B86 44) y85.toNatClampNeg t105)) G66) := hD
                          refine k_gen (P := fun z => va_P D vwCl (mW K o r F64 z G66) H ∧ va_D A (mW K o r F64 z G66) ∧ (mI F64 z) ∧ (mE (XR [(0, 23)]) f a F64 z) ∧ (mZ [0, 22, 23, 24, 25, 45, 46, 47] [1, 2, 5, 26, 29, 30, 34, 44] f a F64 z) ∧ (∀ i, i < 23 → z 5 i = a 2 i)) (va_up B86 44 (upd (B86 44) y85.toNatClampNeg t105)) ⟨hP, hD, (mI_s hI (aI_free hI.2.1 44 _ (fun j => ⟨by show (mBa 44 j).1 ≤ _; exact Int.le_refl _, by show _ ≤ (mBa 44 j).2; exact Int.le_refl _⟩)) (by decide) (by decide)), (mE_s hE (by decide) (by decide) (by decide) (by decide)), (mZ_a hZ rfl), hk0⟩ (fun a_106 ea_106 hq => ?_)
                          obtain ⟨hP, hD, hI, hE, hZ, hk0⟩ := hq
                          obtain ⟨t107, et107⟩ : ∃ z : Int32, z = y85 + Int32.ofInt 1 := ⟨_, rfl⟩
                          have qt107 : t107.toInt = y85.toInt + 1 := by rw [et107]; exact km_inc b104 (by decide) (by decide)
                          have b108 : kb 1 t107 23 := kb_inc (k := 1) qt107 b104
                          refine lv_iinc (v := t107) (lv' := [(5, .int t107), (3, .int t82), (4, .int y33), (0, .ref o), (1, .int x), (2, .int y)]) hx hb dX12_nights_179 hl (k := 0) rfl et107.symm (by decide) rfl (fun ls hl => ?_)
                          refine lv_goto (tgt := 158) hx hb dX12_nights_182 (by decide) ?_
                          exact ihlp87 (cc + 1) a_106 _ _ _ t107 (km_up hmlp87 qt107) hI hE hZ hk0 (kb_w b108 (by decide) (by decide)) (by have w1 := hvlp87_0; have w2 := qt107; omega) ((fun i hi => by rw [show a_106 44 = _ from (show a_106 44 = upd (B86 44) y85.toNatClampNeg t105 from by rw [← ea_106]; rfl), cl_nat hvlp87_0]; by_cases c9 : i = cc; (rw [c9, pk_us, show t105 = _ from et105, cl_nat hvlp87_0, hc2]); (rw [pk_un c9]; exact hvlp87_1 i (by omega)))) ((by rw [show a_106 2 = B86 2 from (show a_106 2 = B86 2 from by rw [← ea_106]; rfl)]; exact hc2)) ((by exact hcz0)) (hvlp87_4) (hvlp87_5) ((((show a_106 1 = B86 1 from by rw [← ea_106]; rfl)).trans hvlp87_6)) hP hD hS (lv_sub hl [0, 1, 2, 3, 4, 5] rfl)
                    exact lp87 (24) 0 B65 _ _ _ 0 (by have h1 := (kc_0); unfold kb at h1; omega) hI hE hZ hk0 (kb_w kc_0 (by decide) (by decide)) (by decide +kernel) (fun i h9 => absurd h9 (Nat.not_lt_zero i)) ((by exact hE2)) ((by exact hEz)) (hvlp67_3) (hvlp67_4) (hvlp67_5) hP hD hS (lv_sub hl [0, 1, 2, 3, 4, 5] rfl)
                  · have b109 : kb 1 v78 1 := kr_nel c80 hw77.1 kc_0 (by decide)
                    refine lv_iconst (v := 1) hx hb dX12_nights_148 (by decide) ?_
                    refine lv_goto (tgt := 153) hx hb dX12_nights_149 (by decide) ?_
                    refine lv_iadd hx hb dX12_nights_153 ?_
                    refine lv_topi (fun t110 et110 => ?_)
                    have b111 : kb 1 t110 21 := kb_eq et110 (kb_add b41 kc_1 (by decide) (by decide))
                    have qt110 : t110.toInt = y34.toInt + 1 := by rw [et110]; exact kt_addc b41 kc_1 (by decide) (by decide)
                    refine lv_istore_n (lv' := [(3, .int t110), (5, .int y63), (4, .int y33), (0, .ref o), (1, .int x), (2, .int y)]) hx hb dX12_nights_154 rfl hl (by decide) rfl (fun ls hl => ?_)
                    have hal2 : t110.toInt = ((nsF DD (a 2) x.toInt (nn + 1)).1 : Int) := by show _ = (((nsF DD (a 2) x.toInt nn).1 + (if alS (ntE DD (a 2) (nsF DD (a 2) x.toInt nn).2.2).1 = true then 1 else 0) : Nat) : Int); rw [if_pos (by have w9 := hw77.2; rw [hE2] at w9; exact bit1_y w9 c80)]; have w1 := hal; have w2 := qt110; omega
                    have b112 : kb 0 t110 20 := ⟨by omega, by have w1 := ns_1 (DD := DD) (k := a 2) (z := x.toInt) (nn + 1); have w2 := (b25).2; omega⟩
                    refine lv_iconst (v := 0) hx hb dX12_nights_155 (by decide) ?_
                    refine lv_istore (lv' := [(5, .int 0), (3, .int t110), (4, .int y33), (0, .ref o), (1, .int x), (2, .int y)]) hx hb dX12_nights_156 hl (by decide) rfl (fun ls hl => ?_)
                    have lp115 : ∀ (n116 : Nat) (cc : Nat) (B114 : Nat → Nat → Int32) (H : Heap) (locs : List Loc) (ls : Array Slot) (y113 : Int32), (23 < y113.toInt + (n116 : Int)) → (mI F64 B114) → (mE (XR [(0, 23)]) f a F64 B114) → (mZ [0, 22, 23, 24, 25, 45, 46, 47] [1, 2, 5, 26, 29, 30, 34, 44] f a F64 B114) → (∀ i, i < 23 → B114 5 i = a 2 i) → (kb 0 y113 23) → (y113.toInt = (cc : Int)) → (∀ i, i < cc → B114 44 i = (ntE DD (a 2) (nsF DD (a 2) x.toInt nn).2.2).1 i) → (B114 2 = (ntE DD (a 2) (nsF DD (a 2) x.toInt nn).2.2).1) → ((F64 47).toInt = (ntE DD (a 2) (nsF DD (a 2) x.toInt nn).2.2).2) → (F64 45 = a 2 102) → (F64 46 = a 2 103) → (B114 1 = a 1) → va_P D vwCl (mW K o r F64 B114 G66) H → va_D A (mW K o r F64 B114 G66) → va_S A s.heap H locs → lv_has ls 6 [(5, .int y113), (3, .int t110), (4, .int y33), (0, .ref o), (1, .int x), (2, .int y)] → W p l e (rmD 52 0 0) s m ([.ref o, .int x, .int y] : List Value).toArray below meth c H locs 0 0 (kQi D (tysK K) (fun v (u : mS) => kb (-2147483648) v 2147483647 ∧ mI u.1 u.2.1 ∧ mE (XR []) f a u.1 u.2.1 ∧ ((¬ ngtO x y ∧ v = -1 ∧ u.1 0 = -1 ∧ u.2.1 1 = rfS (-1 : Int32).toInt (a 1) ∧ u.1 45 = f 45 ∧ u.1 46 = f 46 ∧ u.2.1 44 = a 44) ∨ (ngtO x y ∧ u.1 0 = 0 ∧ u.2.1 1 = a 1 ∧ v.toInt = ((nsF DD (a 2) x.toInt y.toInt.toNat).1 : Int) ∧ u.1 45 = a 2 102 ∧ u.1 46 = a 2 103 ∧ ∀ i, i < 23 → u.2.1 44 i = (nsF DD (a 2) x.toInt y.toInt.toNat).2.1 i)) ∧ mZ [0, 22, 23, 24, 25, 45, 46, 47] [1, 2, 5, 26, 29, 30, 34, 44] f a u.1 u.2.1) (fun u => mW K o r u.1 u.2.1 u.2.2) A below ([.ref o, .int x, .int y] : List Value).toArray s 0 0) (F0 m 158 ls []) := by
                      intro n116
                      induction n116 with
                      | zero =>
                        intro cc B114  H locs ls y113 hmlp115 hI hE hZ hk0 b117 hvlp115_0 hvlp115_1 hvlp115_2 hvlp115_3 hvlp115_4 hvlp115_5 hvlp115_6 hP hD hS hl
                        exact (by have h1 := b117.2; have h2 := hmlp115; omega : False).elim
                      | succ n116 ihlp115 =>
                        intro cc B114  H locs ls y113 hmlp115 hI hE hZ hk0 b117 hvlp115_0 hvlp115_1 hvlp115_2 hvlp115_3 hvlp115_4 hvlp115_5 hvlp115_6 hP hD hS hl
                        have hnn : y113 = nI cc := nI_q hvlp115_0
                        have hZB := hZ
                        have hc2 := hvlp115_2
                        have hcz0 := hvlp115_3
                        refine lv_iload hx hb dX12_nights_158 (lv_at hl 0 rfl) ?_
                        refine lv_bipush (v := 23) hx hb dX12_nights_160 (by decide) ?_
                        refine lv_icmp_ge (tgt := 185) hx hb dX12_nights_162 (by decide) (fun c118 => ?_) (fun c118 => ?_)
                        · have h119 := (kc_le c118)
                          have b120 : kb 23 y113 23 := kr_le2 h119 kc_23 b117
                          have hcc : cc = 23 := by have w1 := hvlp115_0; have w2 := kc_le c118; have w3 : (23 : Int32).toInt = 23 := (by decide +kernel); have w4 := (b120).2; omega
                          have hcpd : ∀ i, i < 23 → B114 44 i = (nsF DD (a 2) x.toInt (nn + 1)).2.1 i := by have w9 := hvlp115_1; rw [hcc] at w9; exact w9
                          have hcz : (F64 47).toInt = (nsF DD (a 2) x.toInt (nn + 1)).2.2 := hcz0
                          refine lv_aload_n hx hb dX12_nights_185 rfl (lv_at hl 3 rfl) ?_
                          refine lv_iconst (v := 0) hx hb dX12_nights_186 (by decide) ?_
                          refine kV.callV (As := [.int 0]) (rest := []) ⟨hx, hb, hml, hown, hg⟩ (m_takesBack l o r F64 B114 G66 hI 0 (kb_w kc_0 (by decide) (by decide)) ) (cwV 1 hg (kgV wt7_223 wt7_225 wp7_9 wt1_14 wt7_226) rfl rfl rfl (by decide +kernel) ⟨by decide, by decide⟩) hK hP hD hS hA mIs [] rfl (wr := []) rfl rfl rfl (fun i h => by cases h) 0 12 rfl rfl rfl hl.1 rfl (Nat.le_of_ble_eq_true rfl) dX12_nights_187 ⟨Nat.le_refl _, Nat.le_refl _⟩ (fun u123 H locs hw121 hP hD hS => ?_)
                          obtain ⟨f124, a125, g126⟩ := u123
                          have hP : va_P D vwCl (mW K o r f124 a125 g126) H := hP
                          have hD : va_D A (mW K o r f124 a125 g126) := hD
                          have hI : mI f124 a125 := hw121.1
                          have hE : mE (XR [(0, 23)]) f a f124 a125 := mE_tr hE hw121.2.1
                          have eE127 : mE (XR [(0, 23)]) F64 B114 f124 a125 := hw121.2.1
                          have eZ128 : mZ [] [2] F64 B114 f124 a125 := hw121.2.2.2
                          have hZ : mZ [0, 22, 23, 24, 25, 45, 46, 47] [1, 2, 5, 26, 29, 30, 34, 44] f a f124 a125 := mZ_tr hZ (mZ_w (by decide) (by decide) eZ128)
                          have hk0 : ∀ i, i < 23 → a125 5 i = a 2 i := (fun i hi => (congrFun (eZ128.2 5 rfl) i).trans (hk0 i hi))
                          have htb : ∀ i, a125 2 i = a 2 i := fun i => by by_cases hi : i < 23; (exact (hw121.2.2.1 i hi).trans (by rw [show 23 * (0 : Int32).toInt.toNat + i = i from (by rw [show (0 : Int32).toInt.toNat = 0 from by decide +kernel]; omega)]; exact (congrFun (eZ128.2 5 rfl) i).symm.trans (hk0 i hi))); (exact hE.2.2.1 i (XR23 hi))
                          have hk0 : a125 2 = a 2 := funext htb
                          obtain ⟨t129, et129⟩ : ∃ z : Int32, z = y33 + Int32.ofInt 1 := ⟨_, rfl⟩
                          have qt129 : t129.toInt = y33.toInt + 1 := by rw [et129]; exact km_inc b54 (by decide) (by decide)
                          have b130 : kb 1 t129 20 := kb_inc (k := 1) qt129 b54
                          refine lv_iinc (v := t129) (lv' := [(4, .int t129), (5, .int y113), (3, .int t110), (0, .ref o), (1, .int x), (2, .int y)]) hx hb dX12_nights_190 hl (k := 2) rfl et129.symm (by decide) rfl (fun ls hl => ?_)
                          refine lv_goto (tgt := 58) hx hb dX12_nights_193 (by decide) ?_
                          exact ihlp38 (nn + 1) f124 a125 g126 _ _ _ t129 t110 (km_up hmlp38 qt129) hI hE hZ hk0 (kb_w b130 (by decide) (by decide)) b112 (by have w1 := hvlp38_0; have w2 := qt129; omega) (hal2) (hny) ((((eZ128.1 45 rfl)).trans hvlp115_4)) ((((eZ128.1 46 rfl)).trans hvlp115_5)) ((((eZ128.2 1 rfl)).trans hvlp115_6)) ((fun _ i hi => by rw [show a125 44 = B114 44 from (eZ128.2 44 rfl)]; exact hcpd i hi)) ((by rw [show f124 47 = F64 47 from (eZ128.1 47 rfl)]; exact hcz)) hP hD hS (lv_sub hl [0, 2, 3, 4, 5] rfl)
                        · have h131 := (kc_nle c118)
                          have b132 : kb 0 y113 22 := kr_lt1 h131 b117 kc_23 (by decide)
                          refine lv_aload_n hx hb dX12_nights_165 rfl (lv_at hl 3 rfl) ?_
                          refine va_get (D := D) (ci := 12) (v := .ref (r 44)) (C := RX12) (T := TX12) (N := 48) hx hb hg inC12 hown hK hP 0 rfl rfl 44 (by decide) (hg _ wt5_204) (fun _ h9 => h9) rfl dX12_nights_166 ?_
                          refine lv_iload hx hb dX12_nights_169 (lv_at hl 0 rfl) ?_
                          refine lv_aload_n hx hb dX12_nights_171 rfl (lv_at hl 3 rfl) ?_
                          refine va_get (D := D) (ci := 12) (v := .ref (r 2)) (C := RX12) (T := TX12) (N := 48) hx hb hg inC12 hown hK hP 0 rfl rfl 2 (by decide) (hg _ wt5_162) (fun _ h9 => h9) rfl dX12_nights_172 ?_
                          refine lv_iload hx hb dX12_nights_175 (lv_at hl 0 rfl) ?_
                          refine va_iald hx hb hK hP 2 0 rfl rfl (kb_in b132 (by decide) (by decide)) dX12_nights_177 ?_
                          refine lv_topi (fun t133 et133 => ?_)
                          refine va_iast hx hb hK hP hD hS 21 0 rfl rfl (kb_in b132 (by decide) (by decide)) dX12_nights_178 (fun H locs hP hD hS => ?_)
                          have hP : va_P D vwCl (mW K o r F64 (va_up B114 44 (upd (B114 44) y113.toNatClampNeg t133)) G66) H := hP
                          have hD : va_D A (mW K o r F64 (va_up B114 44 (upd (B114 44) y113.toNatClampNeg t133)) G66) := hD
                          refine k_gen (P := fun z => va_P D vwCl (mW K o r F64 z G66) H ∧ va_D A (mW K o r F64 z G66) ∧ (mI F64 z) ∧ (mE (XR [(0, 23)]) f a F64 z) ∧ (mZ [0, 22, 23, 24, 25, 45, 46, 47] [1, 2, 5, 26, 29, 30, 34, 44] f a F64 z) ∧ (∀ i, i < 23 → z 5 i = a 2 i)) (va_up B114 44 (upd (B114 44) y113.toNatClampNeg t133)) ⟨hP, hD, (mI_s hI (aI_free hI.2.1 44 _ (fun j => ⟨by show (mBa 44 j).1 ≤ _; exact Int.le_refl _, by show _ ≤ (mBa 44 j).2; exact Int.le_refl _⟩)) (by decide) (by decide)), (mE_s hE (by decide) (by decide) (by decide) (by decide)), (mZ_a hZ rfl), hk0⟩ (fun a_134 ea_134 hq => ?_)
                          obtain ⟨hP, hD, hI, hE, hZ, hk0⟩ := hq
                          obtain ⟨t135, et135⟩ : ∃ z : Int32, z = y113 + Int32.ofInt 1 := ⟨_, rfl⟩
                          have qt135 : t135.toInt = y113.toInt + 1 := by rw [et135]; exact km_inc b132 (by decide) (by decide)
                          have b136 : kb 1 t135 23 := kb_inc (k := 1) qt135 b132
                          refine lv_iinc (v := t135) (lv' := [(5, .int t135), (3, .int t110), (4, .int y33), (0, .ref o), (1, .int x), (2, .int y)]) hx hb dX12_nights_179 hl (k := 0) rfl et135.symm (by decide) rfl (fun ls hl => ?_)
                          refine lv_goto (tgt := 158) hx hb dX12_nights_182 (by decide) ?_
                          exact ihlp115 (cc + 1) a_134 _ _ _ t135 (km_up hmlp115 qt135) hI hE hZ hk0 (kb_w b136 (by decide) (by decide)) (by have w1 := hvlp115_0; have w2 := qt135; omega) ((fun i hi => by rw [show a_134 44 = _ from (show a_134 44 = upd (B114 44) y113.toNatClampNeg t133 from by rw [← ea_134]; rfl), cl_nat hvlp115_0]; by_cases c9 : i = cc; (rw [c9, pk_us, show t133 = _ from et133, cl_nat hvlp115_0, hc2]); (rw [pk_un c9]; exact hvlp115_1 i (by omega)))) ((by rw [show a_134 2 = B114 2 from (show a_134 2 = B114 2 from by rw [← ea_134]; rfl)]; exact hc2)) ((by exact hcz0)) (hvlp115_4) (hvlp115_5) ((((show a_134 1 = B114 1 from by rw [← ea_134]; rfl)).trans hvlp115_6)) hP hD hS (lv_sub hl [0, 1, 2, 3, 4, 5] rfl)
                    exact lp115 (24) 0 B65 _ _ _ 0 (by have h1 := (kc_0); unfold kb at h1; omega) hI hE hZ hk0 (kb_w kc_0 (by decide) (by decide)) (by decide +kernel) (fun i h9 => absurd h9 (Nat.not_lt_zero i)) ((by exact hE2)) ((by exact hEz)) (hvlp67_3) (hvlp67_4) (hvlp67_5) hP hD hS (lv_sub hl [0, 1, 2, 3, 4, 5] rfl)
                · have h137 := (kc_nle c72)
                  have b138 : kb 0 y63 98 := kr_lt1 h137 b69 b71 (by decide)
                  have b139 : kb 1 t70 99 := kr_lt2 h137 b69 b71 (by decide)
                  have hm99 : mm < (a 2 99).toInt.toNat := by have w1 := hvlp67_0; have w2 := kc_nle c72; have w3 := (show t70.toInt = (a 2 99).toInt from congrArg Int32.toInt (et70.trans (by rw [hS2]; exact (hmI (by have w9 := hvlp67_6; have w8 := (kK_r hp0 99 1 99 (by decide) (by decide)).2; omega)).2.2.1 99 (by decide)))); omega
                  have hM := hmI (by have w8 := (kK_r hp0 99 1 99 (by decide) (by decide)).2; omega)
                  have hkS : kK (B65 2) := by rw [hS2]; exact hM.1
                  have hlS : lM (B65 2) DD := by rw [hS2]; exact lM_k hM.2.2.1 hp1
                  refine lv_aload_n hx hb dX12_nights_83 rfl (lv_at hl 3 rfl) ?_
                  refine lv_aload_n hx hb dX12_nights_84 rfl (lv_at hl 3 rfl) ?_
                  refine kI.callV (As := []) (rest := [.ref o]) ⟨hx, hb, hml, hown, hg⟩ (n_allBuilders l o r F64 B65 G66 hI   hkS) (cwV 0 hg (kgV wt7_164 wt7_166 wp6_14 wt1_14 wt7_167) rfl rfl rfl (by decide +kernel) ⟨by decide, by decide⟩) hK hP hD hS hA mIs [] rfl (wr := []) rfl rfl rfl (fun i h => by cases h) 0 12 rfl rfl rfl hl.1 rfl (Nat.le_of_ble_eq_true rfl) dX12_nights_85 ⟨Nat.le_refl _, Nat.le_refl _⟩ (fun v141 u142 H locs hw140 hP hD hS => ?_)
                  have hP : va_P D vwCl (mW K o r F64 B65 G66) H := hP
                  have hD : va_D A (mW K o r F64 B65 G66) := hD
                  refine kV.callV (As := [.int v141]) (rest := []) ⟨hx, hb, hml, hown, hg⟩ (n_sendsAll l o r F64 B65 G66 hI v141  DD hkS hlS hw140.2) (cwV 1 hg (kgV wt7_215 wt7_217 wp7_7 wt1_14 wt7_218) rfl rfl rfl (by decide +kernel) ⟨by decide, by decide⟩) hK hP hD hS hA mIs [] rfl (wr := []) rfl rfl rfl (fun i h => by cases h) 0 12 rfl rfl rfl hl.1 rfl (Nat.le_of_ble_eq_true rfl) dX12_nights_88 ⟨Nat.le_refl _, Nat.le_refl _⟩ (fun u145 H locs hw143 hP hD hS => ?_)
                  obtain ⟨f146, a147, g148⟩ := u145
                  have hP : va_P D vwCl (mW K o r f146 a147 g148) H := hP
                  have hD : va_D A (mW K o r f146 a147 g148) := hD
                  have hI : mI f146 a147 := hw143.1
                  have hE : mE (XR [(0, 23)]) f a f146 a147 := mE_tr hE hw143.2.1
                  have eE149 : mE (XR [(0, 23)]) F64 B65 f146 a147 := hw143.2.1
                  have eZ150 : mZ [22, 23, 24, 25] [2, 26, 34] F64 B65 f146 a147 := hw143.2.2.2
                  have hZ : mZ [0, 22, 23, 24, 25, 45, 46, 47] [1, 2, 5, 26, 29, 30, 34, 44] f a f146 a147 := mZ_tr hZ (mZ_w (by decide) (by decide) eZ150)
                  have hk0 : ∀ i, i < 23 → a147 5 i = a 2 i := (fun i hi => (congrFun (eZ150.2 5 rfl) i).trans (hk0 i hi))
                  have hsa : a147 2 = sdA DD (ntN DD (bgF (a 2), (nsF DD (a 2) x.toInt nn).2.2) mm).1 := by have w9 := hw143.2.2.1; rw [hS2] at w9; exact w9
                  have hkA := sA_k (DD := DD) hM.1
                  have hEA := sA_E (DD := DD) hM.1
                  refine lv_aload_n hx hb dX12_nights_91 rfl (lv_at hl 3 rfl) ?_
                  refine lv_bipush (v := 10) hx hb dX12_nights_92 (by decide) ?_
                  refine kI.callV (As := [.int 10]) (rest := []) ⟨hx, hb, hml, hown, hg⟩ (n_draws l o r f146 a147 g148 hI 10 kc_10 (by rw [show f146 47 = F64 47 from (eZ150.1 47 rfl)]; exact ⟨by rw [hSz]; exact hM.2.2.2.1, by rw [hSz]; exact hM.2.2.2.2⟩)) (cwV 1 hg (kgV wt8_71 wt8_73 wp8_3 wt1_14 wt8_74) rfl rfl rfl (by decide +kernel) ⟨by decide, by decide⟩) hK hP hD hS hA mIs [] rfl (wr := []) rfl rfl rfl (fun i h => by cases h) 0 12 rfl rfl rfl hl.1 rfl (Nat.le_of_ble_eq_true rfl) dX12_nights_94 ⟨Nat.le_refl _, Nat.le_refl _⟩ (fun v152 u153 H locs hw151 hP hD hS => ?_)
                  obtain ⟨f154, a155, g156⟩ := u153
                  have hP : va_P D vwCl (mW K o r f154 a155 g156) H := hP
                  have hD : va_D A (mW K o r f154 a155 g156) := hD
                  have hI : mI f154 a155 := hw151.2.1
                  have hE : mE (XR [(0, 23)]) f a f154 a155 := mE_tr hE (mE_w (XR_w (by decide)) hw151.2.2.1)
                  have eE157 : mE (XR []) f146 a147 f154 a155 := hw151.2.2.1
                  have eZ158 : mZ [47] [] f146 a147 f154 a155 := hw151.2.2.2.2.2
                  have hZ : mZ [0, 22, 23, 24, 25, 45, 46, 47] [1, 2, 5, 26, 29, 30, 34, 44] f a f154 a155 := mZ_tr hZ (mZ_w (by decide) (by decide) eZ158)
                  have hk0 : ∀ i, i < 23 → a155 5 i = a 2 i := (fun i hi => (congrFun (eZ158.2 5 rfl) i).trans (hk0 i hi))
                  have hd0 : v152.toInt = drI (ntN DD (bgF (a 2), (nsF DD (a 2) x.toInt nn).2.2) mm).2 % 10 := by have w9 := hw151.2.2.2.1; rw [show f146 47 = F64 47 from (eZ150.1 47 rfl), hSz] at w9; exact w9
                  have hd1 : (f154 47).toInt = drI (ntN DD (bgF (a 2), (nsF DD (a 2) x.toInt nn).2.2) mm).2 := by have w9 := hw151.2.2.2.2.1; rw [show f146 47 = F64 47 from (eZ150.1 47 rfl), hSz] at w9; exact w9
                  refine lv_aload_n hx hb dX12_nights_97 rfl (lv_at hl 3 rfl) ?_
                  refine va_get (D := D) (ci := 12) (v := .ref (r 2)) (C := RX12) (T := TX12) (N := 48) hx hb hg inC12 hown hK hP 0 rfl rfl 2 (by decide) (hg _ wt5_162) (fun _ h9 => h9) rfl dX12_nights_98 ?_
                  refine lv_bipush (v := 100) hx hb dX12_nights_101 (by decide) ?_
                  refine va_iald hx hb hK hP 2 0 rfl rfl (kb_in kc_100 (by decide) (by decide)) dX12_nights_103 ?_
                  refine lv_topi (fun t159 et159 => ?_)
                  rw [cl_100] at et159
                  refine lv_icmp_ge (tgt := 121) hx hb dX12_nights_104 (by decide) (fun c160 => ?_) (fun c160 => ?_)
                  · have h161 := (kc_le c160)
                    refine lv_aload_n hx hb dX12_nights_121 rfl (lv_at hl 3 rfl) ?_
                    refine lv_aload_n hx hb dX12_nights_122 rfl (lv_at hl 3 rfl) ?_
                    refine kI.callV (As := []) (rest := [.ref o]) ⟨hx, hb, hml, hown, hg⟩ (n_allBuilders l o r f154 a155 g156 hI   (by rw [show a155 2 = a147 2 from (eZ158.2 2 rfl), hsa]; exact hkA)) (cwV 0 hg (kgV wt7_164 wt7_166 wp6_14 wt1_14 wt7_167) rfl rfl rfl (by decide +kernel) ⟨by decide, by decide⟩) hK hP hD hS hA mIs [] rfl (wr := []) rfl rfl rfl (fun i h => by cases h) 0 12 rfl rfl rfl hl.1 rfl (Nat.le_of_ble_eq_true rfl) dX12_nights_123 ⟨Nat.le_refl _, Nat.le_refl _⟩ (fun v163 u164 H locs hw162 hP hD hS => ?_)
                    have hP : va_P D vwCl (mW K o r f154 a155 g156) H := hP
                    have hD : va_D A (mW K o r f154 a155 g156) := hD
                    refine kI.callV (As := [.int v163]) (rest := []) ⟨hx, hb, hml, hown, hg⟩ (n_ticks l o r f154 a155 g156 hI v163  DD (by rw [show a155 2 = a147 2 from (eZ158.2 2 rfl), hsa]; exact hkA) (by rw [show a155 2 = a147 2 from (eZ158.2 2 rfl), hsa]; exact lM_k (fun i hi => (hEA i (by omega)).trans (hM.2.2.1 i hi)) hp1) hw162.2 (by rw [show a155 2 = a147 2 from (eZ158.2 2 rfl), hsa, hEA 22 (Or.inr (by decide)), hM.2.1]; have w8 := (kK_r hp0 99 1 99 (by decide) (by decide)).2; have w9 := hp2; omega)) (cwV 1 hg (kgV wt7_168 wt7_170 wp6_15 wt1_14 wt7_171) rfl rfl rfl (by decide +kernel) ⟨by decide, by decide⟩) hK hP hD hS hA mIs [] rfl (wr := []) rfl rfl rfl (fun i h => by cases h) 0 12 rfl rfl rfl hl.1 rfl (Nat.le_of_ble_eq_true rfl) dX12_nights_126 ⟨Nat.le_refl _, Nat.le_refl _⟩ (fun v166 u167 H locs hw165 hP hD hS => ?_)
                    obtain ⟨f168, a169, g170⟩ := u167
                    have hP : va_P D vwCl (mW K o r f168 a169 g170) H := hP
                    have hD : va_D A (mW K o r f168 a169 g170) := hD
                    have hI : mI f168 a169 := hw165.2.1
                    have hE : mE (XR [(0, 23)]) f a f168 a169 := mE_tr hE hw165.2.2.1
                    have eE171 : mE (XR [(0, 23)]) f154 a155 f168 a169 := hw165.2.2.1
                    have eZ172 : mZ [22, 23, 24, 25] [2, 26, 29, 30] f154 a155 f168 a169 := hw165.2.2.2.2.2
                    have hZ : mZ [0, 22, 23, 24, 25, 45, 46, 47] [1, 2, 5, 26, 29, 30, 34, 44] f a f168 a169 := mZ_tr hZ (mZ_w (by decide) (by decide) eZ172)
                    have hk0 : ∀ i, i < 23 → a169 5 i = a 2 i := (fun i hi => (congrFun (eZ172.2 5 rfl) i).trans (hk0 i hi))
                    refine lv_pop hx hb dX12_nights_129 rfl ?_
                    obtain ⟨t173, et173⟩ : ∃ z : Int32, z = y63 + Int32.ofInt 1 := ⟨_, rfl⟩
                    have qt173 : t173.toInt = y63.toInt + 1 := by rw [et173]; exact km_inc b138 (by decide) (by decide)
                    have b174 : kb 1 t173 99 := kb_inc (k := 1) qt173 b138
                    refine lv_iinc (v := t173) (lv' := [(5, .int t173), (4, .int y33), (3, .int y34), (0, .ref o), (1, .int x), (2, .int y)]) hx hb dX12_nights_130 hl (k := 0) rfl et173.symm (by decide) rfl (fun ls hl => ?_)
                    refine lv_goto (tgt := 71) hx hb dX12_nights_133 (by decide) ?_
                    exact ihlp67 (mm + 1) f168 a169 g170 _ _ _ t173 (km_up hmlp67 qt173) hI hE hZ hk0 (kb_w b174 (by decide) (by decide)) (by have w1 := hvlp67_0; have w2 := qt173; omega) ((by have w9 := hw165.2.2.2.1; rw [show a155 2 = a147 2 from (eZ158.2 2 rfl), hsa] at w9; show _ = (ntT DD (ntN DD (bgF (a 2), (nsF DD (a 2) x.toInt nn).2.2) mm)).1; rw [nt_w (by have w1 := (show t159.toInt = ((ntN DD (bgF (a 2), (nsF DD (a 2) x.toInt nn).2.2) mm).1 100).toInt from congrArg Int32.toInt ((et159.trans (congrFun (eZ158.2 2 rfl) (100))).trans (by rw [hsa]; exact hEA 100 (Or.inr (by decide))))); have w2 := kc_le c160; have w3 := hd0; omega)]; exact w9)) ((by rw [show f168 47 = f154 47 from (eZ172.1 47 rfl), hd1]; show _ = (ntT DD (ntN DD (bgF (a 2), (nsF DD (a 2) x.toInt nn).2.2) mm)).2; rw [nt_w (by have w1 := (show t159.toInt = ((ntN DD (bgF (a 2), (nsF DD (a 2) x.toInt nn).2.2) mm).1 100).toInt from congrArg Int32.toInt ((et159.trans (congrFun (eZ158.2 2 rfl) (100))).trans (by rw [hsa]; exact hEA 100 (Or.inr (by decide))))); have w2 := kc_le c160; have w3 := hd0; omega)])) (((((eZ172.1 45 rfl).trans ((eZ158.1 45 rfl).trans (eZ150.1 45 rfl)))).trans hvlp67_3)) (((((eZ172.1 46 rfl).trans ((eZ158.1 46 rfl).trans (eZ150.1 46 rfl)))).trans hvlp67_4)) (((((eZ172.2 1 rfl).trans ((eZ158.2 1 rfl).trans (eZ150.2 1 rfl)))).trans hvlp67_5)) (hm99) hP hD hS (lv_sub hl [0, 1, 2, 3, 4, 5] rfl)
                  · have h175 := (kc_nle c160)
                    have b176 : kb (-2147483648) v152 2147483646 := kr_lt1 h175 (kb_any v152) (kb_any t159) (by decide)
                    have b177 : kb (-2147483647) t159 2147483647 := kr_lt2 h175 (kb_any v152) (kb_any t159) (by decide)
                    refine lv_aload_n hx hb dX12_nights_107 rfl (lv_at hl 3 rfl) ?_
                    refine va_get (D := D) (ci := 12) (v := .ref (r 2)) (C := RX12) (T := TX12) (N := 48) hx hb hg inC12 hown hK hP 0 rfl rfl 2 (by decide) (hg _ wt5_162) (fun _ h9 => h9) rfl dX12_nights_108 ?_
                    refine lv_bipush (v := 22) hx hb dX12_nights_111 (by decide) ?_
                    refine lv_dup2_11 hx hb dX12_nights_113 rfl rfl ?_
                    refine va_iald hx hb hK hP 2 0 rfl rfl (kb_in kc_22 (by decide) (by decide)) dX12_nights_114 ?_
                    refine lv_topi (fun t178 et178 => ?_)
                    rw [cl_22] at et178
                    refine lv_iconst (v := 1) hx hb dX12_nights_115 (by decide) ?_
                    refine lv_iadd hx hb dX12_nights_116 ?_
                    refine lv_topi (fun t179 et179 => ?_)
                    refine va_iast hx hb hK hP hD hS 2 0 rfl rfl (kb_in kc_22 (by decide) (by decide)) dX12_nights_117 (fun H locs hP hD hS => ?_)
                    rw [cl_22] at hP hD
                    have hP : va_P D vwCl (mW K o r f154 (va_up a155 2 (upd (a155 2) 22 t179)) g156) H := hP
                    have hD : va_D A (mW K o r f154 (va_up a155 2 (upd (a155 2) 22 t179)) g156) := hD
                    refine k_gen (P := fun z => va_P D vwCl (mW K o r f154 z g156) H ∧ va_D A (mW K o r f154 z g156) ∧ (mI f154 z) ∧ (mE (XR [(0, 23)]) f a f154 z) ∧ (mZ [0, 22, 23, 24, 25, 45, 46, 47] [1, 2, 5, 26, 29, 30, 34, 44] f a f154 z) ∧ (∀ i, i < 23 → z 5 i = a 2 i)) (va_up a155 2 (upd (a155 2) 22 t179)) ⟨hP, hD, (mI_2 hI (aI_st hI.2.1 2 22 (kb_any t179) (by decide) (by decide)) (by decide)), (mE_2 hE (by decide)), (mZ_a hZ rfl), hk0⟩ (fun a_180 ea_180 hq => ?_)
                    obtain ⟨hP, hD, hI, hE, hZ, hk0⟩ := hq
                    refine lv_goto (tgt := 130) hx hb dX12_nights_118 (by decide) ?_
                    obtain ⟨t181, et181⟩ : ∃ z : Int32, z = y63 + Int32.ofInt 1 := ⟨_, rfl⟩
                    have qt181 : t181.toInt = y63.toInt + 1 := by rw [et181]; exact km_inc b138 (by decide) (by decide)
                    have b182 : kb 1 t181 99 := kb_inc (k := 1) qt181 b138
                    refine lv_iinc (v := t181) (lv' := [(5, .int t181), (4, .int y33), (3, .int y34), (0, .ref o), (1, .int x), (2, .int y)]) hx hb dX12_nights_130 hl (k := 0) rfl et181.symm (by decide) rfl (fun ls hl => ?_)
                    refine lv_goto (tgt := 71) hx hb dX12_nights_133 (by decide) ?_
                    exact ihlp67 (mm + 1) f154 a_180 g156 _ _ _ t181 (km_up hmlp67 qt181) hI hE hZ hk0 (kb_w b182 (by decide) (by decide)) (by have w1 := hvlp67_0; have w2 := qt181; omega) ((by have w1 : t179 = sdA DD (ntN DD (bgF (a 2), (nsF DD (a 2) x.toInt nn).2.2) mm).1 22 + 1 := (by rw [et179, show t178 = _ from (et178.trans (congrFun (eZ158.2 2 rfl) (22))), hsa]); rw [show a_180 2 = _ from ((show a_180 2 = upd (a155 2) 22 t179 from by rw [← ea_180]; rfl).trans (congrArg (fun zz_ => upd zz_ 22 t179) (eZ158.2 2 rfl))), hsa, w1]; show _ = (ntT DD (ntN DD (bgF (a 2), (nsF DD (a 2) x.toInt nn).2.2) mm)).1; rw [nt_r (by have w1 := (show t159.toInt = ((ntN DD (bgF (a 2), (nsF DD (a 2) x.toInt nn).2.2) mm).1 100).toInt from congrArg Int32.toInt ((et159.trans (congrFun (eZ158.2 2 rfl) (100))).trans (by rw [hsa]; exact hEA 100 (Or.inr (by decide))))); have w2 := kc_nle c160; have w3 := hd0; omega)])) ((by rw [hd1]; show _ = (ntT DD (ntN DD (bgF (a 2), (nsF DD (a 2) x.toInt nn).2.2) mm)).2; rw [nt_r (by have w1 := (show t159.toInt = ((ntN DD (bgF (a 2), (nsF DD (a 2) x.toInt nn).2.2) mm).1 100).toInt from congrArg Int32.toInt ((et159.trans (congrFun (eZ158.2 2 rfl) (100))).trans (by rw [hsa]; exact hEA 100 (Or.inr (by decide))))); have w2 := kc_nle c160; have w3 := hd0; omega)])) (((((eZ158.1 45 rfl).trans (eZ150.1 45 rfl))).trans hvlp67_3)) (((((eZ158.1 46 rfl).trans (eZ150.1 46 rfl))).trans hvlp67_4)) (((((show a_180 1 = a155 1 from by rw [← ea_180]; rfl).trans ((eZ158.2 1 rfl).trans (eZ150.2 1 rfl)))).trans hvlp67_5)) (hm99) hP hD hS (lv_sub hl [0, 1, 2, 3, 4, 5] rfl)
            exact lp67 (100) 0 f58 a59 g60 _ _ _ 0 (by have h1 := (kc_0); unfold kb at h1; omega) hI hE hZ hk0 (kb_w kc_0 (by decide) (by decide)) (by decide +kernel) (hbg) ((by rw [show f58 47 = F35 47 from (eZ62.1 47 rfl)]; exact hvlp38_7)) ((((eZ62.1 45 rfl)).trans hvlp38_3)) ((((eZ62.1 46 rfl)).trans hvlp38_4)) ((((eZ62.2 1 rfl)).trans hvlp38_5)) (Nat.zero_le _) hP hD hS (lv_sub hl [0, 1, 2, 3, 4, 5] rfl)
      exact lp38 (21) 0 f_32 a g _ _ _ 0 0 (by have h1 := (kc_0); unfold kb at h1; omega) hI hE hZ hk0 (kb_w kc_0 (by decide) (by decide)) (kb_w kc_0 (by decide) (by decide)) (by decide +kernel) (by show (0 : Int32).toInt = ((0 : Nat) : Int); decide +kernel) (Nat.zero_le _) ((((show f_32 45 = f_29 45 from by rw [← ef_32]; rfl).trans (show f_29 45 = t27 from by rw [← ef_29]; rfl)).trans et27)) (((show f_32 46 = t30 from by rw [← ef_32]; rfl).trans et30)) ((rfl)) (fun h9 => absurd h9 (Nat.lt_irrefl 0)) ((congrArg Int32.toInt (((show f_32 47 = f_29 47 from by rw [← ef_32]; rfl).trans ((show f_29 47 = f_26 47 from by rw [← ef_29]; rfl).trans (show f_26 47 = x from by rw [← ef_26]; rfl)))))) hP hD hS (lv_sub hl [0, 1, 2, 3, 4] rfl)
    · have b183 : kb 0 v19 0 := kb_eq c21 kc_0
      refine lv_aload_n hx hb dX12_nights_20 rfl (lv_at hl 0 rfl) ?_
      refine lv_iconst (v := (-1)) hx hb dX12_nights_21 (by decide) ?_
      refine kI.callV (As := [.int (-1)]) (rest := []) ⟨hx, hb, hml, hown, hg⟩ (n_refuses l o r f a g hI (-1) (kb_w kc_m1 (by decide) (by decide)) ) (cwV 1 hg (kgV wt6_72 wt6_74 wp3_5 wt1_14 wt6_75) rfl rfl rfl (by decide +kernel) ⟨by decide, by decide⟩) hK hP hD hS hA mIs [] rfl (wr := []) rfl rfl rfl (fun i h => by cases h) 0 12 rfl rfl rfl hl.1 rfl (Nat.le_of_ble_eq_true rfl) dX12_nights_22 ⟨Nat.le_refl _, Nat.le_refl _⟩ (fun v185 u186 H locs hw184 hP hD hS => ?_)
      obtain ⟨f187, a188, g189⟩ := u186
      have hP : va_P D vwCl (mW K o r f187 a188 g189) H := hP
      have hD : va_D A (mW K o r f187 a188 g189) := hD
      have hI : mI f187 a188 := hw184.2.1
      have hE : mE (XR [(0, 23)]) f a f187 a188 := mE_tr hE (mE_w (XR_w (by decide)) hw184.2.2.1)
      have eE190 : mE (XR []) f a f187 a188 := hw184.2.2.1
      have eZ191 : mZ [0] [1] f a f187 a188 := hw184.2.2.2.2.2.2
      have hZ : mZ [0, 22, 23, 24, 25, 45, 46, 47] [1, 2, 5, 26, 29, 30, 34, 44] f a f187 a188 := mZ_tr hZ (mZ_w (by decide) (by decide) eZ191)
      refine k_top (z := (-1)) hw184.2.2.2.1 ?_
      exact kI_ret (v := (-1)) hx hb hr hlocks rfl hK hS dX12_nights_25 (f187, a188, g189) hP hD ⟨(kb_w kc_m1 (by decide) (by decide)), hI, ⟨hE.1, hE.2.1, fun i _ => (hw184.2.2.1).2.2.1 i rfl, hE.2.2.2.1, hE.2.2.2.2⟩, (Or.inl ⟨(fun q => mLies_z (hw18.2.symm.trans c21) (by decide +kernel) (by decide +kernel) q.2), rfl, hw184.2.2.2.2.1, hw184.2.2.2.2.2.1.trans (by rw [show a 1 = a 1 from rfl]), (eZ191.1 45 rfl), (eZ191.1 46 rfl), (eZ191.2 44 rfl)⟩), hZ⟩
set_option maxHeartbeats 4000000 in
set_option maxRecDepth 100000 in
theorem n_drawn  (l : Launch) {D : va_G} {K : Nat → ClassId} (o : Nat) (r : Nat → Nat) (f : Nat → Int32) (a : Nat → Nat → Int32) (g : Nat → Int64) (hI : mI f a) (x : Int32) (y : Int32)    : kI l yX12_drawn (Cond.code yX12_drawn cX12_drawn 3 (some .int) :: kG) (rmD 2 0 0) D (tysK K) [.ref o, .int x, .int y] (mW K o r f a g) (fun v (_ : Unit) => kb (-2147483648) v 2147483647 ∧ v = dwF (f 45) (f 46) (a 44) x y) (fun _ => mW K o r f a g) 0 0 := by
  refine kI.of (cc := cX12_drawn) (maxL := 3) (ret := (some .int)) (by decide) rfl (Nat.le_of_ble_eq_true rfl) ?_
  intro p e s m below meth c A hx hb hr hml hown hts hlocks hnm hK hP hD hS hA ls hl
  have hg : ∀ w ∈ kG, w.before _ s = true := fun w h => hts w (List.mem_cons_of_mem _ h)
  have hown : s.vm.findClass RX12 = some m.cls := hown
  have hl : lv_has ls 3 [(0, .ref o), (1, .int x), (2, .int y)] := hl
  refine lv_aload_n hx hb dX12_drawn_0 rfl (lv_at hl 0 rfl) ?_
  refine va_get (D := D) (ci := 12) (v := .int (f 45)) (C := RX12) (T := TX12) (N := 48) hx hb hg inC12 hown hK hP 0 rfl rfl 45 (by decide) (hg _ wt5_205) (fun _ h9 => h9) rfl dX12_drawn_1 ?_
  refine lv_topi (fun t1 et1 => ?_)
  have b2 : kb (-1) t1 10 := kb_eq et1 (fI_at hI.1 45 (by decide) (by decide))
  refine lv_iconst (v := (-1)) hx hb dX12_drawn_4 (by decide) ?_
  refine lv_icmp_eq (tgt := 42) hx hb dX12_drawn_5 (by decide) (fun c3 => ?_) (fun c3 => ?_)
  · have b4 : kb (-1) t1 (-1) := kb_eq c3 kc_m1
    refine lv_iconst (v := (-1)) hx hb dX12_drawn_42 (by decide) ?_
    exact kI_ret (v := (-1)) hx hb hr hlocks rfl hK hS dX12_drawn_43 () hP hD ⟨(kb_w kc_m1 (by decide) (by decide)), (by unfold dwF; rw [if_pos (et1.symm.trans c3)])⟩
  · have b5 : kb 0 t1 10 := kr_nel c3 b2 kc_m1 (by decide)
    refine lv_iload_n hx hb dX12_drawn_8 rfl (lv_at hl 2 rfl) ?_
    refine lv_iconst (v := 0) hx hb dX12_drawn_9 (by decide) ?_
    refine lv_iconst (v := 1) hx hb dX12_drawn_10 (by decide) ?_
    refine kN.callS (As := [.int y, .int 0, .int 1]) (rest := []) ⟨hx, hb, hml, hown, hg⟩ (m_lies l y 0 1 ) (va_cwS 3 hg (kgS wt6_69 wt6_70 wt1_14 wt6_71) rfl rfl rfl (by decide +kernel) ⟨by decide, by decide⟩) hP hS rfl hl.1 rfl (Nat.le_of_ble_eq_true rfl) dX12_drawn_11 ⟨Nat.le_refl _, Nat.le_refl _⟩ (fun v7 H locs hw6 hP hS => ?_)
    refine lv_if_eq (tgt := 42) hx hb dX12_drawn_14 (by decide) (fun c9 => ?_) (fun c9 => ?_)
    · have b10 : kb 0 v7 0 := kb_eq c9 kc_0
      refine lv_iconst (v := (-1)) hx hb dX12_drawn_42 (by decide) ?_
      exact kI_ret (v := (-1)) hx hb hr hlocks rfl hK hS dX12_drawn_43 () hP hD ⟨(kb_w kc_m1 (by decide) (by decide)), (by unfold dwF; rw [if_neg (fun q => c3 (et1.trans q)), if_neg (fun q => mLies_z (l := 0) (h := 1) (hw6.2.symm.trans c9) (by decide +kernel) (by decide +kernel) (by rw [q]; decide +kernel)), if_neg (fun q => mLies_z (l := 0) (h := 1) (hw6.2.symm.trans c9) (by decide +kernel) (by decide +kernel) (by rw [q]; decide +kernel))])⟩
    · have b11 : kb 1 v7 1 := kr_nel c9 hw6.1 kc_0 (by decide)
      have h12 := mLies_ne (hw6.2 ▸ c9)
      have b13 : kb 0 y 2147483647 := kr_le2 h12.1 kc_0 (kb_any y)
      have b14 : kb 0 y 1 := kr_le1 h12.2 b13 kc_1
      refine lv_iload_n hx hb dX12_drawn_17 rfl (lv_at hl 1 rfl) ?_
      refine lv_iconst (v := 0) hx hb dX12_drawn_18 (by decide) ?_
      refine lv_iload_n hx hb dX12_drawn_19 rfl (lv_at hl 2 rfl) ?_
      refine lv_if_ne (tgt := 30) hx hb dX12_drawn_20 (by decide) (fun c15 => ?_) (fun c15 => ?_)
      · have b16 : kb 1 y 1 := kr_nel c15 b14 kc_0 (by decide)
        refine lv_aload_n hx hb dX12_drawn_30 rfl (lv_at hl 0 rfl) ?_
        refine va_get (D := D) (ci := 12) (v := .int (f 46)) (C := RX12) (T := TX12) (N := 48) hx hb hg inC12 hown hK hP 0 rfl rfl 46 (by decide) (hg _ wt5_206) (fun _ h9 => h9) rfl dX12_drawn_31 ?_
        refine lv_topi (fun t17 et17 => ?_)
        have b18 : kb 0 t17 6 := kb_eq et17 (fI_at hI.1 46 (by decide) (by decide))
        refine lv_iconst (v := 1) hx hb dX12_drawn_34 (by decide) ?_
        refine lv_isub hx hb dX12_drawn_35 ?_
        refine lv_topi (fun t19 et19 => ?_)
        have b20 : kb (-1) t19 5 := kb_eq et19 (kb_sub b18 kc_1 (by decide) (by decide))
        have qt19 : t19.toInt = t17.toInt - 1 := by rw [et19]; exact kt_subc b18 kc_1 (by decide) (by decide)
        refine kN.callS (As := [.int x, .int 0, .int t19]) (rest := []) ⟨hx, hb, hml, hown, hg⟩ (m_lies l x 0 t19 ) (va_cwS 3 hg (kgS wt6_69 wt6_70 wt1_14 wt6_71) rfl rfl rfl (by decide +kernel) ⟨by decide, by decide⟩) hP hS rfl hl.1 rfl (Nat.le_of_ble_eq_true rfl) dX12_drawn_36 ⟨Nat.le_refl _, Nat.le_refl _⟩ (fun v22 H locs hw21 hP hS => ?_)
        refine lv_if_ne (tgt := 44) hx hb dX12_drawn_39 (by decide) (fun c24 => ?_) (fun c24 => ?_)
        · have b25 : kb 1 v22 1 := kr_nel c24 hw21.1 kc_0 (by decide)
          have h26 := mLies_ne (hw21.2 ▸ c24)
          have b27 : kb 0 x 2147483647 := kr_le2 h26.1 kc_0 (kb_any x)
          have b28 : kb 0 x 5 := kr_le1 h26.2 b27 b20
          refine lv_aload_n hx hb dX12_drawn_44 rfl (lv_at hl 0 rfl) ?_
          refine va_get (D := D) (ci := 12) (v := .ref (r 44)) (C := RX12) (T := TX12) (N := 48) hx hb hg inC12 hown hK hP 0 rfl rfl 44 (by decide) (hg _ wt5_204) (fun _ h9 => h9) rfl dX12_drawn_45 ?_
          refine lv_iload_n hx hb dX12_drawn_48 rfl (lv_at hl 2 rfl) ?_
          refine lv_if_ne (tgt := 56) hx hb dX12_drawn_49 (by decide) (fun c29 => ?_) (fun c29 => ?_)
          · refine lv_bipush (v := 10) hx hb dX12_drawn_56 (by decide) ?_
            refine lv_iload_n hx hb dX12_drawn_58 rfl (lv_at hl 1 rfl) ?_
            refine lv_iadd hx hb dX12_drawn_59 ?_
            refine lv_topi (fun t30 et30 => ?_)
            have b31 : kb 10 t30 15 := kb_eq et30 (kb_add kc_10 b28 (by decide) (by decide))
            have qt30 : t30.toInt = 10 + x.toInt := by rw [et30]; exact kt_cadd kc_10 b28 (by decide) (by decide)
            refine va_iald hx hb hK hP 21 0 rfl rfl (kb_in b31 (by decide) (by decide)) dX12_drawn_60 ?_
            refine lv_topi (fun t32 et32 => ?_)
            exact kI_ret (v := t32) hx hb hr hlocks rfl hK hS dX12_drawn_61 () hP hD ⟨(kb_any t32), (by unfold dwF; rw [if_neg (fun q => c3 (et1.trans q)), if_neg c29, if_pos (show y = 1 from (Int32.toInt_inj.mp (by have w1 := mLies_ne (hw6.2 ▸ c9); have w2 : (0 : Int32).toInt = 0 := (by decide +kernel); have w3 : (1 : Int32).toInt = 1 := (by decide +kernel); have w4 : ¬ y.toInt = 0 := (fun q => c29 (Int32.toInt_inj.mp (q.trans w2.symm))); omega))), if_pos (by have w1 := mLies_ne (hw21.2 ▸ c24); have w2 := qt19; have w3 : (0 : Int32).toInt = 0 := (by decide +kernel); have w4 := congrArg Int32.toInt et17; exact ⟨by omega, by omega⟩)]; exact et32.trans (congrArg (a 44) (by have w2 := qt30; have w1 := (b28).1; unfold Int32.toNatClampNeg; omega)))⟩
          · exact kb_dj c29 b16 kc_0 (by decide)
        · have b33 : kb 0 v22 0 := kb_eq c24 kc_0
          refine lv_iconst (v := (-1)) hx hb dX12_drawn_42 (by decide) ?_
          exact kI_ret (v := (-1)) hx hb hr hlocks rfl hK hS dX12_drawn_43 () hP hD ⟨(kb_w kc_m1 (by decide) (by decide)), (by unfold dwF; rw [if_neg (fun q => c3 (et1.trans q)), if_neg c15, if_pos (show y = 1 from (Int32.toInt_inj.mp (by have w1 := mLies_ne (hw6.2 ▸ c9); have w2 : (0 : Int32).toInt = 0 := (by decide +kernel); have w3 : (1 : Int32).toInt = 1 := (by decide +kernel); have w4 : ¬ y.toInt = 0 := (fun q => c15 (Int32.toInt_inj.mp (q.trans w2.symm))); omega))), if_neg (fun q => mLies_z (hw21.2.symm.trans c24) (by decide +kernel) (show t19.toInt = _ from rfl) ⟨q.1, by have w1 := q.2; have w2 := qt19; have w3 := congrArg Int32.toInt et17; omega⟩)])⟩
      · have b34 : kb 0 y 0 := kb_eq c15 kc_0
        refine lv_aload_n hx hb dX12_drawn_23 rfl (lv_at hl 0 rfl) ?_
        refine va_get (D := D) (ci := 12) (v := .int (f 45)) (C := RX12) (T := TX12) (N := 48) hx hb hg inC12 hown hK hP 0 rfl rfl 45 (by decide) (hg _ wt5_205) (fun _ h9 => h9) rfl dX12_drawn_24 ?_
        refine k_top (z := t1) et1.symm ?_
        refine lv_goto (tgt := 34) hx hb dX12_drawn_27 (by decide) ?_
        refine lv_iconst (v := 1) hx hb dX12_drawn_34 (by decide) ?_
        refine lv_isub hx hb dX12_drawn_35 ?_
        refine lv_topi (fun t35 et35 => ?_)
        have b36 : kb (-1) t35 9 := kb_eq et35 (kb_sub b5 kc_1 (by decide) (by decide))
        have qt35 : t35.toInt = t1.toInt - 1 := by rw [et35]; exact kt_subc b5 kc_1 (by decide) (by decide)
        refine kN.callS (As := [.int x, .int 0, .int t35]) (rest := []) ⟨hx, hb, hml, hown, hg⟩ (m_lies l x 0 t35 ) (va_cwS 3 hg (kgS wt6_69 wt6_70 wt1_14 wt6_71) rfl rfl rfl (by decide +kernel) ⟨by decide, by decide⟩) hP hS rfl hl.1 rfl (Nat.le_of_ble_eq_true rfl) dX12_drawn_36 ⟨Nat.le_refl _, Nat.le_refl _⟩ (fun v38 H locs hw37 hP hS => ?_)
        refine lv_if_ne (tgt := 44) hx hb dX12_drawn_39 (by decide) (fun c40 => ?_) (fun c40 => ?_)
        · have b41 : kb 1 v38 1 := kr_nel c40 hw37.1 kc_0 (by decide)
          have h42 := mLies_ne (hw37.2 ▸ c40)
          have b43 : kb 0 x 2147483647 := kr_le2 h42.1 kc_0 (kb_any x)
          have b44 : kb 0 x 9 := kr_le1 h42.2 b43 b36
          refine lv_aload_n hx hb dX12_drawn_44 rfl (lv_at hl 0 rfl) ?_
          refine va_get (D := D) (ci := 12) (v := .ref (r 44)) (C := RX12) (T := TX12) (N := 48) hx hb hg inC12 hown hK hP 0 rfl rfl 44 (by decide) (hg _ wt5_204) (fun _ h9 => h9) rfl dX12_drawn_45 ?_
          refine lv_iload_n hx hb dX12_drawn_48 rfl (lv_at hl 2 rfl) ?_
          refine lv_if_ne (tgt := 56) hx hb dX12_drawn_49 (by decide) (fun c45 => ?_) (fun c45 => ?_)
          · exact kb_nsame c45 b34 kc_0
          · refine lv_iconst (v := 0) hx hb dX12_drawn_52 (by decide) ?_
            refine lv_goto (tgt := 58) hx hb dX12_drawn_53 (by decide) ?_
            refine lv_iload_n hx hb dX12_drawn_58 rfl (lv_at hl 1 rfl) ?_
            refine lv_iadd hx hb dX12_drawn_59 ?_
            refine k_top (z := x) (Int32.zero_add _) ?_
            refine va_iald hx hb hK hP 21 0 rfl rfl (kb_in b44 (by decide) (by decide)) dX12_drawn_60 ?_
            refine lv_topi (fun t46 et46 => ?_)
            exact kI_ret (v := t46) hx hb hr hlocks rfl hK hS dX12_drawn_61 () hP hD ⟨(kb_any t46), (by unfold dwF; rw [if_neg (fun q => c3 (et1.trans q)), if_pos c45, if_pos (by have w1 := mLies_ne (hw37.2 ▸ c40); have w2 := qt35; have w3 : (0 : Int32).toInt = 0 := (by decide +kernel); have w4 := congrArg Int32.toInt et1; exact ⟨by omega, by omega⟩)]; exact et46)⟩
        · have b47 : kb 0 v38 0 := kb_eq c40 kc_0
          refine lv_iconst (v := (-1)) hx hb dX12_drawn_42 (by decide) ?_
          exact kI_ret (v := (-1)) hx hb hr hlocks rfl hK hS dX12_drawn_43 () hP hD ⟨(kb_w kc_m1 (by decide) (by decide)), (by unfold dwF; rw [if_neg (fun q => c3 (et1.trans q)), if_pos c15, if_neg (fun q => mLies_z (hw37.2.symm.trans c40) (by decide +kernel) (show t35.toInt = _ from rfl) ⟨q.1, by have w1 := q.2; have w2 := qt35; have w3 := congrArg Int32.toInt et1; omega⟩)])⟩
