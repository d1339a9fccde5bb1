/-! a tick -/
theorem lastOf_b {f : Nat → Option Int} {w l h : Int} (hw : l ≤ w ∧ w ≤ h) (hf : ∀ c x, f c = some x → l ≤ x ∧ x ≤ h) : ∀ n, l ≤ lastOf f w n ∧ lastOf f w n ≤ h
  | 0 => hw
  | n + 1 => by
    rw [lastOf_s]
    cases hc : f n with
    | none => exact lastOf_b hw hf n
    | some x => exact hf n x hc
theorem clT_b {D : tE} {hd : Int32} {W : Nat → Int} {hi : Int} (h0 : 0 ≤ hi) (c : Nat) (x : Int) (h : clT D hd W hi c = some x) : 0 ≤ x ∧ x ≤ hi := by
  unfold clT at h
  split at h
  · cases hb : D.2.2.2.2.1 c W with
    | none => rw [hb] at h; cases h
    | some z =>
      rw [hb] at h
      have h2 := Option.some.inj h
      omega
  · cases h
theorem wo0_b {k : Nat → Int32} (h : kK k) {kd : Nat} {b p : Int32} (hb : kb 0 b 5) : 0 ≤ wo0 k kd b p ∧ wo0 k kd b p ≤ 9 := by
  have b1 := hb.1
  have b2 := hb.2
  have hb5 : b.toNatClampNeg < 6 := by unfold Int32.toNatClampNeg; omega
  have q := kK_s h 69 6 0 9 (by decide) (by decide) hb5
  have q1 := q.1
  have q2 := q.2
  unfold wo0
  repeat' split
  all_goals omega
theorem ask_b {DD : Nat → tE} {k : Nat → Int32} (h : kK k) {kd : Nat} {b p : Int32} (hb : kb 0 b 5) (hh : 9 ≤ kHi kd ∧ kHi kd ≤ 20) : 0 ≤ askF DD k kd b p ∧ askF DD k kd b p ≤ 20 := by
  have q := wo0_b h (kd := kd) (p := p) hb
  unfold askF
  split
  · omega
  · have w := lastOf_b (f := clT (DD (k 106).toInt.toNat) (kHd kd) (lwW k b p) (kHi kd)) (w := wo0 k kd b p) (l := 0) (h := kHi kd) ⟨q.1, by omega⟩ (fun c x hx => clT_b (by omega) c x hx) (DD (k 106).toInt.toNat).1
    unfold lwV
    omega
def tkW (DD : Nat → tE) (k : Nat → Int32) (kd b : Nat) : Int := askF DD k kd (nI b) (k (16 + b))
def dnV (DD : Nat → tE) (k : Nat → Int32) (q : Nat) : Int := if k (16 + q) = -1 then 0 else tkW DD k 0 q
def trV (DD : Nat → tE) (k : Nat → Int32) (q : Nat) : Int := if k (16 + q) = -1 then -2 else tkW DD k 1 q
def tk1 (DD : Nat → tE) (k : Nat → Int32) : Nat → Nat → Int32
  | 0 => k
  | n + 1 => if k (16 + n) = -1 then upd (tk1 DD k n) (10 + n) (nI ((tk1 DD k n (10 + n)).toInt - 2).toNat)
    else upd (upd (tk1 DD k n) (0 + (k (16 + n)).toNatClampNeg) (nI ((tk1 DD k n (0 + (k (16 + n)).toNatClampNeg)).toInt - tkW DD k 0 n).toNat)) (10 + n) (nI (min 99 ((tk1 DD k n (10 + n)).toInt + tkW DD k 1 n)).toNat)
def tk2 (k : Nat → Int32) : Nat → Nat → Int32
  | 0 => k
  | n + 1 => if ¬ k (16 + n) = -1 ∧ k (0 + (k (16 + n)).toNatClampNeg) = 0 then upd (tk2 k n) (16 + n) (-1) else tk2 k n
def tkF (DD : Nat → tE) (k : Nat → Int32) : Nat → Int32 := upd (tk2 (tk1 DD k (kBn k)) (kBn k)) 22 (k 22 + 1)
/-- how many came to stand -/
def tkR (k k' : Nat → Int32) : Int := (pop (upM k' &&& (upM k ^^^ (-1))).toInt.toNat : Int)
theorem kpl {k : Nat → Int32} (hk : kK k) {n : Nat} (hn : n < 6) : kb (-1) (k (16 + n)) 9 := kK_s hk 16 6 (-1) 9 (by decide) (by decide) hn
theorem tk1_o (DD : Nat → tE) (k : Nat → Int32) : ∀ n i, 16 ≤ i → n ≤ 6 → kK k → tk1 DD k n i = k i
  | 0, i, _, _, _ => rfl
  | n + 1, i, hi, hn, hk => by
    have ih := tk1_o DD k n i hi (by omega) hk
    have hb := (kpl hk (n := n) (by omega)).2
    have hp : (k (16 + n)).toNatClampNeg < 10 := by unfold Int32.toNatClampNeg; omega
    unfold tk1
    split
    · rw [pk_un (by omega)]; exact ih
    · rw [pk_un (by omega), pk_un (by omega)]; exact ih
theorem tk2_o (k : Nat → Int32) : ∀ n i, (i < 16 ∨ 22 ≤ i) → n ≤ 6 → tk2 k n i = k i
  | 0, i, _, _ => rfl
  | n + 1, i, hi, hn => by
    have ih := tk2_o k n i hi (by omega)
    unfold tk2
    split
    · rw [pk_un (by omega)]; exact ih
    · exact ih
theorem tk2_p (k : Nat → Int32) : ∀ n i, 16 + n ≤ i → tk2 k n i = k i
  | 0, i, _ => rfl
  | n + 1, i, hi => by
    have ih := tk2_p k n i (by omega)
    unfold tk2
    split
    · rw [pk_un (by omega)]; exact ih
    · exact ih
theorem tk2_q (k : Nat → Int32) : ∀ n i, tk2 k n i = k i ∨ tk2 k n i = -1
  | 0, i => Or.inl rfl
  | n + 1, i => by
    have ih := tk2_q k n i
    unfold tk2
    split
    · by_cases e : i = 16 + n
      · right; rw [e, pk_us]
      · rw [pk_un e]; exact ih
    · exact ih
theorem tk1_b {DD : Nat → tE} {k : Nat → Int32} (hk : kK k) : ∀ n, n ≤ kBn k → ∀ i, i < 16 → kb 0 (tk1 DD k n i) 99
  | 0, _, i, hi => kK_s hk 0 16 0 99 (by decide) (by decide) hi |> fun b => by rw [Nat.zero_add] at b; exact b
  | n + 1, hn, i, hi => by
    have hn6 := (kBn_b hk).1
    have ih := tk1_b (DD := DD) hk n (by omega)
    have hpl := kpl hk (n := n) (by omega)
    have i1 := ih (10 + n) (by omega)
    have i11 := i1.1
    have i12 := i1.2
    have hnb : kb 0 (nI n) 5 := kb_nI (N := 5) (by omega) (by decide)
    unfold tk1
    split
    · by_cases e : i = 10 + n
      · rw [e, pk_us]; exact kb_nI (N := 99) (by omega) (by decide)
      · rw [pk_un e]; exact ih i hi
    · have hp0 : 0 + (k (16 + n)).toNatClampNeg < 16 := by have w := hpl.2; unfold Int32.toNatClampNeg; omega
      have i2 := ih _ hp0
      have i21 := i2.1
      have i22 := i2.2
      have a0 := (ask_b (DD := DD) hk (kd := 0) (p := k (16 + n)) hnb ⟨by decide, by decide⟩).1
      have a1 := ask_b (DD := DD) hk (kd := 1) (p := k (16 + n)) hnb ⟨by decide, by decide⟩
      have a11 := a1.1
      by_cases e : i = 10 + n
      · rw [e, pk_us]; exact kb_nI (N := 99) (by unfold tkW; omega) (by decide)
      · rw [pk_un e]
        by_cases e2 : i = 0 + (k (16 + n)).toNatClampNeg
        · rw [e2, pk_us]; exact kb_nI (N := 99) (by unfold tkW; omega) (by decide)
        · rw [pk_un e2]; exact ih i hi
theorem tkF_hi {DD : Nat → tE} {k : Nat → Int32} (hk : kK k) {i : Nat} (hi : 23 ≤ i) : tkF DD k i = k i := by
  unfold tkF
  rw [pk_un (by omega), tk2_o _ _ _ (Or.inr (by omega)) (kBn_b hk).1, tk1_o _ _ _ _ (by omega) (kBn_b hk).1 hk]
theorem kK_tk {DD : Nat → tE} {k : Nat → Int32} (hk : kK k) (hh : (k 22).toInt ≤ 5000) : kK (tkF DD k) := by
  have hn6 := (kBn_b hk).1
  have h22 := (kK_r hk 22 0 1000000 (by decide) (by decide)).1
  have hpl : ∀ b, b < 6 → (tkF DD k (16 + b)) = k (16 + b) ∨ (tkF DD k (16 + b)) = -1 := by
    intro b hb
    unfold tkF
    rw [pk_un (by omega)]
    rcases tk2_q (tk1 DD k (kBn k)) (kBn k) (16 + b) with h | h
    · left; rw [h, tk1_o _ _ _ _ (by omega) hn6 hk]
    · exact Or.inr h
  have m1 : (-1 : Int32).toInt = -1 := by decide +kernel
  refine ⟨fun i hi => ?_, fun b hb => ?_, ?_⟩
  · by_cases c1 : i < 16
    · have e : tkF DD k i = tk1 DD k (kBn k) i := by unfold tkF; rw [pk_un (by omega), tk2_o _ _ _ (Or.inl c1) hn6]
      have eb : kBd i = (0, 99) := by unfold kBd; rw [if_pos c1]
      rw [e, eb]
      exact tk1_b hk _ (Nat.le_refl _) i c1
    · by_cases c2 : i < 22
      · have eb : kBd i = (-1, 9) := by unfold kBd; rw [if_neg c1, if_pos c2]
        have e := hpl (i - 16) (by omega)
        rw [show 16 + (i - 16) = i by omega] at e
        rw [eb]
        rcases e with e | e
        · rw [e]; have w := hk.1 i hi; rw [eb] at w; exact w
        · rw [e]; exact ⟨by rw [m1]; decide, by rw [m1]; decide⟩
      · by_cases c3 : i = 22
        · have e : (k 22 + 1).toInt = (k 22).toInt + 1 := by
            have e1 : (1 : Int32).toInt = 1 := by decide +kernel
            rw [kt_add (l1 := 0) (h1 := 5000) (l2 := 1) (h2 := 1) ⟨h22, hh⟩ ⟨by rw [e1]; decide, by rw [e1]; decide⟩ (by decide) (by decide), e1]
          rw [c3]
          have e2 : tkF DD k 22 = k 22 + 1 := pk_us
          rw [e2]
          refine ⟨?_, ?_⟩
          · show (0 : Int) ≤ _; omega
          · show _ ≤ (1000000 : Int); omega
        · rw [tkF_hi hk (show 23 ≤ i by omega)]; exact hk.1 i hi
  · rw [tkF_hi (DD := DD) hk (show 23 ≤ 102 by decide)]
    have w := hk.2.1 b hb
    have w2 := (kK_r hk 102 0 10 (by decide) (by decide)).1
    rcases hpl b hb with e | e
    · rw [e]; exact w
    · rw [e, m1]; omega
  · rw [tkF_hi hk (by omega), tkF_hi hk (by omega)]; exact hk.2.2
theorem kBn_tk1 {DD : Nat → tE} {k : Nat → Int32} (hk : kK k) {n : Nat} (hn : n ≤ 6) : tk1 DD k n 103 = k 103 := tk1_o _ _ _ _ (by decide) hn hk
/-- all bits -/
theorem allb {n q : Nat} {x y : Int32} (hn : n ≤ 6) (hq : q < n) (hx : x = nI (2 ^ n - 1)) (hy : y = nI q) : (x >>> (y &&& 31)) &&& 1 = 1 := by
  have h : ∀ n : Fin 7, ∀ q : Fin 6, q.val < n.val → (nI (2 ^ n.val - 1) >>> (nI q.val &&& 31)) &&& 1 = 1 := by decide +kernel
  rw [hx, hy]
  exact h ⟨n, by omega⟩ ⟨q, by omega⟩ hq
theorem allb_v {n : Nat} {c t v : Int32} (hn : n ≤ 6) (hc : c = nI n) (ht : t = (1 : Int32) <<< (c &&& 31)) (hv : v = t - 1) : v = nI (2 ^ n - 1) := by
  have h : ∀ n : Fin 7, ((1 : Int32) <<< (nI n.val &&& 31)) - 1 = nI (2 ^ n.val - 1) := by decide +kernel
  rw [hv, ht, hc]
  exact h ⟨n, by omega⟩
theorem gl_v {t m v : Int32} (h1 : m = 99 ∨ m = t) (h2 : m.toInt ≤ (99 : Int32).toInt) (h3 : m.toInt ≤ t.toInt) (g1 : v = 0 ∨ v = m) (g2 : (0 : Int32).toInt ≤ v.toInt) (g3 : m.toInt ≤ v.toInt) : v.toInt = max 0 (min 99 t.toInt) := by
  have e0 : (0 : Int32).toInt = 0 := by decide +kernel
  have e9 : (99 : Int32).toInt = 99 := by decide +kernel
  have q1 : m.toInt = 99 ∨ m.toInt = t.toInt := h1.imp (fun h => by rw [h, e9]) (fun h => by rw [h])
  have q2 : v.toInt = 0 ∨ v.toInt = m.toInt := g1.imp (fun h => by rw [h, e0]) (fun h => by rw [h])
  omega
theorem g_v {x v : Int32} (g1 : v = 0 ∨ v = x) (g2 : (0 : Int32).toInt ≤ v.toInt) (g3 : x.toInt ≤ v.toInt) : v.toInt = max 0 x.toInt := by
  have e0 : (0 : Int32).toInt = 0 := by decide +kernel
  have q2 : v.toInt = 0 ∨ v.toInt = x.toInt := g1.imp (fun h => by rw [h, e0]) (fun h => by rw [h])
  omega
/-- rows of what is done and how it tires -/
theorem cp_sI {R R' : Nat → Int32} {nn k : Nat} {v : Int32} {S : Nat → Int} (h : ∀ q, q < nn → (R q).toInt = S q) (e : R' = upd R k v) (hk : k = nn) (hv : v.toInt = S nn) : ∀ q, q < nn + 1 → (R' q).toInt = S q := by
  intro q hq
  rw [e]
  by_cases c : q = nn
  · rw [c, ← hk, pk_us, hk]; exact hv
  · rw [pk_un (by omega)]; exact h q (by omega)
theorem dn_y {DD : Nat → tE} {k : Nat → Int32} {nn : Nat} {v b p : Int32} (h : ¬ k (16 + nn) = -1) (hb : b = nI nn) (hp : p = k (16 + nn)) (e : v.toInt = askF DD k 0 b p) : v.toInt = dnV DD k nn := by
  unfold dnV tkW
  rw [if_neg h, e, hb, hp]
theorem tr_y {DD : Nat → tE} {k : Nat → Int32} {nn : Nat} {v b p : Int32} (h : ¬ k (16 + nn) = -1) (hb : b = nI nn) (hp : p = k (16 + nn)) (e : v.toInt = askF DD k 1 b p) : v.toInt = trV DD k nn := by
  unfold trV tkW
  rw [if_neg h, e, hb, hp]
theorem dn_n {DD : Nat → tE} {k : Nat → Int32} {nn : Nat} (h : k (16 + nn) = -1) : (0 : Int32).toInt = dnV DD k nn := by
  unfold dnV
  rw [if_pos h]; decide +kernel
theorem tr_n {DD : Nat → tE} {k : Nat → Int32} {nn : Nat} (h : k (16 + nn) = -1) : (-2 : Int32).toInt = trV DD k nn := by
  unfold trV
  rw [if_pos h]; decide +kernel
theorem tk1_sn {DD : Nat → tE} {k R R' : Nat → Int32} {nn ix : Nat} {x d v t : Int32} (hp : k (16 + nn) = -1) (hR : R = tk1 DD k nn) (e : R' = upd R ix v) (hi : ix = 10 + nn) (hx : x = R (10 + nn)) (hb : kb 0 x 99) (hd : d.toInt = trV DD k nn) (ht : t.toInt = x.toInt + d.toInt) (hv : v.toInt = max 0 (min 99 t.toInt)) : R' = tk1 DD k (nn + 1) := by
  have b1 := hb.1
  have b2 := hb.2
  unfold trV at hd
  rw [if_pos hp] at hd
  show _ = if k (16 + nn) = -1 then _ else _
  rw [if_pos hp, e, hi, hR]
  have ev : v = nI ((tk1 DD k nn (10 + nn)).toInt - 2).toNat := nI_q (by rw [← hR, ← hx]; omega)
  rw [ev]
theorem tk1_sy {DD : Nat → tE} {k R R' : Nat → Int32} {nn i1 i2 : Nat} {p x y d w v1 v2 t s : Int32} (hp : ¬ k (16 + nn) = -1) (hpp : p = k (16 + nn)) (hn : nn < 6) (hp9 : p.toNatClampNeg < 10) (hR : R = tk1 DD k nn) (e : R' = upd (upd R i1 v1) i2 v2) (hi1 : i1 = p.toNatClampNeg) (hi2 : i2 = 10 + nn) (hy : y = R p.toNatClampNeg) (hw : w.toInt = dnV DD k nn) (hs : s.toInt = y.toInt - w.toInt) (hv1 : v1.toInt = max 0 s.toInt) (hx : x = R (10 + nn)) (hd : d.toInt = trV DD k nn) (ht : t.toInt = x.toInt + d.toInt) (hv2 : v2.toInt = max 0 (min 99 t.toInt)) : R' = tk1 DD k (nn + 1) := by
  unfold trV at hd
  unfold dnV at hw
  rw [if_neg hp] at hd hw
  show _ = if k (16 + nn) = -1 then _ else _
  rw [if_neg hp, e, hi1, hi2, ← hpp, Nat.zero_add, ← hR]
  have ev1 : v1 = nI ((R p.toNatClampNeg).toInt - tkW DD k 0 nn).toNat := nI_q (by rw [← hy]; omega)
  have ev2 : v2 = nI (min 99 ((R (10 + nn)).toInt + tkW DD k 1 nn)).toNat := nI_q (by rw [← hx]; omega)
  rw [ev1, ev2]
theorem tk2_sy {k R R' : Nat → Int32} {nn ix : Nat} {p : Int32} (hp : ¬ p = -1) (hpp : p = k (16 + nn)) (h0 : k (0 + p.toNatClampNeg) = 0) (hR : R = tk2 k nn) (e : R' = upd R ix (-1)) (hi : ix = 16 + nn) : R' = tk2 k (nn + 1) := by
  show _ = if _ then _ else _
  rw [if_pos ⟨by rw [← hpp]; exact hp, by rw [← hpp]; exact h0⟩, e, hi, hR]
theorem tk2_sn {k R R' : Nat → Int32} {nn : Nat} {p : Int32} (hpp : p = k (16 + nn)) (h : p = -1 ∨ ¬ k (0 + p.toNatClampNeg) = 0) (hR : R = tk2 k nn) (e : R' = R) : R' = tk2 k (nn + 1) := by
  show _ = if _ then _ else _
  rw [if_neg (fun q => h.elim (fun z => q.1 (by rw [← hpp]; exact z)) (fun z => z (by rw [hpp]; exact q.2))), e, hR]
/-- the part of a mask -/
theorem and_b {x y : Int32} {n : Nat} (hx : x = nI n) (hn : n < 1024) : kb 0 (x &&& y) 1023 := by
  have h1 : (x &&& y).toBitVec.toNat ≤ n := by
    rw [hx, Int32.toBitVec_and, BitVec.toNat_and, kn_bv (by omega)]
    exact Nat.and_le_left
  have h2 : (x &&& y) = nI (x &&& y).toBitVec.toNat := by
    apply Int32.toBitVec_inj.mp
    apply BitVec.eq_of_toNat_eq
    rw [kn_bv (by omega)]
  rw [h2]
  exact kb_nI (N := 1023) (by omega) (by decide)
theorem tkF_i {DD : Nat → tE} {k R R' : Nat → Int32} {h t : Int32} (hk : kK k) (hR : R = tk2 (tk1 DD k (kBn k)) (kBn k)) (e : R' = upd R 22 t) (eh : h = R 22) (et : t = h + 1) : R' = tkF DD k := by
  have w : R 22 = k 22 := by rw [hR, tk2_o _ _ _ (Or.inr (by decide)) (kBn_b hk).1, tk1_o _ _ _ _ (by decide) (kBn_b hk).1 hk]
  rw [e, et, eh, w, hR]
  rfl
theorem tkF_l {DD : Nat → tE} {k : Nat → Int32} {i : Nat} (hi : i < 16) (h6 : kBn k ≤ 6 := by omega) : tkF DD k i = tk1 DD k (kBn k) i := by
  unfold tkF
  rw [pk_un (by omega), tk2_o _ _ _ (Or.inl hi) h6]
theorem tkF_p {DD : Nat → tE} {k : Nat → Int32} {i : Nat} (h1 : 16 ≤ i) (h2 : i < 22) : tkF DD k i = tk2 (tk1 DD k (kBn k)) (kBn k) i := by
  unfold tkF
  rw [pk_un (by omega)]
/-! Integer.bitCount -/
def suJ (x y : Int32) : Int32 := (Int32.toUInt32 x >>> (Int32.toUInt32 y &&& Int32.toUInt32 31)).toInt32
def bc1 (x : Int32) : Int32 := x - (suJ x 1 &&& 1431655765)
def bc2 (x : Int32) : Int32 := (x &&& 858993459) + (suJ x 2 &&& 858993459)
def bc3 (x : Int32) : Int32 := (x + suJ x 4) &&& 252645135
def bc4 (x : Int32) : Int32 := x + suJ x 8
def bc5 (x : Int32) : Int32 := x + suJ x 16
def bcJ (x : Int32) : Int32 := bc5 (bc4 (bc3 (bc2 (bc1 x)))) &&& 63
theorem bcJ_v : ∀ n : Fin 1024, (bcJ (nI n.val)).toInt = (pop n.val : Int) := by decide +kernel
set_option maxHeartbeats 4000000 in
set_option maxRecDepth 100000 in
theorem n_worksBy  (l : Launch) {D : va_G} {K : Nat → ClassId} (o : Nat) (r : Nat → Nat) (f : Nat → Int32) (a : Nat → Nat → Int32) (g : Nat → Int64) (hI : mI f a) (bd : Int32) (pt : Int32) (bbd : kb 0 bd 5) (bpt : kb 0 pt 9) (DD : Nat → tE) (hp0 : kK (a 2)) (hp1 : lM (a 2) DD) : kI l yX12_worksBy (Cond.code yX12_worksBy cX12_worksBy 3 (some .int) :: kG) (rmD 49 0 0) D (tysK K) [.ref o, .int bd, .int pt] (mW K o r f a g) (fun v (u : mS) => kb 0 v 20 ∧ mI u.1 u.2.1 ∧ mE (XR []) f a u.1 u.2.1 ∧ v.toInt = askF DD (a 2) 0 bd pt ∧ mZ [22, 23, 24, 25] [26] f a u.1 u.2.1) (fun u => mW K o r u.1 u.2.1 u.2.2) 0 0 := by
  refine kI.of (cc := cX12_worksBy) (maxL := 3) (ret := (some .int)) (by decide) rfl (Nat.le_of_ble_eq_true rfl) ?_
  intro p e s m below meth c A hx hb hr hml hown hts hlocks hnm hK hP hD hS hA ls hl
  have hE : mE (XR []) f a f a := mE_rf
  have hZ : mZ [22, 23, 24, 25] [26] f a f a := mZ_rf
  have hg : ∀ w ∈ kG, w.before _ s = true := fun w h => hts w (List.mem_cons_of_mem _ h)
  have hown : s.vm.findClass RX12 = some m.cls := hown
  have hl : lv_has ls 3 [(0, .ref o), (1, .int bd), (2, .int pt)] := hl
  refine lv_aload_n hx hb dX12_worksBy_0 rfl (lv_at hl 0 rfl) ?_
  refine lv_iconst (v := 1) hx hb dX12_worksBy_1 (by decide) ?_
  refine lv_iload_n hx hb dX12_worksBy_2 rfl (lv_at hl 1 rfl) ?_
  refine lv_iload_n hx hb dX12_worksBy_3 rfl (lv_at hl 2 rfl) ?_
  refine lv_bipush (v := 20) hx hb dX12_worksBy_4 (by decide) ?_
  refine lv_aload_n hx hb dX12_worksBy_6 rfl (lv_at hl 0 rfl) ?_
  refine lv_iload_n hx hb dX12_worksBy_7 rfl (lv_at hl 1 rfl) ?_
  refine lv_iload_n hx hb dX12_worksBy_8 rfl (lv_at hl 2 rfl) ?_
  refine kI.callV (As := [.int bd, .int pt]) (rest := [.int 20, .int pt, .int bd, .int 1, .ref o]) ⟨hx, hb, hml, hown, hg⟩ (n_hasCraft l o r f a g hI bd pt bbd bpt ) (cwV 2 hg (kgV wt7_35 wt7_37 wp5_5 wt1_14 wt7_38) rfl rfl rfl (by decide +kernel) ⟨by decide, by decide⟩) hK hP hD hS hA mIs [] rfl (wr := []) rfl rfl rfl (fun i h => by cases h) 0 12 rfl rfl rfl hl.1 rfl (Nat.le_of_ble_eq_true rfl) dX12_worksBy_9 ⟨Nat.le_refl _, Nat.le_refl _⟩ (fun v2 u3 H locs hw1 hP hD hS => ?_)
  have hP : va_P D vwCl (mW K o r f a g) H := hP
  have hD : va_D A (mW K o r f a g) := hD
  refine lv_if_eq (tgt := 27) hx hb dX12_worksBy_12 (by decide) (fun c4 => ?_) (fun c4 => ?_)
  · have b5 : kb 0 v2 0 := kb_eq c4 kc_0
    refine lv_iconst (v := 0) hx hb dX12_worksBy_27 (by decide) ?_
    refine kI.callV (As := [.int 1, .int bd, .int pt, .int 20, .int 0]) (rest := []) ⟨hx, hb, hml, hown, hg⟩ (n_tells l o r f a g hI 1 bd pt 20 0 (kb_w kc_1 (by decide) (by decide)) bbd bpt (kb_w kc_20 (by decide) (by decide)) (kb_w kc_0 (by decide) (by decide)) DD hp0 hp1) (cwV 5 hg (kgV wt7_39 wt7_41 wp5_6 wt1_14 wt7_42) rfl rfl rfl (by decide +kernel) ⟨by decide, by decide⟩) hK hP hD hS hA mIs [] rfl (wr := []) rfl rfl rfl (fun i h => by cases h) 0 12 rfl rfl rfl hl.1 rfl (Nat.le_of_ble_eq_true rfl) dX12_worksBy_28 ⟨Nat.le_refl _, Nat.le_refl _⟩ (fun v7 u8 H locs hw6 hP hD hS => ?_)
    obtain ⟨f9, a10, g11⟩ := u8
    have hP : va_P D vwCl (mW K o r f9 a10 g11) H := hP
    have hD : va_D A (mW K o r f9 a10 g11) := hD
    have hI : mI f9 a10 := hw6.2.1
    have hE : mE (XR []) f a f9 a10 := mE_tr hE hw6.2.2.1
    have eE12 : mE (XR []) f a f9 a10 := hw6.2.2.1
    have eZ13 : mZ [22, 23, 24, 25] [26] f a f9 a10 := hw6.2.2.2.2
    have hZ : mZ [22, 23, 24, 25] [26] f a f9 a10 := mZ_tr hZ (mZ_w (by decide) (by decide) eZ13)
    exact kI_ret (v := v7) hx hb hr hlocks rfl hK hS dX12_worksBy_31 (f9, a10, g11) hP hD ⟨hw6.1, hI, hE, (show v7.toInt = askF DD (a 2) 0 bd pt from by have w1 := hw6.2.2.2.1; rw [show (1 : Int32).toInt.toNat - 1 = 0 from by decide +kernel, show (20 : Int32).toInt = kHi 0 from by decide +kernel, (show (0 : Int32).toInt = wo0 (a 2) 0 bd pt from by unfold wo0; rw [if_pos rfl, if_neg (bit_n hw1.2 c4)]; decide +kernel)] at w1; exact w1), hZ⟩
  · have b14 : kb 1 v2 1 := kr_nel c4 hw1.1 kc_0 (by decide)
    refine lv_aload_n hx hb dX12_worksBy_15 rfl (lv_at hl 0 rfl) ?_
    refine va_get (D := D) (ci := 12) (v := .ref (r 2)) (C := RX12) (T := TX12) (N := 48) hx hb hg inC12 hown hK hP 0 rfl rfl 2 (by decide) (hg _ wt5_162) (fun _ h9 => h9) rfl dX12_worksBy_16 ?_
    refine lv_bipush (v := 69) hx hb dX12_worksBy_19 (by decide) ?_
    refine lv_iload_n hx hb dX12_worksBy_21 rfl (lv_at hl 1 rfl) ?_
    refine lv_iadd hx hb dX12_worksBy_22 ?_
    refine lv_topi (fun t15 et15 => ?_)
    have b16 : kb 69 t15 74 := kb_eq et15 (kb_add kc_69 bbd (by decide) (by decide))
    have qt15 : t15.toInt = 69 + bd.toInt := by rw [et15]; exact kt_cadd kc_69 bbd (by decide) (by decide)
    refine va_iald hx hb hK hP 2 0 rfl rfl (kb_in b16 (by decide) (by decide)) dX12_worksBy_23 ?_
    refine lv_topi (fun t17 et17 => ?_)
    have b18 : kb 0 t17 9 := kb_eq et17 (aI_ld hI.2.1 2 69 6 b16 (by decide) (by decide) (by decide +kernel))
    refine lv_goto (tgt := 28) hx hb dX12_worksBy_24 (by decide) ?_
    refine kI.callV (As := [.int 1, .int bd, .int pt, .int 20, .int t17]) (rest := []) ⟨hx, hb, hml, hown, hg⟩ (n_tells l o r f a g hI 1 bd pt 20 t17 (kb_w kc_1 (by decide) (by decide)) bbd bpt (kb_w kc_20 (by decide) (by decide)) (kb_w b18 (by decide) (by decide)) DD hp0 hp1) (cwV 5 hg (kgV wt7_39 wt7_41 wp5_6 wt1_14 wt7_42) rfl rfl rfl (by decide +kernel) ⟨by decide, by decide⟩) hK hP hD hS hA mIs [] rfl (wr := []) rfl rfl rfl (fun i h => by cases h) 0 12 rfl rfl rfl hl.1 rfl (Nat.le_of_ble_eq_true rfl) dX12_worksBy_28 ⟨Nat.le_refl _, Nat.le_refl _⟩ (fun v20 u21 H locs hw19 hP hD hS => ?_)
    obtain ⟨f22, a23, g24⟩ := u21
    have hP : va_P D vwCl (mW K o r f22 a23 g24) H := hP
    have hD : va_D A (mW K o r f22 a23 g24) := hD
    have hI : mI f22 a23 := hw19.2.1
    have hE : mE (XR []) f a f22 a23 := mE_tr hE hw19.2.2.1
    have eE25 : mE (XR []) f a f22 a23 := hw19.2.2.1
    have eZ26 : mZ [22, 23, 24, 25] [26] f a f22 a23 := hw19.2.2.2.2
    have hZ : mZ [22, 23, 24, 25] [26] f a f22 a23 := mZ_tr hZ (mZ_w (by decide) (by decide) eZ26)
    exact kI_ret (v := v20) hx hb hr hlocks rfl hK hS dX12_worksBy_31 (f22, a23, g24) hP hD ⟨hw19.1, hI, hE, (show v20.toInt = askF DD (a 2) 0 bd pt from by have w1 := hw19.2.2.2.1; rw [show (1 : Int32).toInt.toNat - 1 = 0 from by decide +kernel, show (20 : Int32).toInt = kHi 0 from by decide +kernel, (show t17.toInt = wo0 (a 2) 0 bd pt from by unfold wo0; rw [if_pos rfl, if_pos (bit_y hw1.2 c4)]; exact congrArg Int32.toInt (show t17 = a 2 (69 + bd.toNatClampNeg) from et17.trans (congrArg (a 2) (show t15.toNatClampNeg = _ from by have w1 := qt15; have w2 := (bbd).1; unfold Int32.toNatClampNeg; omega))))] at w1; exact w1), hZ⟩
set_option maxHeartbeats 4000000 in
set_option maxRecDepth 100000 in
theorem n_tiresBy  (l : Launch) {D : va_G} {K : Nat → ClassId} (o : Nat) (r : Nat → Nat) (f : Nat → Int32) (a : Nat → Nat → Int32) (g : Nat → Int64) (hI : mI f a) (bd : Int32) (pt : Int32) (bbd : kb 0 bd 5) (bpt : kb 0 pt 9) (DD : Nat → tE) (hp0 : kK (a 2)) (hp1 : lM (a 2) DD) : kI l yX12_tiresBy (Cond.code yX12_tiresBy cX12_tiresBy 3 (some .int) :: kG) (rmD 49 0 0) D (tysK K) [.ref o, .int bd, .int pt] (mW K o r f a g) (fun v (u : mS) => kb 0 v 20 ∧ mI u.1 u.2.1 ∧ mE (XR []) f a u.1 u.2.1 ∧ v.toInt = askF DD (a 2) 1 bd pt ∧ mZ [22, 23, 24, 25] [26] f a u.1 u.2.1) (fun u => mW K o r u.1 u.2.1 u.2.2) 0 0 := by
  refine kI.of (cc := cX12_tiresBy) (maxL := 3) (ret := (some .int)) (by decide) rfl (Nat.le_of_ble_eq_true rfl) ?_
  intro p e s m below meth c A hx hb hr hml hown hts hlocks hnm hK hP hD hS hA ls hl
  have hE : mE (XR []) f a f a := mE_rf
  have hZ : mZ [22, 23, 24, 25] [26] f a f a := mZ_rf
  have hg : ∀ w ∈ kG, w.before _ s = true := fun w h => hts w (List.mem_cons_of_mem _ h)
  have hown : s.vm.findClass RX12 = some m.cls := hown
  have hl : lv_has ls 3 [(0, .ref o), (1, .int bd), (2, .int pt)] := hl
  refine lv_aload_n hx hb dX12_tiresBy_0 rfl (lv_at hl 0 rfl) ?_
  refine lv_iconst (v := 2) hx hb dX12_tiresBy_1 (by decide) ?_
  refine lv_iload_n hx hb dX12_tiresBy_2 rfl (lv_at hl 1 rfl) ?_
  refine lv_iload_n hx hb dX12_tiresBy_3 rfl (lv_at hl 2 rfl) ?_
  refine lv_bipush (v := 20) hx hb dX12_tiresBy_4 (by decide) ?_
  refine lv_iconst (v := 1) hx hb dX12_tiresBy_6 (by decide) ?_
  refine kI.callV (As := [.int 2, .int bd, .int pt, .int 20, .int 1]) (rest := []) ⟨hx, hb, hml, hown, hg⟩ (n_tells l o r f a g hI 2 bd pt 20 1 (kb_w kc_2 (by decide) (by decide)) bbd bpt (kb_w kc_20 (by decide) (by decide)) (kb_w kc_1 (by decide) (by decide)) DD hp0 hp1) (cwV 5 hg (kgV wt7_39 wt7_41 wp5_6 wt1_14 wt7_42) rfl rfl rfl (by decide +kernel) ⟨by decide, by decide⟩) hK hP hD hS hA mIs [] rfl (wr := []) rfl rfl rfl (fun i h => by cases h) 0 12 rfl rfl rfl hl.1 rfl (Nat.le_of_ble_eq_true rfl) dX12_tiresBy_7 ⟨Nat.le_refl _, Nat.le_refl _⟩ (fun v2 u3 H locs hw1 hP hD hS => ?_)
  obtain ⟨f4, a5, g6⟩ := u3
  have hP : va_P D vwCl (mW K o r f4 a5 g6) H := hP
  have hD : va_D A (mW K o r f4 a5 g6) := hD
  have hI : mI f4 a5 := hw1.2.1
  have hE : mE (XR []) f a f4 a5 := mE_tr hE hw1.2.2.1
  have eE7 : mE (XR []) f a f4 a5 := hw1.2.2.1
  have eZ8 : mZ [22, 23, 24, 25] [26] f a f4 a5 := hw1.2.2.2.2
  have hZ : mZ [22, 23, 24, 25] [26] f a f4 a5 := mZ_tr hZ (mZ_w (by decide) (by decide) eZ8)
  exact kI_ret (v := v2) hx hb hr hlocks rfl hK hS dX12_tiresBy_10 (f4, a5, g6) hP hD ⟨hw1.1, hI, hE, (show v2.toInt = askF DD (a 2) 1 bd pt from by have w1 := hw1.2.2.2.1; rw [show (2 : Int32).toInt.toNat - 1 = 1 from by decide +kernel, show (20 : Int32).toInt = kHi 1 from by decide +kernel, (show (1 : Int32).toInt = wo0 (a 2) 1 bd pt from by unfold wo0; rw [if_neg (by decide), if_neg (by decide)]; decide +kernel)] at w1; exact w1), hZ⟩
set_option maxHeartbeats 4000000 in
set_option maxRecDepth 100000 in
theorem n_showsIn  (l : Launch) {D : va_G} {K : Nat → ClassId} (o : Nat) (r : Nat → Nat) (f : Nat → Int32) (a : Nat → Nat → Int32) (g : Nat → Int64) (hI : mI f a) (bd : Int32) (pt : Int32) (bbd : kb 0 bd 5) (bpt : kb 0 pt 9) (DD : Nat → tE) (hp0 : kK (a 2)) (hp1 : lM (a 2) DD) : kI l yX12_showsIn (Cond.code yX12_showsIn cX12_showsIn 3 (some .int) :: kG) (rmD 49 0 0) D (tysK K) [.ref o, .int bd, .int pt] (mW K o r f a g) (fun v (u : mS) => kb 0 v 20 ∧ mI u.1 u.2.1 ∧ mE (XR []) f a u.1 u.2.1 ∧ v.toInt = askF DD (a 2) 2 bd pt ∧ mZ [22, 23, 24, 25] [26] f a u.1 u.2.1) (fun u => mW K o r u.1 u.2.1 u.2.2) 0 0 := by
  refine kI.of (cc := cX12_showsIn) (maxL := 3) (ret := (some .int)) (by decide) rfl (Nat.le_of_ble_eq_true rfl) ?_
  intro p e s m below meth c A hx hb hr hml hown hts hlocks hnm hK hP hD hS hA ls hl
  have hE : mE (XR []) f a f a := mE_rf
  have hZ : mZ [22, 23, 24, 25] [26] f a f a := mZ_rf
  have hg : ∀ w ∈ kG, w.before _ s = true := fun w h => hts w (List.mem_cons_of_mem _ h)
  have hown : s.vm.findClass RX12 = some m.cls := hown
  have hl : lv_has ls 3 [(0, .ref o), (1, .int bd), (2, .int pt)] := hl
  refine lv_aload_n hx hb dX12_showsIn_0 rfl (lv_at hl 0 rfl) ?_
  refine lv_iconst (v := 3) hx hb dX12_showsIn_1 (by decide) ?_
  refine lv_iload_n hx hb dX12_showsIn_2 rfl (lv_at hl 1 rfl) ?_
  refine lv_iload_n hx hb dX12_showsIn_3 rfl (lv_at hl 2 rfl) ?_
  refine lv_bipush (v := 10) hx hb dX12_showsIn_4 (by decide) ?_
  refine lv_iconst (v := 1) hx hb dX12_showsIn_6 (by decide) ?_
  refine kI.callV (As := [.int 3, .int bd, .int pt, .int 10, .int 1]) (rest := []) ⟨hx, hb, hml, hown, hg⟩ (n_tells l o r f a g hI 3 bd pt 10 1 (kb_w kc_3 (by decide) (by decide)) bbd bpt (kb_w kc_10 (by decide) (by decide)) (kb_w kc_1 (by decide) (by decide)) DD hp0 hp1) (cwV 5 hg (kgV wt7_39 wt7_41 wp5_6 wt1_14 wt7_42) rfl rfl rfl (by decide +kernel) ⟨by decide, by decide⟩) hK hP hD hS hA mIs [] rfl (wr := []) rfl rfl rfl (fun i h => by cases h) 0 12 rfl rfl rfl hl.1 rfl (Nat.le_of_ble_eq_true rfl) dX12_showsIn_7 ⟨Nat.le_refl _, Nat.le_refl _⟩ (fun v2 u3 H locs hw1 hP hD hS => ?_)
  obtain ⟨f4, a5, g6⟩ := u3
  have hP : va_P D vwCl (mW K o r f4 a5 g6) H := hP
  have hD : va_D A (mW K o r f4 a5 g6) := hD
  have hI : mI f4 a5 := hw1.2.1
  have hE : mE (XR []) f a f4 a5 := mE_tr hE hw1.2.2.1
  have eE7 : mE (XR []) f a f4 a5 := hw1.2.2.1
  have eZ8 : mZ [22, 23, 24, 25] [26] f a f4 a5 := hw1.2.2.2.2
  have hZ : mZ [22, 23, 24, 25] [26] f a f4 a5 := mZ_tr hZ (mZ_w (by decide) (by decide) eZ8)
  exact kI_ret (v := v2) hx hb hr hlocks rfl hK hS dX12_showsIn_10 (f4, a5, g6) hP hD ⟨hw1.1, hI, hE, (show v2.toInt = askF DD (a 2) 2 bd pt from by have w1 := hw1.2.2.2.1; rw [show (3 : Int32).toInt.toNat - 1 = 2 from by decide +kernel, show (10 : Int32).toInt = kHi 2 from by decide +kernel, (show (1 : Int32).toInt = wo0 (a 2) 2 bd pt from by unfold wo0; rw [if_neg (by decide), if_neg (by decide)]; decide +kernel)] at w1; exact w1), hZ⟩
set_option maxHeartbeats 4000000 in
set_option maxRecDepth 100000 in
theorem n_isBarred  (l : Launch) {D : va_G} {K : Nat → ClassId} (o : Nat) (r : Nat → Nat) (f : Nat → Int32) (a : Nat → Nat → Int32) (g : Nat → Int64) (hI : mI f a) (bd : Int32) (pt : Int32) (bbd : kb 0 bd 5) (bpt : kb 0 pt 9) (DD : Nat → tE) (hp0 : kK (a 2)) (hp1 : lM (a 2) DD) : kI l yX12_isBarred (Cond.code yX12_isBarred cX12_isBarred 3 (some .boolean) :: kG) (rmD 49 0 0) D (tysK K) [.ref o, .int bd, .int pt] (mW K o r f a g) (fun v (u : mS) => kb 0 v 1 ∧ mI u.1 u.2.1 ∧ mE (XR []) f a u.1 u.2.1 ∧ v = (if askF DD (a 2) 3 bd pt = 1 then 1 else 0) ∧ mZ [22, 23, 24, 25] [26] f a u.1 u.2.1) (fun u => mW K o r u.1 u.2.1 u.2.2) 0 0 := by
  refine kI.of (cc := cX12_isBarred) (maxL := 3) (ret := (some .boolean)) (by decide) rfl (Nat.le_of_ble_eq_true rfl) ?_
  intro p e s m below meth c A hx hb hr hml hown hts hlocks hnm hK hP hD hS hA ls hl
  have hE : mE (XR []) f a f a := mE_rf
  have hZ : mZ [22, 23, 24, 25] [26] f a f a := mZ_rf
  have hg : ∀ w ∈ kG, w.before _ s = true := fun w h => hts w (List.mem_cons_of_mem _ h)
  have hown : s.vm.findClass RX12 = some m.cls := hown
  have hl : lv_has ls 3 [(0, .ref o), (1, .int bd), (2, .int pt)] := hl
  refine lv_aload_n hx hb dX12_isBarred_0 rfl (lv_at hl 0 rfl) ?_
  refine lv_iconst (v := 4) hx hb dX12_isBarred_1 (by decide) ?_
  refine lv_iload_n hx hb dX12_isBarred_2 rfl (lv_at hl 1 rfl) ?_
  refine lv_iload_n hx hb dX12_isBarred_3 rfl (lv_at hl 2 rfl) ?_
  refine lv_iconst (v := 1) hx hb dX12_isBarred_4 (by decide) ?_
  refine lv_iconst (v := 0) hx hb dX12_isBarred_5 (by decide) ?_
  refine kI.callV (As := [.int 4, .int bd, .int pt, .int 1, .int 0]) (rest := []) ⟨hx, hb, hml, hown, hg⟩ (n_tells l o r f a g hI 4 bd pt 1 0 (kb_w kc_4 (by decide) (by decide)) bbd bpt (kb_w kc_1 (by decide) (by decide)) (kb_w kc_0 (by decide) (by decide)) DD hp0 hp1) (cwV 5 hg (kgV wt7_39 wt7_41 wp5_6 wt1_14 wt7_42) rfl rfl rfl (by decide +kernel) ⟨by decide, by decide⟩) hK hP hD hS hA mIs [] rfl (wr := []) rfl rfl rfl (fun i h => by cases h) 0 12 rfl rfl rfl hl.1 rfl (Nat.le_of_ble_eq_true rfl) dX12_isBarred_6 ⟨Nat.le_refl _, Nat.le_refl _⟩ (fun v2 u3 H locs hw1 hP hD hS => ?_)
  obtain ⟨f4, a5, g6⟩ := u3
  have hP : va_P D vwCl (mW K o r f4 a5 g6) H := hP
  have hD : va_D A (mW K o r f4 a5 g6) := hD
  have hI : mI f4 a5 := hw1.2.1
  have hE : mE (XR []) f a f4 a5 := mE_tr hE hw1.2.2.1
  have eE7 : mE (XR []) f a f4 a5 := hw1.2.2.1
  have eZ8 : mZ [22, 23, 24, 25] [26] f a f4 a5 := hw1.2.2.2.2
  have hZ : mZ [22, 23, 24, 25] [26] f a f4 a5 := mZ_tr hZ (mZ_w (by decide) (by decide) eZ8)
  refine lv_iconst (v := 1) hx hb dX12_isBarred_9 (by decide) ?_
  refine lv_icmp_ne (tgt := 17) hx hb dX12_isBarred_10 (by decide) (fun c9 => ?_) (fun c9 => ?_)
  · refine lv_iconst (v := 0) hx hb dX12_isBarred_17 (by decide) ?_
    exact kI_ret (v := 0) hx hb hr hlocks (by decide +kernel) hK hS dX12_isBarred_18 (f4, a5, g6) hP hD ⟨(kb_w kc_0 (by decide) (by decide)), hI, hE, (by rw [if_neg (fun q => c9 (Int32.toInt_inj.mp ((show v2.toInt = askF DD (a 2) 3 bd pt from by have w1 := hw1.2.2.2.1; rw [show (4 : Int32).toInt.toNat - 1 = 3 from by decide +kernel, show (1 : Int32).toInt = kHi 3 from by decide +kernel, (show (0 : Int32).toInt = wo0 (a 2) 3 bd pt from by unfold wo0; rw [if_neg (by decide), if_pos rfl]; decide +kernel)] at w1; exact w1).trans (q.trans (by decide +kernel)))))]), hZ⟩
  · have b10 : kb 1 v2 1 := kb_eq c9 kc_1
    refine lv_iconst (v := 1) hx hb dX12_isBarred_13 (by decide) ?_
    refine lv_goto (tgt := 18) hx hb dX12_isBarred_14 (by decide) ?_
    exact kI_ret (v := 1) hx hb hr hlocks (by decide +kernel) hK hS dX12_isBarred_18 (f4, a5, g6) hP hD ⟨(kb_w kc_1 (by decide) (by decide)), hI, hE, (by rw [if_pos ((show v2.toInt = askF DD (a 2) 3 bd pt from by have w1 := hw1.2.2.2.1; rw [show (4 : Int32).toInt.toNat - 1 = 3 from by decide +kernel, show (1 : Int32).toInt = kHi 3 from by decide +kernel, (show (0 : Int32).toInt = wo0 (a 2) 3 bd pt from by unfold wo0; rw [if_neg (by decide), if_pos rfl]; decide +kernel)] at w1; exact w1).symm.trans (by rw [c9]; decide +kernel))]), hZ⟩
set_option maxHeartbeats 4000000 in
set_option maxRecDepth 100000 in
theorem n_allBuilders  (l : Launch) {D : va_G} {K : Nat → ClassId} (o : Nat) (r : Nat → Nat) (f : Nat → Int32) (a : Nat → Nat → Int32) (g : Nat → Int64) (hI : mI f a)    (hp0 : kK (a 2)) : kI l yX12_allBuilders (Cond.code yX12_allBuilders cX12_allBuilders 1 (some .int) :: kG) (rmD 1 0 0) D (tysK K) [.ref o] (mW K o r f a g) (fun v (_ : Unit) => kb 0 v 63 ∧ v = nI (2 ^ kBn (a 2) - 1)) (fun _ => mW K o r f a g) 0 0 := by
  refine kI.of (cc := cX12_allBuilders) (maxL := 1) (ret := (some .int)) (by decide) rfl (Nat.le_of_ble_eq_true rfl) ?_
  intro p e s m below meth c A hx hb hr hml hown hts hlocks hnm hK hP hD hS hA ls hl
  have hg : ∀ w ∈ kG, w.before _ s = true := fun w h => hts w (List.mem_cons_of_mem _ h)
  have hown : s.vm.findClass RX12 = some m.cls := hown
  have hl : lv_has ls 1 [(0, .ref o)] := hl
  refine lv_iconst (v := 1) hx hb dX12_allBuilders_0 (by decide) ?_
  refine lv_aload_n hx hb dX12_allBuilders_1 rfl (lv_at hl 0 rfl) ?_
  refine va_get (D := D) (ci := 12) (v := .ref (r 2)) (C := RX12) (T := TX12) (N := 48) hx hb hg inC12 hown hK hP 0 rfl rfl 2 (by decide) (hg _ wt5_162) (fun _ h9 => h9) rfl dX12_allBuilders_2 ?_
  refine lv_bipush (v := 103) hx hb dX12_allBuilders_5 (by decide) ?_
  refine va_iald hx hb hK hP 2 0 rfl rfl (kb_in kc_103 (by decide) (by decide)) dX12_allBuilders_7 ?_
  refine lv_topi (fun t1 et1 => ?_)
  rw [cl_103] at et1
  have b2 : kb 0 t1 6 := kb_eq et1 (aI_at hI.2.1 2 103 (by decide) (by decide))
  refine lv_ishl hx hb dX12_allBuilders_8 ?_
  refine lv_topi (fun t3 et3 => ?_)
  have b4 : kb 1 t3 64 := kb_eq et3 (kb_shl (l := 0) (h := 6) b2 (by decide))
  refine lv_iconst (v := 1) hx hb dX12_allBuilders_9 (by decide) ?_
  refine lv_isub hx hb dX12_allBuilders_10 ?_
  refine lv_topi (fun t5 et5 => ?_)
  have b6 : kb 0 t5 63 := kb_eq et5 (kb_sub b4 kc_1 (by decide) (by decide))
  have qt5 : t5.toInt = t3.toInt - 1 := by rw [et5]; exact kt_subc b4 kc_1 (by decide) (by decide)
  exact kI_ret (v := t5) hx hb hr hlocks rfl hK hS dX12_allBuilders_11 () hP hD ⟨b6, (allb_v (kBn_b hp0).1 (nI_q ((congrArg Int32.toInt et1).trans (kBn_b hp0).2)) et3 et5)⟩
set_option maxHeartbeats 4000000 in
set_option maxRecDepth 100000 in
theorem n_ticks  (l : Launch) {D : va_G} {K : Nat → ClassId} (o : Nat) (r : Nat → Nat) (f : Nat → Int32) (a : Nat → Nat → Int32) (g : Nat → Int64) (hI : mI f a) (who : Int32)  (DD : Nat → tE) (hp0 : kK (a 2)) (hp1 : lM (a 2) DD) (hp2 : who = nI (2 ^ kBn (a 2) - 1)) (hp3 : (a 2 22).toInt ≤ 5000) : kI l yX12_ticks (Cond.code yX12_ticks cX12_ticks 5 (some .int) :: kG) (rmD 50 0 0) D (tysK K) [.ref o, .int who] (mW K o r f a g) (fun v (u : mS) => kb 0 v 10 ∧ mI u.1 u.2.1 ∧ mE (XR [(0, 23)]) f a u.1 u.2.1 ∧ u.2.1 2 = tkF DD (a 2) ∧ v.toInt = tkR (a 2) (tkF DD (a 2)) ∧ mZ [22, 23, 24, 25] [2, 26, 29, 30] f a u.1 u.2.1) (fun u => mW K o r u.1 u.2.1 u.2.2) 0 0 := by
  refine kI.of (cc := cX12_ticks) (maxL := 5) (ret := (some .int)) (by decide) rfl (Nat.le_of_ble_eq_true rfl) ?_
  intro p e s m below meth c A hx hb hr hml hown hts hlocks hnm hK hP hD hS hA ls hl
  have hE : mE (XR [(0, 23)]) f a f a := mE_rf
  have hZ : mZ [22, 23, 24, 25] [2, 26, 29, 30] f a f a := mZ_rf
  have hg : ∀ w ∈ kG, w.before _ s = true := fun w h => hts w (List.mem_cons_of_mem _ h)
  have hown : s.vm.findClass RX12 = some m.cls := hown
  have hl : lv_has ls 5 [(0, .ref o), (1, .int who)] := hl
  refine lv_aload_n hx hb dX12_ticks_0 rfl (lv_at hl 0 rfl) ?_
  refine kI.callV (As := []) (rest := []) ⟨hx, hb, hml, hown, hg⟩ (n_standing l o r f a g hI   hp0) (cwV 0 hg (kgV wt6_116 wt6_118 wp3_13 wt1_14 wt6_119) rfl rfl rfl (by decide +kernel) ⟨by decide, by decide⟩) hK hP hD hS hA mIs [] rfl (wr := []) rfl rfl rfl (fun i h => by cases h) 0 12 rfl rfl rfl hl.1 rfl (Nat.le_of_ble_eq_true rfl) dX12_ticks_1 ⟨Nat.le_refl _, Nat.le_refl _⟩ (fun v2 u3 H locs hw1 hP hD hS => ?_)
  have hP : va_P D vwCl (mW K o r f a g) H := hP
  have hD : va_D A (mW K o r f a g) := hD
  refine lv_istore_n (lv' := [(2, .int v2), (0, .ref o), (1, .int who)]) hx hb dX12_ticks_4 rfl hl (by decide) rfl (fun ls hl => ?_)
  have hk0 : a 2 = a 2 := rfl
  refine lv_iconst (v := 0) hx hb dX12_ticks_5 (by decide) ?_
  refine lv_istore_n (lv' := [(3, .int 0), (2, .int v2), (0, .ref o), (1, .int who)]) hx hb dX12_ticks_6 rfl hl (by decide) rfl (fun ls hl => ?_)
  have lp8 : ∀ (n9 : Nat) (nn : Nat) (F5 : Nat → Int32) (B6 : Nat → Nat → Int32) (G7 : Nat → Int64) (H : Heap) (locs : List Loc) (ls : Array Slot) (y4 : Int32), (6 < y4.toInt + (n9 : Int)) → (mI F5 B6) → (mE (XR [(0, 23)]) f a F5 B6) → (mZ [22, 23, 24, 25] [2, 26, 29, 30] f a F5 B6) → (B6 2 = a 2) → (kb 0 y4 6) → (y4.toInt = (nn : Int)) → (∀ q, q < nn → (B6 29 q).toInt = dnV DD (a 2) q) → (∀ q, q < nn → (B6 30 q).toInt = trV DD (a 2) q) → (nn ≤ kBn (a 2)) → va_P D vwCl (mW K o r F5 B6 G7) H → va_D A (mW K o r F5 B6 G7) → va_S A s.heap H locs → lv_has ls 5 [(3, .int y4), (2, .int v2), (0, .ref o), (1, .int who)] → W p l e (rmD 50 0 0) s m ([.ref o, .int who] : List Value).toArray below meth c H locs 0 0 (kQi D (tysK K) (fun v (u : mS) => kb 0 v 10 ∧ mI u.1 u.2.1 ∧ mE (XR [(0, 23)]) f a u.1 u.2.1 ∧ u.2.1 2 = tkF DD (a 2) ∧ v.toInt = tkR (a 2) (tkF DD (a 2)) ∧ mZ [22, 23, 24, 25] [2, 26, 29, 30] f a u.1 u.2.1) (fun u => mW K o r u.1 u.2.1 u.2.2) A below ([.ref o, .int who] : List Value).toArray s 0 0) (F0 m 7 ls []) := by
    intro n9
    induction n9 with
    | zero =>
      intro nn F5 B6 G7  H locs ls y4 hmlp8 hI hE hZ hk0 b10 hvlp8_0 hvlp8_1 hvlp8_2 hvlp8_3 hP hD hS hl
      exact (by have h1 := b10.2; have h2 := hmlp8; omega : False).elim
    | succ n9 ihlp8 =>
      intro nn F5 B6 G7  H locs ls y4 hmlp8 hI hE hZ hk0 b10 hvlp8_0 hvlp8_1 hvlp8_2 hvlp8_3 hP hD hS hl
      have hnn : y4 = nI nn := nI_q hvlp8_0
      have hZB := hZ
      have hkB := hk0
      refine lv_iload_n hx hb dX12_ticks_7 rfl (lv_at hl 0 rfl) ?_
      refine lv_aload_n hx hb dX12_ticks_8 rfl (lv_at hl 2 rfl) ?_
      refine va_get (D := D) (ci := 12) (v := .ref (r 2)) (C := RX12) (T := TX12) (N := 48) hx hb hg inC12 hown hK hP 0 rfl rfl 2 (by decide) (hg _ wt5_162) (fun _ h9 => h9) rfl dX12_ticks_9 ?_
      refine lv_bipush (v := 103) hx hb dX12_ticks_12 (by decide) ?_
      refine va_iald hx hb hK hP 2 0 rfl rfl (kb_in kc_103 (by decide) (by decide)) dX12_ticks_14 ?_
      refine lv_topi (fun t11 et11 => ?_)
      rw [cl_103] at et11
      have b12 : kb 0 t11 6 := kb_eq et11 (aI_at hI.2.1 2 103 (by decide) (by decide))
      refine lv_icmp_ge (tgt := 111) hx hb dX12_ticks_15 (by decide) (fun c13 => ?_) (fun c13 => ?_)
      · have h14 := (kc_le c13)
        have hnb := (by have w1 := hvlp8_0; have w2 := kc_le c13; have w3 := (show t11.toInt = (kBn (a 2) : Int) from by rw [et11, hkB]; exact (kBn_b hp0).2); have w4 := hvlp8_3; omega : nn = kBn (a 2))
        have hkA := hk0
        have hd29 : ∀ q, q < kBn (a 2) → (B6 29 q).toInt = dnV DD (a 2) q := by rw [← hnb]; exact hvlp8_1
        have hd30 : ∀ q, q < kBn (a 2) → (B6 30 q).toInt = trV DD (a 2) q := by rw [← hnb]; exact hvlp8_2
        refine lv_iconst (v := 0) hx hb dX12_ticks_111 (by decide) ?_
        refine lv_istore_n (lv' := [(3, .int 0), (2, .int v2), (0, .ref o), (1, .int who)]) hx hb dX12_ticks_112 rfl hl (by decide) rfl (fun ls hl => ?_)
        have lp17 : ∀ (n18 : Nat) (mm : Nat) (B16 : Nat → Nat → Int32) (H : Heap) (locs : List Loc) (ls : Array Slot) (y15 : Int32), (6 < y15.toInt + (n18 : Int)) → (mI F5 B16) → (mE (XR [(0, 23)]) f a F5 B16) → (mZ [22, 23, 24, 25] [2, 26, 29, 30] f a F5 B16) → (kb 0 y15 6) → (y15.toInt = (mm : Int)) → (B16 2 = tk1 DD (a 2) mm) → (∀ q, q < kBn (a 2) → (B16 29 q).toInt = dnV DD (a 2) q) → (∀ q, q < kBn (a 2) → (B16 30 q).toInt = trV DD (a 2) q) → (mm ≤ kBn (a 2)) → va_P D vwCl (mW K o r F5 B16 G7) H → va_D A (mW K o r F5 B16 G7) → va_S A s.heap H locs → lv_has ls 5 [(3, .int y15), (2, .int v2), (0, .ref o), (1, .int who)] → W p l e (rmD 50 0 0) s m ([.ref o, .int who] : List Value).toArray below meth c H locs 0 0 (kQi D (tysK K) (fun v (u : mS) => kb 0 v 10 ∧ mI u.1 u.2.1 ∧ mE (XR [(0, 23)]) f a u.1 u.2.1 ∧ u.2.1 2 = tkF DD (a 2) ∧ v.toInt = tkR (a 2) (tkF DD (a 2)) ∧ mZ [22, 23, 24, 25] [2, 26, 29, 30] f a u.1 u.2.1) (fun u => mW K o r u.1 u.2.1 u.2.2) A below ([.ref o, .int who] : List Value).toArray s 0 0) (F0 m 113 ls []) := by
          intro n18
          induction n18 with
          | zero =>
            intro mm B16  H locs ls y15 hmlp17 hI hE hZ b19 hvlp17_0 hvlp17_1 hvlp17_2 hvlp17_3 hvlp17_4 hP hD hS hl
            exact (by have h1 := b19.2; have h2 := hmlp17; omega : False).elim
          | succ n18 ihlp17 =>
            intro mm B16  H locs ls y15 hmlp17 hI hE hZ b19 hvlp17_0 hvlp17_1 hvlp17_2 hvlp17_3 hvlp17_4 hP hD hS hl
            have hnn : y15 = nI mm := nI_q hvlp17_0
            have hZB := hZ
            have hkB := hvlp17_1
            refine lv_iload_n hx hb dX12_ticks_113 rfl (lv_at hl 0 rfl) ?_
            refine lv_aload_n hx hb dX12_ticks_114 rfl (lv_at hl 2 rfl) ?_
            refine va_get (D := D) (ci := 12) (v := .ref (r 2)) (C := RX12) (T := TX12) (N := 48) hx hb hg inC12 hown hK hP 0 rfl rfl 2 (by decide) (hg _ wt5_162) (fun _ h9 => h9) rfl dX12_ticks_115 ?_
            refine lv_bipush (v := 103) hx hb dX12_ticks_118 (by decide) ?_
            refine va_iald hx hb hK hP 2 0 rfl rfl (kb_in kc_103 (by decide) (by decide)) dX12_ticks_120 ?_
            refine lv_topi (fun t20 et20 => ?_)
            rw [cl_103] at et20
            have b21 : kb 0 t20 6 := kb_eq et20 (aI_at hI.2.1 2 103 (by decide) (by decide))
            refine lv_icmp_ge (tgt := 221) hx hb dX12_ticks_121 (by decide) (fun c22 => ?_) (fun c22 => ?_)
            · have h23 := (kc_le c22)
              have hmb := (by have w1 := hvlp17_0; have w2 := kc_le c22; have w3 := (show t20.toInt = (kBn (a 2) : Int) from by rw [et20, hkB, kBn_tk1 hp0 (by have w9 := (kBn_b hp0).1; have w8 := hvlp17_4; omega)]; exact (kBn_b hp0).2); have w4 := hvlp17_4; omega : mm = kBn (a 2))
              have hkA : B16 2 = tk1 DD (a 2) (kBn (a 2)) := by rw [← hmb]; exact hvlp17_1
              refine lv_iconst (v := 0) hx hb dX12_ticks_221 (by decide) ?_
              refine lv_istore_n (lv' := [(3, .int 0), (2, .int v2), (0, .ref o), (1, .int who)]) hx hb dX12_ticks_222 rfl hl (by decide) rfl (fun ls hl => ?_)
              have lp26 : ∀ (n27 : Nat) (n3 : Nat) (B25 : Nat → Nat → Int32) (H : Heap) (locs : List Loc) (ls : Array Slot) (y24 : Int32), (6 < y24.toInt + (n27 : Int)) → (mI F5 B25) → (mE (XR [(0, 23)]) f a F5 B25) → (mZ [22, 23, 24, 25] [2, 26, 29, 30] f a F5 B25) → (kb 0 y24 6) → (y24.toInt = (n3 : Int)) → (B25 2 = tk2 (tk1 DD (a 2) (kBn (a 2))) n3) → (n3 ≤ kBn (a 2)) → va_P D vwCl (mW K o r F5 B25 G7) H → va_D A (mW K o r F5 B25 G7) → va_S A s.heap H locs → lv_has ls 5 [(3, .int y24), (2, .int v2), (0, .ref o), (1, .int who)] → W p l e (rmD 50 0 0) s m ([.ref o, .int who] : List Value).toArray below meth c H locs 0 0 (kQi D (tysK K) (fun v (u : mS) => kb 0 v 10 ∧ mI u.1 u.2.1 ∧ mE (XR [(0, 23)]) f a u.1 u.2.1 ∧ u.2.1 2 = tkF DD (a 2) ∧ v.toInt = tkR (a 2) (tkF DD (a 2)) ∧ mZ [22, 23, 24, 25] [2, 26, 29, 30] f a u.1 u.2.1) (fun u => mW K o r u.1 u.2.1 u.2.2) A below ([.ref o, .int who] : List Value).toArray s 0 0) (F0 m 223 ls []) := by
                intro n27
                induction n27 with
                | zero =>
                  intro n3 B25  H locs ls y24 hmlp26 hI hE hZ b28 hvlp26_0 hvlp26_1 hvlp26_2 hP hD hS hl
                  exact (by have h1 := b28.2; have h2 := hmlp26; omega : False).elim
                | succ n27 ihlp26 =>
                  intro n3 B25  H locs ls y24 hmlp26 hI hE hZ b28 hvlp26_0 hvlp26_1 hvlp26_2 hP hD hS hl
                  have hnn : y24 = nI n3 := nI_q hvlp26_0
                  have hZB := hZ
                  have hkB := hvlp26_1
                  refine lv_iload_n hx hb dX12_ticks_223 rfl (lv_at hl 0 rfl) ?_
                  refine lv_aload_n hx hb dX12_ticks_224 rfl (lv_at hl 2 rfl) ?_
                  refine va_get (D := D) (ci := 12) (v := .ref (r 2)) (C := RX12) (T := TX12) (N := 48) hx hb hg inC12 hown hK hP 0 rfl rfl 2 (by decide) (hg _ wt5_162) (fun _ h9 => h9) rfl dX12_ticks_225 ?_
                  refine lv_bipush (v := 103) hx hb dX12_ticks_228 (by decide) ?_
                  refine va_iald hx hb hK hP 2 0 rfl rfl (kb_in kc_103 (by decide) (by decide)) dX12_ticks_230 ?_
                  refine lv_topi (fun t29 et29 => ?_)
                  rw [cl_103] at et29
                  have b30 : kb 0 t29 6 := kb_eq et29 (aI_at hI.2.1 2 103 (by decide) (by decide))
                  refine lv_icmp_ge (tgt := 279) hx hb dX12_ticks_231 (by decide) (fun c31 => ?_) (fun c31 => ?_)
                  · have h32 := (kc_le c31)
                    have h3b := (by have w1 := hvlp26_0; have w2 := kc_le c31; have w3 := (show t29.toInt = (kBn (a 2) : Int) from by rw [et29, hkB, tk2_o _ _ _ (Or.inr (by decide)) (by have w9 := (kBn_b hp0).1; have w8 := hvlp26_2; omega), kBn_tk1 hp0 (kBn_b hp0).1]; exact (kBn_b hp0).2); have w4 := hvlp26_2; omega : n3 = kBn (a 2))
                    have hkA : B25 2 = tk2 (tk1 DD (a 2) (kBn (a 2))) (kBn (a 2)) := by have w1 := hvlp26_1; rw [h3b] at w1; exact w1
                    refine lv_aload_n hx hb dX12_ticks_279 rfl (lv_at hl 2 rfl) ?_
                    refine va_get (D := D) (ci := 12) (v := .ref (r 2)) (C := RX12) (T := TX12) (N := 48) hx hb hg inC12 hown hK hP 0 rfl rfl 2 (by decide) (hg _ wt5_162) (fun _ h9 => h9) rfl dX12_ticks_280 ?_
                    refine lv_bipush (v := 22) hx hb dX12_ticks_283 (by decide) ?_
                    refine lv_dup2_11 hx hb dX12_ticks_285 rfl rfl ?_
                    refine va_iald hx hb hK hP 2 0 rfl rfl (kb_in kc_22 (by decide) (by decide)) dX12_ticks_286 ?_
                    refine lv_topi (fun t33 et33 => ?_)
                    rw [cl_22] at et33
                    refine lv_iconst (v := 1) hx hb dX12_ticks_287 (by decide) ?_
                    refine lv_iadd hx hb dX12_ticks_288 ?_
                    refine lv_topi (fun t34 et34 => ?_)
                    refine va_iast hx hb hK hP hD hS 2 0 rfl rfl (kb_in kc_22 (by decide) (by decide)) dX12_ticks_289 (fun H locs hP hD hS => ?_)
                    rw [cl_22] at hP hD
                    have hP : va_P D vwCl (mW K o r F5 (va_up B25 2 (upd (B25 2) 22 t34)) G7) H := hP
                    have hD : va_D A (mW K o r F5 (va_up B25 2 (upd (B25 2) 22 t34)) G7) := hD
                    refine k_gen (P := fun z => va_P D vwCl (mW K o r F5 z G7) H ∧ va_D A (mW K o r F5 z G7) ∧ (mI F5 z) ∧ (mE (XR [(0, 23)]) f a F5 z) ∧ (mZ [22, 23, 24, 25] [2, 26, 29, 30] f a F5 z)) (va_up B25 2 (upd (B25 2) 22 t34)) ⟨hP, hD, (mI_2 hI (aI_st hI.2.1 2 22 (kb_any t34) (by decide) (by decide)) (by decide)), (mE_2 hE (by decide)), (mZ_a hZ rfl)⟩ (fun a_35 ea_35 hq => ?_)
                    obtain ⟨hP, hD, hI, hE, hZ⟩ := hq
                    have hkf : a_35 2 = tkF DD (a 2) := tkF_i hp0 hkA (show a_35 2 = upd (B25 2) 22 t34 from by rw [← ea_35]; rfl) et33 et34
                    refine lv_aload_n hx hb dX12_ticks_290 rfl (lv_at hl 2 rfl) ?_
                    refine kI.callV (As := []) (rest := []) ⟨hx, hb, hml, hown, hg⟩ (n_standing l o r F5 a_35 G7 hI   (by rw [hkf]; exact kK_tk hp0 hp3)) (cwV 0 hg (kgV wt6_116 wt6_118 wp3_13 wt1_14 wt6_119) rfl rfl rfl (by decide +kernel) ⟨by decide, by decide⟩) hK hP hD hS hA mIs [] rfl (wr := []) rfl rfl rfl (fun i h => by cases h) 0 12 rfl rfl rfl hl.1 rfl (Nat.le_of_ble_eq_true rfl) dX12_ticks_291 ⟨Nat.le_refl _, Nat.le_refl _⟩ (fun v37 u38 H locs hw36 hP hD hS => ?_)
                    have hP : va_P D vwCl (mW K o r F5 a_35 G7) H := hP
                    have hD : va_D A (mW K o r F5 a_35 G7) := hD
                    refine lv_iload_n hx hb dX12_ticks_294 rfl (lv_at hl 1 rfl) ?_
                    refine lv_iconst (v := (-1)) hx hb dX12_ticks_295 (by decide) ?_
                    refine lv_ixor hx hb dX12_ticks_296 ?_
                    refine lv_topi (fun t39 et39 => ?_)
                    refine lv_iand hx hb dX12_ticks_297 ?_
                    refine lv_topi (fun t40 et40 => ?_)
                    have b41 : kb 0 t40 1023 := kb_eq et40 (and_b (n := bM (upB (a_35 2)) (kPn (a_35 2))) hw36.2 (bM_10 _ (kPn_b (by rw [hkf]; exact kK_tk hp0 hp3)).1))
                    refine kN.callS (As := [.int t40]) (rest := []) ⟨hx, hb, hml, hown, hg⟩ (n_ones l t40 b41) (va_cwS 1 hg (kgS wt7_71 wt7_72 wt1_14 wt7_73) rfl rfl rfl (by decide +kernel) ⟨by decide, by decide⟩) hP hS rfl hl.1 rfl (Nat.le_of_ble_eq_true rfl) dX12_ticks_298 ⟨Nat.le_refl _, Nat.le_refl _⟩ (fun v43 H locs hw42 hP hS => ?_)
                    exact kI_ret (v := v43) hx hb hr hlocks rfl hK hS dX12_ticks_301 (F5, a_35, G7) hP hD ⟨hw42.1, hI, hE, hkf, (by have w1 := hw42.2; rw [et40, et39, hw1.2, hw36.2, hkf] at w1; exact w1), hZ⟩
                  · have h45 := (kc_nle c31)
                    have b46 : kb 0 y24 5 := kr_lt1 h45 b28 b30 (by decide)
                    have b47 : kb 1 t29 6 := kr_lt2 h45 b28 b30 (by decide)
                    refine lv_aload_n hx hb dX12_ticks_234 rfl (lv_at hl 2 rfl) ?_
                    refine va_get (D := D) (ci := 12) (v := .ref (r 2)) (C := RX12) (T := TX12) (N := 48) hx hb hg inC12 hown hK hP 0 rfl rfl 2 (by decide) (hg _ wt5_162) (fun _ h9 => h9) rfl dX12_ticks_235 ?_
                    refine lv_bipush (v := 16) hx hb dX12_ticks_238 (by decide) ?_
                    refine lv_iload_n hx hb dX12_ticks_240 rfl (lv_at hl 0 rfl) ?_
                    refine lv_iadd hx hb dX12_ticks_241 ?_
                    refine lv_topi (fun t48 et48 => ?_)
                    have b49 : kb 16 t48 21 := kb_eq et48 (kb_add kc_16 b46 (by decide) (by decide))
                    have qt48 : t48.toInt = 16 + y24.toInt := by rw [et48]; exact kt_cadd kc_16 b46 (by decide) (by decide)
                    refine va_iald hx hb hK hP 2 0 rfl rfl (kb_in b49 (by decide) (by decide)) dX12_ticks_242 ?_
                    refine lv_topi (fun t50 et50 => ?_)
                    have b51 : kb (-1) t50 9 := kb_eq et50 (aI_ld hI.2.1 2 16 6 b49 (by decide) (by decide) (by decide +kernel))
                    refine lv_iconst (v := (-1)) hx hb dX12_ticks_243 (by decide) ?_
                    refine lv_icmp_eq (tgt := 273) hx hb dX12_ticks_244 (by decide) (fun c52 => ?_) (fun c52 => ?_)
                    · have b53 : kb (-1) t50 (-1) := kb_eq c52 kc_m1
                      obtain ⟨t54, et54⟩ : ∃ z : Int32, z = y24 + Int32.ofInt 1 := ⟨_, rfl⟩
                      have qt54 : t54.toInt = y24.toInt + 1 := by rw [et54]; exact km_inc b46 (by decide) (by decide)
                      have b55 : kb 1 t54 6 := kb_inc (k := 1) qt54 b46
                      refine lv_iinc (v := t54) (lv' := [(3, .int t54), (2, .int v2), (0, .ref o), (1, .int who)]) hx hb dX12_ticks_273 hl (k := 0) rfl et54.symm (by decide) rfl (fun ls hl => ?_)
                      refine lv_goto (tgt := 223) hx hb dX12_ticks_276 (by decide) ?_
                      exact ihlp26 (n3 + 1) B25 _ _ _ t54 (km_up hmlp26 qt54) hI hE hZ (kb_w b55 (by decide) (by decide)) (by have w1 := hvlp26_0; have w2 := qt54; omega) (tk2_sn (show t50 = tk1 DD (a 2) (kBn (a 2)) (16 + n3) from et50.trans (by rw [hkB, (show t48.toNatClampNeg = 16 + n3 from by have w1 := hvlp26_0; have w2 := qt48; unfold Int32.toNatClampNeg; omega)]; exact tk2_p _ _ _ (Nat.le_refl _))) (Or.inl c52) hvlp26_1 rfl) ((by have w1 := hvlp26_0; have w2 := kc_nle c31; have w3 := (show t29.toInt = (kBn (a 2) : Int) from by rw [et29, hkB, tk2_o _ _ _ (Or.inr (by decide)) (by have w9 := (kBn_b hp0).1; have w8 := hvlp26_2; omega), kBn_tk1 hp0 (kBn_b hp0).1]; exact (kBn_b hp0).2); omega : n3 < kBn (a 2))) hP hD hS (lv_sub hl [0, 1, 2, 3] rfl)
                    · have b56 : kb 0 t50 9 := kr_nel c52 b51 kc_m1 (by decide)
                      refine lv_aload_n hx hb dX12_ticks_247 rfl (lv_at hl 2 rfl) ?_
                      refine lv_aload_n hx hb dX12_ticks_248 rfl (lv_at hl 2 rfl) ?_
                      refine va_get (D := D) (ci := 12) (v := .ref (r 2)) (C := RX12) (T := TX12) (N := 48) hx hb hg inC12 hown hK hP 0 rfl rfl 2 (by decide) (hg _ wt5_162) (fun _ h9 => h9) rfl dX12_ticks_249 ?_
                      refine lv_bipush (v := 16) hx hb dX12_ticks_252 (by decide) ?_
                      refine lv_iload_n hx hb dX12_ticks_254 rfl (lv_at hl 0 rfl) ?_
                      refine lv_iadd hx hb dX12_ticks_255 ?_
                      refine k_top (z := t48) et48.symm ?_
                      refine va_iald hx hb hK hP 2 0 rfl rfl (kb_in b49 (by decide) (by decide)) dX12_ticks_256 ?_
                      refine k_top (z := t50) et50.symm ?_
                      refine kI.callV (As := [.int t50]) (rest := []) ⟨hx, hb, hml, hown, hg⟩ (n_stands0 l o r F5 B25 G7 hI t50 b56 ) (cwV 1 hg (kgV wt6_112 wt6_114 wp3_12 wt1_14 wt6_115) rfl rfl rfl (by decide +kernel) ⟨by decide, by decide⟩) hK hP hD hS hA mIs [] rfl (wr := []) rfl rfl rfl (fun i h => by cases h) 0 12 rfl rfl rfl hl.1 rfl (Nat.le_of_ble_eq_true rfl) dX12_ticks_257 ⟨Nat.le_refl _, Nat.le_refl _⟩ (fun v58 u59 H locs hw57 hP hD hS => ?_)
                      have hP : va_P D vwCl (mW K o r F5 B25 G7) H := hP
                      have hD : va_D A (mW K o r F5 B25 G7) := hD
                      refine lv_if_eq (tgt := 273) hx hb dX12_ticks_260 (by decide) (fun c60 => ?_) (fun c60 => ?_)
                      · have b61 : kb 0 v58 0 := kb_eq c60 kc_0
                        obtain ⟨t62, et62⟩ : ∃ z : Int32, z = y24 + Int32.ofInt 1 := ⟨_, rfl⟩
                        have qt62 : t62.toInt = y24.toInt + 1 := by rw [et62]; exact km_inc b46 (by decide) (by decide)
                        have b63 : kb 1 t62 6 := kb_inc (k := 1) qt62 b46
                        refine lv_iinc (v := t62) (lv' := [(3, .int t62), (2, .int v2), (0, .ref o), (1, .int who)]) hx hb dX12_ticks_273 hl (k := 0) rfl et62.symm (by decide) rfl (fun ls hl => ?_)
                        refine lv_goto (tgt := 223) hx hb dX12_ticks_276 (by decide) ?_
                        exact ihlp26 (n3 + 1) B25 _ _ _ t62 (km_up hmlp26 qt62) hI hE hZ (kb_w b63 (by decide) (by decide)) (by have w1 := hvlp26_0; have w2 := qt62; omega) (tk2_sn (show t50 = tk1 DD (a 2) (kBn (a 2)) (16 + n3) from et50.trans (by rw [hkB, (show t48.toNatClampNeg = 16 + n3 from by have w1 := hvlp26_0; have w2 := qt48; unfold Int32.toNatClampNeg; omega)]; exact tk2_p _ _ _ (Nat.le_refl _))) (Or.inr (fun w9 => bit0_n hw57.2 c60 ((show B25 2 (0 + t50.toNatClampNeg) = tk1 DD (a 2) (kBn (a 2)) (0 + t50.toNatClampNeg) from by rw [hkB]; exact tk2_o _ _ _ (Or.inl (by have w1 := kb_clt b56 (n := 10) (by decide) (by decide); omega)) (by have w9 := (kBn_b hp0).1; have w8 := hvlp26_2; omega)).trans w9))) hvlp26_1 rfl) ((by have w1 := hvlp26_0; have w2 := kc_nle c31; have w3 := (show t29.toInt = (kBn (a 2) : Int) from by rw [et29, hkB, tk2_o _ _ _ (Or.inr (by decide)) (by have w9 := (kBn_b hp0).1; have w8 := hvlp26_2; omega), kBn_tk1 hp0 (kBn_b hp0).1]; exact (kBn_b hp0).2); omega : n3 < kBn (a 2))) hP hD hS (lv_sub hl [0, 1, 2, 3] rfl)
                      · have b64 : kb 1 v58 1 := kr_nel c60 hw57.1 kc_0 (by decide)
                        refine lv_aload_n hx hb dX12_ticks_263 rfl (lv_at hl 2 rfl) ?_
                        refine va_get (D := D) (ci := 12) (v := .ref (r 2)) (C := RX12) (T := TX12) (N := 48) hx hb hg inC12 hown hK hP 0 rfl rfl 2 (by decide) (hg _ wt5_162) (fun _ h9 => h9) rfl dX12_ticks_264 ?_
                        refine lv_bipush (v := 16) hx hb dX12_ticks_267 (by decide) ?_
                        refine lv_iload_n hx hb dX12_ticks_269 rfl (lv_at hl 0 rfl) ?_
                        refine lv_iadd hx hb dX12_ticks_270 ?_
                        refine k_top (z := t48) et48.symm ?_
                        refine lv_iconst (v := (-1)) hx hb dX12_ticks_271 (by decide) ?_
                        refine va_iast hx hb hK hP hD hS 2 0 rfl rfl (kb_in b49 (by decide) (by decide)) dX12_ticks_272 (fun H locs hP hD hS => ?_)
                        have hP : va_P D vwCl (mW K o r F5 (va_up B25 2 (upd (B25 2) t48.toNatClampNeg (-1))) G7) H := hP
                        have hD : va_D A (mW K o r F5 (va_up B25 2 (upd (B25 2) t48.toNatClampNeg (-1))) G7) := hD
                        refine k_gen (P := fun z => va_P D vwCl (mW K o r F5 z G7) H ∧ va_D A (mW K o r F5 z G7) ∧ (mI F5 z) ∧ (mE (XR [(0, 23)]) f a F5 z) ∧ (mZ [22, 23, 24, 25] [2, 26, 29, 30] f a F5 z)) (va_up B25 2 (upd (B25 2) t48.toNatClampNeg (-1))) ⟨hP, hD, (mI_2 hI (aI_sx hI.2.1 2 16 6 b49 (by decide) (by decide) kc_m1 (by decide +kernel)) (kb_clt b49 (by decide) (by decide))), (mE_2 hE (bX_at 16 6 b49 (by decide) (by decide) (by decide))), (mZ_a hZ rfl)⟩ (fun a_65 ea_65 hq => ?_)
                        obtain ⟨hP, hD, hI, hE, hZ⟩ := hq
                        obtain ⟨t66, et66⟩ : ∃ z : Int32, z = y24 + Int32.ofInt 1 := ⟨_, rfl⟩
                        have qt66 : t66.toInt = y24.toInt + 1 := by rw [et66]; exact km_inc b46 (by decide) (by decide)
                        have b67 : kb 1 t66 6 := kb_inc (k := 1) qt66 b46
                        refine lv_iinc (v := t66) (lv' := [(3, .int t66), (2, .int v2), (0, .ref o), (1, .int who)]) hx hb dX12_ticks_273 hl (k := 0) rfl et66.symm (by decide) rfl (fun ls hl => ?_)
                        refine lv_goto (tgt := 223) hx hb dX12_ticks_276 (by decide) ?_
                        exact ihlp26 (n3 + 1) a_65 _ _ _ t66 (km_up hmlp26 qt66) hI hE hZ (kb_w b67 (by decide) (by decide)) (by have w1 := hvlp26_0; have w2 := qt66; omega) (tk2_sy c52 (show t50 = tk1 DD (a 2) (kBn (a 2)) (16 + n3) from et50.trans (by rw [hkB, (show t48.toNatClampNeg = 16 + n3 from by have w1 := hvlp26_0; have w2 := qt48; unfold Int32.toNatClampNeg; omega)]; exact tk2_p _ _ _ (Nat.le_refl _))) ((show B25 2 (0 + t50.toNatClampNeg) = tk1 DD (a 2) (kBn (a 2)) (0 + t50.toNatClampNeg) from by rw [hkB]; exact tk2_o _ _ _ (Or.inl (by have w1 := kb_clt b56 (n := 10) (by decide) (by decide); omega)) (by have w9 := (kBn_b hp0).1; have w8 := hvlp26_2; omega)).symm.trans (bit0_y hw57.2 c60)) hvlp26_1 (show a_65 2 = upd (B25 2) t48.toNatClampNeg (-1) from by rw [← ea_65]; rfl) (by have w1 := hvlp26_0; have w2 := qt48; unfold Int32.toNatClampNeg; omega)) ((by have w1 := hvlp26_0; have w2 := kc_nle c31; have w3 := (show t29.toInt = (kBn (a 2) : Int) from by rw [et29, hkB, tk2_o _ _ _ (Or.inr (by decide)) (by have w9 := (kBn_b hp0).1; have w8 := hvlp26_2; omega), kBn_tk1 hp0 (kBn_b hp0).1]; exact (kBn_b hp0).2); omega : n3 < kBn (a 2))) hP hD hS (lv_sub hl [0, 1, 2, 3] rfl)
              exact lp26 (7) 0 B16 _ _ _ 0 (by have h1 := (kc_0); unfold kb at h1; omega) hI hE hZ (kb_w kc_0 (by decide) (by decide)) (by decide +kernel) (hkA) (Nat.zero_le _) hP hD hS (lv_sub hl [0, 1, 2, 3] rfl)
            · have h68 := (kc_nle c22)
              have b69 : kb 0 y15 5 := kr_lt1 h68 b19 b21 (by decide)
              have b70 : kb 1 t20 6 := kr_lt2 h68 b19 b21 (by decide)
              refine lv_iload_n hx hb dX12_ticks_124 rfl (lv_at hl 3 rfl) ?_
              refine lv_iload_n hx hb dX12_ticks_125 rfl (lv_at hl 0 rfl) ?_
              refine kN.callS (As := [.int who, .int y15]) (rest := []) ⟨hx, hb, hml, hown, hg⟩ (n_isIn l who y15 ) (va_cwS 2 hg (kgS wt6_124 wt6_125 wt1_14 wt6_126) rfl rfl rfl (by decide +kernel) ⟨by decide, by decide⟩) hP hS rfl hl.1 rfl (Nat.le_of_ble_eq_true rfl) dX12_ticks_126 ⟨Nat.le_refl _, Nat.le_refl _⟩ (fun v72 H locs hw71 hP hS => ?_)
              refine k_top (z := 1) (hw71.2.trans (if_pos (allb (kBn_b hp0).1 (by have w1 := hvlp17_0; have w2 := kc_nle c22; have w3 := (show t20.toInt = (kBn (a 2) : Int) from by rw [et20, hkB, kBn_tk1 hp0 (by have w9 := (kBn_b hp0).1; have w8 := hvlp17_4; omega)]; exact (kBn_b hp0).2); omega : mm < kBn (a 2)) hp2 hnn))) ?_
              refine lv_if_ne (tgt := 135) hx hb dX12_ticks_129 (by decide) (fun c74 => ?_) (fun c74 => ?_)
              · refine lv_aload_n hx hb dX12_ticks_135 rfl (lv_at hl 2 rfl) ?_
                refine va_get (D := D) (ci := 12) (v := .ref (r 2)) (C := RX12) (T := TX12) (N := 48) hx hb hg inC12 hown hK hP 0 rfl rfl 2 (by decide) (hg _ wt5_162) (fun _ h9 => h9) rfl dX12_ticks_136 ?_
                refine lv_bipush (v := 16) hx hb dX12_ticks_139 (by decide) ?_
                refine lv_iload_n hx hb dX12_ticks_141 rfl (lv_at hl 0 rfl) ?_
                refine lv_iadd hx hb dX12_ticks_142 ?_
                refine lv_topi (fun t75 et75 => ?_)
                have b76 : kb 16 t75 21 := kb_eq et75 (kb_add kc_16 b69 (by decide) (by decide))
                have qt75 : t75.toInt = 16 + y15.toInt := by rw [et75]; exact kt_cadd kc_16 b69 (by decide) (by decide)
                refine va_iald hx hb hK hP 2 0 rfl rfl (kb_in b76 (by decide) (by decide)) dX12_ticks_143 ?_
                refine lv_topi (fun t77 et77 => ?_)
                have b78 : kb (-1) t77 9 := kb_eq et77 (aI_ld hI.2.1 2 16 6 b76 (by decide) (by decide) (by decide +kernel))
                refine lv_istore (lv' := [(4, .int t77), (3, .int y15), (2, .int v2), (0, .ref o), (1, .int who)]) hx hb dX12_ticks_144 hl (by decide) rfl (fun ls hl => ?_)
                refine lv_iload hx hb dX12_ticks_146 (lv_at hl 0 rfl) ?_
                refine lv_iconst (v := (-1)) hx hb dX12_ticks_148 (by decide) ?_
                refine lv_icmp_eq (tgt := 181) hx hb dX12_ticks_149 (by decide) (fun c79 => ?_) (fun c79 => ?_)
                · have b80 : kb (-1) t77 (-1) := kb_eq c79 kc_m1
                  refine lv_aload_n hx hb dX12_ticks_181 rfl (lv_at hl 3 rfl) ?_
                  refine va_get (D := D) (ci := 12) (v := .ref (r 2)) (C := RX12) (T := TX12) (N := 48) hx hb hg inC12 hown hK hP 0 rfl rfl 2 (by decide) (hg _ wt5_162) (fun _ h9 => h9) rfl dX12_ticks_182 ?_
                  refine lv_bipush (v := 10) hx hb dX12_ticks_185 (by decide) ?_
                  refine lv_iload_n hx hb dX12_ticks_187 rfl (lv_at hl 1 rfl) ?_
                  refine lv_iadd hx hb dX12_ticks_188 ?_
                  refine lv_topi (fun t81 et81 => ?_)
                  have b82 : kb 10 t81 15 := kb_eq et81 (kb_add kc_10 b69 (by decide) (by decide))
                  have qt81 : t81.toInt = 10 + y15.toInt := by rw [et81]; exact kt_cadd kc_10 b69 (by decide) (by decide)
                  refine lv_iconst (v := 0) hx hb dX12_ticks_189 (by decide) ?_
                  refine lv_bipush (v := 99) hx hb dX12_ticks_190 (by decide) ?_
                  refine lv_aload_n hx hb dX12_ticks_192 rfl (lv_at hl 3 rfl) ?_
                  refine va_get (D := D) (ci := 12) (v := .ref (r 2)) (C := RX12) (T := TX12) (N := 48) hx hb hg inC12 hown hK hP 0 rfl rfl 2 (by decide) (hg _ wt5_162) (fun _ h9 => h9) rfl dX12_ticks_193 ?_
                  refine lv_bipush (v := 10) hx hb dX12_ticks_196 (by decide) ?_
                  refine lv_iload_n hx hb dX12_ticks_198 rfl (lv_at hl 1 rfl) ?_
                  refine lv_iadd hx hb dX12_ticks_199 ?_
                  refine k_top (z := t81) et81.symm ?_
                  refine va_iald hx hb hK hP 2 0 rfl rfl (kb_in b82 (by decide) (by decide)) dX12_ticks_200 ?_
                  refine lv_topi (fun t83 et83 => ?_)
                  have b84 : kb 0 t83 99 := kb_eq et83 (aI_ld hI.2.1 2 10 6 b82 (by decide) (by decide) (by decide +kernel))
                  refine lv_aload_n hx hb dX12_ticks_201 rfl (lv_at hl 3 rfl) ?_
                  refine va_get (D := D) (ci := 12) (v := .ref (r 30)) (C := RX12) (T := TX12) (N := 48) hx hb hg inC12 hown hK hP 0 rfl rfl 30 (by decide) (hg _ wt5_190) (fun _ h9 => h9) rfl dX12_ticks_202 ?_
                  refine lv_iload_n hx hb dX12_ticks_205 rfl (lv_at hl 1 rfl) ?_
                  refine va_iald hx hb hK hP 14 0 rfl rfl (kb_in b69 (by decide) (by decide)) dX12_ticks_206 ?_
                  refine lv_topi (fun t85 et85 => ?_)
                  have b86 : kb (-2) t85 20 := kb_eq et85 (aI_ld hI.2.1 30 0 6 b69 (by decide) (by decide) (by decide +kernel))
                  refine lv_iadd hx hb dX12_ticks_207 ?_
                  refine lv_topi (fun t87 et87 => ?_)
                  have b88 : kb (-2) t87 119 := kb_eq et87 (kb_add b84 b86 (by decide) (by decide))
                  have qt87 : t87.toInt = t83.toInt + t85.toInt := by rw [et87]; exact kt_add b84 b86 (by decide) (by decide)
                  refine kN.callS (As := [.int 99, .int t87]) (rest := [.int 0, .int t81, .ref (r 2)]) ⟨hx, hb, hml, hown, hg⟩ (m_lesser l 99 t87 ) (va_cwS 2 hg (kgS wt7_172 wt7_173 wt1_14 wt7_174) rfl rfl rfl (by decide +kernel) ⟨by decide, by decide⟩) hP hS rfl hl.1 rfl (Nat.le_of_ble_eq_true rfl) dX12_ticks_208 ⟨Nat.le_refl _, Nat.le_refl _⟩ (fun v90 H locs hw89 hP hS => ?_)
                  have b92 : kb (-2) v90 99 := kb_min hw89.2.1 hw89.2.2.1 hw89.2.2.2 kc_99 b88 (by decide) (by decide) (by decide)
                  refine kN.callS (As := [.int 0, .int v90]) (rest := [.int t81, .ref (r 2)]) ⟨hx, hb, hml, hown, hg⟩ (m_greater l 0 v90 ) (va_cwS 2 hg (kgS wt6_127 wt6_128 wt1_14 wt6_129) rfl rfl rfl (by decide +kernel) ⟨by decide, by decide⟩) hP hS rfl hl.1 rfl (Nat.le_of_ble_eq_true rfl) dX12_ticks_211 ⟨Nat.le_refl _, Nat.le_refl _⟩ (fun v94 H locs hw93 hP hS => ?_)
                  have b96 : kb 0 v94 99 := kb_max hw93.2.1 hw93.2.2.1 hw93.2.2.2 kc_0 b92 (by decide) (by decide) (by decide)
                  refine va_iast hx hb hK hP hD hS 2 0 rfl rfl (kb_in b82 (by decide) (by decide)) dX12_ticks_214 (fun H locs hP hD hS => ?_)
                  have hP : va_P D vwCl (mW K o r F5 (va_up B16 2 (upd (B16 2) t81.toNatClampNeg v94)) G7) H := hP
                  have hD : va_D A (mW K o r F5 (va_up B16 2 (upd (B16 2) t81.toNatClampNeg v94)) G7) := hD
                  refine k_gen (P := fun z => va_P D vwCl (mW K o r F5 z G7) H ∧ va_D A (mW K o r F5 z G7) ∧ (mI F5 z) ∧ (mE (XR [(0, 23)]) f a F5 z) ∧ (mZ [22, 23, 24, 25] [2, 26, 29, 30] f a F5 z)) (va_up B16 2 (upd (B16 2) t81.toNatClampNeg v94)) ⟨hP, hD, (mI_2 hI (aI_sx hI.2.1 2 10 6 b82 (by decide) (by decide) b96 (by decide +kernel)) (kb_clt b82 (by decide) (by decide))), (mE_2 hE (bX_at 10 6 b82 (by decide) (by decide) (by decide))), (mZ_a hZ rfl)⟩ (fun a_97 ea_97 hq => ?_)
                  obtain ⟨hP, hD, hI, hE, hZ⟩ := hq
                  obtain ⟨t98, et98⟩ : ∃ z : Int32, z = y15 + Int32.ofInt 1 := ⟨_, rfl⟩
                  have qt98 : t98.toInt = y15.toInt + 1 := by rw [et98]; exact km_inc b69 (by decide) (by decide)
                  have b99 : kb 1 t98 6 := kb_inc (k := 1) qt98 b69
                  refine lv_iinc (v := t98) (lv' := [(3, .int t98), (4, .int t77), (2, .int v2), (0, .ref o), (1, .int who)]) hx hb dX12_ticks_215 hl (k := 1) rfl et98.symm (by decide) rfl (fun ls hl => ?_)
                  refine lv_goto (tgt := 113) hx hb dX12_ticks_218 (by decide) ?_
                  exact ihlp17 (mm + 1) a_97 _ _ _ t98 (km_up hmlp17 qt98) hI hE hZ (kb_w b99 (by decide) (by decide)) (by have w1 := hvlp17_0; have w2 := qt98; omega) (tk1_sn ((show t77 = a 2 (16 + mm) from et77.trans (by rw [hkB, (show t75.toNatClampNeg = 16 + mm from by have w1 := hvlp17_0; have w2 := qt75; unfold Int32.toNatClampNeg; omega)]; exact tk1_o _ _ _ _ (by omega) (by have w9 := (kBn_b hp0).1; have w8 := hvlp17_4; omega) hp0)).symm.trans c79) hvlp17_1 (show a_97 2 = upd (B16 2) t81.toNatClampNeg v94 from by rw [← ea_97]; rfl) (by have w1 := hvlp17_0; have w2 := qt81; unfold Int32.toNatClampNeg; omega) (et83.trans (congrArg (B16 2) (show t81.toNatClampNeg = 10 + mm from by have w1 := hvlp17_0; have w2 := qt81; unfold Int32.toNatClampNeg; omega))) (b84) (by rw [et85, cl_nat hvlp17_0]; exact hvlp17_3 mm (by have w1 := hvlp17_0; have w2 := kc_nle c22; have w3 := (show t20.toInt = (kBn (a 2) : Int) from by rw [et20, hkB, kBn_tk1 hp0 (by have w9 := (kBn_b hp0).1; have w8 := hvlp17_4; omega)]; exact (kBn_b hp0).2); omega : mm < kBn (a 2))) qt87 (gl_v hw89.2.1 hw89.2.2.1 hw89.2.2.2 hw93.2.1 hw93.2.2.1 hw93.2.2.2)) (by rw [show a_97 29 = B16 29 from (show a_97 29 = B16 29 from by rw [← ea_97]; rfl)]; exact hvlp17_2) (by rw [show a_97 30 = B16 30 from (show a_97 30 = B16 30 from by rw [← ea_97]; rfl)]; exact hvlp17_3) ((by have w1 := hvlp17_0; have w2 := kc_nle c22; have w3 := (show t20.toInt = (kBn (a 2) : Int) from by rw [et20, hkB, kBn_tk1 hp0 (by have w9 := (kBn_b hp0).1; have w8 := hvlp17_4; omega)]; exact (kBn_b hp0).2); omega : mm < kBn (a 2))) hP hD hS (lv_sub hl [0, 2, 3, 4] rfl)
                · have b100 : kb 0 t77 9 := kr_nel c79 b78 kc_m1 (by decide)
                  refine lv_aload_n hx hb dX12_ticks_152 rfl (lv_at hl 3 rfl) ?_
                  refine va_get (D := D) (ci := 12) (v := .ref (r 2)) (C := RX12) (T := TX12) (N := 48) hx hb hg inC12 hown hK hP 0 rfl rfl 2 (by decide) (hg _ wt5_162) (fun _ h9 => h9) rfl dX12_ticks_153 ?_
                  refine lv_iconst (v := 0) hx hb dX12_ticks_156 (by decide) ?_
                  refine lv_iload hx hb dX12_ticks_157 (lv_at hl 0 rfl) ?_
                  refine lv_iadd hx hb dX12_ticks_159 ?_
                  refine k_top (z := t77) (Int32.zero_add _) ?_
                  refine lv_iconst (v := 0) hx hb dX12_ticks_160 (by decide) ?_
                  refine lv_aload_n hx hb dX12_ticks_161 rfl (lv_at hl 3 rfl) ?_
                  refine va_get (D := D) (ci := 12) (v := .ref (r 2)) (C := RX12) (T := TX12) (N := 48) hx hb hg inC12 hown hK hP 0 rfl rfl 2 (by decide) (hg _ wt5_162) (fun _ h9 => h9) rfl dX12_ticks_162 ?_
                  refine lv_iconst (v := 0) hx hb dX12_ticks_165 (by decide) ?_
                  refine lv_iload hx hb dX12_ticks_166 (lv_at hl 0 rfl) ?_
                  refine lv_iadd hx hb dX12_ticks_168 ?_
                  refine k_top (z := t77) (Int32.zero_add _) ?_
                  refine va_iald hx hb hK hP 2 0 rfl rfl (kb_in b100 (by decide) (by decide)) dX12_ticks_169 ?_
                  refine lv_topi (fun t101 et101 => ?_)
                  have b102 : kb 0 t101 99 := kb_eq et101 (aI_ld hI.2.1 2 0 10 b100 (by decide) (by decide) (by decide +kernel))
                  refine lv_aload_n hx hb dX12_ticks_170 rfl (lv_at hl 3 rfl) ?_
                  refine va_get (D := D) (ci := 12) (v := .ref (r 29)) (C := RX12) (T := TX12) (N := 48) hx hb hg inC12 hown hK hP 0 rfl rfl 29 (by decide) (hg _ wt5_189) (fun _ h9 => h9) rfl dX12_ticks_171 ?_
                  refine lv_iload_n hx hb dX12_ticks_174 rfl (lv_at hl 1 rfl) ?_
                  refine va_iald hx hb hK hP 13 0 rfl rfl (kb_in b69 (by decide) (by decide)) dX12_ticks_175 ?_
                  refine lv_topi (fun t103 et103 => ?_)
                  have b104 : kb 0 t103 20 := kb_eq et103 (aI_ld hI.2.1 29 0 6 b69 (by decide) (by decide) (by decide +kernel))
                  refine lv_isub hx hb dX12_ticks_176 ?_
                  refine lv_topi (fun t105 et105 => ?_)
                  have b106 : kb (-20) t105 99 := kb_eq et105 (kb_sub b102 b104 (by decide) (by decide))
                  have qt105 : t105.toInt = t101.toInt - t103.toInt := by rw [et105]; exact kt_sub b102 b104 (by decide) (by decide)
                  refine kN.callS (As := [.int 0, .int t105]) (rest := [.int t77, .ref (r 2)]) ⟨hx, hb, hml, hown, hg⟩ (m_greater l 0 t105 ) (va_cwS 2 hg (kgS wt6_127 wt6_128 wt1_14 wt6_129) rfl rfl rfl (by decide +kernel) ⟨by decide, by decide⟩) hP hS rfl hl.1 rfl (Nat.le_of_ble_eq_true rfl) dX12_ticks_177 ⟨Nat.le_refl _, Nat.le_refl _⟩ (fun v108 H locs hw107 hP hS => ?_)
                  have b110 : kb 0 v108 99 := kb_max hw107.2.1 hw107.2.2.1 hw107.2.2.2 kc_0 b106 (by decide) (by decide) (by decide)
                  refine va_iast hx hb hK hP hD hS 2 0 rfl rfl (kb_in b100 (by decide) (by decide)) dX12_ticks_180 (fun H locs hP hD hS => ?_)
                  have hP : va_P D vwCl (mW K o r F5 (va_up B16 2 (upd (B16 2) t77.toNatClampNeg v108)) G7) H := hP
                  have hD : va_D A (mW K o r F5 (va_up B16 2 (upd (B16 2) t77.toNatClampNeg v108)) G7) := hD
                  refine k_gen (P := fun z => va_P D vwCl (mW K o r F5 z G7) H ∧ va_D A (mW K o r F5 z G7) ∧ (mI F5 z) ∧ (mE (XR [(0, 23)]) f a F5 z) ∧ (mZ [22, 23, 24, 25] [2, 26, 29, 30] f a F5 z)) (va_up B16 2 (upd (B16 2) t77.toNatClampNeg v108)) ⟨hP, hD, (mI_2 hI (aI_sx hI.2.1 2 0 10 b100 (by decide) (by decide) b110 (by decide +kernel)) (kb_clt b100 (by decide) (by decide))), (mE_2 hE (bX_at 0 10 b100 (by decide) (by decide) (by decide))), (mZ_a hZ rfl)⟩ (fun a_111 ea_111 hq => ?_)
                  obtain ⟨hP, hD, hI, hE, hZ⟩ := hq
                  refine lv_aload_n hx hb dX12_ticks_181 rfl (lv_at hl 3 rfl) ?_
                  refine va_get (D := D) (ci := 12) (v := .ref (r 2)) (C := RX12) (T := TX12) (N := 48) hx hb hg inC12 hown hK hP 0 rfl rfl 2 (by decide) (hg _ wt5_162) (fun _ h9 => h9) rfl dX12_ticks_182 ?_
                  refine lv_bipush (v := 10) hx hb dX12_ticks_185 (by decide) ?_
                  refine lv_iload_n hx hb dX12_ticks_187 rfl (lv_at hl 1 rfl) ?_
                  refine lv_iadd hx hb dX12_ticks_188 ?_
                  refine lv_topi (fun t112 et112 => ?_)
                  have b113 : kb 10 t112 15 := kb_eq et112 (kb_add kc_10 b69 (by decide) (by decide))
                  have qt112 : t112.toInt = 10 + y15.toInt := by rw [et112]; exact kt_cadd kc_10 b69 (by decide) (by decide)
                  refine lv_iconst (v := 0) hx hb dX12_ticks_189 (by decide) ?_
                  refine lv_bipush (v := 99) hx hb dX12_ticks_190 (by decide) ?_
                  refine lv_aload_n hx hb dX12_ticks_192 rfl (lv_at hl 3 rfl) ?_
                  refine va_get (D := D) (ci := 12) (v := .ref (r 2)) (C := RX12) (T := TX12) (N := 48) hx hb hg inC12 hown hK hP 0 rfl rfl 2 (by decide) (hg _ wt5_162) (fun _ h9 => h9) rfl dX12_ticks_193 ?_
                  refine lv_bipush (v := 10) hx hb dX12_ticks_196 (by decide) ?_
                  refine lv_iload_n hx hb dX12_ticks_198 rfl (lv_at hl 1 rfl) ?_
                  refine lv_iadd hx hb dX12_ticks_199 ?_
                  refine k_top (z := t112) et112.symm ?_
                  refine va_iald hx hb hK hP 2 0 rfl rfl (kb_in b113 (by decide) (by decide)) dX12_ticks_200 ?_
                  refine lv_topi (fun t114 et114 => ?_)
                  have b115 : kb 0 t114 99 := kb_eq et114 (aI_ld hI.2.1 2 10 6 b113 (by decide) (by decide) (by decide +kernel))
                  refine lv_aload_n hx hb dX12_ticks_201 rfl (lv_at hl 3 rfl) ?_
                  refine va_get (D := D) (ci := 12) (v := .ref (r 30)) (C := RX12) (T := TX12) (N := 48) hx hb hg inC12 hown hK hP 0 rfl rfl 30 (by decide) (hg _ wt5_190) (fun _ h9 => h9) rfl dX12_ticks_202 ?_
                  refine lv_iload_n hx hb dX12_ticks_205 rfl (lv_at hl 1 rfl) ?_
                  refine va_iald hx hb hK hP 14 0 rfl rfl (kb_in b69 (by decide) (by decide)) dX12_ticks_206 ?_
                  refine lv_topi (fun t116 et116 => ?_)
                  have b117 : kb (-2) t116 20 := kb_eq et116 (aI_ld hI.2.1 30 0 6 b69 (by decide) (by decide) (by decide +kernel))
                  refine lv_iadd hx hb dX12_ticks_207 ?_
                  refine lv_topi (fun t118 et118 => ?_)
                  have b119 : kb (-2) t118 119 := kb_eq et118 (kb_add b115 b117 (by decide) (by decide))
                  have qt118 : t118.toInt = t114.toInt + t116.toInt := by rw [et118]; exact kt_add b115 b117 (by decide) (by decide)
                  refine kN.callS (As := [.int 99, .int t118]) (rest := [.int 0, .int t112, .ref (r 2)]) ⟨hx, hb, hml, hown, hg⟩ (m_lesser l 99 t118 ) (va_cwS 2 hg (kgS wt7_172 wt7_173 wt1_14 wt7_174) rfl rfl rfl (by decide +kernel) ⟨by decide, by decide⟩) hP hS rfl hl.1 rfl (Nat.le_of_ble_eq_true rfl) dX12_ticks_208 ⟨Nat.le_refl _, Nat.le_refl _⟩ (fun v121 H locs hw120 hP hS => ?_)
                  have b123 : kb (-2) v121 99 := kb_min hw120.2.1 hw120.2.2.1 hw120.2.2.2 kc_99 b119 (by decide) (by decide) (by decide)
                  refine kN.callS (As := [.int 0, .int v121]) (rest := [.int t112, .ref (r 2)]) ⟨hx, hb, hml, hown, hg⟩ (m_greater l 0 v121 ) (va_cwS 2 hg (kgS wt6_127 wt6_128 wt1_14 wt6_129) rfl rfl rfl (by decide +kernel) ⟨by decide, by decide⟩) hP hS rfl hl.1 rfl (Nat.le_of_ble_eq_true rfl) dX12_ticks_211 ⟨Nat.le_refl _, Nat.le_refl _⟩ (fun v125 H locs hw124 hP hS => ?_)
                  have b127 : kb 0 v125 99 := kb_max hw124.2.1 hw124.2.2.1 hw124.2.2.2 kc_0 b123 (by decide) (by decide) (by decide)
                  refine va_iast hx hb hK hP hD hS 2 0 rfl rfl (kb_in b113 (by decide) (by decide)) dX12_ticks_214 (fun H locs hP hD hS => ?_)
                  have hP : va_P D vwCl (mW K o r F5 (va_up a_111 2 (upd (a_111 2) t112.toNatClampNeg v125)) G7) H := hP
                  have hD : va_D A (mW K o r F5 (va_up a_111 2 (upd (a_111 2) t112.toNatClampNeg v125)) G7) := hD
                  refine k_gen (P := fun z => va_P D vwCl (mW K o r F5 z G7) H ∧ va_D A (mW K o r F5 z G7) ∧ (mI F5 z) ∧ (mE (XR [(0, 23)]) f a F5 z) ∧ (mZ [22, 23, 24, 25] [2, 26, 29, 30] f a F5 z)) (va_up a_111 2 (upd (a_111 2) t112.toNatClampNeg v125)) ⟨hP, hD, (mI_2 hI (aI_sx hI.2.1 2 10 6 b113 (by decide) (by decide) b127 (by decide +kernel)) (kb_clt b113 (by decide) (by decide))), (mE_2 hE (bX_at 10 6 b113 (by decide) (by decide) (by decide))), (mZ_a hZ rfl)⟩ (fun a_128 ea_128 hq => ?_)
                  obtain ⟨hP, hD, hI, hE, hZ⟩ := hq
                  obtain ⟨t129, et129⟩ : ∃ z : Int32, z = y15 + Int32.ofInt 1 := ⟨_, rfl⟩
                  have qt129 : t129.toInt = y15.toInt + 1 := by rw [et129]; exact km_inc b69 (by decide) (by decide)
                  have b130 : kb 1 t129 6 := kb_inc (k := 1) qt129 b69
                  refine lv_iinc (v := t129) (lv' := [(3, .int t129), (4, .int t77), (2, .int v2), (0, .ref o), (1, .int who)]) hx hb dX12_ticks_215 hl (k := 1) rfl et129.symm (by decide) rfl (fun ls hl => ?_)
                  refine lv_goto (tgt := 113) hx hb dX12_ticks_218 (by decide) ?_
                  exact ihlp17 (mm + 1) a_128 _ _ _ t129 (km_up hmlp17 qt129) hI hE hZ (kb_w b130 (by decide) (by decide)) (by have w1 := hvlp17_0; have w2 := qt129; omega) (tk1_sy (fun w9 => c79 ((show t77 = a 2 (16 + mm) from et77.trans (by rw [hkB, (show t75.toNatClampNeg = 16 + mm from by have w1 := hvlp17_0; have w2 := qt75; unfold Int32.toNatClampNeg; omega)]; exact tk1_o _ _ _ _ (by omega) (by have w9 := (kBn_b hp0).1; have w8 := hvlp17_4; omega) hp0)).trans w9)) (show t77 = a 2 (16 + mm) from et77.trans (by rw [hkB, (show t75.toNatClampNeg = 16 + mm from by have w1 := hvlp17_0; have w2 := qt75; unfold Int32.toNatClampNeg; omega)]; exact tk1_o _ _ _ _ (by omega) (by have w9 := (kBn_b hp0).1; have w8 := hvlp17_4; omega) hp0)) (by have w9 := (kBn_b hp0).1; have w8 := (by have w1 := hvlp17_0; have w2 := kc_nle c22; have w3 := (show t20.toInt = (kBn (a 2) : Int) from by rw [et20, hkB, kBn_tk1 hp0 (by have w9 := (kBn_b hp0).1; have w8 := hvlp17_4; omega)]; exact (kBn_b hp0).2); omega : mm < kBn (a 2)); omega) (kb_clt b100 (by decide) (by decide)) hvlp17_1 ((show a_128 2 = upd (a_111 2) t112.toNatClampNeg v125 from by rw [← ea_128]; rfl).trans (congrArg (fun zz_ => upd zz_ t112.toNatClampNeg v125) (show a_111 2 = upd (B16 2) t77.toNatClampNeg v108 from by rw [← ea_111]; rfl))) rfl (by have w1 := hvlp17_0; have w2 := qt112; unfold Int32.toNatClampNeg; omega) et101 (by rw [et103, cl_nat hvlp17_0]; exact hvlp17_2 mm (by have w1 := hvlp17_0; have w2 := kc_nle c22; have w3 := (show t20.toInt = (kBn (a 2) : Int) from by rw [et20, hkB, kBn_tk1 hp0 (by have w9 := (kBn_b hp0).1; have w8 := hvlp17_4; omega)]; exact (kBn_b hp0).2); omega : mm < kBn (a 2))) qt105 (g_v hw107.2.1 hw107.2.2.1 hw107.2.2.2) ((et114.trans (show a_111 2 (t112.toNatClampNeg) = B16 2 (t112.toNatClampNeg) from by rw [← ea_111]; exact pk_un (kb_nd b113 b100 (by decide) (by decide) (by decide)))).trans (congrArg (B16 2) (show t112.toNatClampNeg = 10 + mm from by have w1 := hvlp17_0; have w2 := qt112; unfold Int32.toNatClampNeg; omega))) (by rw [show t116 = B16 30 (y15.toNatClampNeg) from (et116.trans (congrFun (show a_111 30 = B16 30 from by rw [← ea_111]; rfl) (y15.toNatClampNeg))), cl_nat hvlp17_0]; exact hvlp17_3 mm (by have w1 := hvlp17_0; have w2 := kc_nle c22; have w3 := (show t20.toInt = (kBn (a 2) : Int) from by rw [et20, hkB, kBn_tk1 hp0 (by have w9 := (kBn_b hp0).1; have w8 := hvlp17_4; omega)]; exact (kBn_b hp0).2); omega : mm < kBn (a 2))) qt118 (gl_v hw120.2.1 hw120.2.2.1 hw120.2.2.2 hw124.2.1 hw124.2.2.1 hw124.2.2.2)) (by rw [show a_128 29 = B16 29 from ((show a_128 29 = a_111 29 from by rw [← ea_128]; rfl).trans (show a_111 29 = B16 29 from by rw [← ea_111]; rfl))]; exact hvlp17_2) (by rw [show a_128 30 = B16 30 from ((show a_128 30 = a_111 30 from by rw [← ea_128]; rfl).trans (show a_111 30 = B16 30 from by rw [← ea_111]; rfl))]; exact hvlp17_3) ((by have w1 := hvlp17_0; have w2 := kc_nle c22; have w3 := (show t20.toInt = (kBn (a 2) : Int) from by rw [et20, hkB, kBn_tk1 hp0 (by have w9 := (kBn_b hp0).1; have w8 := hvlp17_4; omega)]; exact (kBn_b hp0).2); omega : mm < kBn (a 2))) hP hD hS (lv_sub hl [0, 2, 3, 4] rfl)
              · exact kb_dj c74 kc_1 kc_0 (by decide)
        exact lp17 (7) 0 B6 _ _ _ 0 (by have h1 := (kc_0); unfold kb at h1; omega) hI hE hZ (kb_w kc_0 (by decide) (by decide)) (by decide +kernel) (hkA) (hd29) (hd30) (Nat.zero_le _) hP hD hS (lv_sub hl [0, 1, 2, 3] rfl)
      · have h131 := (kc_nle c13)
        have b132 : kb 0 y4 5 := kr_lt1 h131 b10 b12 (by decide)
        have b133 : kb 1 t11 6 := kr_lt2 h131 b10 b12 (by decide)
        refine lv_iload_n hx hb dX12_ticks_18 rfl (lv_at hl 3 rfl) ?_
        refine lv_iload_n hx hb dX12_ticks_19 rfl (lv_at hl 0 rfl) ?_
        refine kN.callS (As := [.int who, .int y4]) (rest := []) ⟨hx, hb, hml, hown, hg⟩ (n_isIn l who y4 ) (va_cwS 2 hg (kgS wt6_124 wt6_125 wt1_14 wt6_126) rfl rfl rfl (by decide +kernel) ⟨by decide, by decide⟩) hP hS rfl hl.1 rfl (Nat.le_of_ble_eq_true rfl) dX12_ticks_20 ⟨Nat.le_refl _, Nat.le_refl _⟩ (fun v135 H locs hw134 hP hS => ?_)
        refine k_top (z := 1) (hw134.2.trans (if_pos (allb (kBn_b hp0).1 (by have w1 := hvlp8_0; have w2 := kc_nle c13; have w3 := (show t11.toInt = (kBn (a 2) : Int) from by rw [et11, hkB]; exact (kBn_b hp0).2); omega : nn < kBn (a 2)) hp2 hnn))) ?_
        refine lv_if_eq (tgt := 43) hx hb dX12_ticks_23 (by decide) (fun c137 => ?_) (fun c137 => ?_)
        · exact kb_dj c137 kc_1 kc_0 (by decide)
        · refine lv_aload_n hx hb dX12_ticks_26 rfl (lv_at hl 2 rfl) ?_
          refine va_get (D := D) (ci := 12) (v := .ref (r 2)) (C := RX12) (T := TX12) (N := 48) hx hb hg inC12 hown hK hP 0 rfl rfl 2 (by decide) (hg _ wt5_162) (fun _ h9 => h9) rfl dX12_ticks_27 ?_
          refine lv_bipush (v := 16) hx hb dX12_ticks_30 (by decide) ?_
          refine lv_iload_n hx hb dX12_ticks_32 rfl (lv_at hl 0 rfl) ?_
          refine lv_iadd hx hb dX12_ticks_33 ?_
          refine lv_topi (fun t138 et138 => ?_)
          have b139 : kb 16 t138 21 := kb_eq et138 (kb_add kc_16 b132 (by decide) (by decide))
          have qt138 : t138.toInt = 16 + y4.toInt := by rw [et138]; exact kt_cadd kc_16 b132 (by decide) (by decide)
          refine va_iald hx hb hK hP 2 0 rfl rfl (kb_in b139 (by decide) (by decide)) dX12_ticks_34 ?_
          refine lv_topi (fun t140 et140 => ?_)
          have b141 : kb (-1) t140 9 := kb_eq et140 (aI_ld hI.2.1 2 16 6 b139 (by decide) (by decide) (by decide +kernel))
          refine lv_iconst (v := (-1)) hx hb dX12_ticks_35 (by decide) ?_
          refine lv_icmp_eq (tgt := 43) hx hb dX12_ticks_36 (by decide) (fun c142 => ?_) (fun c142 => ?_)
          · have b143 : kb (-1) t140 (-1) := kb_eq c142 kc_m1
            refine lv_iconst (v := 0) hx hb dX12_ticks_43 (by decide) ?_
            refine lv_istore (lv' := [(4, .int 0), (3, .int y4), (2, .int v2), (0, .ref o), (1, .int who)]) hx hb dX12_ticks_44 hl (by decide) rfl (fun ls hl => ?_)
            refine lv_aload_n hx hb dX12_ticks_46 rfl (lv_at hl 3 rfl) ?_
            refine va_get (D := D) (ci := 12) (v := .ref (r 29)) (C := RX12) (T := TX12) (N := 48) hx hb hg inC12 hown hK hP 0 rfl rfl 29 (by decide) (hg _ wt5_189) (fun _ h9 => h9) rfl dX12_ticks_47 ?_
            refine lv_iload_n hx hb dX12_ticks_50 rfl (lv_at hl 1 rfl) ?_
            refine lv_iload hx hb dX12_ticks_51 (lv_at hl 0 rfl) ?_
            refine lv_if_eq (tgt := 73) hx hb dX12_ticks_53 (by decide) (fun c144 => ?_) (fun c144 => ?_)
            · refine lv_iconst (v := 0) hx hb dX12_ticks_73 (by decide) ?_
              refine va_iast hx hb hK hP hD hS 13 0 rfl rfl (kb_in b132 (by decide) (by decide)) dX12_ticks_74 (fun H locs hP hD hS => ?_)
              have hP : va_P D vwCl (mW K o r F5 (va_up B6 29 (upd (B6 29) y4.toNatClampNeg 0)) G7) H := hP
              have hD : va_D A (mW K o r F5 (va_up B6 29 (upd (B6 29) y4.toNatClampNeg 0)) G7) := hD
              refine k_gen (P := fun z => va_P D vwCl (mW K o r F5 z G7) H ∧ va_D A (mW K o r F5 z G7) ∧ (mI F5 z) ∧ (mE (XR [(0, 23)]) f a F5 z) ∧ (mZ [22, 23, 24, 25] [2, 26, 29, 30] f a F5 z) ∧ (z 2 = a 2)) (va_up B6 29 (upd (B6 29) y4.toNatClampNeg 0)) ⟨hP, hD, (mI_s hI (aI_sx hI.2.1 29 0 6 b132 (by decide) (by decide) kc_0 (by decide +kernel)) (by decide) (by decide)), (mE_s hE (by decide) (by decide) (by decide) (by decide)), (mZ_a hZ rfl), hk0⟩ (fun a_145 ea_145 hq => ?_)
              obtain ⟨hP, hD, hI, hE, hZ, hk0⟩ := hq
              refine lv_aload_n hx hb dX12_ticks_75 rfl (lv_at hl 3 rfl) ?_
              refine va_get (D := D) (ci := 12) (v := .ref (r 30)) (C := RX12) (T := TX12) (N := 48) hx hb hg inC12 hown hK hP 0 rfl rfl 30 (by decide) (hg _ wt5_190) (fun _ h9 => h9) rfl dX12_ticks_76 ?_
              refine lv_iload_n hx hb dX12_ticks_79 rfl (lv_at hl 1 rfl) ?_
              refine lv_iload hx hb dX12_ticks_80 (lv_at hl 0 rfl) ?_
              refine lv_if_eq (tgt := 102) hx hb dX12_ticks_82 (by decide) (fun c146 => ?_) (fun c146 => ?_)
              · refine lv_bipush (v := (-2)) hx hb dX12_ticks_102 (by decide) ?_
                refine va_iast hx hb hK hP hD hS 14 0 rfl rfl (kb_in b132 (by decide) (by decide)) dX12_ticks_104 (fun H locs hP hD hS => ?_)
                have hP : va_P D vwCl (mW K o r F5 (va_up a_145 30 (upd (a_145 30) y4.toNatClampNeg (-2))) G7) H := hP
                have hD : va_D A (mW K o r F5 (va_up a_145 30 (upd (a_145 30) y4.toNatClampNeg (-2))) G7) := hD
                refine k_gen (P := fun z => va_P D vwCl (mW K o r F5 z G7) H ∧ va_D A (mW K o r F5 z G7) ∧ (mI F5 z) ∧ (mE (XR [(0, 23)]) f a F5 z) ∧ (mZ [22, 23, 24, 25] [2, 26, 29, 30] f a F5 z) ∧ (z 2 = a 2)) (va_up a_145 30 (upd (a_145 30) y4.toNatClampNeg (-2))) ⟨hP, hD, (mI_s hI (aI_sx hI.2.1 30 0 6 b132 (by decide) (by decide) kc_m2 (by decide +kernel)) (by decide) (by decide)), (mE_s hE (by decide) (by decide) (by decide) (by decide)), (mZ_a hZ rfl), hk0⟩ (fun a_147 ea_147 hq => ?_)
                obtain ⟨hP, hD, hI, hE, hZ, hk0⟩ := hq
                obtain ⟨t148, et148⟩ : ∃ z : Int32, z = y4 + Int32.ofInt 1 := ⟨_, rfl⟩
                have qt148 : t148.toInt = y4.toInt + 1 := by rw [et148]; exact km_inc b132 (by decide) (by decide)
                have b149 : kb 1 t148 6 := kb_inc (k := 1) qt148 b132
                refine lv_iinc (v := t148) (lv' := [(3, .int t148), (4, .int 0), (2, .int v2), (0, .ref o), (1, .int who)]) hx hb dX12_ticks_105 hl (k := 1) rfl et148.symm (by decide) rfl (fun ls hl => ?_)
                refine lv_goto (tgt := 7) hx hb dX12_ticks_108 (by decide) ?_
                exact ihlp8 (nn + 1) F5 a_147 G7 _ _ _ t148 (km_up hmlp8 qt148) hI hE hZ hk0 (kb_w b149 (by decide) (by decide)) (by have w1 := hvlp8_0; have w2 := qt148; omega) (cp_sI hvlp8_1 ((show a_147 29 = a_145 29 from by rw [← ea_147]; rfl).trans (show a_145 29 = upd (B6 29) y4.toNatClampNeg 0 from by rw [← ea_145]; rfl)) (cl_nat hvlp8_0) (dn_n ((show t140 = a 2 (16 + nn) from et140.trans ((congrFun hkB _).trans (congrArg (a 2) (show t138.toNatClampNeg = 16 + nn from by have w1 := hvlp8_0; have w2 := qt138; unfold Int32.toNatClampNeg; omega)))).symm.trans c142))) (cp_sI hvlp8_2 ((show a_147 30 = upd (a_145 30) y4.toNatClampNeg (-2) from by rw [← ea_147]; rfl).trans (congrArg (fun zz_ => upd zz_ y4.toNatClampNeg (-2)) (show a_145 30 = B6 30 from by rw [← ea_145]; rfl))) (cl_nat hvlp8_0) (tr_n ((show t140 = a 2 (16 + nn) from et140.trans ((congrFun hkB _).trans (congrArg (a 2) (show t138.toNatClampNeg = 16 + nn from by have w1 := hvlp8_0; have w2 := qt138; unfold Int32.toNatClampNeg; omega)))).symm.trans c142))) ((by have w1 := hvlp8_0; have w2 := kc_nle c13; have w3 := (show t11.toInt = (kBn (a 2) : Int) from by rw [et11, hkB]; exact (kBn_b hp0).2); omega : nn < kBn (a 2))) hP hD hS (lv_sub hl [0, 2, 3, 4] rfl)
              · exact kb_nsame c146 kc_0 kc_0
            · exact kb_nsame c144 kc_0 kc_0
          · have b150 : kb 0 t140 9 := kr_nel c142 b141 kc_m1 (by decide)
            refine lv_iconst (v := 1) hx hb dX12_ticks_39 (by decide) ?_
            refine lv_goto (tgt := 44) hx hb dX12_ticks_40 (by decide) ?_
            refine lv_istore (lv' := [(4, .int 1), (3, .int y4), (2, .int v2), (0, .ref o), (1, .int who)]) hx hb dX12_ticks_44 hl (by decide) rfl (fun ls hl => ?_)
            refine lv_aload_n hx hb dX12_ticks_46 rfl (lv_at hl 3 rfl) ?_
            refine va_get (D := D) (ci := 12) (v := .ref (r 29)) (C := RX12) (T := TX12) (N := 48) hx hb hg inC12 hown hK hP 0 rfl rfl 29 (by decide) (hg _ wt5_189) (fun _ h9 => h9) rfl dX12_ticks_47 ?_
            refine lv_iload_n hx hb dX12_ticks_50 rfl (lv_at hl 1 rfl) ?_
            refine lv_iload hx hb dX12_ticks_51 (lv_at hl 0 rfl) ?_
            refine lv_if_eq (tgt := 73) hx hb dX12_ticks_53 (by decide) (fun c151 => ?_) (fun c151 => ?_)
            · exact kb_dj c151 kc_1 kc_0 (by decide)
            · refine lv_aload_n hx hb dX12_ticks_56 rfl (lv_at hl 3 rfl) ?_
              refine lv_iload_n hx hb dX12_ticks_57 rfl (lv_at hl 1 rfl) ?_
              refine lv_aload_n hx hb dX12_ticks_58 rfl (lv_at hl 3 rfl) ?_
              refine va_get (D := D) (ci := 12) (v := .ref (r 2)) (C := RX12) (T := TX12) (N := 48) hx hb hg inC12 hown hK hP 0 rfl rfl 2 (by decide) (hg _ wt5_162) (fun _ h9 => h9) rfl dX12_ticks_59 ?_
              refine lv_bipush (v := 16) hx hb dX12_ticks_62 (by decide) ?_
              refine lv_iload_n hx hb dX12_ticks_64 rfl (lv_at hl 1 rfl) ?_
              refine lv_iadd hx hb dX12_ticks_65 ?_
              refine k_top (z := t138) et138.symm ?_
              refine va_iald hx hb hK hP 2 0 rfl rfl (kb_in b139 (by decide) (by decide)) dX12_ticks_66 ?_
              refine k_top (z := t140) et140.symm ?_
              refine kI.callV (As := [.int y4, .int t140]) (rest := [.int y4, .ref (r 29)]) ⟨hx, hb, hml, hown, hg⟩ (n_worksBy l o r F5 B6 G7 hI y4 t140 b132 b150 DD (by rw [hk0]; exact hp0) (by rw [hk0]; exact hp1)) (cwV 2 hg (kgV wt7_31 wt7_33 wp5_4 wt1_14 wt7_34) rfl rfl rfl (by decide +kernel) ⟨by decide, by decide⟩) hK hP hD hS hA mIs [] rfl (wr := []) rfl rfl rfl (fun i h => by cases h) 0 12 rfl rfl rfl hl.1 rfl (Nat.le_of_ble_eq_true rfl) dX12_ticks_67 ⟨Nat.le_refl _, Nat.le_refl _⟩ (fun v153 u154 H locs hw152 hP hD hS => ?_)
              obtain ⟨f155, a156, g157⟩ := u154
              have hP : va_P D vwCl (mW K o r f155 a156 g157) H := hP
              have hD : va_D A (mW K o r f155 a156 g157) := hD
              have hI : mI f155 a156 := hw152.2.1
              have hE : mE (XR [(0, 23)]) f a f155 a156 := mE_tr hE (mE_w (XR_w (by decide)) hw152.2.2.1)
              have eE158 : mE (XR []) F5 B6 f155 a156 := hw152.2.2.1
              have eZ159 : mZ [22, 23, 24, 25] [26] F5 B6 f155 a156 := hw152.2.2.2.2
              have hZ : mZ [22, 23, 24, 25] [2, 26, 29, 30] f a f155 a156 := mZ_tr hZ (mZ_w (by decide) (by decide) eZ159)
              have hk0 : a156 2 = a 2 := ((eZ159.2 2 rfl).trans hk0)
              have hby160 : v153.toInt = askF DD (a 2) 0 y4 t140 := by have w1 := hw152.2.2.2.1; rw [(eZ159.2 2 rfl).symm.trans hk0] at w1; exact w1
              refine lv_goto (tgt := 74) hx hb dX12_ticks_70 (by decide) ?_
              refine va_iast hx hb hK hP hD hS 13 0 rfl rfl (kb_in b132 (by decide) (by decide)) dX12_ticks_74 (fun H locs hP hD hS => ?_)
              have hP : va_P D vwCl (mW K o r f155 (va_up a156 29 (upd (a156 29) y4.toNatClampNeg v153)) g157) H := hP
              have hD : va_D A (mW K o r f155 (va_up a156 29 (upd (a156 29) y4.toNatClampNeg v153)) g157) := hD
              refine k_gen (P := fun z => va_P D vwCl (mW K o r f155 z g157) H ∧ va_D A (mW K o r f155 z g157) ∧ (mI f155 z) ∧ (mE (XR [(0, 23)]) f a f155 z) ∧ (mZ [22, 23, 24, 25] [2, 26, 29, 30] f a f155 z) ∧ (z 2 = a 2)) (va_up a156 29 (upd (a156 29) y4.toNatClampNeg v153)) ⟨hP, hD, (mI_s hI (aI_sx hI.2.1 29 0 6 b132 (by decide) (by decide) hw152.1 (by decide +kernel)) (by decide) (by decide)), (mE_s hE (by decide) (by decide) (by decide) (by decide)), (mZ_a hZ rfl), hk0⟩ (fun a_161 ea_161 hq => ?_)
              obtain ⟨hP, hD, hI, hE, hZ, hk0⟩ := hq
              refine lv_aload_n hx hb dX12_ticks_75 rfl (lv_at hl 3 rfl) ?_
              refine va_get (D := D) (ci := 12) (v := .ref (r 30)) (C := RX12) (T := TX12) (N := 48) hx hb hg inC12 hown hK hP 0 rfl rfl 30 (by decide) (hg _ wt5_190) (fun _ h9 => h9) rfl dX12_ticks_76 ?_
              refine lv_iload_n hx hb dX12_ticks_79 rfl (lv_at hl 1 rfl) ?_
              refine lv_iload hx hb dX12_ticks_80 (lv_at hl 0 rfl) ?_
              refine lv_if_eq (tgt := 102) hx hb dX12_ticks_82 (by decide) (fun c162 => ?_) (fun c162 => ?_)
              · exact kb_dj c162 kc_1 kc_0 (by decide)
              · refine lv_aload_n hx hb dX12_ticks_85 rfl (lv_at hl 3 rfl) ?_
                refine lv_iload_n hx hb dX12_ticks_86 rfl (lv_at hl 1 rfl) ?_
                refine lv_aload_n hx hb dX12_ticks_87 rfl (lv_at hl 3 rfl) ?_
                refine va_get (D := D) (ci := 12) (v := .ref (r 2)) (C := RX12) (T := TX12) (N := 48) hx hb hg inC12 hown hK hP 0 rfl rfl 2 (by decide) (hg _ wt5_162) (fun _ h9 => h9) rfl dX12_ticks_88 ?_
                refine lv_bipush (v := 16) hx hb dX12_ticks_91 (by decide) ?_
                refine lv_iload_n hx hb dX12_ticks_93 rfl (lv_at hl 1 rfl) ?_
                refine lv_iadd hx hb dX12_ticks_94 ?_
                refine k_top (z := t138) et138.symm ?_
                refine va_iald hx hb hK hP 2 0 rfl rfl (kb_in b139 (by decide) (by decide)) dX12_ticks_95 ?_
                refine k_top (z := t140) ((show a_161 2 t138.toNatClampNeg = a156 2 t138.toNatClampNeg from by rw [← ea_161]; rfl).trans ((congrFun (eZ159.2 2 rfl) t138.toNatClampNeg).trans et140.symm)) ?_
                refine kI.callV (As := [.int y4, .int t140]) (rest := [.int y4, .ref (r 30)]) ⟨hx, hb, hml, hown, hg⟩ (n_tiresBy l o r f155 a_161 g157 hI y4 t140 b132 b150 DD (by rw [hk0]; exact hp0) (by rw [hk0]; exact hp1)) (cwV 2 hg (kgV wt7_96 wt7_98 wp6_3 wt1_14 wt7_99) rfl rfl rfl (by decide +kernel) ⟨by decide, by decide⟩) hK hP hD hS hA mIs [] rfl (wr := []) rfl rfl rfl (fun i h => by cases h) 0 12 rfl rfl rfl hl.1 rfl (Nat.le_of_ble_eq_true rfl) dX12_ticks_96 ⟨Nat.le_refl _, Nat.le_refl _⟩ (fun v164 u165 H locs hw163 hP hD hS => ?_)
                obtain ⟨f166, a167, g168⟩ := u165
                have hP : va_P D vwCl (mW K o r f166 a167 g168) H := hP
                have hD : va_D A (mW K o r f166 a167 g168) := hD
                have hI : mI f166 a167 := hw163.2.1
                have hE : mE (XR [(0, 23)]) f a f166 a167 := mE_tr hE (mE_w (XR_w (by decide)) hw163.2.2.1)
                have eE169 : mE (XR []) f155 a_161 f166 a167 := hw163.2.2.1
                have eZ170 : mZ [22, 23, 24, 25] [26] f155 a_161 f166 a167 := hw163.2.2.2.2
                have hZ : mZ [22, 23, 24, 25] [2, 26, 29, 30] f a f166 a167 := mZ_tr hZ (mZ_w (by decide) (by decide) eZ170)
                have hk0 : a167 2 = a 2 := ((eZ170.2 2 rfl).trans hk0)
                have hby171 : v164.toInt = askF DD (a 2) 1 y4 t140 := by have w1 := hw163.2.2.2.1; rw [(eZ170.2 2 rfl).symm.trans hk0] at w1; exact w1
                refine lv_goto (tgt := 104) hx hb dX12_ticks_99 (by decide) ?_
                refine va_iast hx hb hK hP hD hS 14 0 rfl rfl (kb_in b132 (by decide) (by decide)) dX12_ticks_104 (fun H locs hP hD hS => ?_)
                have hP : va_P D vwCl (mW K o r f166 (va_up a167 30 (upd (a167 30) y4.toNatClampNeg v164)) g168) H := hP
                have hD : va_D A (mW K o r f166 (va_up a167 30 (upd (a167 30) y4.toNatClampNeg v164)) g168) := hD
                refine k_gen (P := fun z => va_P D vwCl (mW K o r f166 z g168) H ∧ va_D A (mW K o r f166 z g168) ∧ (mI f166 z) ∧ (mE (XR [(0, 23)]) f a f166 z) ∧ (mZ [22, 23, 24, 25] [2, 26, 29, 30] f a f166 z) ∧ (z 2 = a 2)) (va_up a167 30 (upd (a167 30) y4.toNatClampNeg v164)) ⟨hP, hD, (mI_s hI (aI_sx hI.2.1 30 0 6 b132 (by decide) (by decide) hw163.1 (by decide +kernel)) (by decide) (by decide)), (mE_s hE (by decide) (by decide) (by decide) (by decide)), (mZ_a hZ rfl), hk0⟩ (fun a_172 ea_172 hq => ?_)
                obtain ⟨hP, hD, hI, hE, hZ, hk0⟩ := hq
                obtain ⟨t173, et173⟩ : ∃ z : Int32, z = y4 + Int32.ofInt 1 := ⟨_, rfl⟩
                have qt173 : t173.toInt = y4.toInt + 1 := by rw [et173]; exact km_inc b132 (by decide) (by decide)
                have b174 : kb 1 t173 6 := kb_inc (k := 1) qt173 b132
                refine lv_iinc (v := t173) (lv' := [(3, .int t173), (4, .int 1), (2, .int v2), (0, .ref o), (1, .int who)]) hx hb dX12_ticks_105 hl (k := 1) rfl et173.symm (by decide) rfl (fun ls hl => ?_)
                refine lv_goto (tgt := 7) hx hb dX12_ticks_108 (by decide) ?_
                exact ihlp8 (nn + 1) f166 a_172 g168 _ _ _ t173 (km_up hmlp8 qt173) hI hE hZ hk0 (kb_w b174 (by decide) (by decide)) (by have w1 := hvlp8_0; have w2 := qt173; omega) (cp_sI hvlp8_1 ((show a_172 29 = a167 29 from by rw [← ea_172]; rfl).trans ((eZ170.2 29 rfl).trans ((show a_161 29 = upd (a156 29) y4.toNatClampNeg v153 from by rw [← ea_161]; rfl).trans (congrArg (fun zz_ => upd zz_ y4.toNatClampNeg v153) (eZ159.2 29 rfl))))) (cl_nat hvlp8_0) (dn_y (fun w9 => c142 ((show t140 = a 2 (16 + nn) from et140.trans ((congrFun hkB _).trans (congrArg (a 2) (show t138.toNatClampNeg = 16 + nn from by have w1 := hvlp8_0; have w2 := qt138; unfold Int32.toNatClampNeg; omega)))).trans w9)) hnn (show t140 = a 2 (16 + nn) from et140.trans ((congrFun hkB _).trans (congrArg (a 2) (show t138.toNatClampNeg = 16 + nn from by have w1 := hvlp8_0; have w2 := qt138; unfold Int32.toNatClampNeg; omega)))) hby160)) (cp_sI hvlp8_2 ((show a_172 30 = upd (a167 30) y4.toNatClampNeg v164 from by rw [← ea_172]; rfl).trans (congrArg (fun zz_ => upd zz_ y4.toNatClampNeg v164) ((eZ170.2 30 rfl).trans ((show a_161 30 = a156 30 from by rw [← ea_161]; rfl).trans (eZ159.2 30 rfl))))) (cl_nat hvlp8_0) (tr_y (fun w9 => c142 ((show t140 = a 2 (16 + nn) from et140.trans ((congrFun hkB _).trans (congrArg (a 2) (show t138.toNatClampNeg = 16 + nn from by have w1 := hvlp8_0; have w2 := qt138; unfold Int32.toNatClampNeg; omega)))).trans w9)) hnn (show t140 = a 2 (16 + nn) from et140.trans ((congrFun hkB _).trans (congrArg (a 2) (show t138.toNatClampNeg = 16 + nn from by have w1 := hvlp8_0; have w2 := qt138; unfold Int32.toNatClampNeg; omega)))) hby171)) ((by have w1 := hvlp8_0; have w2 := kc_nle c13; have w3 := (show t11.toInt = (kBn (a 2) : Int) from by rw [et11, hkB]; exact (kBn_b hp0).2); omega : nn < kBn (a 2))) hP hD hS (lv_sub hl [0, 2, 3, 4] rfl)
  exact lp8 (7) 0 f a g _ _ _ 0 (by have h1 := (kc_0); unfold kb at h1; omega) hI hE hZ hk0 (kb_w kc_0 (by decide) (by decide)) (by decide +kernel) (fun q h => absurd h (Nat.not_lt_zero q)) (fun q h => absurd h (Nat.not_lt_zero q)) (Nat.zero_le _) hP hD hS (lv_sub hl [0, 1, 2, 3] rfl)
