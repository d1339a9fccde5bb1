/-! the state as one row of numbers k, in the order of the reference's kept row -/
def kBd (i : Nat) : Int × Int := if i < 16 then (0, 99) else if i < 22 then (-1, 9) else if i < 23 then (0, 1000000) else if i < 33 then (0, 99) else if i < 43 then (0, 1023) else if i < 53 then (0, 3) else if i < 63 then (0, 9) else if i < 69 then (0, 15) else if i < 75 then (0, 9) else if i < 99 then (0, 99) else if i < 100 then (1, 99) else if i < 101 then (0, 10) else if i < 102 then (0, 9) else if i < 103 then (0, 10) else if i < 104 then (0, 6) else if i < 105 then (0, 8) else if i < 106 then (0, 6) else (-1, 5)
def kK (k : Nat → Int32) : Prop := (∀ i, i < 107 → kb (kBd i).1 (k i) (kBd i).2) ∧ (∀ b, b < 6 → (k (16 + b)).toInt < (k 102).toInt) ∧ (k 106).toInt < (k 105).toInt
theorem kK_r {k : Nat → Int32} (h : kK k) (i : Nat) (l u : Int) (hi : i < 107) (e : kBd i = (l, u)) : kb l (k i) u := by
  have := h.1 i hi
  rw [e] at this
  exact this
/-- bounds of a stretch of k -/
theorem kK_s {k : Nat → Int32} (h : kK k) (s n : Nat) (l u : Int) (hs : s + n ≤ 107) (e : ∀ j, j < n → kBd (s + j) = (l, u)) {j : Nat} (hj : j < n) : kb l (k (s + j)) u := kK_r h (s + j) l u (by omega) (e j hj)
/-- how many others are at a part -/
def oth (k : Nat → Int32) (b p : Int32) : Nat → Nat
  | 0 => 0
  | n + 1 => oth k b p n + (if ¬ nI n = b ∧ k (16 + n) = p then 1 else 0)
theorem oth_le (k : Nat → Int32) (b p : Int32) : ∀ n, oth k b p n ≤ n
  | 0 => Nat.le_refl 0
  | n + 1 => by
    have := oth_le k b p n
    unfold oth
    split <;> omega
def crB (k : Nat → Int32) (b p : Nat) : Int32 := (k (63 + b) >>> (k (43 + p) &&& 31)) &&& 1
def lwW (k : Nat → Int32) (b p : Int32) (n : Nat) : Int :=
  if n = 0 then b.toInt else if n = 1 then (k (69 + b.toNatClampNeg)).toInt else if n = 2 then (k (10 + b.toNatClampNeg)).toInt else if n = 3 then p.toInt
  else if n = 4 then (crB k b.toNatClampNeg p.toNatClampNeg).toInt else if n = 5 then (k (53 + p.toNatClampNeg)).toInt else if n = 6 then (k (0 + p.toNatClampNeg)).toInt
  else if n = 7 then (oth k b p (k 103).toInt.toNat : Int) else if n = 8 then (k 22).toInt else if n = 9 then (k 101).toInt else 0
def kHd (kd : Nat) : Int32 := if kd = 0 then 2004 else if kd = 1 then 2005 else if kd = 2 then 2006 else 2007
def kHi (kd : Nat) : Int := if kd = 0 then 20 else if kd = 1 then 20 else if kd = 2 then 10 else 1
/-- what is told without a law -/
def wo0 (k : Nat → Int32) (kd : Nat) (b p : Int32) : Int := if kd = 0 then (if crB k b.toNatClampNeg p.toNatClampNeg = 1 then (k (69 + b.toNatClampNeg)).toInt else 0) else if kd = 3 then 0 else 1
def askF (DD : Nat → tE) (k : Nat → Int32) (kd : Nat) (b p : Int32) : Int := if k 106 = -1 then wo0 k kd b p else lwV (DD (k 106).toInt.toNat) (kHd kd) (lwW k b p) (kHi kd) (wo0 k kd b p)
theorem and1 (x : Int32) : x &&& 1 = 0 ∨ x &&& 1 = 1 := by
  obtain ⟨j, hj, e⟩ := pk_andE (m := 1) x 1 (by decide +kernel)
  have : j = 0 ∨ j = 1 := by omega
  rcases this with h | h
  · left; rw [e, h]; rfl
  · right; rw [e, h]; rfl
theorem crB_b (k : Nat → Int32) (b p : Nat) : kb 0 (crB k b p) 1 := by
  rcases and1 (k (63 + b) >>> (k (43 + p) &&& 31)) with h | h
  · unfold crB; rw [h]; exact ⟨by decide +kernel, by decide +kernel⟩
  · unfold crB; rw [h]; exact ⟨by decide +kernel, by decide +kernel⟩
theorem lwW_b {k : Nat → Int32} (h : kK k) {b p : Int32} (hb : kb 0 b 5) (hp : kb 0 p 9) : wB (lwW k b p) := by
  intro n
  have b1 := hb.1
  have b2 := hb.2
  have p1 := hp.1
  have p2 := hp.2
  have hb5 : b.toNatClampNeg < 6 := by unfold Int32.toNatClampNeg; omega
  have hp9 : p.toNatClampNeg < 10 := by unfold Int32.toNatClampNeg; omega
  have q1 := kK_s h 69 6 0 9 (by decide) (by decide) hb5
  have q2 := kK_s h 10 6 0 99 (by decide) (by decide) hb5
  have q3 := crB_b k b.toNatClampNeg p.toNatClampNeg
  have q4 := kK_s h 53 10 0 9 (by decide) (by decide) hp9
  have q5 := kK_s h 0 10 0 99 (by decide) (by decide) hp9
  have q6 := oth_le k b p (k 103).toInt.toNat
  have q7 := kK_r h 103 0 6 (by decide) (by decide)
  have q8 := kK_r h 22 0 1000000 (by decide) (by decide)
  have q9 := kK_r h 101 0 9 (by decide) (by decide)
  unfold kb at q1 q2 q3 q4 q5 q7 q8 q9
  unfold lwW oBp
  repeat' split
  all_goals omega
def hsV (x n : Int32) : Int32 := if 0 ≤ x.toInt ∧ x.toInt < n.toInt then 1 else 0
theorem nI_q {x : Int32} {n : Nat} (h : x.toInt = (n : Int)) : x = nI n := by
  obtain ⟨m, e, hm, hl⟩ := kn_nat (x := x) (l := 0) (h := 2147483647) ⟨by omega, by have := Int32.toInt_lt x; omega⟩ (by decide)
  rw [e, show m = n by omega]
theorem bit_y {c v : Int32} (h : v = (if c = 1 then 1 else 0)) (q : ¬ v = 0) : c = 1 := by
  by_cases e : c = 1
  · exact e
  · rw [if_neg e] at h; exact absurd h q
theorem bit_n {c v : Int32} (h : v = (if c = 1 then 1 else 0)) (q : v = 0) : ¬ c = 1 := by
  intro e
  rw [if_pos e, q] at h
  exact absurd h (by decide +kernel)
theorem kHd_i (n : Nat) (h : n < 4) : (kHd n).toInt = 2004 + (n : Int) := by
  have : ∀ n < 4, (kHd n).toInt = 2004 + (n : Int) := by decide +kernel
  exact this n h
theorem hd_eq {kd h : Int32} (b : kb 0 kd 3) (e : kd.toInt = h.toInt - 2004) : h = kHd kd.toInt.toNat := by
  have b1 := b.1
  have b2 := b.2
  apply Int32.toInt_inj.mp
  rw [kHd_i _ (by omega)]
  omega
theorem hd_v {kd h : Int32} (b : kb 0 kd 3) (e : h.toInt = (kHd kd.toInt.toNat).toInt) : h.toInt - 2004 = kd.toInt := by
  have b1 := b.1
  have b2 := b.2
  rw [kHd_i _ (by omega)] at e
  omega
/-! masks -/
def bM (P : Nat → Bool) : Nat → Nat
  | 0 => 0
  | n + 1 => bM P n + (if P n = true then 2 ^ n else 0)
theorem bM_lt (P : Nat → Bool) : ∀ n, bM P n < 2 ^ n
  | 0 => (by show 0 < 1; decide)
  | n + 1 => by
    have h := bM_lt P n
    have e : 2 ^ (n + 1) = 2 ^ n + 2 ^ n := by rw [Nat.pow_succ]; omega
    show bM P n + _ < _
    split <;> omega
theorem bM_bit (P : Nat → Bool) (i : Nat) : ∀ n, (bM P n).testBit i = (decide (i < n) && P i)
  | 0 => by
    show Nat.testBit 0 i = _
    rw [Nat.zero_testBit]; rfl
  | n + 1 => by
    have h := bM_bit P i n
    have hl := bM_lt P n
    show (bM P n + _).testBit i = _
    by_cases q : P n = true
    · rw [if_pos q, Nat.add_comm, show 2 ^ n + bM P n = 2 ^ n * 1 + bM P n by omega, Nat.testBit_two_pow_mul_add 1 hl i]
      by_cases w : i < n
      · rw [if_pos w, h, decide_eq_true w, decide_eq_true (show i < n + 1 by omega)]
      · rw [if_neg w]
        by_cases z : i = n
        · rw [z, Nat.sub_self, q, decide_eq_true (show n < n + 1 by omega)]; rfl
        · rw [decide_eq_false (show ¬ i < n + 1 by omega), Bool.false_and, show i - n = (i - n - 1) + 1 by omega]
          exact Nat.testBit_succ 1 _ ▸ (by rw [show 1 / 2 = 0 from rfl, Nat.zero_testBit])
    · rw [if_neg q, Nat.add_zero, h]
      by_cases w : i < n
      · rw [decide_eq_true w, decide_eq_true (show i < n + 1 by omega)]
      · by_cases z : i = n
        · rw [z, Bool.eq_false_iff.mpr q, Bool.and_false, Bool.and_false]
        · rw [decide_eq_false w, decide_eq_false (show ¬ i < n + 1 by omega)]
theorem bM_s {P : Nat → Bool} {n : Nat} (h : P n = true) : bM P (n + 1) = bM P n ||| 2 ^ n := by
  have hl := bM_lt P n
  show bM P n + _ = _
  rw [if_pos h, Nat.or_comm, show 2 ^ n ||| bM P n = 2 ^ n * 1 ||| bM P n by rw [Nat.mul_one], ← Nat.two_pow_add_eq_or_of_lt hl]
  omega
theorem bM_n {P : Nat → Bool} {n : Nat} (h : ¬ P n = true) : bM P (n + 1) = bM P n := by
  show bM P n + _ = _
  rw [if_neg h, Nat.add_zero]
theorem bM_10 (P : Nat → Bool) {n : Nat} (h : n ≤ 10) : bM P n < 1024 := Nat.lt_of_lt_of_le (bM_lt P n) (Nat.le_trans (Nat.pow_le_pow_right (by decide) h) (by decide))
theorem nI_or {a b : Nat} (ha : a < 2 ^ 31) (hb : b < 2 ^ 31) : nI a ||| nI b = nI (a ||| b) := by
  have hab : a ||| b < 2 ^ 31 := Nat.or_lt_two_pow ha hb
  apply Int32.toBitVec_inj.mp
  apply BitVec.eq_of_toNat_eq
  rw [kn_bv (Nat.lt_trans hab (by decide)), Int32.toBitVec_or, BitVec.toNat_or, kn_bv (Nat.lt_trans ha (by decide)), kn_bv (Nat.lt_trans hb (by decide))]
/-- one more bit -/
theorem mk_y {P : Nat → Bool} {n : Nat} {m x y v : Int32} (hn : n < 10) (hm : m = nI (bM P n)) (hx : x = nI n) (hy : y = (1 : Int32) <<< (x &&& 31)) (hv : v = m ||| y) (h : P n = true) : v = nI (bM P (n + 1)) := by
  have h1 := bM_10 P (n := n) (by omega)
  have h2 : 2 ^ n ≤ 2 ^ 9 := Nat.pow_le_pow_right (by decide) (by omega)
  rw [hv, hm, hy, hx, kn_shl ⟨n, by omega⟩, nI_or (Nat.lt_trans h1 (by decide)) (Nat.lt_of_le_of_lt h2 (by decide)), bM_s h]
theorem mk_n {P : Nat → Bool} {n : Nat} {m : Int32} (hm : m = nI (bM P n)) (h : ¬ P n = true) : m = nI (bM P (n + 1)) := by rw [bM_n h]; exact hm
/-- a bit of a mask, as the programs ask it -/
theorem mk_t {s q : Nat} {x y : Int32} (hs : s < 1024) (hq : q < 10) (hx : x = nI s) (hy : y = nI q) : (x >>> (y &&& 31)) &&& 1 = if s.testBit q = true then 1 else 0 := by
  have h1 : nI s >>> (nI q &&& 31) = nI (s / 2 ^ q) := by
    refine pk_shrN (by omega) _ q ?_
    have : ∀ q : Fin 10, (((nI q.val) &&& 31).toBitVec.smod 32).toNat = q.val := by decide +kernel
    exact this ⟨q, hq⟩
  have h2 : nI (s / 2 ^ q) &&& 1 = nI (s / 2 ^ q % 2 ^ 1) := pk_andN (Nat.lt_of_le_of_lt (Nat.div_le_self _ _) (by omega)) 1 (by decide)
  rw [hx, hy, h1, h2, Nat.testBit_eq_decide_div_mod_eq]
  have h3 : s / 2 ^ q % 2 = 0 ∨ s / 2 ^ q % 2 = 1 := by omega
  rcases h3 with h3 | h3
  · rw [show s / 2 ^ q % 2 ^ 1 = 0 from h3, if_neg (by decide)]; rfl
  · rw [show s / 2 ^ q % 2 ^ 1 = 1 from h3, if_pos (by decide)]; rfl
/-! what stands, what is ready -/
def kPn (k : Nat → Int32) : Nat := (k 102).toInt.toNat
def kBn (k : Nat → Int32) : Nat := (k 103).toInt.toNat
def upB (k : Nat → Int32) (p : Nat) : Bool := decide (k (0 + p) = 0)
def upM (k : Nat → Int32) : Int32 := nI (bM (upB k) (kPn k))
def rdB (k : Nat → Int32) (p : Nat) : Bool := !(upB k p) && decide (k (33 + p) &&& (upM k ^^^ (-1)) = 0)
def rdM (k : Nat → Int32) : Int32 := nI (bM (rdB k) (kPn k))
theorem kPn_b {k : Nat → Int32} (h : kK k) : kPn k ≤ 10 ∧ (k 102).toInt = (kPn k : Int) := by
  have b := kK_r h 102 0 10 (by decide) (by decide)
  have b1 := b.1
  have b2 := b.2
  unfold kPn
  omega
theorem kBn_b {k : Nat → Int32} (h : kK k) : kBn k ≤ 6 ∧ (k 103).toInt = (kBn k : Int) := by
  have b := kK_r h 103 0 6 (by decide) (by decide)
  have b1 := b.1
  have b2 := b.2
  unfold kBn
  omega
theorem rdM_t {k : Nat → Int32} (h : kK k) {p : Nat} {y : Int32} (hp : p < kPn k) (hy : y = nI p) : (rdM k >>> (y &&& 31)) &&& 1 = if rdB k p = true then 1 else 0 := by
  have hb := (kPn_b h).1
  unfold rdM
  rw [mk_t (bM_10 (rdB k) hb) (by omega) rfl hy, bM_bit, decide_eq_true hp, Bool.true_and]
theorem or_0 (x : Int32) : x ||| 0 = x := by
  apply Int32.toBitVec_inj.mp
  rw [Int32.toBitVec_or]
  exact BitVec.or_zero
theorem bit0_y {c v : Int32} (h : v = (if c = 0 then 1 else 0)) (q : ¬ v = 0) : c = 0 := by
  by_cases e : c = 0
  · exact e
  · rw [if_neg e] at h; exact absurd h q
theorem bit0_n {c v : Int32} (h : v = (if c = 0 then 1 else 0)) (q : v = 0) : ¬ c = 0 := by
  intro e
  rw [if_pos e, q] at h
  exact absurd h (by decide +kernel)
theorem bit1_y {b : Bool} {v : Int32} (h : v = (if b = true then 1 else 0)) (q : ¬ v = 0) : b = true := by
  by_cases e : b = true
  · exact e
  · rw [if_neg e] at h; exact absurd h q
theorem bit1_n {b : Bool} {v : Int32} (h : v = (if b = true then 1 else 0)) (q : v = 0) : ¬ b = true := by
  intro e
  rw [if_pos e, q] at h
  exact absurd h (by decide +kernel)
def pop (s : Nat) : Nat := s % 2 + s / 2 % 2 + s / 4 % 2 + s / 8 % 2 + s / 16 % 2 + s / 32 % 2 + s / 64 % 2 + s / 128 % 2 + s / 256 % 2 + s / 512 % 2
theorem nI_ofI {x : Int32} {n : Nat} (h : x.toInt = (n : Int)) (hn : n < 2 ^ 31) : x = nI n := Int32.toInt_inj.mp (by rw [h, kn_to hn])
def popI (x : Nat) : Nat → Nat | 0 => 0 | k + 1 => popI x k + x / 2 ^ k % 2
theorem popI_10 (x : Nat) : popI x 10 = pop x := by
  unfold pop
  simp only [popI]
  show 0 + x / 1 % 2 + x / 2 % 2 + x / 4 % 2 + x / 8 % 2 + x / 16 % 2 + x / 32 % 2 + x / 64 % 2 + x / 128 % 2 + x / 256 % 2 + x / 512 % 2 = _
  rw [Nat.div_one]; omega
theorem bitI {x k t1 t2 : Int32} {s j : Nat} (e1 : t1 = x >>> (k &&& 31)) (e2 : t2 = t1 &&& 1) (hx : x.toInt = (s : Int)) (hk : k.toInt = (j : Int)) (hs : s < 1024) (hj : j < 10) : t2.toInt = ((s / 2 ^ j % 2 : Nat) : Int) := by
  have h1 : nI s >>> (nI j &&& 31) = nI (s / 2 ^ j) := by
    refine pk_shrN (by omega) _ j ?_
    have : ∀ q : Fin 10, (((nI q.val) &&& 31).toBitVec.smod 32).toNat = q.val := by decide +kernel
    exact this ⟨j, hj⟩
  have h2 : nI (s / 2 ^ j) &&& 1 = nI (s / 2 ^ j % 2 ^ 1) := pk_andN (Nat.lt_of_le_of_lt (Nat.div_le_self _ _) (by omega)) 1 (by decide)
  rw [e2, e1, nI_ofI hx (by omega), nI_ofI hk (by omega), h1, h2, kn_to (by omega)]
set_option maxHeartbeats 4000000 in
set_option maxRecDepth 100000 in
theorem n_stands0  (l : Launch) {D : va_G} {K : Nat → ClassId} (o : Nat) (r : Nat → Nat) (f : Nat → Int32) (a : Nat → Nat → Int32) (g : Nat → Int64) (hI : mI f a) (pt : Int32) (bpt : kb 0 pt 9)   : kI l yX12_stands0 (Cond.code yX12_stands0 cX12_stands0 2 (some .boolean) :: kG) (rmD 1 0 0) D (tysK K) [.ref o, .int pt] (mW K o r f a g) (fun v (_ : Unit) => kb 0 v 1 ∧ v = (if a 2 (0 + pt.toNatClampNeg) = 0 then 1 else 0)) (fun _ => mW K o r f a g) 0 0 := by
  refine kI.of (cc := cX12_stands0) (maxL := 2) (ret := (some .boolean)) (by decide) rfl (Nat.le_of_ble_eq_true rfl) ?_
  intro p e s m below meth c A hx hb hr hml hown hts hlocks hnm hK hP hD hS hA ls hl
  have hg : ∀ w ∈ kG, w.before _ s = true := fun w h => hts w (List.mem_cons_of_mem _ h)
  have hown : s.vm.findClass RX12 = some m.cls := hown
  have hl : lv_has ls 2 [(0, .ref o), (1, .int pt)] := hl
  refine lv_aload_n hx hb dX12_stands0_0 rfl (lv_at hl 0 rfl) ?_
  refine va_get (D := D) (ci := 12) (v := .ref (r 2)) (C := RX12) (T := TX12) (N := 48) hx hb hg inC12 hown hK hP 0 rfl rfl 2 (by decide) (hg _ wt5_162) (fun _ h9 => h9) rfl dX12_stands0_1 ?_
  refine lv_iconst (v := 0) hx hb dX12_stands0_4 (by decide) ?_
  refine lv_iload_n hx hb dX12_stands0_5 rfl (lv_at hl 1 rfl) ?_
  refine lv_iadd hx hb dX12_stands0_6 ?_
  refine k_top (z := pt) (Int32.zero_add _) ?_
  refine va_iald hx hb hK hP 2 0 rfl rfl (kb_in bpt (by decide) (by decide)) dX12_stands0_7 ?_
  refine lv_topi (fun t1 et1 => ?_)
  have b2 : kb 0 t1 99 := kb_eq et1 (aI_ld hI.2.1 2 0 10 bpt (by decide) (by decide) (by decide +kernel))
  refine lv_if_ne (tgt := 15) hx hb dX12_stands0_8 (by decide) (fun c3 => ?_) (fun c3 => ?_)
  · have b4 : kb 1 t1 99 := kr_nel c3 b2 kc_0 (by decide)
    refine lv_iconst (v := 0) hx hb dX12_stands0_15 (by decide) ?_
    exact kI_ret (v := 0) hx hb hr hlocks (by decide +kernel) hK hS dX12_stands0_16 () hP hD ⟨(kb_w kc_0 (by decide) (by decide)), (by rw [← (show t1 = a 2 (0 + pt.toNatClampNeg) from et1.trans (congrArg (a 2) (Nat.zero_add _).symm)), if_neg c3])⟩
  · have b5 : kb 0 t1 0 := kb_eq c3 kc_0
    refine lv_iconst (v := 1) hx hb dX12_stands0_11 (by decide) ?_
    refine lv_goto (tgt := 16) hx hb dX12_stands0_12 (by decide) ?_
    exact kI_ret (v := 1) hx hb hr hlocks (by decide +kernel) hK hS dX12_stands0_16 () hP hD ⟨(kb_w kc_1 (by decide) (by decide)), (by rw [← (show t1 = a 2 (0 + pt.toNatClampNeg) from et1.trans (congrArg (a 2) (Nat.zero_add _).symm)), if_pos c3])⟩
set_option maxHeartbeats 4000000 in
set_option maxRecDepth 100000 in
theorem n_standing  (l : Launch) {D : va_G} {K : Nat → ClassId} (o : Nat) (r : Nat → Nat) (f : Nat → Int32) (a : Nat → Nat → Int32) (g : Nat → Int64) (hI : mI f a)    (hp0 : kK (a 2)) : kI l yX12_standing (Cond.code yX12_standing cX12_standing 3 (some .int) :: kG) (rmD 2 0 0) D (tysK K) [.ref o] (mW K o r f a g) (fun v (_ : Unit) => kb 0 v 1023 ∧ v = upM (a 2)) (fun _ => mW K o r f a g) 0 0 := by
  refine kI.of (cc := cX12_standing) (maxL := 3) (ret := (some .int)) (by decide) rfl (Nat.le_of_ble_eq_true rfl) ?_
  intro p e s m below meth c A hx hb hr hml hown hts hlocks hnm hK hP hD hS hA ls hl
  have hg : ∀ w ∈ kG, w.before _ s = true := fun w h => hts w (List.mem_cons_of_mem _ h)
  have hown : s.vm.findClass RX12 = some m.cls := hown
  have hl : lv_has ls 3 [(0, .ref o)] := hl
  refine lv_iconst (v := 0) hx hb dX12_standing_0 (by decide) ?_
  refine lv_istore_n (lv' := [(1, .int 0), (0, .ref o)]) hx hb dX12_standing_1 rfl hl (by decide) rfl (fun ls hl => ?_)
  refine lv_iconst (v := 0) hx hb dX12_standing_2 (by decide) ?_
  refine lv_istore_n (lv' := [(2, .int 0), (1, .int 0), (0, .ref o)]) hx hb dX12_standing_3 rfl hl (by decide) rfl (fun ls hl => ?_)
  have lp3 : ∀ (n4 : Nat) (nn : Nat) (H : Heap) (locs : List Loc) (ls : Array Slot) (y1 : Int32) (y2 : Int32), (10 < y1.toInt + (n4 : Int)) → (kb 0 y1 10) → (y1.toInt = (nn : Int)) → (y2 = nI (bM (upB (a 2)) nn)) → (nn ≤ kPn (a 2)) → va_P D vwCl (mW K o r f a g) H → va_D A (mW K o r f a g) → va_S A s.heap H locs → lv_has ls 3 [(2, .int y1), (1, .int y2), (0, .ref o)] → W p l e (rmD 2 0 0) s m ([.ref o] : List Value).toArray below meth c H locs 0 0 (kQi D (tysK K) (fun v (_ : Unit) => kb 0 v 1023 ∧ v = upM (a 2)) (fun _ => mW K o r f a g) A below ([.ref o] : List Value).toArray s 0 0) (F0 m 4 ls []) := by
    intro n4
    induction n4 with
    | zero =>
      intro nn  H locs ls y1 y2 hmlp3 b5 hvlp3_0 hvlp3_1 hvlp3_2 hP hD hS hl
      exact (by have h1 := b5.2; have h2 := hmlp3; omega : False).elim
    | succ n4 ihlp3 =>
      intro nn  H locs ls y1 y2 hmlp3 b5 hvlp3_0 hvlp3_1 hvlp3_2 hP hD hS hl
      have hnn : y1 = nI nn := nI_q hvlp3_0
      have hmm := hvlp3_1
      refine lv_iload_n hx hb dX12_standing_4 rfl (lv_at hl 0 rfl) ?_
      refine lv_aload_n hx hb dX12_standing_5 rfl (lv_at hl 2 rfl) ?_
      refine va_get (D := D) (ci := 12) (v := .ref (r 2)) (C := RX12) (T := TX12) (N := 48) hx hb hg inC12 hown hK hP 0 rfl rfl 2 (by decide) (hg _ wt5_162) (fun _ h9 => h9) rfl dX12_standing_6 ?_
      refine lv_bipush (v := 102) hx hb dX12_standing_9 (by decide) ?_
      refine va_iald hx hb hK hP 2 0 rfl rfl (kb_in kc_102 (by decide) (by decide)) dX12_standing_11 ?_
      refine lv_topi (fun t6 et6 => ?_)
      rw [cl_102] at et6
      have b7 : kb 0 t6 10 := kb_eq et6 (aI_at hI.2.1 2 102 (by decide) (by decide))
      refine lv_icmp_ge (tgt := 39) hx hb dX12_standing_12 (by decide) (fun c8 => ?_) (fun c8 => ?_)
      · have h9 := (kc_le c8)
        refine lv_iload_n hx hb dX12_standing_39 rfl (lv_at hl 1 rfl) ?_
        have b10 : kb 0 y2 1023 := kb_eq hmm (kb_nI (n := bM (upB (a 2)) nn) (N := 1023) (by have w1 := bM_10 (upB (a 2)) (n := nn) (by have w2 := hvlp3_2; have w3 := (kPn_b hp0).1; omega); omega) (by decide))
        exact kI_ret (v := y2) hx hb hr hlocks rfl hK hS dX12_standing_40 () hP hD ⟨b10, (by unfold upM; rw [← (show nn = kPn (a 2) by have w1 := hvlp3_0; have w3 := (kPn_b hp0).1; have w4 := (kPn_b hp0).2; have w5 := hvlp3_2; have w2 := kc_le c8; have w6 := congrArg Int32.toInt et6; omega)]; exact hmm)⟩
      · have h11 := (kc_nle c8)
        have b12 : kb 0 y1 9 := kr_lt1 h11 b5 b7 (by decide)
        have b13 : kb 1 t6 10 := kr_lt2 h11 b5 b7 (by decide)
        refine lv_iload_n hx hb dX12_standing_15 rfl (lv_at hl 1 rfl) ?_
        refine lv_aload_n hx hb dX12_standing_16 rfl (lv_at hl 2 rfl) ?_
        refine lv_iload_n hx hb dX12_standing_17 rfl (lv_at hl 0 rfl) ?_
        refine kI.callV (As := [.int y1]) (rest := [.int y2]) ⟨hx, hb, hml, hown, hg⟩ (n_stands0 l o r f a g hI y1 b12 ) (cwV 1 hg (kgV wt6_112 wt6_114 wp3_12 wt1_14 wt6_115) rfl rfl rfl (by decide +kernel) ⟨by decide, by decide⟩) hK hP hD hS hA mIs [] rfl (wr := []) rfl rfl rfl (fun i h => by cases h) 0 12 rfl rfl rfl hl.1 rfl (Nat.le_of_ble_eq_true rfl) dX12_standing_18 ⟨Nat.le_refl _, Nat.le_refl _⟩ (fun v15 u16 H locs hw14 hP hD hS => ?_)
        have hP : va_P D vwCl (mW K o r f a g) H := hP
        have hD : va_D A (mW K o r f a g) := hD
        refine lv_if_eq (tgt := 30) hx hb dX12_standing_21 (by decide) (fun c17 => ?_) (fun c17 => ?_)
        · have b18 : kb 0 v15 0 := kb_eq c17 kc_0
          refine lv_iconst (v := 0) hx hb dX12_standing_30 (by decide) ?_
          refine lv_ior hx hb dX12_standing_31 ?_
          refine lv_topi (fun t19 et19 => ?_)
          refine lv_istore_n (lv' := [(1, .int t19), (2, .int y1), (0, .ref o)]) hx hb dX12_standing_32 rfl hl (by decide) rfl (fun ls hl => ?_)
          obtain ⟨t20, et20⟩ : ∃ z : Int32, z = y1 + Int32.ofInt 1 := ⟨_, rfl⟩
          have qt20 : t20.toInt = y1.toInt + 1 := by rw [et20]; exact km_inc b12 (by decide) (by decide)
          have b21 : kb 1 t20 10 := kb_inc (k := 1) qt20 b12
          refine lv_iinc (v := t20) (lv' := [(2, .int t20), (1, .int t19), (0, .ref o)]) hx hb dX12_standing_33 hl (k := 1) rfl et20.symm (by decide) rfl (fun ls hl => ?_)
          refine lv_goto (tgt := 4) hx hb dX12_standing_36 (by decide) ?_
          exact ihlp3 (nn + 1) _ _ _ t20 t19 (km_up hmlp3 qt20) (kb_w b21 (by decide) (by decide)) (by have w1 := hvlp3_0; have w2 := qt20; omega) (mk_n ((show t19 = y2 from by rw [et19]; exact or_0 _).trans hmm) (fun w9 => bit0_n hw14.2 c17 ((show a 2 (0 + y1.toNatClampNeg) = a 2 (0 + nn) from by rw [cl_nat hvlp3_0]).trans (of_decide_eq_true w9)))) (by have w1 := hvlp3_0; have w2 := kc_nle c8; have w3 := congrArg Int32.toInt et6; have w4 := (kPn_b hp0).2; omega) hP hD hS (lv_sub hl [0, 1, 2] rfl)
        · have b22 : kb 1 v15 1 := kr_nel c17 hw14.1 kc_0 (by decide)
          refine lv_iconst (v := 1) hx hb dX12_standing_24 (by decide) ?_
          refine lv_iload_n hx hb dX12_standing_25 rfl (lv_at hl 0 rfl) ?_
          refine lv_ishl hx hb dX12_standing_26 ?_
          refine lv_topi (fun t23 et23 => ?_)
          have b24 : kb 1 t23 512 := kb_eq et23 (kb_shl (l := 0) (h := 9) b12 (by decide))
          refine lv_goto (tgt := 31) hx hb dX12_standing_27 (by decide) ?_
          refine lv_ior hx hb dX12_standing_31 ?_
          refine lv_topi (fun t25 et25 => ?_)
          refine lv_istore_n (lv' := [(1, .int t25), (2, .int y1), (0, .ref o)]) hx hb dX12_standing_32 rfl hl (by decide) rfl (fun ls hl => ?_)
          obtain ⟨t26, et26⟩ : ∃ z : Int32, z = y1 + Int32.ofInt 1 := ⟨_, rfl⟩
          have qt26 : t26.toInt = y1.toInt + 1 := by rw [et26]; exact km_inc b12 (by decide) (by decide)
          have b27 : kb 1 t26 10 := kb_inc (k := 1) qt26 b12
          refine lv_iinc (v := t26) (lv' := [(2, .int t26), (1, .int t25), (0, .ref o)]) hx hb dX12_standing_33 hl (k := 1) rfl et26.symm (by decide) rfl (fun ls hl => ?_)
          refine lv_goto (tgt := 4) hx hb dX12_standing_36 (by decide) ?_
          exact ihlp3 (nn + 1) _ _ _ t26 t25 (km_up hmlp3 qt26) (kb_w b27 (by decide) (by decide)) (by have w1 := hvlp3_0; have w2 := qt26; omega) (mk_y (by have w1 := hvlp3_0; have w2 := (b12).2; omega) hmm hnn et23 et25 (decide_eq_true ((show a 2 (0 + y1.toNatClampNeg) = a 2 (0 + nn) from by rw [cl_nat hvlp3_0]).symm.trans (bit0_y hw14.2 c17)))) (by have w1 := hvlp3_0; have w2 := kc_nle c8; have w3 := congrArg Int32.toInt et6; have w4 := (kPn_b hp0).2; omega) hP hD hS (lv_sub hl [0, 1, 2] rfl)
  exact lp3 (11) 0 _ _ _ 0 0 (by have h1 := (kc_0); unfold kb at h1; omega) (kb_w kc_0 (by decide) (by decide)) (by decide +kernel) (rfl) (Nat.zero_le _) hP hD hS (lv_sub hl [0, 1, 2] rfl)
set_option maxHeartbeats 4000000 in
set_option maxRecDepth 100000 in
theorem n_isReady  (l : Launch) {D : va_G} {K : Nat → ClassId} (o : Nat) (r : Nat → Nat) (f : Nat → Int32) (a : Nat → Nat → Int32) (g : Nat → Int64) (hI : mI f a) (pt : Int32) (bpt : kb 0 pt 9)  (hp0 : kK (a 2)) : kI l yX12_isReady (Cond.code yX12_isReady cX12_isReady 2 (some .boolean) :: kG) (rmD 3 0 0) D (tysK K) [.ref o, .int pt] (mW K o r f a g) (fun v (_ : Unit) => kb 0 v 1 ∧ v = (if rdB (a 2) pt.toNatClampNeg = true then 1 else 0)) (fun _ => mW K o r f a g) 0 0 := by
  refine kI.of (cc := cX12_isReady) (maxL := 2) (ret := (some .boolean)) (by decide) rfl (Nat.le_of_ble_eq_true rfl) ?_
  intro p e s m below meth c A hx hb hr hml hown hts hlocks hnm hK hP hD hS hA ls hl
  have hg : ∀ w ∈ kG, w.before _ s = true := fun w h => hts w (List.mem_cons_of_mem _ h)
  have hown : s.vm.findClass RX12 = some m.cls := hown
  have hl : lv_has ls 2 [(0, .ref o), (1, .int pt)] := hl
  refine lv_aload_n hx hb dX12_isReady_0 rfl (lv_at hl 0 rfl) ?_
  refine lv_iload_n hx hb dX12_isReady_1 rfl (lv_at hl 1 rfl) ?_
  refine kI.callV (As := [.int pt]) (rest := []) ⟨hx, hb, hml, hown, hg⟩ (n_stands0 l o r f a g hI pt bpt ) (cwV 1 hg (kgV wt6_112 wt6_114 wp3_12 wt1_14 wt6_115) rfl rfl rfl (by decide +kernel) ⟨by decide, by decide⟩) hK hP hD hS hA mIs [] rfl (wr := []) rfl rfl rfl (fun i h => by cases h) 0 12 rfl rfl rfl hl.1 rfl (Nat.le_of_ble_eq_true rfl) dX12_isReady_2 ⟨Nat.le_refl _, Nat.le_refl _⟩ (fun v2 u3 H locs hw1 hP hD hS => ?_)
  have hP : va_P D vwCl (mW K o r f a g) H := hP
  have hD : va_D A (mW K o r f a g) := hD
  refine lv_if_ne (tgt := 31) hx hb dX12_isReady_5 (by decide) (fun c4 => ?_) (fun c4 => ?_)
  · have b5 : kb 1 v2 1 := kr_nel c4 hw1.1 kc_0 (by decide)
    refine lv_iconst (v := 0) hx hb dX12_isReady_31 (by decide) ?_
    exact kI_ret (v := 0) hx hb hr hlocks (by decide +kernel) hK hS dX12_isReady_32 () hP hD ⟨(kb_w kc_0 (by decide) (by decide)), (by rw [if_neg (fun w9 => by unfold rdB at w9; rw [show upB (a 2) pt.toNatClampNeg = true from decide_eq_true (bit0_y hw1.2 c4)] at w9; exact Bool.false_ne_true w9)])⟩
  · have b6 : kb 0 v2 0 := kb_eq c4 kc_0
    refine lv_aload_n hx hb dX12_isReady_8 rfl (lv_at hl 0 rfl) ?_
    refine va_get (D := D) (ci := 12) (v := .ref (r 2)) (C := RX12) (T := TX12) (N := 48) hx hb hg inC12 hown hK hP 0 rfl rfl 2 (by decide) (hg _ wt5_162) (fun _ h9 => h9) rfl dX12_isReady_9 ?_
    refine lv_bipush (v := 33) hx hb dX12_isReady_12 (by decide) ?_
    refine lv_iload_n hx hb dX12_isReady_14 rfl (lv_at hl 1 rfl) ?_
    refine lv_iadd hx hb dX12_isReady_15 ?_
    refine lv_topi (fun t7 et7 => ?_)
    have b8 : kb 33 t7 42 := kb_eq et7 (kb_add kc_33 bpt (by decide) (by decide))
    have qt7 : t7.toInt = 33 + pt.toInt := by rw [et7]; exact kt_cadd kc_33 bpt (by decide) (by decide)
    refine va_iald hx hb hK hP 2 0 rfl rfl (kb_in b8 (by decide) (by decide)) dX12_isReady_16 ?_
    refine lv_topi (fun t9 et9 => ?_)
    refine lv_aload_n hx hb dX12_isReady_17 rfl (lv_at hl 0 rfl) ?_
    refine kI.callV (As := []) (rest := [.int t9]) ⟨hx, hb, hml, hown, hg⟩ (n_standing l o r f a g hI   hp0) (cwV 0 hg (kgV wt6_116 wt6_118 wp3_13 wt1_14 wt6_119) rfl rfl rfl (by decide +kernel) ⟨by decide, by decide⟩) hK hP hD hS hA mIs [] rfl (wr := []) rfl rfl rfl (fun i h => by cases h) 0 12 rfl rfl rfl hl.1 rfl (Nat.le_of_ble_eq_true rfl) dX12_isReady_18 ⟨Nat.le_refl _, Nat.le_refl _⟩ (fun v11 u12 H locs hw10 hP hD hS => ?_)
    have hP : va_P D vwCl (mW K o r f a g) H := hP
    have hD : va_D A (mW K o r f a g) := hD
    refine lv_iconst (v := (-1)) hx hb dX12_isReady_21 (by decide) ?_
    refine lv_ixor hx hb dX12_isReady_22 ?_
    refine lv_topi (fun t13 et13 => ?_)
    refine lv_iand hx hb dX12_isReady_23 ?_
    refine lv_topi (fun t14 et14 => ?_)
    refine lv_if_ne (tgt := 31) hx hb dX12_isReady_24 (by decide) (fun c15 => ?_) (fun c15 => ?_)
    · refine lv_iconst (v := 0) hx hb dX12_isReady_31 (by decide) ?_
      exact kI_ret (v := 0) hx hb hr hlocks (by decide +kernel) hK hS dX12_isReady_32 () hP hD ⟨(kb_w kc_0 (by decide) (by decide)), (by unfold rdB; rw [decide_eq_false (fun w8 => c15 ((show t14 = a 2 (33 + pt.toNatClampNeg) &&& (upM (a 2) ^^^ (-1)) from by rw [et14, et13, (show t9 = a 2 (33 + pt.toNatClampNeg) from et9.trans (congrArg (a 2) (show t7.toNatClampNeg = _ from by have w1 := qt7; have w2 := (bpt).1; unfold Int32.toNatClampNeg; omega))), hw10.2]).trans w8)), Bool.and_false]; rfl)⟩
    · have b16 : kb 0 t14 0 := kb_eq c15 kc_0
      refine lv_iconst (v := 1) hx hb dX12_isReady_27 (by decide) ?_
      refine lv_goto (tgt := 32) hx hb dX12_isReady_28 (by decide) ?_
      exact kI_ret (v := 1) hx hb hr hlocks (by decide +kernel) hK hS dX12_isReady_32 () hP hD ⟨(kb_w kc_1 (by decide) (by decide)), (by unfold rdB; rw [(show upB (a 2) pt.toNatClampNeg = false from decide_eq_false (bit0_n hw1.2 c4)), decide_eq_true ((show t14 = a 2 (33 + pt.toNatClampNeg) &&& (upM (a 2) ^^^ (-1)) from by rw [et14, et13, (show t9 = a 2 (33 + pt.toNatClampNeg) from et9.trans (congrArg (a 2) (show t7.toNatClampNeg = _ from by have w1 := qt7; have w2 := (bpt).1; unfold Int32.toNatClampNeg; omega))), hw10.2]).symm.trans c15)]; rfl)⟩
set_option maxHeartbeats 4000000 in
set_option maxRecDepth 100000 in
theorem n_ones (l : Launch) (x : Int32) (bx : kb 0 x 1023)  : kN l yX12_ones (Cond.code yX12_ones cX12_ones 3 (some .int) :: kG) (rmD 1 0 0) [.int x] (fun v => kb 0 v 10 ∧ v.toInt = ((pop x.toInt.toNat : Nat) : Int)) := by
  refine kN.of (cc := cX12_ones) (maxL := 3) (ret := (some .int)) (by decide) rfl (Nat.le_of_ble_eq_true rfl) ?_
  intro p e s m below meth c hx hb hr hml hown hts hlocks hS ls hl
  have hg : ∀ w ∈ kG, w.before _ s = true := fun w h => hts w (List.mem_cons_of_mem _ h)
  have hown : s.vm.findClass RX12 = some m.cls := hown
  have hl : lv_has ls 3 [(0, .int x)] := hl
  have e10 : (10 : Int32).toInt = 10 := by decide +kernel
  obtain ⟨s_, hs_⟩ : ∃ s_ : Nat, (s_ : Int) = x.toInt := ⟨x.toInt.toNat, by have w1 := bx.1; omega⟩
  refine lv_iconst (v := 0) hx hb dX12_ones_0 (by decide) ?_
  refine lv_istore_n (lv' := [(1, .int 0), (0, .int x)]) hx hb dX12_ones_1 rfl hl (by decide) rfl (fun ls hl => ?_)
  refine lv_iconst (v := 0) hx hb dX12_ones_2 (by decide) ?_
  refine lv_istore_n (lv' := [(2, .int 0), (1, .int 0), (0, .int x)]) hx hb dX12_ones_3 rfl hl (by decide) rfl (fun ls hl => ?_)
  have lp3 : ∀ (n4 : Nat) (j : Nat) (H : Heap) (locs : List Loc) (ls : Array Slot) (y1 : Int32) (y2 : Int32), ((10 : Int) < (j : Int) + (n4 : Int)) → (kb 0 y1 10) → (kb 0 y2 10) → (y2.toInt = ((popI s_ j : Nat) : Int)) → (y1.toInt = (j : Int)) → (j ≤ 10) → (y2.toInt ≤ y1.toInt) → va_S (fun _ => False) s.heap H locs → lv_has ls 3 [(2, .int y1), (1, .int y2), (0, .int x)] → W p l e (rmD 1 0 0) s m ([.int x] : List Value).toArray below meth c H locs 0 0 (kQn (fun v => kb 0 v 10 ∧ v.toInt = ((pop x.toInt.toNat : Nat) : Int)) below ([.int x] : List Value).toArray s) (F0 m 4 ls []) := by
    intro n4
    induction n4 with
    | zero =>
      intro j  H locs ls y1 y2 hmlp3 b5 b6 hvlp3_0 hvlp3_1 hvlp3_2 hvlp3_3 hS hl
      exact (by have w1 := hmlp3; have w2 := hvlp3_2; omega : False).elim
    | succ n4 ihlp3 =>
      intro j  H locs ls y1 y2 hmlp3 b5 b6 hvlp3_0 hvlp3_1 hvlp3_2 hvlp3_3 hS hl
      refine lv_iload_n hx hb dX12_ones_4 rfl (lv_at hl 0 rfl) ?_
      refine lv_bipush (v := 10) hx hb dX12_ones_5 (by decide) ?_
      refine lv_icmp_ge (tgt := 24) hx hb dX12_ones_7 (by decide) (fun c7 => ?_) (fun c7 => ?_)
      · have h8 := (kc_le c7)
        have b9 : kb 10 y1 10 := kr_le2 h8 kc_10 b5
        refine lv_iload_n hx hb dX12_ones_24 rfl (lv_at hl 1 rfl) ?_
        exact kN_ret (v := y2) hx hb hr hlocks rfl hS dX12_ones_25 (⟨b6, (by have w1 : j = 10 := (by have w2 := hvlp3_1; have w3 := hvlp3_2; omega); have w4 := hvlp3_0; rw [w1, popI_10] at w4; have w5 : s_ = x.toInt.toNat := (by omega); rw [← w5]; exact w4)⟩)
      · have h10 := (kc_nle c7)
        have b11 : kb 0 y1 9 := kr_lt1 h10 b5 kc_10 (by decide)
        have b12 : kb 0 y2 9 := ⟨(b6).1, by have h1 := hvlp3_3; have h2 := (b11).2; omega⟩
        refine lv_iload_n hx hb dX12_ones_10 rfl (lv_at hl 1 rfl) ?_
        refine lv_iload_n hx hb dX12_ones_11 rfl (lv_at hl 2 rfl) ?_
        refine lv_iload_n hx hb dX12_ones_12 rfl (lv_at hl 0 rfl) ?_
        refine lv_ishr hx hb dX12_ones_13 ?_
        refine lv_topi (fun t13 et13 => ?_)
        refine lv_iconst (v := 1) hx hb dX12_ones_14 (by decide) ?_
        refine lv_iand hx hb dX12_ones_15 ?_
        refine lv_topi (fun t14 et14 => ?_)
        have b15 : kb 0 t14 1 := kb_eq et14 (kb_and 1 (by decide) (by decide))
        refine lv_iadd hx hb dX12_ones_16 ?_
        refine lv_topi (fun t16 et16 => ?_)
        have b17 : kb 0 t16 10 := kb_eq et16 (kb_add b12 b15 (by decide) (by decide))
        have qt16 : t16.toInt = y2.toInt + t14.toInt := by rw [et16]; exact kt_add b12 b15 (by decide) (by decide)
        refine lv_istore_n (lv' := [(1, .int t16), (2, .int y1), (0, .int x)]) hx hb dX12_ones_17 rfl hl (by decide) rfl (fun ls hl => ?_)
        obtain ⟨t18, et18⟩ : ∃ z : Int32, z = y1 + Int32.ofInt 1 := ⟨_, rfl⟩
        have qt18 : t18.toInt = y1.toInt + 1 := by rw [et18]; exact km_inc b11 (by decide) (by decide)
        have b19 : kb 1 t18 10 := kb_inc (k := 1) qt18 b11
        refine lv_iinc (v := t18) (lv' := [(2, .int t18), (1, .int t16), (0, .int x)]) hx hb dX12_ones_18 hl (k := 1) rfl et18.symm (by decide) rfl (fun ls hl => ?_)
        refine lv_goto (tgt := 4) hx hb dX12_ones_21 (by decide) ?_
        exact ihlp3 (j + 1) _ _ _ t18 t16 (by omega) (kb_w b19 (by decide) (by decide)) b17 (by have w1 := bitI et13 et14 hs_.symm hvlp3_1 (by have w2 := bx.2; omega) (by omega); have w3 : popI s_ (j + 1) = popI s_ j + s_ / 2 ^ j % 2 := rfl; omega) (by have w1 := hvlp3_1; omega) (by have w1 := hvlp3_1; omega) (by have h1 := hvlp3_3; have h2 := (b15).2; omega) hS (lv_sub hl [0, 1, 2] rfl)
  exact lp3 (11) 0 _ _ _ 0 0 (by omega) (kb_w kc_0 (by decide) (by decide)) (kb_w kc_0 (by decide) (by decide)) (by show (0 : Int32).toInt = ((0 : Nat) : Int); decide +kernel) (by decide +kernel) (Nat.zero_le _) (by decide +kernel) hS (lv_sub hl [0, 1, 2] rfl)
