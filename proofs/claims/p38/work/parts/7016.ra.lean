/-! orders of states that agree below 107 -/
def kQe (k k' : Nat → Int32) : Prop := ∀ i, i < 107 → k' i = k i
def pE (P P' : pS) : Prop := P'.1 = P.1 ∧ ∀ j, j < P.1 → P'.2.1 j = P.2.1 j ∧ kQe (P.2.2 j) (P'.2.2 j)
def dE (R R' : dR) : Prop := R'.1 = R.1 ∧ kQe R.2.1 R'.2.1 ∧ pE R.2.2 R'.2.2
theorem kQe_rf (k : Nat → Int32) : kQe k k := fun _ _ => rfl
theorem pE_rf (P : pS) : pE P P := ⟨rfl, fun _ _ => ⟨rfl, kQe_rf _⟩⟩
theorem ce_bM {U V : Nat → Bool} : ∀ n, (∀ i, i < n → V i = U i) → bM V n = bM U n
  | 0, _ => rfl
  | n + 1, h => by
    unfold bM
    rw [ce_bM n (fun i hi => h i (by omega)), h n (by omega)]
section KE
variable {k k' : Nat → Int32} {DD : Nat → tE} {P P' : pS} {x y b p w w' v v' : Int32} {kd i n q : Nat}
theorem kQe_up (e : kQe k k') (h : v' = v) : kQe (upd k i v) (upd k' i v') := by
  intro j hj
  by_cases c : j = i
  · rw [c, pk_us, pk_us]; exact h
  · rw [pk_un c, pk_un c]; exact e j hj
theorem kQe_kK (e : kQe k k') (hk : kK k) : kK k' := by
  refine ⟨fun i hi => by rw [e i hi]; exact hk.1 i hi, fun b hb => ?_, ?_⟩
  · rw [e (16 + b) (by omega), e 102 (by decide)]; exact hk.2.1 b hb
  · rw [e 106 (by decide), e 105 (by decide)]; exact hk.2.2
theorem pE_kp (hp : pE P P') (e : kQe k k') (hw : w' = w) : pE (kpP P w k) (kpP P' w' k') := by
  obtain ⟨n, u, s⟩ := P
  obtain ⟨n', u', s'⟩ := P'
  have e1 : n' = n := hp.1
  subst e1
  have h2 : ∀ j, j < n' → u' j = u j ∧ kQe (s j) (s' j) := hp.2
  show pE (if n' = 16 then (16, fun j => if j = 15 then w else u (j + 1), fun j => if j = 15 then k else s (j + 1)) else (n' + 1, fun j => if j = n' then w else u j, fun j => if j = n' then k else s j)) (if n' = 16 then (16, fun j => if j = 15 then w' else u' (j + 1), fun j => if j = 15 then k' else s' (j + 1)) else (n' + 1, fun j => if j = n' then w' else u' j, fun j => if j = n' then k' else s' j))
  by_cases c : n' = 16
  · rw [if_pos c, if_pos c]
    refine ⟨rfl, fun j hj => ?_⟩
    have hj : j < 16 := hj
    show (if j = 15 then w' else u' (j + 1)) = (if j = 15 then w else u (j + 1)) ∧ kQe (if j = 15 then k else s (j + 1)) (if j = 15 then k' else s' (j + 1))
    by_cases q : j = 15
    · rw [if_pos q, if_pos q, if_pos q, if_pos q]; exact ⟨hw, e⟩
    · rw [if_neg q, if_neg q, if_neg q, if_neg q]; exact h2 (j + 1) (by omega)
  · rw [if_neg c, if_neg c]
    refine ⟨rfl, fun j hj => ?_⟩
    have hj : j < n' + 1 := hj
    show (if j = n' then w' else u' j) = (if j = n' then w else u j) ∧ kQe (if j = n' then k else s j) (if j = n' then k' else s' j)
    by_cases q : j = n'
    · rw [if_pos q, if_pos q, if_pos q, if_pos q]; exact ⟨hw, e⟩
    · rw [if_neg q, if_neg q, if_neg q, if_neg q]; exact h2 j (by omega)
theorem ce_pn (e : kQe k k') : kPn k' = kPn k := by unfold kPn; rw [e 102 (by decide)]
theorem ce_bn (e : kQe k k') : kBn k' = kBn k := by unfold kBn; rw [e 103 (by decide)]
theorem ce_up (e : kQe k k') (h : q < 107) : upB k' q = upB k q := by unfold upB; rw [e (0 + q) (by omega)]
theorem ce_upM (e : kQe k k') (hk : kK k) : upM k' = upM k := by
  have w := (kPn_b hk).1
  unfold upM
  rw [ce_pn e, ce_bM (U := upB k) (V := upB k') (kPn k) (fun i hi => ce_up e (by omega))]
theorem ce_rd (e : kQe k k') (hk : kK k) (h : q < 10) : rdB k' q = rdB k q := by
  unfold rdB
  rw [ce_up e (by omega), e (33 + q) (by omega), ce_upM e hk]
theorem ce_cr (e : kQe k k') {b p : Nat} (hb : b < 6) (hp : p < 10) : crB k' b p = crB k b p := by
  unfold crB
  rw [e (63 + b) (by omega), e (43 + p) (by omega)]
theorem ce_oth (e : kQe k k') : ∀ n, n ≤ 6 → oth k' b p n = oth k b p n
  | 0, _ => rfl
  | n + 1, h => by
    unfold oth
    rw [ce_oth e n (by omega), e (16 + n) (by omega)]
theorem ce_lwW (e : kQe k k') (hk : kK k) (hb : kb 0 b 5) (hp : kb 0 p 9) : lwW k' b p = lwW k b p := by
  have b1 : b.toNatClampNeg < 6 := cl_lt hb (by decide)
  have p1 : p.toNatClampNeg < 10 := cl_lt hp (by decide)
  have c1 := (kK_r hk 103 0 6 (by decide) (by decide)).2
  funext n
  unfold lwW
  rw [e (69 + b.toNatClampNeg) (by omega), e (10 + b.toNatClampNeg) (by omega), ce_cr e b1 p1, e (53 + p.toNatClampNeg) (by omega), e (0 + p.toNatClampNeg) (by omega), e 103 (by decide), ce_oth e _ (by omega), e 22 (by decide), e 101 (by decide)]
theorem ce_wo (e : kQe k k') (hb : kb 0 b 5) (hp : kb 0 p 9) : wo0 k' kd b p = wo0 k kd b p := by
  have b1 : b.toNatClampNeg < 6 := cl_lt hb (by decide)
  have p1 : p.toNatClampNeg < 10 := cl_lt hp (by decide)
  unfold wo0
  rw [ce_cr e b1 p1, e (69 + b.toNatClampNeg) (by omega)]
theorem ce_ask (e : kQe k k') (hk : kK k) (hb : kb 0 b 5) (hp : kb 0 p 9) : askF DD k' kd b p = askF DD k kd b p := by
  unfold askF
  rw [e 106 (by decide), ce_wo e hb hp, ce_lwW e hk hb hp]
theorem ce_okB (e : kQe k k') : okB k' x = okB k x := by unfold okB; rw [e 103 (by decide)]
theorem ce_okQ (e : kQe k k') : okQ k' x = okQ k x := by unfold okQ; rw [e 102 (by decide)]
theorem ce_snd (e : kQe k k') (hk : kK k) (hp : pE P P') : dE (sndF DD k P x y) (sndF DD k' P' x y) := by
  unfold sndF
  rw [ce_okB e, ce_okQ e]
  by_cases c1 : okB k x = true
  · rw [if_pos c1, if_pos c1]
    have bx := (okB_i hk c1).1
    by_cases c2 : okQ k y = true
    · rw [if_pos c2, if_pos c2]
      have b2 := (okQ_i hk c2).1
      have n2 : y.toNatClampNeg < 10 := cl_lt b2 (by decide)
      rw [ce_rd e hk n2, ce_ask e hk bx b2, e (0 + y.toNatClampNeg) (by omega)]
      by_cases c3 : rdB k y.toNatClampNeg = true
      · rw [if_pos c3, if_pos c3]
        by_cases c4 : askF DD k 3 x y = 1
        · rw [if_pos c4, if_pos c4]; exact ⟨rfl, e, hp⟩
        · rw [if_neg c4, if_neg c4]; exact ⟨rfl, kQe_up e rfl, pE_kp hp e rfl⟩
      · rw [if_neg c3, if_neg c3]; exact ⟨rfl, e, hp⟩
    · rw [if_neg c2, if_neg c2]; exact ⟨rfl, e, hp⟩
  · rw [if_neg c1, if_neg c1]; exact ⟨rfl, e, hp⟩
theorem ce_rst (e : kQe k k') (hk : kK k) (hp : pE P P') : dE (rstF k P x) (rstF k' P' x) := by
  unfold rstF
  rw [ce_okB e]
  by_cases c1 : okB k x = true
  · rw [if_pos c1, if_pos c1]
    have n1 : x.toNatClampNeg < 6 := cl_lt (okB_i hk c1).1 (by decide)
    rw [e (16 + x.toNatClampNeg) (by omega)]
    by_cases c2 : k (16 + x.toNatClampNeg) = -1
    · rw [if_pos c2, if_pos c2]; exact ⟨rfl, e, hp⟩
    · rw [if_neg c2, if_neg c2]; exact ⟨rfl, kQe_up e rfl, pE_kp hp e rfl⟩
  · rw [if_neg c1, if_neg c1]; exact ⟨rfl, e, hp⟩
theorem ce_tc (e : kQe k k') (hk : kK k) (h : q < 10) : tcB k' q = tcB k q := by
  have c1 := (kK_r hk 103 0 6 (by decide) (by decide)).2
  unfold tcB
  rw [e (0 + q) (by omega), e (23 + q) (by omega), e 103 (by decide), ce_oth e _ (by omega)]
theorem ce_th (e : kQe k k') (hk : kK k) (h : p.toNatClampNeg < 10) : ∀ n, n ≤ 10 → thB k' p n = thB k p n
  | 0, _ => ce_up e (by omega)
  | n + 1, hn => by
    unfold thB
    rw [ce_th e hk h n (by omega), e (33 + n) (by omega), ce_tc e hk (by omega)]
theorem ce_thr (e : kQe k k') (hk : kK k) (hp : pE P P') : dE (thrF k P y) (thrF k' P' y) := by
  unfold thrF
  rw [ce_okQ e]
  by_cases c1 : okQ k y = true
  · rw [if_pos c1, if_pos c1]
    have n1 : y.toNatClampNeg < 10 := cl_lt (okQ_i hk c1).1 (by decide)
    rw [ce_pn e, ce_th e hk n1 _ (kPn_b hk).1, e (23 + y.toNatClampNeg) (by omega)]
    by_cases c2 : thB k y (kPn k) = true
    · rw [if_pos c2, if_pos c2]; exact ⟨rfl, kQe_up e rfl, pE_kp hp e rfl⟩
    · rw [if_neg c2, if_neg c2]; exact ⟨rfl, e, hp⟩
  · rw [if_neg c1, if_neg c1]; exact ⟨rfl, e, hp⟩
theorem pl_b (hk : kK k) (hn : n < 6) : kb (-1) (k (16 + n)) 9 := kK_s hk 16 6 (-1) 9 (by decide) (by decide) hn
theorem pl_9 (hk : kK k) (hn : n < 6) : (k (16 + n)).toNatClampNeg < 10 := by
  have w := (pl_b hk hn).2
  unfold Int32.toNatClampNeg
  omega
theorem pl_0 (hk : kK k) (hn : n < 6) (c : ¬ k (16 + n) = -1) : kb 0 (k (16 + n)) 9 := by
  have w := pl_b hk hn
  have e1 : (-1 : Int32).toInt = -1 := by decide +kernel
  have z : ¬ (k (16 + n)).toInt = -1 := fun q => c (Int32.toInt_inj.mp (q.trans e1.symm))
  have w1 := w.1
  exact ⟨by omega, w.2⟩
theorem ce_tkW (e : kQe k k') (hk : kK k) (hn : n < 6) (c : ¬ k (16 + n) = -1) : tkW DD k' kd n = tkW DD k kd n := by
  unfold tkW
  rw [e (16 + n) (by omega)]
  exact ce_ask e hk (kb_nI (N := 5) (by omega) (by decide)) (pl_0 hk hn c)
theorem ce_tk1 (e : kQe k k') (hk : kK k) : ∀ n, n ≤ 6 → kQe (tk1 DD k n) (tk1 DD k' n)
  | 0, _ => e
  | n + 1, hn => by
    have ih := ce_tk1 e hk n (by omega)
    have n9 := pl_9 hk (n := n) (by omega)
    unfold tk1
    rw [e (16 + n) (by omega)]
    by_cases c : k (16 + n) = -1
    · rw [if_pos c, if_pos c]
      exact kQe_up ih (by rw [ih (10 + n) (by omega)])
    · rw [if_neg c, if_neg c]
      refine kQe_up (kQe_up ih ?_) ?_
      · rw [ih (0 + (k (16 + n)).toNatClampNeg) (by omega), ce_tkW e hk (by omega) c]
      · rw [ih (10 + n) (by omega), ce_tkW e hk (by omega) c]
theorem ce_tk2 (e : kQe k k') (hb : ∀ n, n < 6 → (k (16 + n)).toNatClampNeg < 10) : ∀ n, n ≤ 6 → kQe (tk2 k n) (tk2 k' n)
  | 0, _ => e
  | n + 1, hn => by
    have ih := ce_tk2 e hb n (by omega)
    have n9 := hb n (by omega)
    unfold tk2
    rw [e (16 + n) (by omega), e (0 + (k (16 + n)).toNatClampNeg) (by omega)]
    by_cases c : ¬ k (16 + n) = -1 ∧ k (0 + (k (16 + n)).toNatClampNeg) = 0
    · rw [if_pos c, if_pos c]; exact kQe_up ih rfl
    · rw [if_neg c, if_neg c]; exact ih
theorem bn_6 (hk : kK k) : kBn k ≤ 6 := by
  have c1 := (kK_r hk 103 0 6 (by decide) (by decide)).2
  unfold kBn
  omega
theorem ce_tkF (e : kQe k k') (hk : kK k) : kQe (tkF DD k) (tkF DD k') := by
  have n6 := bn_6 hk
  unfold tkF
  rw [ce_bn e]
  refine kQe_up (ce_tk2 (ce_tk1 e hk _ n6) (fun n hn => ?_) _ n6) (by rw [e 22 (by decide)])
  rw [tk1_o DD k (kBn k) (16 + n) (by omega) n6 hk]
  exact pl_9 hk hn
theorem ce_tic (e : kQe k k') (hk : kK k) (hp : pE P P') : dE (ticF DD k P) (ticF DD k' P') := by
  unfold ticF
  rw [e 22 (by decide)]
  by_cases c1 : 999 ≤ (k 22).toInt
  · rw [if_pos c1, if_pos c1]; exact ⟨rfl, e, hp⟩
  · rw [if_neg c1, if_neg c1]
    have f := ce_tkF (DD := DD) e hk
    refine ⟨?_, f, pE_kp hp e rfl⟩
    show tkR k' (tkF DD k') = tkR k (tkF DD k)
    unfold tkR
    rw [ce_upM f (kK_tk hk (by omega)), ce_upM e hk]
theorem ce_ordR {hd : Int32} {x y : Int} (e : kQe k k') (hk : kK k) (hp : pE P P') : dE (ordR DD hd x y k P) (ordR DD hd x y k' P') := by
  unfold ordR
  by_cases c1 : hd = 2018
  · rw [if_pos c1, if_pos c1]; exact ce_snd e hk hp
  · rw [if_neg c1, if_neg c1]
    by_cases c2 : hd = 2019
    · rw [if_pos c2, if_pos c2]; exact ce_rst e hk hp
    · rw [if_neg c2, if_neg c2]
      by_cases c3 : hd = 2020
      · rw [if_pos c3, if_pos c3]; exact ce_thr e hk hp
      · rw [if_neg c3, if_neg c3]; exact ce_tic e hk hp
theorem ordR_p {hd : Int32} {x y : Int} (hk : kK k) (h22 : (k 22).toInt ≤ 999) (hp : pOK k P) : dOK k (ordR DD hd x y k P) := by
  unfold ordR
  by_cases c1 : hd = 2018
  · rw [if_pos c1]; exact sndF_p hk h22 hp
  · rw [if_neg c1]
    by_cases c2 : hd = 2019
    · rw [if_pos c2]; exact rstF_p hk h22 hp
    · rw [if_neg c2]
      by_cases c3 : hd = 2020
      · rw [if_pos c3]; exact thrF_p hk h22 hp
      · rw [if_neg c3]; exact ticF_p hk h22 hp
theorem ce_oW {dn st : Int32} (e : kQe k k') (hk : kK k) : oW k' dn st = oW k dn st := by
  funext n
  unfold oW
  by_cases c : n < 26
  · rw [e 22 (by decide), ce_upM e hk, e 102 (by decide), e 103 (by decide), e (0 + (n - 4)) (by omega), e (10 + (n - 14)) (by omega), e (16 + (n - 20)) (by omega)]
  · rw [if_neg (by omega), if_neg (by omega), if_neg (by omega), if_neg (by omega), if_neg (by omega), if_neg (by omega), if_neg (by omega), if_neg (by omega), if_neg (by omega), if_neg (by omega), if_neg (by omega), if_neg (by omega), if_neg (by omega), if_neg (by omega)]
end KE
/-- two states of orders: the same but for what lies from 107 on -/
def sE (s s' : oSt) : Prop := kQe s.1 s'.1 ∧ pE s.2.1 s'.2.1 ∧ s'.2.2 = s.2.2 ∧ kK s.1 ∧ (s.1 22).toInt ≤ 999 ∧ pOK s.1 s.2.1
def oE : Option oSt → Option oSt → Prop
  | none, none => True
  | some s, some t => sE s t
  | _, _ => False
def aE : Sum Nat oSt → Sum Nat oSt → Prop
  | .inl c, .inl c' => c' = c
  | .inr s, .inr t => sE s t
  | _, _ => False
section SE
variable {DD : Nat → tE} {D : tE} {c : Nat} {s s' : oSt}
theorem ce_ordZ {R R' : dR} {hd : Int32} {k : Nat → Int32} (hs : sE s s') (h : dE R R') (ho : dOK k R) : oE (ordZ R hd s) (ordZ R' hd s') := by
  unfold ordZ
  rw [h.1]
  by_cases q : 0 ≤ R.1
  · rw [if_pos q, if_pos q]
    refine ⟨h.2.1, h.2.2, ?_, ho.1, ho.2.2.1, ho.2.2.2⟩
    show (s'.2.2.1 + 1, if hd = 2021 then Int32.ofInt R.1 else s'.2.2.2) = (s.2.2.1 + 1, if hd = 2021 then Int32.ofInt R.1 else s.2.2.2)
    rw [hs.2.2.1]
  · rw [if_neg q, if_neg q]; exact trivial
theorem ce_ordO (h : sE s s') : oE (ordO DD D c s) (ordO DD D c s') := by
  unfold ordO
  have w : oW s'.1 s'.2.2.1 s'.2.2.2 = oW s.1 s.2.2.1 s.2.2.2 := by rw [h.2.2.1]; exact ce_oW h.1 h.2.2.2.1
  rw [w]
  by_cases c1 : D.2.2.2.2.2.2 c (oW s.1 s.2.2.1 s.2.2.2) = some 1
  · rw [if_pos c1, if_pos c1]
    cases D.2.2.2.2.1 c (oW s.1 s.2.2.1 s.2.2.2) with
    | none => exact trivial
    | some x =>
      cases D.2.2.2.2.2.1 c (oW s.1 s.2.2.1 s.2.2.2) with
      | none => exact trivial
      | some y => exact ce_ordZ h (ce_ordR h.1 h.2.2.2.1 h.2.1) (ordR_p h.2.2.2.1 h.2.2.2.2.1 h.2.2.2.2.2)
  · rw [if_neg c1, if_neg c1]; exact h
theorem ce_ordT (h : sE s s') : ∀ n, oE (ordT DD D c n s) (ordT DD D c n s')
  | 0 => h
  | n + 1 => by
    have ih := ce_ordT h n
    show oE ((ordT DD D c n s).bind (ordO DD D c)) ((ordT DD D c n s').bind (ordO DD D c))
    revert ih
    generalize ordT DD D c n s = A
    generalize ordT DD D c n s' = B
    intro ih
    cases A with
    | none => cases B with
      | none => exact trivial
      | some t => exact ih.elim
    | some u => cases B with
      | none => exact ih.elim
      | some t => exact ce_ordO ih
theorem ce_ordA (h : sE s s') : ∀ n, aE (ordA DD D s n) (ordA DD D s' n)
  | 0 => h
  | n + 1 => by
    have ih := ce_ordA h n
    show aE (oA1 DD D n (ordA DD D s n)) (oA1 DD D n (ordA DD D s' n))
    revert ih
    generalize ordA DD D s n = A
    generalize ordA DD D s' n = B
    intro ih
    cases A with
    | inl c1 => cases B with
      | inl c2 => exact ih
      | inr t => exact ih.elim
    | inr u => cases B with
      | inl c2 => exact ih.elim
      | inr t =>
        have w := ce_ordT (DD := DD) (D := D) (c := n) ih (D.2.2.2.1 n).toInt.toNat
        show aE (oA2 n (ordT DD D n (D.2.2.2.1 n).toInt.toNat u)) (oA2 n (ordT DD D n (D.2.2.2.1 n).toInt.toNat t))
        revert w
        generalize ordT DD D n (D.2.2.2.1 n).toInt.toNat u = M
        generalize ordT DD D n (D.2.2.2.1 n).toInt.toNat t = N
        intro w
        cases M with
        | none => cases N with
          | none => exact rfl
          | some _ => exact w.elim
        | some _ => cases N with
          | none => exact w.elim
          | some _ => exact w
end SE
/-- the past of the other state of orders is the past of this one -/
theorem mPs_E {u : Int32} {R : Nat → Int32} {P P' : pS} (h : mPs u R P') (e : pE P P') : mPs u R P := by
  obtain ⟨h1, h2, h3⟩ := h
  rw [e.1] at h1 h2
  refine ⟨h1, h2, fun j hj => ?_⟩
  have w := h3 j (by rw [e.1]; exact hj)
  have q := e.2 j hj
  exact ⟨w.1.trans q.1, fun i hi => (w.2 i hi).trans (q.2 i (by omega))⟩

