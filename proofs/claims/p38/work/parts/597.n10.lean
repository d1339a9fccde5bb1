/-! what can be undone: how many, what each was, the state ahead of each; the eldest first -/
abbrev pS : Type := Nat × (Nat → Int32) × (Nat → Nat → Int32)
def kpP (P : pS) (w : Int32) (k : Nat → Int32) : pS := if P.1 = 16 then (16, fun j => if j = 15 then w else P.2.1 (j + 1), fun j => if j = 15 then k else P.2.2 (j + 1)) else (P.1 + 1, fun j => if j = P.1 then w else P.2.1 j, fun j => if j = P.1 then k else P.2.2 j)
def unP (P : pS) : pS := (P.1 - 1, P.2)
def rbF (k s : Nat → Int32) : Nat → Int32 := fun i => if i < 23 then s i else k i
def mPs (u : Int32) (R : Nat → Int32) (P : pS) : Prop := u.toInt = (P.1 : Int) ∧ P.1 ≤ 16 ∧ ∀ j, j < P.1 → R (24 * j + 23) = P.2.1 j ∧ ∀ i, i < 23 → R (24 * j + i) = P.2.2 j i
section PS
variable {u u' : Int32} {R R' R0 RB : Nat → Int32} {P : pS} {w : Int32} {k : Nat → Int32} {U nn ix n : Nat} {v : Int32}
theorem mP_kA (h : mPs u R P) (hf : ¬ P.1 = 16) (hlow : ∀ q, q < 24 * P.1 → R' q = R q) (hk : ∀ i, i < 23 → R' (24 * P.1 + i) = k i) (hw : R' (24 * P.1 + 23) = w) (hu : u'.toInt = (P.1 : Int) + 1) : mPs u' R' (kpP P w k) := by
  obtain ⟨h1, h2, h3⟩ := h
  unfold kpP
  rw [if_neg hf]
  refine ⟨by show u'.toInt = ((P.1 + 1 : Nat) : Int); omega, by show P.1 + 1 ≤ 16; omega, fun j hj => ?_⟩
  have hj1 : j < P.1 + 1 := hj
  show R' (24 * j + 23) = (if j = P.1 then w else P.2.1 j) ∧ ∀ i, i < 23 → R' (24 * j + i) = (if j = P.1 then k else P.2.2 j) i
  by_cases c : j = P.1
  · rw [if_pos c, if_pos c, c]
    exact ⟨hw, hk⟩
  · rw [if_neg c, if_neg c]
    have q := h3 j (by omega)
    exact ⟨by rw [hlow _ (by omega)]; exact q.1, fun i hi => by rw [hlow _ (by omega)]; exact q.2 i hi⟩
theorem mP_kB (h : mPs u R P) (hf : P.1 = 16) (hs : ∀ q, q < 360 → R' q = R (q + 24)) (hk : ∀ i, i < 23 → R' (360 + i) = k i) (hw : R' 383 = w) (hu : u'.toInt = 16) : mPs u' R' (kpP P w k) := by
  obtain ⟨h1, h2, h3⟩ := h
  unfold kpP
  rw [if_pos hf]
  refine ⟨hu, Nat.le_refl _, fun j hj => ?_⟩
  have hj1 : j < 16 := hj
  show R' (24 * j + 23) = (if j = 15 then w else P.2.1 (j + 1)) ∧ ∀ i, i < 23 → R' (24 * j + i) = (if j = 15 then k else P.2.2 (j + 1)) i
  by_cases c : j = 15
  · rw [if_pos c, if_pos c, c]
    exact ⟨hw, hk⟩
  · rw [if_neg c, if_neg c]
    have q := h3 (j + 1) (by omega)
    refine ⟨?_, fun i hi => ?_⟩
    · rw [hs _ (by omega), show 24 * j + 23 + 24 = 24 * (j + 1) + 23 by omega]; exact q.1
    · rw [hs _ (by omega), show 24 * j + i + 24 = 24 * (j + 1) + i by omega]; exact q.2 i hi
theorem mP_un (h : mPs u R P) (h0 : ¬ u = 0) (hu : u'.toInt = u.toInt - 1) : mPs u' R (unP P) := by
  obtain ⟨h1, h2, h3⟩ := h
  have n0 : ¬ u.toInt = 0 := fun e => h0 (Int32.toInt_inj.mp (e.trans (by decide +kernel)))
  refine ⟨by show u'.toInt = ((P.1 - 1 : Nat) : Int); omega, by show P.1 - 1 ≤ 16; omega, fun j hj => ?_⟩
  have hj1 : j < P.1 - 1 := hj
  exact h3 j (by omega)
theorem mP_0 (h : mPs u R P) (h0 : u = 0) : P.1 = 0 := by
  have e : u.toInt = 0 := by rw [h0]; decide +kernel
  have := h.1
  omega
theorem mP_n0 (h : mPs u R P) (h0 : ¬ u = 0) : ¬ P.1 = 0 := by
  intro e
  have h1 := h.1
  exact h0 (Int32.toInt_inj.mp (by rw [h1, e]; decide +kernel))
/-- the shift -/
theorem sh_1 (h1 : ∀ q, q < nn → R q = R0 (q + 24)) (e : R' = upd R ix v) (hk : ix = nn) (hv : v = R0 (nn + 24)) : ∀ q, q < nn + 1 → R' q = R0 (q + 24) := by
  intro q hq
  rw [e]
  by_cases c : q = nn
  · rw [c, ← hk, pk_us, hk]; exact hv
  · rw [pk_un (by omega)]; exact h1 q (by omega)
theorem sh_2 (h2 : ∀ q, nn ≤ q → R q = R0 q) (e : R' = upd R ix v) (hk : ix = nn) : ∀ q, nn + 1 ≤ q → R' q = R0 q := by
  intro q hq
  rw [e, pk_un (by omega)]
  exact h2 q (by omega)
/-- a row's copy: what lies ahead of it stays -/
theorem lo_1 (h : ∀ q, q < n → R q = R0 q) (e : R' = upd R ix v) (hk : n ≤ ix) : ∀ q, q < n → R' q = R0 q := by
  intro q hq
  rw [e, pk_un (by omega)]
  exact h q hq
theorem cp_s (h : ∀ q, q < nn → R (n + q) = k q) (e : R' = upd R ix v) (hk : ix = n + nn) (hv : v = k nn) : ∀ q, q < nn + 1 → R' (n + q) = k q := by
  intro q hq
  rw [e]
  by_cases c : q = nn
  · rw [c, ← hk, pk_us]; exact hv
  · rw [pk_un (by omega)]; exact h q (by omega)
theorem cp_f (h : ∀ q, q < 23 → RB (n + q) = k q) (e : R' = upd RB ix v) (hk : ix = n + 23) : ∀ q, q < 23 → R' (n + q) = k q := by
  intro q hq
  rw [e, pk_un (by omega)]
  exact h q hq
end PS
/-! deeds: what is told, the state, what can be undone -/
abbrev dR : Type := Int × (Nat → Int32) × pS
def okB (k : Nat → Int32) (x : Int32) : Bool := decide (0 ≤ x.toInt) && decide (x.toInt < (k 103).toInt)
def okQ (k : Nat → Int32) (x : Int32) : Bool := decide (0 ≤ x.toInt) && decide (x.toInt < (k 102).toInt)
theorem okB_y {k : Nat → Int32} {x : Int32} (h : 0 ≤ x.toInt ∧ x.toInt < (k 103).toInt) : okB k x = true := by unfold okB; rw [decide_eq_true h.1, decide_eq_true h.2]; rfl
theorem okB_n {k : Nat → Int32} {x : Int32} (h : ¬ (0 ≤ x.toInt ∧ x.toInt < (k 103).toInt)) : ¬ okB k x = true := by
  intro q
  unfold okB at q
  rw [Bool.and_eq_true, decide_eq_true_iff, decide_eq_true_iff] at q
  exact h q
theorem okQ_y {k : Nat → Int32} {x : Int32} (h : 0 ≤ x.toInt ∧ x.toInt < (k 102).toInt) : okQ k x = true := by unfold okQ; rw [decide_eq_true h.1, decide_eq_true h.2]; rfl
theorem okQ_n {k : Nat → Int32} {x : Int32} (h : ¬ (0 ≤ x.toInt ∧ x.toInt < (k 102).toInt)) : ¬ okQ k x = true := by
  intro q
  unfold okQ at q
  rw [Bool.and_eq_true, decide_eq_true_iff, decide_eq_true_iff] at q
  exact h q
def sndF (DD : Nat → tE) (k : Nat → Int32) (P : pS) (x y : Int32) : dR :=
  if okB k x = true then (if okQ k y = true then (if rdB k y.toNatClampNeg = true then (if askF DD k 3 x y = 1 then (-3, k, P) else ((k (0 + y.toNatClampNeg)).toInt, upd k (16 + x.toNatClampNeg) y, kpP P 0 k)) else (-3, k, P)) else (-2, k, P)) else (-2, k, P)
def rstF (k : Nat → Int32) (P : pS) (x : Int32) : dR :=
  if okB k x = true then (if k (16 + x.toNatClampNeg) = -1 then (-3, k, P) else ((k (16 + x.toNatClampNeg)).toInt, upd k (16 + x.toNatClampNeg) (-1), kpP P 1 k)) else (-2, k, P)
/-- a part that was begun, stands, or has somebody at it -/
def tcB (k : Nat → Int32) (q : Nat) : Bool := decide ((k (0 + q)).toInt < (k (23 + q)).toInt) || decide (0 < oth k (-1) (nI q) (k 103).toInt.toNat)
def thB (k : Nat → Int32) (p : Int32) : Nat → Bool
  | 0 => upB k p.toNatClampNeg
  | n + 1 => thB k p n && !(decide ((k (33 + n) >>> (p &&& 31)) &&& 1 = 1) && tcB k n)
def thrF (k : Nat → Int32) (P : pS) (y : Int32) : dR :=
  if okQ k y = true then (if thB k y (kPn k) = true then ((k (23 + y.toNatClampNeg)).toInt, upd k (0 + y.toNatClampNeg) (k (23 + y.toNatClampNeg)), kpP P 2 k) else (-3, k, P)) else (-2, k, P)
def ticF (DD : Nat → tE) (k : Nat → Int32) (P : pS) : dR := if 999 ≤ (k 22).toInt then (-3, k, P) else (tkR k (tkF DD k), tkF DD k, kpP P 3 k)
/-- what a deed leaves on the reference's side -/
def mDd (v : Int32) (f : Nat → Int32) (a : Nat → Nat → Int32) (R : dR) : Prop := v.toInt = R.1 ∧ a 2 = R.2.1 ∧ mPs (f 33) (a 31) R.2.2
theorem mDd_e {v : Int32} {f : Nat → Int32} {a : Nat → Nat → Int32} {R : dR} {x : Int} {k : Nat → Int32} {P : pS} (e : R = (x, k, P)) (h1 : v.toInt = x) (h2 : a 2 = k) (h3 : mPs (f 33) (a 31) P) : mDd v f a R := by
  rw [e]
  exact ⟨h1, h2, h3⟩
def udF (k : Nat → Int32) (P : pS) : dR := if P.1 = 0 then (-3, k, P) else ((P.2.1 (P.1 - 1)).toInt, rbF k (P.2.2 (P.1 - 1)), unP P)
/-- what a call is refused by: counted -/
def rfS (x : Int) (R : Nat → Int32) : Nat → Int32 := upd R (-x).toNat (R (-x).toNat + 1)
section TH
variable {k : Nat → Int32} {p c : Int32} {n : Nat}
theorem th_0 (h : c = (if thB k p n = true then 1 else 0)) (q : c = 0) : (0 : Int32) = (if thB k p (n + 1) = true then 1 else 0) := by
  have w : thB k p n = false := by
    cases hb : thB k p n with
    | false => rfl
    | true => exact absurd hb (bit1_n h q)
  show _ = if (thB k p n && _) = true then (1 : Int32) else 0
  rw [w]; rfl
theorem th_n (h : c = (if thB k p n = true then 1 else 0)) (q : ¬ c = 0) (hb : ¬ (k (33 + n) >>> (p &&& 31)) &&& 1 = 1) : (1 : Int32) = (if thB k p (n + 1) = true then 1 else 0) := by
  have w := bit1_y h q
  show _ = if (thB k p n && !(decide _ && _)) = true then (1 : Int32) else 0
  rw [w, decide_eq_false hb]; rfl
theorem th_f (h : c = (if thB k p n = true then 1 else 0)) (q : ¬ c = 0) (hb : (k (33 + n) >>> (p &&& 31)) &&& 1 = 1) (ht : ¬ tcB k n = true) : (1 : Int32) = (if thB k p (n + 1) = true then 1 else 0) := by
  have w := bit1_y h q
  show _ = if (thB k p n && !(decide _ && _)) = true then (1 : Int32) else 0
  rw [w, decide_eq_true hb, Bool.eq_false_iff.mpr ht]; rfl
theorem th_t (h : c = (if thB k p n = true then 1 else 0)) (hb : (k (33 + n) >>> (p &&& 31)) &&& 1 = 1) (ht : tcB k n = true) : (0 : Int32) = (if thB k p (n + 1) = true then 1 else 0) := by
  show _ = if (thB k p n && !(decide _ && _)) = true then (1 : Int32) else 0
  rw [decide_eq_true hb, ht, Bool.true_and, Bool.not_true, Bool.and_false]; rfl
end TH
theorem bit_y1 {c : Int} {v : Int32} (h : v = (if c = 1 then 1 else 0)) (q : ¬ v = 0) : c = 1 := by
  by_cases e : c = 1
  · exact e
  · rw [if_neg e] at h; exact absurd h q
theorem bit_n1 {c : Int} {v : Int32} (h : v = (if c = 1 then 1 else 0)) (q : v = 0) : ¬ c = 1 := by
  intro e
  rw [if_pos e, q] at h
  exact absurd h (by decide +kernel)
set_option maxHeartbeats 4000000 in
set_option maxRecDepth 100000 in
theorem n_keeps  (l : Launch) {D : va_G} {K : Nat → ClassId} (o : Nat) (r : Nat → Nat) (f : Nat → Int32) (a : Nat → Nat → Int32) (g : Nat → Int64) (hI : mI f a) (wh : Int32) (bwh : kb 0 wh 3) (P : pS) (hp0 : mPs (f 33) (a 31) P) : kV l yX12_keeps (Cond.code yX12_keeps cX12_keeps 4 none :: kG) (rmD 1 0 0) D (tysK K) [.ref o, .int wh] (mW K o r f a g) (fun (u : mS) => mI u.1 u.2.1 ∧ mE (XR []) f a u.1 u.2.1 ∧ mPs (u.1 33) (u.2.1 31) (kpP P wh (a 2)) ∧ mZ [33] [31] f a u.1 u.2.1) (fun u => mW K o r u.1 u.2.1 u.2.2) 0 0 := by
  refine kV.of (cc := cX12_keeps) (maxL := 4) (ret := none) (by decide) rfl (Nat.le_of_ble_eq_true rfl) ?_
  intro p e s m below meth c A hx hb hr hml hown hts hlocks hnm hK hP hD hS hA ls hl
  have hE : mE (XR []) f a f a := mE_rf
  have hZ : mZ [33] [31] f a f a := mZ_rf
  have hg : ∀ w ∈ kG, w.before _ s = true := fun w h => hts w (List.mem_cons_of_mem _ h)
  have hown : s.vm.findClass RX12 = some m.cls := hown
  have hl : lv_has ls 4 [(0, .ref o), (1, .int wh)] := hl
  obtain ⟨c33, ec33⟩ : ∃ z : Int32, z = f 33 := ⟨_, rfl⟩
  have b1 : kb 0 c33 16 := kb_eq ec33 (fI_at hI.1 33 (by decide) (by decide))
  have hcP : c33.toInt = (P.1 : Int) := by rw [ec33]; exact hp0.1
  refine lv_bipush (v := 24) hx hb dX12_keeps_0 (by decide) ?_
  refine lv_istore_n (lv' := [(2, .int 24), (0, .ref o), (1, .int wh)]) hx hb dX12_keeps_2 rfl hl (by decide) rfl (fun ls hl => ?_)
  refine lv_aload_n hx hb dX12_keeps_3 rfl (lv_at hl 1 rfl) ?_
  refine va_get (D := D) (ci := 12) (v := .int (f 33)) (C := RX12) (T := TX12) (N := 48) hx hb hg inC12 hown hK hP 0 rfl rfl 33 (by decide) (hg _ wt5_193) (fun _ h9 => h9) rfl dX12_keeps_4 ?_
  refine k_top (z := c33) ec33.symm ?_
  refine lv_bipush (v := 16) hx hb dX12_keeps_7 (by decide) ?_
  refine lv_icmp_ne (tgt := 52) hx hb dX12_keeps_9 (by decide) (fun c2 => ?_) (fun c2 => ?_)
  · have b3 : kb 0 c33 15 := kr_neh c2 b1 kc_16 (by decide)
    have hUv : c33.toInt = (P.1 : Int) := hcP
    have hPf : ¬ P.1 = 16 := fun w1 => c2 (Int32.toInt_inj.mp (by rw [hcP, w1]; decide +kernel))
    refine lv_iconst (v := 0) hx hb dX12_keeps_52 (by decide) ?_
    refine lv_istore_n (lv' := [(3, .int 0), (2, .int 24), (0, .ref o), (1, .int wh)]) hx hb dX12_keeps_53 rfl hl (by decide) rfl (fun ls hl => ?_)
    have lp6 : ∀ (n7 : Nat) (n2 : Nat) (B5 : Nat → Nat → Int32) (H : Heap) (locs : List Loc) (ls : Array Slot) (y4 : Int32), (23 < y4.toInt + (n7 : Int)) → (mI f B5) → (mE (XR []) f a f B5) → (mZ [33] [31] f a f B5) → (kb 0 y4 23) → (y4.toInt = (n2 : Int)) → (∀ q, q < n2 → B5 31 (24 * P.1 + q) = a 2 q) → (∀ q, q < 24 * P.1 → B5 31 q = a 31 q) → (n2 ≤ 23) → va_P D vwCl (mW K o r f B5 g) H → va_D A (mW K o r f B5 g) → va_S A s.heap H locs → lv_has ls 4 [(3, .int y4), (2, .int 24), (0, .ref o), (1, .int wh)] → W p l e (rmD 1 0 0) s m ([.ref o, .int wh] : List Value).toArray below meth c H locs 0 0 (kQv D (tysK K) (fun (u : mS) => mI u.1 u.2.1 ∧ mE (XR []) f a u.1 u.2.1 ∧ mPs (u.1 33) (u.2.1 31) (kpP P wh (a 2)) ∧ mZ [33] [31] f a u.1 u.2.1) (fun u => mW K o r u.1 u.2.1 u.2.2) A below ([.ref o, .int wh] : List Value).toArray s 0 0) (F0 m 54 ls []) := by
      intro n7
      induction n7 with
      | zero =>
        intro n2 B5  H locs ls y4 hmlp6 hI hE hZ b8 hvlp6_0 hvlp6_1 hvlp6_2 hvlp6_3 hP hD hS hl
        exact (by have h1 := b8.2; have h2 := hmlp6; omega : False).elim
      | succ n7 ihlp6 =>
        intro n2 B5  H locs ls y4 hmlp6 hI hE hZ b8 hvlp6_0 hvlp6_1 hvlp6_2 hvlp6_3 hP hD hS hl
        have hnn : y4 = nI n2 := nI_q hvlp6_0
        have hZB := hZ
        refine lv_iload_n hx hb dX12_keeps_54 rfl (lv_at hl 0 rfl) ?_
        refine lv_bipush (v := 23) hx hb dX12_keeps_55 (by decide) ?_
        refine lv_icmp_ge (tgt := 85) hx hb dX12_keeps_57 (by decide) (fun c9 => ?_) (fun c9 => ?_)
        · have h10 := (kc_le c9)
          have b11 : kb 23 y4 23 := kr_le2 h10 kc_23 b8
          refine lv_aload_n hx hb dX12_keeps_85 rfl (lv_at hl 2 rfl) ?_
          refine va_get (D := D) (ci := 12) (v := .ref (r 31)) (C := RX12) (T := TX12) (N := 48) hx hb hg inC12 hown hK hP 0 rfl rfl 31 (by decide) (hg _ wt5_191) (fun _ h9 => h9) rfl dX12_keeps_86 ?_
          refine lv_iload_n hx hb dX12_keeps_89 rfl (lv_at hl 1 rfl) ?_
          refine lv_aload_n hx hb dX12_keeps_90 rfl (lv_at hl 2 rfl) ?_
          refine va_get (D := D) (ci := 12) (v := .int (f 33)) (C := RX12) (T := TX12) (N := 48) hx hb hg inC12 hown hK hP 0 rfl rfl 33 (by decide) (hg _ wt5_193) (fun _ h9 => h9) rfl dX12_keeps_91 ?_
          refine k_top (z := c33) ec33.symm ?_
          refine lv_imul hx hb dX12_keeps_94 ?_
          refine lv_topi (fun t12 et12 => ?_)
          have b13 : kb 0 t12 360 := kb_eq et12 (kb_mul kc_24 b3 (by decide) (by decide) (by decide))
          have qt12 : t12.toInt = 24 * c33.toInt := by rw [et12]; exact kt_cmul kc_24 b3 (by decide) (by decide) (by decide)
          refine lv_bipush (v := 23) hx hb dX12_keeps_95 (by decide) ?_
          refine lv_iadd hx hb dX12_keeps_97 ?_
          refine lv_topi (fun t14 et14 => ?_)
          have b15 : kb 23 t14 383 := kb_eq et14 (kb_add b13 kc_23 (by decide) (by decide))
          have qt14 : t14.toInt = t12.toInt + 23 := by rw [et14]; exact kt_addc b13 kc_23 (by decide) (by decide)
          refine lv_iload_n hx hb dX12_keeps_98 rfl (lv_at hl 3 rfl) ?_
          refine va_iast hx hb hK hP hD hS 15 0 rfl rfl (kb_in b15 (by decide) (by decide)) dX12_keeps_99 (fun H locs hP hD hS => ?_)
          have hP : va_P D vwCl (mW K o r f (va_up B5 31 (upd (B5 31) t14.toNatClampNeg wh)) g) H := hP
          have hD : va_D A (mW K o r f (va_up B5 31 (upd (B5 31) t14.toNatClampNeg wh)) g) := hD
          refine k_gen (P := fun z => va_P D vwCl (mW K o r f z g) H ∧ va_D A (mW K o r f z g) ∧ (mI f z) ∧ (mE (XR []) f a f z) ∧ (mZ [33] [31] f a f z)) (va_up B5 31 (upd (B5 31) t14.toNatClampNeg wh)) ⟨hP, hD, (mI_s hI (aI_any hI.2.1 31 _ (kq_31f b3 (by omega))) (by decide) (by decide)), (mE_s hE (by decide) (by decide) (by decide) (by decide)), (mZ_a hZ rfl)⟩ (fun a_16 ea_16 hq => ?_)
          obtain ⟨hP, hD, hI, hE, hZ⟩ := hq
          refine lv_aload_n hx hb dX12_keeps_100 rfl (lv_at hl 2 rfl) ?_
          refine lv_dup hx hb dX12_keeps_101 rfl ?_
          refine va_get (D := D) (ci := 12) (v := .int (f 33)) (C := RX12) (T := TX12) (N := 48) hx hb hg inC12 hown hK hP 0 rfl rfl 33 (by decide) (hg _ wt5_193) (fun _ h9 => h9) rfl dX12_keeps_102 ?_
          refine k_top (z := c33) ec33.symm ?_
          refine lv_iconst (v := 1) hx hb dX12_keeps_105 (by decide) ?_
          refine lv_iadd hx hb dX12_keeps_106 ?_
          refine lv_topi (fun t17 et17 => ?_)
          have b18 : kb 1 t17 16 := kb_eq et17 (kb_add b3 kc_1 (by decide) (by decide))
          have qt17 : t17.toInt = c33.toInt + 1 := by rw [et17]; exact kt_addc b3 kc_1 (by decide) (by decide)
          refine va_put (D := D) (ci := 12) (v := .int t17) (ty := .int) (C := RX12) (T := TX12) (N := 48) hx hb hg inC12 tyX12 tyX12_ok nmX12 hown hK hP hD hS 0 rfl rfl 33 (by decide) (hg _ wt5_193) (fun _ h9 => h9) rfl (by decide +kernel) rfl rfl (Nat.le_of_ble_eq_true rfl) dX12_keeps_107 (fun H locs hP hD hS => ?_)
          have hP : va_P D vwCl (mW K o r (upd f 33 t17) a_16 g) H := hP
          have hD : va_D A (mW K o r (upd f 33 t17) a_16 g) := hD
          refine k_gen (P := fun z => va_P D vwCl (mW K o r z a_16 g) H ∧ va_D A (mW K o r z a_16 g) ∧ (mI z a_16) ∧ (mE (XR []) f a z a_16) ∧ (mZ [33] [31] f a z a_16)) (upd f 33 t17) ⟨hP, hD, (mI_f hI (fI_st hI.1 33 b18 (by decide) (by decide))), (mE_f hE (by decide)), (mZ_f hZ rfl)⟩ (fun f_19 ef_19 hq => ?_)
          obtain ⟨hP, hD, hI, hE, hZ⟩ := hq
          exact kV_ret hx hb hr hlocks hK hS dX12_keeps_110 (f_19, a_16, g) hP hD ⟨hI, hE, (mP_kA hp0 hPf (lo_1 hvlp6_2 (show a_16 31 = upd (B5 31) t14.toNatClampNeg wh from by rw [← ea_16]; rfl) (by have w5 := (show t14.toNatClampNeg = 24 * P.1 + 23 from by have w2 := qt14; have w3 := qt12; have w4 := hUv; unfold Int32.toNatClampNeg; omega); omega)) (fun i hi => cp_f (n := 24 * P.1) (by have w9 := hvlp6_1; rw [(by have w1 := hvlp6_0; have w2 := (b11).1; have w3 := hvlp6_3; omega : n2 = 23)] at w9; exact w9) (show a_16 31 = upd (B5 31) t14.toNatClampNeg wh from by rw [← ea_16]; rfl) (show t14.toNatClampNeg = 24 * P.1 + 23 from by have w2 := qt14; have w3 := qt12; have w4 := hUv; unfold Int32.toNatClampNeg; omega) i hi) (by (try dsimp only); rw [show a_16 31 = _ from (show a_16 31 = upd (B5 31) t14.toNatClampNeg wh from by rw [← ea_16]; rfl), show 24 * P.1 + 23 = t14.toNatClampNeg from (show t14.toNatClampNeg = 24 * P.1 + 23 from by have w2 := qt14; have w3 := qt12; have w4 := hUv; unfold Int32.toNatClampNeg; omega).symm]; exact pk_us) (by show (f_19 33).toInt = _; rw [(show f_19 33 = t17 from by rw [← ef_19]; rfl)]; have w1 := qt17; have w2 := hUv; omega)), hZ⟩
        · have h20 := (kc_nle c9)
          have b21 : kb 0 y4 22 := kr_lt1 h20 b8 kc_23 (by decide)
          refine lv_aload_n hx hb dX12_keeps_60 rfl (lv_at hl 2 rfl) ?_
          refine va_get (D := D) (ci := 12) (v := .ref (r 31)) (C := RX12) (T := TX12) (N := 48) hx hb hg inC12 hown hK hP 0 rfl rfl 31 (by decide) (hg _ wt5_191) (fun _ h9 => h9) rfl dX12_keeps_61 ?_
          refine lv_iload_n hx hb dX12_keeps_64 rfl (lv_at hl 1 rfl) ?_
          refine lv_aload_n hx hb dX12_keeps_65 rfl (lv_at hl 2 rfl) ?_
          refine va_get (D := D) (ci := 12) (v := .int (f 33)) (C := RX12) (T := TX12) (N := 48) hx hb hg inC12 hown hK hP 0 rfl rfl 33 (by decide) (hg _ wt5_193) (fun _ h9 => h9) rfl dX12_keeps_66 ?_
          refine k_top (z := c33) ec33.symm ?_
          refine lv_imul hx hb dX12_keeps_69 ?_
          refine lv_topi (fun t22 et22 => ?_)
          have b23 : kb 0 t22 360 := kb_eq et22 (kb_mul kc_24 b3 (by decide) (by decide) (by decide))
          have qt22 : t22.toInt = 24 * c33.toInt := by rw [et22]; exact kt_cmul kc_24 b3 (by decide) (by decide) (by decide)
          refine lv_iload_n hx hb dX12_keeps_70 rfl (lv_at hl 0 rfl) ?_
          refine lv_iadd hx hb dX12_keeps_71 ?_
          refine lv_topi (fun t24 et24 => ?_)
          have b25 : kb 0 t24 382 := kb_eq et24 (kb_add b23 b21 (by decide) (by decide))
          have qt24 : t24.toInt = t22.toInt + y4.toInt := by rw [et24]; exact kt_add b23 b21 (by decide) (by decide)
          refine lv_aload_n hx hb dX12_keeps_72 rfl (lv_at hl 2 rfl) ?_
          refine va_get (D := D) (ci := 12) (v := .ref (r 2)) (C := RX12) (T := TX12) (N := 48) hx hb hg inC12 hown hK hP 0 rfl rfl 2 (by decide) (hg _ wt5_162) (fun _ h9 => h9) rfl dX12_keeps_73 ?_
          refine lv_iload_n hx hb dX12_keeps_76 rfl (lv_at hl 0 rfl) ?_
          refine va_iald hx hb hK hP 2 0 rfl rfl (kb_in b21 (by decide) (by decide)) dX12_keeps_77 ?_
          refine lv_topi (fun t26 et26 => ?_)
          refine va_iast hx hb hK hP hD hS 15 0 rfl rfl (kb_in b25 (by decide) (by decide)) dX12_keeps_78 (fun H locs hP hD hS => ?_)
          have hP : va_P D vwCl (mW K o r f (va_up B5 31 (upd (B5 31) t24.toNatClampNeg t26)) g) H := hP
          have hD : va_D A (mW K o r f (va_up B5 31 (upd (B5 31) t24.toNatClampNeg t26)) g) := hD
          refine k_gen (P := fun z => va_P D vwCl (mW K o r f z g) H ∧ va_D A (mW K o r f z g) ∧ (mI f z) ∧ (mE (XR []) f a f z) ∧ (mZ [33] [31] f a f z)) (va_up B5 31 (upd (B5 31) t24.toNatClampNeg t26)) ⟨hP, hD, (mI_s hI (aI_mv hI.2.1 31 _ 2 _ et26 (kq_31 b21 b3 (by omega))) (by decide) (by decide)), (mE_s hE (by decide) (by decide) (by decide) (by decide)), (mZ_a hZ rfl)⟩ (fun a_27 ea_27 hq => ?_)
          obtain ⟨hP, hD, hI, hE, hZ⟩ := hq
          obtain ⟨t28, et28⟩ : ∃ z : Int32, z = y4 + Int32.ofInt 1 := ⟨_, rfl⟩
          have qt28 : t28.toInt = y4.toInt + 1 := by rw [et28]; exact km_inc b21 (by decide) (by decide)
          have b29 : kb 1 t28 23 := kb_inc (k := 1) qt28 b21
          refine lv_iinc (v := t28) (lv' := [(3, .int t28), (2, .int 24), (0, .ref o), (1, .int wh)]) hx hb dX12_keeps_79 hl (k := 0) rfl et28.symm (by decide) rfl (fun ls hl => ?_)
          refine lv_goto (tgt := 54) hx hb dX12_keeps_82 (by decide) ?_
          exact ihlp6 (n2 + 1) a_27 _ _ _ t28 (km_up hmlp6 qt28) hI hE hZ (kb_w b29 (by decide) (by decide)) (by have w1 := hvlp6_0; have w2 := qt28; omega) (cp_s (n := 24 * P.1) hvlp6_1 (show a_27 31 = upd (B5 31) t24.toNatClampNeg t26 from by rw [← ea_27]; rfl) (by have w1 := hvlp6_0; have w2 := qt24; have w3 := qt22; have w4 := hUv; unfold Int32.toNatClampNeg; omega) (et26.trans (by rw [cl_nat hvlp6_0]; exact congrFun (hZB.2 2 rfl) n2))) (lo_1 hvlp6_2 (show a_27 31 = upd (B5 31) t24.toNatClampNeg t26 from by rw [← ea_27]; rfl) (by have w2 := qt24; have w3 := qt22; have w4 := hUv; have w1 := hvlp6_0; unfold Int32.toNatClampNeg; omega)) (by have w1 := hvlp6_0; have w2 := (b21).2; omega) hP hD hS (lv_sub hl [0, 1, 2, 3] rfl)
    exact lp6 (24) 0 a _ _ _ 0 (by have h1 := (kc_0); unfold kb at h1; omega) hI hE hZ (kb_w kc_0 (by decide) (by decide)) (by decide +kernel) (fun q h => absurd h (Nat.not_lt_zero q)) (fun q _ => rfl) (Nat.zero_le _) hP hD hS (lv_sub hl [0, 1, 2, 3] rfl)
  · have b30 : kb 16 c33 16 := kb_eq c2 kc_16
    refine lv_iconst (v := 0) hx hb dX12_keeps_12 (by decide) ?_
    refine lv_istore_n (lv' := [(3, .int 0), (2, .int 24), (0, .ref o), (1, .int wh)]) hx hb dX12_keeps_13 rfl hl (by decide) rfl (fun ls hl => ?_)
    have lp33 : ∀ (n34 : Nat) (nn : Nat) (B32 : Nat → Nat → Int32) (H : Heap) (locs : List Loc) (ls : Array Slot) (y31 : Int32), (360 < y31.toInt + (n34 : Int)) → (mI f B32) → (mE (XR []) f a f B32) → (mZ [33] [31] f a f B32) → (kb 0 y31 360) → (y31.toInt = (nn : Int)) → (∀ q, q < nn → B32 31 q = a 31 (q + 24)) → (∀ q, nn ≤ q → B32 31 q = a 31 q) → (nn ≤ 360) → va_P D vwCl (mW K o r f B32 g) H → va_D A (mW K o r f B32 g) → va_S A s.heap H locs → lv_has ls 4 [(3, .int y31), (2, .int 24), (0, .ref o), (1, .int wh)] → W p l e (rmD 1 0 0) s m ([.ref o, .int wh] : List Value).toArray below meth c H locs 0 0 (kQv D (tysK K) (fun (u : mS) => mI u.1 u.2.1 ∧ mE (XR []) f a u.1 u.2.1 ∧ mPs (u.1 33) (u.2.1 31) (kpP P wh (a 2)) ∧ mZ [33] [31] f a u.1 u.2.1) (fun u => mW K o r u.1 u.2.1 u.2.2) A below ([.ref o, .int wh] : List Value).toArray s 0 0) (F0 m 14 ls []) := by
      intro n34
      induction n34 with
      | zero =>
        intro nn B32  H locs ls y31 hmlp33 hI hE hZ b35 hvlp33_0 hvlp33_1 hvlp33_2 hvlp33_3 hP hD hS hl
        exact (by have h1 := b35.2; have h2 := hmlp33; omega : False).elim
      | succ n34 ihlp33 =>
        intro nn B32  H locs ls y31 hmlp33 hI hE hZ b35 hvlp33_0 hvlp33_1 hvlp33_2 hvlp33_3 hP hD hS hl
        have hnn : y31 = nI nn := nI_q hvlp33_0
        have hZB := hZ
        refine lv_iload_n hx hb dX12_keeps_14 rfl (lv_at hl 0 rfl) ?_
        refine lv_bipush (v := 15) hx hb dX12_keeps_15 (by decide) ?_
        refine lv_iload_n hx hb dX12_keeps_17 rfl (lv_at hl 1 rfl) ?_
        refine lv_imul hx hb dX12_keeps_18 ?_
        refine k_top (z := 360) (by decide +kernel) ?_
        refine lv_icmp_ge (tgt := 42) hx hb dX12_keeps_19 (by decide) (fun c36 => ?_) (fun c36 => ?_)
        · have h37 := (kc_le c36)
          have b38 : kb 360 y31 360 := kr_le2 h37 kc_360 b35
          have hsh : ∀ q, q < 360 → B32 31 q = a 31 (q + 24) := by have w9 := hvlp33_1; rw [(by have w1 := hvlp33_0; have w2 := (b38).1; have w3 := hvlp33_3; omega : nn = 360)] at w9; exact w9
          refine lv_aload_n hx hb dX12_keeps_42 rfl (lv_at hl 2 rfl) ?_
          refine lv_dup hx hb dX12_keeps_43 rfl ?_
          refine va_get (D := D) (ci := 12) (v := .int (f 33)) (C := RX12) (T := TX12) (N := 48) hx hb hg inC12 hown hK hP 0 rfl rfl 33 (by decide) (hg _ wt5_193) (fun _ h9 => h9) rfl dX12_keeps_44 ?_
          refine k_top (z := c33) ec33.symm ?_
          refine lv_iconst (v := 1) hx hb dX12_keeps_47 (by decide) ?_
          refine lv_isub hx hb dX12_keeps_48 ?_
          refine lv_topi (fun t39 et39 => ?_)
          have b40 : kb 15 t39 15 := kb_eq et39 (kb_sub b30 kc_1 (by decide) (by decide))
          have qt39 : t39.toInt = c33.toInt - 1 := by rw [et39]; exact kt_subc b30 kc_1 (by decide) (by decide)
          refine va_put (D := D) (ci := 12) (v := .int t39) (ty := .int) (C := RX12) (T := TX12) (N := 48) hx hb hg inC12 tyX12 tyX12_ok nmX12 hown hK hP hD hS 0 rfl rfl 33 (by decide) (hg _ wt5_193) (fun _ h9 => h9) rfl (by decide +kernel) rfl rfl (Nat.le_of_ble_eq_true rfl) dX12_keeps_49 (fun H locs hP hD hS => ?_)
          have hP : va_P D vwCl (mW K o r (upd f 33 t39) B32 g) H := hP
          have hD : va_D A (mW K o r (upd f 33 t39) B32 g) := hD
          refine k_gen (P := fun z => va_P D vwCl (mW K o r z B32 g) H ∧ va_D A (mW K o r z B32 g) ∧ (mI z B32) ∧ (mE (XR []) f a z B32) ∧ (mZ [33] [31] f a z B32)) (upd f 33 t39) ⟨hP, hD, (mI_f hI (fI_st hI.1 33 b40 (by decide) (by decide))), (mE_f hE (by decide)), (mZ_f hZ rfl)⟩ (fun f_41 ef_41 hq => ?_)
          obtain ⟨hP, hD, hI, hE, hZ⟩ := hq
          have hUv : t39.toInt = 15 := by have w1 := qt39; have w2 := congrArg Int32.toInt c2; have w3 : (16 : Int32).toInt = 16 := (by decide +kernel); omega
          have hPf : P.1 = 16 := by have w2 := congrArg Int32.toInt c2; have w3 : (16 : Int32).toInt = 16 := (by decide +kernel); omega
          refine lv_iconst (v := 0) hx hb dX12_keeps_52 (by decide) ?_
          refine lv_istore_n (lv' := [(3, .int 0), (2, .int 24), (0, .ref o), (1, .int wh)]) hx hb dX12_keeps_53 rfl hl (by decide) rfl (fun ls hl => ?_)
          have lp44 : ∀ (n45 : Nat) (n2 : Nat) (B43 : Nat → Nat → Int32) (H : Heap) (locs : List Loc) (ls : Array Slot) (y42 : Int32), (23 < y42.toInt + (n45 : Int)) → (mI f_41 B43) → (mE (XR []) f a f_41 B43) → (mZ [33] [31] f a f_41 B43) → (kb 0 y42 23) → (y42.toInt = (n2 : Int)) → (∀ q, q < n2 → B43 31 (24 * 15 + q) = a 2 q) → (∀ q, q < 24 * 15 → B43 31 q = B32 31 q) → (n2 ≤ 23) → va_P D vwCl (mW K o r f_41 B43 g) H → va_D A (mW K o r f_41 B43 g) → va_S A s.heap H locs → lv_has ls 4 [(3, .int y42), (2, .int 24), (0, .ref o), (1, .int wh)] → W p l e (rmD 1 0 0) s m ([.ref o, .int wh] : List Value).toArray below meth c H locs 0 0 (kQv D (tysK K) (fun (u : mS) => mI u.1 u.2.1 ∧ mE (XR []) f a u.1 u.2.1 ∧ mPs (u.1 33) (u.2.1 31) (kpP P wh (a 2)) ∧ mZ [33] [31] f a u.1 u.2.1) (fun u => mW K o r u.1 u.2.1 u.2.2) A below ([.ref o, .int wh] : List Value).toArray s 0 0) (F0 m 54 ls []) := by
            intro n45
            induction n45 with
            | zero =>
              intro n2 B43  H locs ls y42 hmlp44 hI hE hZ b46 hvlp44_0 hvlp44_1 hvlp44_2 hvlp44_3 hP hD hS hl
              exact (by have h1 := b46.2; have h2 := hmlp44; omega : False).elim
            | succ n45 ihlp44 =>
              intro n2 B43  H locs ls y42 hmlp44 hI hE hZ b46 hvlp44_0 hvlp44_1 hvlp44_2 hvlp44_3 hP hD hS hl
              have hnn : y42 = nI n2 := nI_q hvlp44_0
              have hZB := hZ
              refine lv_iload_n hx hb dX12_keeps_54 rfl (lv_at hl 0 rfl) ?_
              refine lv_bipush (v := 23) hx hb dX12_keeps_55 (by decide) ?_
              refine lv_icmp_ge (tgt := 85) hx hb dX12_keeps_57 (by decide) (fun c47 => ?_) (fun c47 => ?_)
              · have h48 := (kc_le c47)
                have b49 : kb 23 y42 23 := kr_le2 h48 kc_23 b46
                refine lv_aload_n hx hb dX12_keeps_85 rfl (lv_at hl 2 rfl) ?_
                refine va_get (D := D) (ci := 12) (v := .ref (r 31)) (C := RX12) (T := TX12) (N := 48) hx hb hg inC12 hown hK hP 0 rfl rfl 31 (by decide) (hg _ wt5_191) (fun _ h9 => h9) rfl dX12_keeps_86 ?_
                refine lv_iload_n hx hb dX12_keeps_89 rfl (lv_at hl 1 rfl) ?_
                refine lv_aload_n hx hb dX12_keeps_90 rfl (lv_at hl 2 rfl) ?_
                refine va_get (D := D) (ci := 12) (v := .int (f_41 33)) (C := RX12) (T := TX12) (N := 48) hx hb hg inC12 hown hK hP 0 rfl rfl 33 (by decide) (hg _ wt5_193) (fun _ h9 => h9) rfl dX12_keeps_91 ?_
                refine k_top (z := t39) (show f_41 33 = t39 from by rw [← ef_41]; rfl) ?_
                refine lv_imul hx hb dX12_keeps_94 ?_
                refine lv_topi (fun t50 et50 => ?_)
                have b51 : kb 360 t50 360 := kb_eq et50 (kb_mul kc_24 b40 (by decide) (by decide) (by decide))
                have qt50 : t50.toInt = 24 * t39.toInt := by rw [et50]; exact kt_cmul kc_24 b40 (by decide) (by decide) (by decide)
                refine lv_bipush (v := 23) hx hb dX12_keeps_95 (by decide) ?_
                refine lv_iadd hx hb dX12_keeps_97 ?_
                refine lv_topi (fun t52 et52 => ?_)
                have b53 : kb 383 t52 383 := kb_eq et52 (kb_add b51 kc_23 (by decide) (by decide))
                have qt52 : t52.toInt = t50.toInt + 23 := by rw [et52]; exact kt_addc b51 kc_23 (by decide) (by decide)
                refine lv_iload_n hx hb dX12_keeps_98 rfl (lv_at hl 3 rfl) ?_
                refine va_iast hx hb hK hP hD hS 15 0 rfl rfl (kb_in b53 (by decide) (by decide)) dX12_keeps_99 (fun H locs hP hD hS => ?_)
                have hP : va_P D vwCl (mW K o r f_41 (va_up B43 31 (upd (B43 31) t52.toNatClampNeg wh)) g) H := hP
                have hD : va_D A (mW K o r f_41 (va_up B43 31 (upd (B43 31) t52.toNatClampNeg wh)) g) := hD
                refine k_gen (P := fun z => va_P D vwCl (mW K o r f_41 z g) H ∧ va_D A (mW K o r f_41 z g) ∧ (mI f_41 z) ∧ (mE (XR []) f a f_41 z) ∧ (mZ [33] [31] f a f_41 z)) (va_up B43 31 (upd (B43 31) t52.toNatClampNeg wh)) ⟨hP, hD, (mI_s hI (aI_any hI.2.1 31 _ (kq_31f (kb_w b40 (by decide) (by decide)) (by omega))) (by decide) (by decide)), (mE_s hE (by decide) (by decide) (by decide) (by decide)), (mZ_a hZ rfl)⟩ (fun a_54 ea_54 hq => ?_)
                obtain ⟨hP, hD, hI, hE, hZ⟩ := hq
                refine lv_aload_n hx hb dX12_keeps_100 rfl (lv_at hl 2 rfl) ?_
                refine lv_dup hx hb dX12_keeps_101 rfl ?_
                refine va_get (D := D) (ci := 12) (v := .int (f_41 33)) (C := RX12) (T := TX12) (N := 48) hx hb hg inC12 hown hK hP 0 rfl rfl 33 (by decide) (hg _ wt5_193) (fun _ h9 => h9) rfl dX12_keeps_102 ?_
                refine k_top (z := t39) (show f_41 33 = t39 from by rw [← ef_41]; rfl) ?_
                refine lv_iconst (v := 1) hx hb dX12_keeps_105 (by decide) ?_
                refine lv_iadd hx hb dX12_keeps_106 ?_
                refine lv_topi (fun t55 et55 => ?_)
                have b56 : kb 16 t55 16 := kb_eq et55 (kb_add b40 kc_1 (by decide) (by decide))
                have qt55 : t55.toInt = t39.toInt + 1 := by rw [et55]; exact kt_addc b40 kc_1 (by decide) (by decide)
                refine va_put (D := D) (ci := 12) (v := .int t55) (ty := .int) (C := RX12) (T := TX12) (N := 48) hx hb hg inC12 tyX12 tyX12_ok nmX12 hown hK hP hD hS 0 rfl rfl 33 (by decide) (hg _ wt5_193) (fun _ h9 => h9) rfl (by decide +kernel) rfl rfl (Nat.le_of_ble_eq_true rfl) dX12_keeps_107 (fun H locs hP hD hS => ?_)
                have hP : va_P D vwCl (mW K o r (upd f_41 33 t55) a_54 g) H := hP
                have hD : va_D A (mW K o r (upd f_41 33 t55) a_54 g) := hD
                refine k_gen (P := fun z => va_P D vwCl (mW K o r z a_54 g) H ∧ va_D A (mW K o r z a_54 g) ∧ (mI z a_54) ∧ (mE (XR []) f a z a_54) ∧ (mZ [33] [31] f a z a_54)) (upd f_41 33 t55) ⟨hP, hD, (mI_f hI (fI_st hI.1 33 b56 (by decide) (by decide))), (mE_f hE (by decide)), (mZ_f hZ rfl)⟩ (fun f_57 ef_57 hq => ?_)
                obtain ⟨hP, hD, hI, hE, hZ⟩ := hq
                exact kV_ret hx hb hr hlocks hK hS dX12_keeps_110 (f_57, a_54, g) hP hD ⟨hI, hE, (mP_kB hp0 hPf (fun q hq => ((lo_1 hvlp44_2 (show a_54 31 = upd (B43 31) t52.toNatClampNeg wh from by rw [← ea_54]; rfl) (by have w5 := (show t52.toNatClampNeg = 24 * 15 + 23 from by have w2 := qt52; have w3 := qt50; have w4 := hUv; unfold Int32.toNatClampNeg; omega); omega)) q hq).trans (hsh q hq)) (fun i hi => cp_f (n := 24 * 15) (by have w9 := hvlp44_1; rw [(by have w1 := hvlp44_0; have w2 := (b49).1; have w3 := hvlp44_3; omega : n2 = 23)] at w9; exact w9) (show a_54 31 = upd (B43 31) t52.toNatClampNeg wh from by rw [← ea_54]; rfl) (show t52.toNatClampNeg = 24 * 15 + 23 from by have w2 := qt52; have w3 := qt50; have w4 := hUv; unfold Int32.toNatClampNeg; omega) i hi) (by (try dsimp only); rw [show a_54 31 = _ from (show a_54 31 = upd (B43 31) t52.toNatClampNeg wh from by rw [← ea_54]; rfl), show 383 = t52.toNatClampNeg from (show t52.toNatClampNeg = 24 * 15 + 23 from by have w2 := qt52; have w3 := qt50; have w4 := hUv; unfold Int32.toNatClampNeg; omega).symm]; exact pk_us) (by show (f_57 33).toInt = _; rw [(show f_57 33 = t55 from by rw [← ef_57]; rfl)]; have w1 := qt55; have w2 := hUv; omega)), hZ⟩
              · have h58 := (kc_nle c47)
                have b59 : kb 0 y42 22 := kr_lt1 h58 b46 kc_23 (by decide)
                refine lv_aload_n hx hb dX12_keeps_60 rfl (lv_at hl 2 rfl) ?_
                refine va_get (D := D) (ci := 12) (v := .ref (r 31)) (C := RX12) (T := TX12) (N := 48) hx hb hg inC12 hown hK hP 0 rfl rfl 31 (by decide) (hg _ wt5_191) (fun _ h9 => h9) rfl dX12_keeps_61 ?_
                refine lv_iload_n hx hb dX12_keeps_64 rfl (lv_at hl 1 rfl) ?_
                refine lv_aload_n hx hb dX12_keeps_65 rfl (lv_at hl 2 rfl) ?_
                refine va_get (D := D) (ci := 12) (v := .int (f_41 33)) (C := RX12) (T := TX12) (N := 48) hx hb hg inC12 hown hK hP 0 rfl rfl 33 (by decide) (hg _ wt5_193) (fun _ h9 => h9) rfl dX12_keeps_66 ?_
                refine k_top (z := t39) (show f_41 33 = t39 from by rw [← ef_41]; rfl) ?_
                refine lv_imul hx hb dX12_keeps_69 ?_
                refine lv_topi (fun t60 et60 => ?_)
                have b61 : kb 360 t60 360 := kb_eq et60 (kb_mul kc_24 b40 (by decide) (by decide) (by decide))
                have qt60 : t60.toInt = 24 * t39.toInt := by rw [et60]; exact kt_cmul kc_24 b40 (by decide) (by decide) (by decide)
                refine lv_iload_n hx hb dX12_keeps_70 rfl (lv_at hl 0 rfl) ?_
                refine lv_iadd hx hb dX12_keeps_71 ?_
                refine lv_topi (fun t62 et62 => ?_)
                have b63 : kb 360 t62 382 := kb_eq et62 (kb_add b61 b59 (by decide) (by decide))
                have qt62 : t62.toInt = t60.toInt + y42.toInt := by rw [et62]; exact kt_add b61 b59 (by decide) (by decide)
                refine lv_aload_n hx hb dX12_keeps_72 rfl (lv_at hl 2 rfl) ?_
                refine va_get (D := D) (ci := 12) (v := .ref (r 2)) (C := RX12) (T := TX12) (N := 48) hx hb hg inC12 hown hK hP 0 rfl rfl 2 (by decide) (hg _ wt5_162) (fun _ h9 => h9) rfl dX12_keeps_73 ?_
                refine lv_iload_n hx hb dX12_keeps_76 rfl (lv_at hl 0 rfl) ?_
                refine va_iald hx hb hK hP 2 0 rfl rfl (kb_in b59 (by decide) (by decide)) dX12_keeps_77 ?_
                refine lv_topi (fun t64 et64 => ?_)
                refine va_iast hx hb hK hP hD hS 15 0 rfl rfl (kb_in b63 (by decide) (by decide)) dX12_keeps_78 (fun H locs hP hD hS => ?_)
                have hP : va_P D vwCl (mW K o r f_41 (va_up B43 31 (upd (B43 31) t62.toNatClampNeg t64)) g) H := hP
                have hD : va_D A (mW K o r f_41 (va_up B43 31 (upd (B43 31) t62.toNatClampNeg t64)) g) := hD
                refine k_gen (P := fun z => va_P D vwCl (mW K o r f_41 z g) H ∧ va_D A (mW K o r f_41 z g) ∧ (mI f_41 z) ∧ (mE (XR []) f a f_41 z) ∧ (mZ [33] [31] f a f_41 z)) (va_up B43 31 (upd (B43 31) t62.toNatClampNeg t64)) ⟨hP, hD, (mI_s hI (aI_mv hI.2.1 31 _ 2 _ et64 (kq_31 b59 (kb_w b40 (by decide) (by decide)) (by omega))) (by decide) (by decide)), (mE_s hE (by decide) (by decide) (by decide) (by decide)), (mZ_a hZ rfl)⟩ (fun a_65 ea_65 hq => ?_)
                obtain ⟨hP, hD, hI, hE, hZ⟩ := hq
                obtain ⟨t66, et66⟩ : ∃ z : Int32, z = y42 + Int32.ofInt 1 := ⟨_, rfl⟩
                have qt66 : t66.toInt = y42.toInt + 1 := by rw [et66]; exact km_inc b59 (by decide) (by decide)
                have b67 : kb 1 t66 23 := kb_inc (k := 1) qt66 b59
                refine lv_iinc (v := t66) (lv' := [(3, .int t66), (2, .int 24), (0, .ref o), (1, .int wh)]) hx hb dX12_keeps_79 hl (k := 0) rfl et66.symm (by decide) rfl (fun ls hl => ?_)
                refine lv_goto (tgt := 54) hx hb dX12_keeps_82 (by decide) ?_
                exact ihlp44 (n2 + 1) a_65 _ _ _ t66 (km_up hmlp44 qt66) hI hE hZ (kb_w b67 (by decide) (by decide)) (by have w1 := hvlp44_0; have w2 := qt66; omega) (cp_s (n := 24 * 15) hvlp44_1 (show a_65 31 = upd (B43 31) t62.toNatClampNeg t64 from by rw [← ea_65]; rfl) (by have w1 := hvlp44_0; have w2 := qt62; have w3 := qt60; have w4 := hUv; unfold Int32.toNatClampNeg; omega) (et64.trans (by rw [cl_nat hvlp44_0]; exact congrFun (hZB.2 2 rfl) n2))) (lo_1 hvlp44_2 (show a_65 31 = upd (B43 31) t62.toNatClampNeg t64 from by rw [← ea_65]; rfl) (by have w2 := qt62; have w3 := qt60; have w4 := hUv; have w1 := hvlp44_0; unfold Int32.toNatClampNeg; omega)) (by have w1 := hvlp44_0; have w2 := (b59).2; omega) hP hD hS (lv_sub hl [0, 1, 2, 3] rfl)
          exact lp44 (24) 0 B32 _ _ _ 0 (by have h1 := (kc_0); unfold kb at h1; omega) hI hE hZ (kb_w kc_0 (by decide) (by decide)) (by decide +kernel) (fun q h => absurd h (Nat.not_lt_zero q)) (fun q _ => rfl) (Nat.zero_le _) hP hD hS (lv_sub hl [0, 1, 2, 3] rfl)
        · have h68 := (kc_nle c36)
          have b69 : kb 0 y31 359 := kr_lt1 h68 b35 kc_360 (by decide)
          refine lv_aload_n hx hb dX12_keeps_22 rfl (lv_at hl 2 rfl) ?_
          refine va_get (D := D) (ci := 12) (v := .ref (r 31)) (C := RX12) (T := TX12) (N := 48) hx hb hg inC12 hown hK hP 0 rfl rfl 31 (by decide) (hg _ wt5_191) (fun _ h9 => h9) rfl dX12_keeps_23 ?_
          refine lv_iload_n hx hb dX12_keeps_26 rfl (lv_at hl 0 rfl) ?_
          refine lv_aload_n hx hb dX12_keeps_27 rfl (lv_at hl 2 rfl) ?_
          refine va_get (D := D) (ci := 12) (v := .ref (r 31)) (C := RX12) (T := TX12) (N := 48) hx hb hg inC12 hown hK hP 0 rfl rfl 31 (by decide) (hg _ wt5_191) (fun _ h9 => h9) rfl dX12_keeps_28 ?_
          refine lv_iload_n hx hb dX12_keeps_31 rfl (lv_at hl 0 rfl) ?_
          refine lv_iload_n hx hb dX12_keeps_32 rfl (lv_at hl 1 rfl) ?_
          refine lv_iadd hx hb dX12_keeps_33 ?_
          refine lv_topi (fun t70 et70 => ?_)
          have b71 : kb 24 t70 383 := kb_eq et70 (kb_add b69 kc_24 (by decide) (by decide))
          have qt70 : t70.toInt = y31.toInt + 24 := by rw [et70]; exact kt_addc b69 kc_24 (by decide) (by decide)
          refine va_iald hx hb hK hP 15 0 rfl rfl (kb_in b71 (by decide) (by decide)) dX12_keeps_34 ?_
          refine lv_topi (fun t72 et72 => ?_)
          refine va_iast hx hb hK hP hD hS 15 0 rfl rfl (kb_in b69 (by decide) (by decide)) dX12_keeps_35 (fun H locs hP hD hS => ?_)
          have hP : va_P D vwCl (mW K o r f (va_up B32 31 (upd (B32 31) y31.toNatClampNeg t72)) g) H := hP
          have hD : va_D A (mW K o r f (va_up B32 31 (upd (B32 31) y31.toNatClampNeg t72)) g) := hD
          refine k_gen (P := fun z => va_P D vwCl (mW K o r f z g) H ∧ va_D A (mW K o r f z g) ∧ (mI f z) ∧ (mE (XR []) f a f z) ∧ (mZ [33] [31] f a f z)) (va_up B32 31 (upd (B32 31) y31.toNatClampNeg t72)) ⟨hP, hD, (mI_s hI (aI_mv hI.2.1 31 _ 31 _ et72 (kq_31s b69 (by omega))) (by decide) (by decide)), (mE_s hE (by decide) (by decide) (by decide) (by decide)), (mZ_a hZ rfl)⟩ (fun a_73 ea_73 hq => ?_)
          obtain ⟨hP, hD, hI, hE, hZ⟩ := hq
          obtain ⟨t74, et74⟩ : ∃ z : Int32, z = y31 + Int32.ofInt 1 := ⟨_, rfl⟩
          have qt74 : t74.toInt = y31.toInt + 1 := by rw [et74]; exact km_inc b69 (by decide) (by decide)
          have b75 : kb 1 t74 360 := kb_inc (k := 1) qt74 b69
          refine lv_iinc (v := t74) (lv' := [(3, .int t74), (2, .int 24), (0, .ref o), (1, .int wh)]) hx hb dX12_keeps_36 hl (k := 0) rfl et74.symm (by decide) rfl (fun ls hl => ?_)
          refine lv_goto (tgt := 14) hx hb dX12_keeps_39 (by decide) ?_
          exact ihlp33 (nn + 1) a_73 _ _ _ t74 (km_up hmlp33 qt74) hI hE hZ (kb_w b75 (by decide) (by decide)) (by have w1 := hvlp33_0; have w2 := qt74; omega) (sh_1 hvlp33_1 (show a_73 31 = upd (B32 31) y31.toNatClampNeg t72 from by rw [← ea_73]; rfl) (cl_nat hvlp33_0) (et72.trans ((congrArg (B32 31) (show t70.toNatClampNeg = nn + 24 from by have w1 := hvlp33_0; have w2 := qt70; unfold Int32.toNatClampNeg; omega)).trans (hvlp33_2 (nn + 24) (by omega))))) (sh_2 hvlp33_2 (show a_73 31 = upd (B32 31) y31.toNatClampNeg t72 from by rw [← ea_73]; rfl) (cl_nat hvlp33_0)) (by have w1 := hvlp33_0; have w2 := (b69).2; omega) hP hD hS (lv_sub hl [0, 1, 2, 3] rfl)
    exact lp33 (361) 0 a _ _ _ 0 (by have h1 := (kc_0); unfold kb at h1; omega) hI hE hZ (kb_w kc_0 (by decide) (by decide)) (by decide +kernel) (fun q h => absurd h (Nat.not_lt_zero q)) (fun q _ => rfl) (Nat.zero_le _) hP hD hS (lv_sub hl [0, 1, 2, 3] rfl)
