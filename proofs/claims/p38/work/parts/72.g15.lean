/-! rows: in how many orders the rest can be built -/
def mBit (x y : Int32) : Int32 := if ((x >>> (y &&& 31)) &&& 1) = 1 then 1 else 0
def mCF (k : Nat → Int32) (x y : Int32) : Int32 := if mBit x y = 0 then (if k (33 + y).toNatClampNeg &&& (x ^^^ (-1)) = 0 then 1 else 0) else 0
def fac : Nat → Nat | 0 => 1 | n + 1 => (n + 1) * fac n
def oB (s : Nat) : Nat := fac (10 - pop s)
def pB (s : Nat) : Nat → Nat | 0 => 0 | q + 1 => pB s q + (if s.testBit q = true then 0 else oB (s ||| 2 ^ q))
theorem chkB : ∀ s : Fin 1023, pB s.val 10 ≤ oB s.val := by decide +kernel
theorem chkF : ∀ s : Fin 1024, oB s.val ≤ 3628800 ∧ 1 ≤ oB s.val := by decide +kernel
theorem chkP : ∀ (s : Fin 1024) (q : Fin 10), s.val.testBit q.val = false → pop (s.val ||| 2 ^ q.val) = pop s.val + 1 := by decide +kernel
theorem chkA : ∀ n : Fin 11, pop (2 ^ n.val - 1) = n.val := by decide +kernel
theorem pB_mono (s : Nat) : ∀ q d : Nat, pB s q ≤ pB s (q + d) := by
  intro q d
  induction d with
  | zero => exact Nat.le_refl _
  | succ d ih => exact Nat.le_trans ih (Nat.le_add_right _ _)
theorem mBit_t {s q : Nat} (hs : s < 1024) (hq : q < 10) : mBit (nI s) (nI q) = if s.testBit q = true then 1 else 0 := by
  have h1 : nI s >>> (nI q &&& 31) = nI (s / 2 ^ q) := by
    refine pk_shrN (by omega) _ q ?_
    have : ∀ q : Fin 10, (((nI q.val) &&& 31).toBitVec.smod 32).toNat = q.val := by decide +kernel
    exact this ⟨q, hq⟩
  have h2 : nI (s / 2 ^ q) &&& 1 = nI (s / 2 ^ q % 2 ^ 1) := pk_andN (Nat.lt_of_le_of_lt (Nat.div_le_self _ _) (by omega)) 1 (by decide)
  unfold mBit
  rw [h1, h2, Nat.testBit_eq_decide_div_mod_eq]
  have h3 : s / 2 ^ q % 2 = 0 ∨ s / 2 ^ q % 2 = 1 := by omega
  rcases h3 with h3 | h3
  · rw [show s / 2 ^ q % 2 ^ 1 = 0 from h3, if_neg (by decide +kernel), if_neg (by decide)]
  · rw [show s / 2 ^ q % 2 ^ 1 = 1 from h3, if_pos (by decide +kernel), if_pos (by decide)]
def fB (k : Nat → Int32) (s q : Nat) : Bool := decide (mCF k (nI s) (nI q) = 1)
theorem fB_t {k : Nat → Int32} {s q : Nat} (hs : s < 1024) (hq : q < 10) (h : fB k s q = true) : s.testBit q = false := by
  have h1 := of_decide_eq_true h
  unfold mCF at h1
  rw [mBit_t hs hq] at h1
  cases ht : s.testBit q with
  | false => rfl
  | true =>
    rw [ht, if_pos rfl, if_neg (by decide +kernel)] at h1
    exact absurd h1 (by decide +kernel)
def pSr (k O : Nat → Int32) (s : Nat) : Nat → Int | 0 => 0 | q + 1 => pSr k O s q + (if fB k s q = true then (O (s ||| 2 ^ q)).toInt else 0)
theorem or_lt {s q N : Nat} (hs : s < 2 ^ N) (hq : q < N) : s ||| 2 ^ q < 2 ^ N := Nat.or_lt_two_pow hs (Nat.pow_lt_pow_right (by decide) hq)
theorem or_gt {s q : Nat} (h : s.testBit q = false) : s < s ||| 2 ^ q := by
  have h1 : s ≤ s ||| 2 ^ q := Nat.left_le_or
  have h2 : s ≠ s ||| 2 ^ q := by
    intro e
    have h3 : (s ||| 2 ^ q).testBit q = true := by rw [Nat.testBit_or, Nat.testBit_two_pow_self]; simp
    rw [← e, h] at h3; cases h3
  omega
/-- sets from m on are laid -/
def oDn (k : Nat → Int32) (N : Nat) (O : Nat → Int32) (m : Nat) : Prop := ∀ s, m ≤ s → s < 2 ^ N → (s < 2 ^ N - 1 → (O s).toInt = pSr k O s N) ∧ 0 ≤ (O s).toInt ∧ (O s).toInt ≤ (oB s : Int)
theorem p2 {N : Nat} (h : N ≤ 10) : 2 ^ N ≤ 1024 ∧ 1 ≤ 2 ^ N := ⟨Nat.le_trans (Nat.pow_le_pow_right (by decide) h) (by decide), Nat.one_le_two_pow⟩
theorem pS_bd {k O : Nat → Int32} {N m s : Nat} (hN : N ≤ 10) (h : oDn k N O m) (hm : m ≤ s + 1) (hs : s < 2 ^ N) : ∀ q, q ≤ N → 0 ≤ pSr k O s q ∧ pSr k O s q ≤ (pB s q : Int) := by
  have hp := p2 hN
  intro q
  induction q with
  | zero => intro _; exact ⟨Int.le_refl _, Int.le_refl _⟩
  | succ q ih =>
    intro hq
    obtain ⟨i1, i2⟩ := ih (by omega)
    show 0 ≤ pSr k O s q + _ ∧ pSr k O s q + _ ≤ ((pB s q + _ : Nat) : Int)
    by_cases hf : fB k s q = true
    · have ht := fB_t (by omega) (by omega) hf
      obtain ⟨-, h1, h2⟩ := h (s ||| 2 ^ q) (by have := or_gt ht; omega) (or_lt hs (by omega))
      rw [if_pos hf, if_neg (by rw [ht]; decide)]
      omega
    · rw [if_neg hf]
      omega
theorem pS_cg {k O O' : Nat → Int32} {s m : Nat} (h : ∀ j, m < j → O' j = O j) (hs : m ≤ s) (h2 : s < 1024) : ∀ q, q ≤ 10 → pSr k O' s q = pSr k O s q := by
  intro q
  induction q with
  | zero => intro _; rfl
  | succ q ih =>
    intro hq
    show pSr k O' s q + _ = pSr k O s q + _
    rw [ih (by omega)]
    by_cases hf : fB k s q = true
    · have := or_gt (fB_t h2 (by omega) hf)
      rw [if_pos hf, if_pos hf, h _ (by omega)]
    · rw [if_neg hf, if_neg hf]
theorem oDn_0 {k O : Nat → Int32} {N : Nat} (hN : N ≤ 10) (h : O (2 ^ N - 1) = 1) : oDn k N O (2 ^ N - 1) := by
  have hp := p2 hN
  intro s h1 h2
  have e : s = 2 ^ N - 1 := by omega
  have e1 : (1 : Int32).toInt = 1 := by decide +kernel
  refine ⟨fun h3 => by omega, ?_⟩
  rw [e, h, e1]
  have h9 : 1 ≤ oB (2 ^ N - 1) := (chkF ⟨2 ^ N - 1, by omega⟩).2
  exact ⟨by decide, by show (1 : Int) ≤ ((oB (2 ^ N - 1) : Nat) : Int); omega⟩
theorem oDn_s {k O : Nat → Int32} {N s : Nat} {v : Int32} (hN : N ≤ 10) (h : oDn k N O (s + 1)) (hs : s + 1 < 2 ^ N) (hv : v.toInt = pSr k O s N) : oDn k N (upd O s v) s := by
  have hp := p2 hN
  have hc : ∀ j, s < j → upd O s v j = O j := fun j hj => pk_un (by omega)
  intro s' h1 h2
  by_cases e : s' = s
  · subst e
    rw [pk_us, pS_cg hc (Nat.le_refl _) (by omega) N hN]
    have hb := pS_bd hN h (by omega) h2 N (Nat.le_refl _)
    have hm := pB_mono s' N (10 - N)
    rw [show N + (10 - N) = 10 by omega] at hm
    have hk := chkB ⟨s', by omega⟩
    refine ⟨fun _ => hv, by rw [hv]; exact hb.1, ?_⟩
    rw [hv]
    have hk2 : pB s' 10 ≤ oB s' := hk
    omega
  · have h3 := h s' (by omega) h2
    rw [pS_cg hc (by omega) (by omega) N hN, hc s' (by omega)]
    exact h3
theorem oDn_b {k O : Nat → Int32} {N m s : Nat} (hN : N ≤ 10) (h : oDn k N O m) (h1 : m ≤ s) (h2 : s < 2 ^ N) : kb 0 (O s) 3628800 := by
  have hp := p2 hN
  have h3 := h s h1 h2
  have h4 := (chkF ⟨s, by omega⟩).1
  have h5 : oB s ≤ 3628800 := h4
  exact ⟨h3.2.1, by omega⟩
theorem nI_orr {a b : Nat} (ha : a < 1024) (hb : b < 1024) : nI a ||| nI b = nI (a ||| b) := by
  apply Int32.toBitVec_inj.mp
  apply BitVec.eq_of_toNat_eq
  have hab : a ||| b < 2 ^ 10 := Nat.or_lt_two_pow ha hb
  rw [kn_bv (by omega), Int32.toBitVec_or, BitVec.toNat_or, kn_bv (by omega), kn_bv (by omega)]

theorem ix_or {x p : Int32} {s q : Nat} (hx : x.toInt = (s : Int)) (hp : p.toInt = (q : Int)) (hs : s < 1024) (hq : q < 10) : x ||| ((1 : Int32) <<< (p &&& 31)) = nI (s ||| 2 ^ q) := by
  rw [nI_ofI hx (by omega), nI_ofI hp (by omega)]
  have e : (1 : Int32) <<< (nI q &&& 31) = nI (2 ^ q) := kn_shl ⟨q, by omega⟩
  have h2 : 2 ^ q < 1024 := Nat.lt_of_lt_of_le (Nat.pow_lt_pow_right (by decide) hq) (by decide)
  rw [e, nI_orr hs h2]
theorem or_l {s q : Nat} (hs : s < 1024) (hq : q < 10) : s ||| 2 ^ q < 1024 := or_lt (N := 10) hs hq
theorem cl_or {x p t : Int32} {s q : Nat} (e : t = x ||| ((1 : Int32) <<< (p &&& 31))) (hx : x.toInt = (s : Int)) (hp : p.toInt = (q : Int)) (hs : s < 1024) (hq : q < 10) : t.toNatClampNeg = s ||| 2 ^ q ∧ t.toInt = ((s ||| 2 ^ q : Nat) : Int) := by
  have h := or_l hs hq
  have h2 : t.toInt = ((s ||| 2 ^ q : Nat) : Int) := by rw [e, ix_or hx hp hs hq, kn_to (by omega)]
  exact ⟨by unfold Int32.toNatClampNeg; omega, h2⟩
theorem fB_y {k : Nat → Int32} {x p v : Int32} {s q : Nat} (hv : v = mCF k x p) (hx : x.toInt = (s : Int)) (hp : p.toInt = (q : Int)) (hs : s < 1024) (hq : q < 10) (h : ¬ v = 0) (b : kb 0 v 1) : fB k s q = true := by
  unfold fB
  rw [← nI_ofI hx (by omega), ← nI_ofI hp (by omega), ← hv]
  refine decide_eq_true ?_
  have b1 := b.1; have b2 := b.2
  apply Int32.toInt_inj.mp
  have e0 : (0 : Int32).toInt = 0 := by decide +kernel
  have e1 : (1 : Int32).toInt = 1 := by decide +kernel
  have : v.toInt ≠ 0 := fun q => h (Int32.toInt_inj.mp (by rw [q, e0]))
  omega
theorem fB_n {k : Nat → Int32} {x p v : Int32} {s q : Nat} (hv : v = mCF k x p) (hx : x.toInt = (s : Int)) (hp : p.toInt = (q : Int)) (hs : s < 1024) (hq : q < 10) (h : v = 0) : ¬ fB k s q = true := by
  intro hf
  have h1 := of_decide_eq_true hf
  rw [← nI_ofI hx (by omega), ← nI_ofI hp (by omega), ← hv, h] at h1
  exact absurd h1 (by decide +kernel)
theorem pS_y {k O : Nat → Int32} {s q : Nat} (h : fB k s q = true) : pSr k O s (q + 1) = pSr k O s q + (O (s ||| 2 ^ q)).toInt := by
  show _ + _ = _
  rw [if_pos h]
theorem pS_n {k O : Nat → Int32} {s q : Nat} (h : ¬ fB k s q = true) : pSr k O s (q + 1) = pSr k O s q := by
  show _ + _ = _
  rw [if_neg h]; omega
set_option maxHeartbeats 4000000 in
set_option maxRecDepth 100000 in
theorem m2_isIn (l : Launch) (x : Int32) (y : Int32)   : kN l yX12_isIn (Cond.code yX12_isIn cX12_isIn 2 (some .boolean) :: kG) (rmD 1 0 0) [.int x, .int y] (fun v => kb 0 v 1 ∧ v = mBit x y) := by
  refine kN.of (cc := cX12_isIn) (maxL := 2) (ret := (some .boolean)) (by decide) rfl (Nat.le_of_ble_eq_true rfl) ?_
  intro p e s m below meth c hx hb hr hml hown hts hlocks hS ls hl
  have hg : ∀ w ∈ kG, w.before _ s = true := fun w h => hts w (List.mem_cons_of_mem _ h)
  have hown : s.vm.findClass RX12 = some m.cls := hown
  have hl : lv_has ls 2 [(0, .int x), (1, .int y)] := hl
  refine lv_iload_n hx hb dX12_isIn_0 rfl (lv_at hl 0 rfl) ?_
  refine lv_iload_n hx hb dX12_isIn_1 rfl (lv_at hl 1 rfl) ?_
  refine lv_ishr hx hb dX12_isIn_2 ?_
  refine lv_topi (fun t1 et1 => ?_)
  refine lv_iconst (v := 1) hx hb dX12_isIn_3 (by decide) ?_
  refine lv_iand hx hb dX12_isIn_4 ?_
  refine lv_topi (fun t2 et2 => ?_)
  have b3 : kb 0 t2 1 := kb_eq et2 (kb_and 1 (by decide) (by decide))
  refine lv_iconst (v := 1) hx hb dX12_isIn_5 (by decide) ?_
  refine lv_icmp_ne (tgt := 13) hx hb dX12_isIn_6 (by decide) (fun c4 => ?_) (fun c4 => ?_)
  · have b5 : kb 0 t2 0 := kr_neh c4 b3 kc_1 (by decide)
    refine lv_iconst (v := 0) hx hb dX12_isIn_13 (by decide) ?_
    exact kN_ret (v := 0) hx hb hr hlocks (by decide +kernel) hS dX12_isIn_14 (⟨(kb_w kc_0 (by decide) (by decide)), (by unfold mBit; rw [← et1, ← et2]; exact (if_neg c4).symm)⟩)
  · have b6 : kb 1 t2 1 := kb_eq c4 kc_1
    refine lv_iconst (v := 1) hx hb dX12_isIn_9 (by decide) ?_
    refine lv_goto (tgt := 14) hx hb dX12_isIn_10 (by decide) ?_
    exact kN_ret (v := 1) hx hb hr hlocks (by decide +kernel) hS dX12_isIn_14 (⟨(kb_w kc_1 (by decide) (by decide)), (by unfold mBit; rw [← et1, ← et2]; exact (if_pos c4).symm)⟩)
set_option maxHeartbeats 4000000 in
set_option maxRecDepth 100000 in
theorem m2_canFollow  (l : Launch) {D : va_G} {K : Nat → ClassId} (o : Nat) (r : Nat → Nat) (f : Nat → Int32) (a : Nat → Nat → Int32) (g : Nat → Int64) (hI : mI f a) (st : Int32) (pt : Int32) (bst : kb 0 st 1023) (bpt : kb 0 pt 9)   : kI l yX12_canFollow (Cond.code yX12_canFollow cX12_canFollow 3 (some .boolean) :: kG) (rmD 2 0 0) D (tysK K) [.ref o, .int st, .int pt] (mW K o r f a g) (fun v (_ : Unit) => kb 0 v 1 ∧ v = mCF (a 2) st pt) (fun _ => mW K o r f a g) 0 0 := by
  refine kI.of (cc := cX12_canFollow) (maxL := 3) (ret := (some .boolean)) (by decide) rfl (Nat.le_of_ble_eq_true rfl) ?_
  intro p e s m below meth c A hx hb hr hml hown hts hlocks hnm hK hP hD hS hA ls hl
  have hg : ∀ w ∈ kG, w.before _ s = true := fun w h => hts w (List.mem_cons_of_mem _ h)
  have hown : s.vm.findClass RX12 = some m.cls := hown
  have hl : lv_has ls 3 [(0, .ref o), (1, .int st), (2, .int pt)] := hl
  refine lv_iload_n hx hb dX12_canFollow_0 rfl (lv_at hl 1 rfl) ?_
  refine lv_iload_n hx hb dX12_canFollow_1 rfl (lv_at hl 2 rfl) ?_
  refine kN.callS (As := [.int st, .int pt]) (rest := []) ⟨hx, hb, hml, hown, hg⟩ (m2_isIn l st pt ) (va_cwS 2 hg (kgS wt6_124 wt6_125 wt1_14 wt6_126) rfl rfl rfl (by decide +kernel) ⟨by decide, by decide⟩) hP hS rfl hl.1 rfl (Nat.le_of_ble_eq_true rfl) dX12_canFollow_2 ⟨Nat.le_refl _, Nat.le_refl _⟩ (fun v2 H locs hw1 hP hS => ?_)
  refine lv_if_ne (tgt := 28) hx hb dX12_canFollow_5 (by decide) (fun c4 => ?_) (fun c4 => ?_)
  · have b5 : kb 1 v2 1 := kr_nel c4 hw1.1 kc_0 (by decide)
    refine lv_iconst (v := 0) hx hb dX12_canFollow_28 (by decide) ?_
    exact kI_ret (v := 0) hx hb hr hlocks (by decide +kernel) hK hS dX12_canFollow_29 () hP hD ⟨(kb_w kc_0 (by decide) (by decide)), (by unfold mCF; rw [if_neg (fun q => c4 (hw1.2.trans q))])⟩
  · have b6 : kb 0 v2 0 := kb_eq c4 kc_0
    refine lv_aload_n hx hb dX12_canFollow_8 rfl (lv_at hl 0 rfl) ?_
    refine va_get (D := D) (ci := 12) (v := .ref (r 2)) (C := RX12) (T := TX12) (N := 48) hx hb hg inC12 hown hK hP 0 rfl rfl 2 (by decide) (hg _ wt5_162) (fun _ h9 => h9) rfl dX12_canFollow_9 ?_
    refine lv_bipush (v := 33) hx hb dX12_canFollow_12 (by decide) ?_
    refine lv_iload_n hx hb dX12_canFollow_14 rfl (lv_at hl 2 rfl) ?_
    refine lv_iadd hx hb dX12_canFollow_15 ?_
    refine lv_topi (fun t7 et7 => ?_)
    have b8 : kb 33 t7 42 := kb_eq et7 (kb_add kc_33 bpt (by decide) (by decide))
    have qt7 : t7.toInt = 33 + pt.toInt := by rw [et7]; exact kt_cadd kc_33 bpt (by decide) (by decide)
    refine va_iald hx hb hK hP 2 0 rfl rfl (kb_in b8 (by decide) (by decide)) dX12_canFollow_16 ?_
    refine lv_topi (fun t9 et9 => ?_)
    refine lv_iload_n hx hb dX12_canFollow_17 rfl (lv_at hl 1 rfl) ?_
    refine lv_iconst (v := (-1)) hx hb dX12_canFollow_18 (by decide) ?_
    refine lv_ixor hx hb dX12_canFollow_19 ?_
    refine lv_topi (fun t10 et10 => ?_)
    refine lv_iand hx hb dX12_canFollow_20 ?_
    refine lv_topi (fun t11 et11 => ?_)
    refine lv_if_ne (tgt := 28) hx hb dX12_canFollow_21 (by decide) (fun c12 => ?_) (fun c12 => ?_)
    · refine lv_iconst (v := 0) hx hb dX12_canFollow_28 (by decide) ?_
      exact kI_ret (v := 0) hx hb hr hlocks (by decide +kernel) hK hS dX12_canFollow_29 () hP hD ⟨(kb_w kc_0 (by decide) (by decide)), (by unfold mCF; rw [if_pos (hw1.2.symm.trans c4), if_neg (by rw [← et7, ← et9, ← et10, ← et11]; exact c12)])⟩
    · have b13 : kb 0 t11 0 := kb_eq c12 kc_0
      refine lv_iconst (v := 1) hx hb dX12_canFollow_24 (by decide) ?_
      refine lv_goto (tgt := 29) hx hb dX12_canFollow_25 (by decide) ?_
      exact kI_ret (v := 1) hx hb hr hlocks (by decide +kernel) hK hS dX12_canFollow_29 () hP hD ⟨(kb_w kc_1 (by decide) (by decide)), (by unfold mCF; rw [if_pos (hw1.2.symm.trans c4), if_pos (by rw [← et7, ← et9, ← et10, ← et11]; exact c12)])⟩
set_option maxHeartbeats 4000000 in
set_option maxRecDepth 100000 in
theorem m2_ones (l : Launch) (x : Int32) (bx : kb 0 x 1023)  : kN l yX12_ones (Cond.code yX12_ones cX12_ones 3 (some .int) :: kG) (rmD 1 0 0) [.int x] (fun v => kb 0 v 10 ∧ v.toInt = ((pop x.toInt.toNat : Nat) : Int)) := by
  refine kN.of (cc := cX12_ones) (maxL := 3) (ret := (some .int)) (by decide) rfl (Nat.le_of_ble_eq_true rfl) ?_
  intro p e s m below meth c hx hb hr hml hown hts hlocks hS ls hl
  have hg : ∀ w ∈ kG, w.before _ s = true := fun w h => hts w (List.mem_cons_of_mem _ h)
  have hown : s.vm.findClass RX12 = some m.cls := hown
  have hl : lv_has ls 3 [(0, .int x)] := hl
  have e10 : (10 : Int32).toInt = 10 := by decide +kernel
  obtain ⟨s_, hs_⟩ : ∃ s_ : Nat, (s_ : Int) = x.toInt := ⟨x.toInt.toNat, by have w1 := bx.1; omega⟩
  refine lv_iconst (v := 0) hx hb dX12_ones_0 (by decide) ?_
  refine lv_istore_n (lv' := [(1, .int 0), (0, .int x)]) hx hb dX12_ones_1 rfl hl (by decide) rfl (fun ls hl => ?_)
  refine lv_iconst (v := 0) hx hb dX12_ones_2 (by decide) ?_
  refine lv_istore_n (lv' := [(2, .int 0), (1, .int 0), (0, .int x)]) hx hb dX12_ones_3 rfl hl (by decide) rfl (fun ls hl => ?_)
  have lp3 : ∀ (n4 : Nat) (j : Nat) (H : Heap) (locs : List Loc) (ls : Array Slot) (y1 : Int32) (y2 : Int32), ((10 : Int) < (j : Int) + (n4 : Int)) → (kb 0 y1 10) → (kb 0 y2 10) → (y2.toInt = ((popI s_ j : Nat) : Int)) → (y1.toInt = (j : Int)) → (j ≤ 10) → (y2.toInt ≤ y1.toInt) → va_S (fun _ => False) s.heap H locs → lv_has ls 3 [(2, .int y1), (1, .int y2), (0, .int x)] → W p l e (rmD 1 0 0) s m ([.int x] : List Value).toArray below meth c H locs 0 0 (kQn (fun v => kb 0 v 10 ∧ v.toInt = ((pop x.toInt.toNat : Nat) : Int)) below ([.int x] : List Value).toArray s) (F0 m 4 ls []) := by
    intro n4
    induction n4 with
    | zero =>
      intro j  H locs ls y1 y2 hmlp3 b5 b6 hvlp3_0 hvlp3_1 hvlp3_2 hvlp3_3 hS hl
      exact (by have w1 := hmlp3; have w2 := hvlp3_2; omega : False).elim
    | succ n4 ihlp3 =>
      intro j  H locs ls y1 y2 hmlp3 b5 b6 hvlp3_0 hvlp3_1 hvlp3_2 hvlp3_3 hS hl
      refine lv_iload_n hx hb dX12_ones_4 rfl (lv_at hl 0 rfl) ?_
      refine lv_bipush (v := 10) hx hb dX12_ones_5 (by decide) ?_
      refine lv_icmp_ge (tgt := 24) hx hb dX12_ones_7 (by decide) (fun c7 => ?_) (fun c7 => ?_)
      · have h8 := (kc_le c7)
        have b9 : kb 10 y1 10 := kr_le2 h8 kc_10 b5
        refine lv_iload_n hx hb dX12_ones_24 rfl (lv_at hl 1 rfl) ?_
        exact kN_ret (v := y2) hx hb hr hlocks rfl hS dX12_ones_25 (⟨b6, (by have w1 : j = 10 := (by have w2 := hvlp3_1; have w3 := hvlp3_2; omega); have w4 := hvlp3_0; rw [w1, popI_10] at w4; have w5 : s_ = x.toInt.toNat := (by omega); rw [← w5]; exact w4)⟩)
      · have h10 := (kc_nle c7)
        have b11 : kb 0 y1 9 := kr_lt1 h10 b5 kc_10 (by decide)
        have b12 : kb 0 y2 9 := ⟨(b6).1, by have h1 := hvlp3_3; have h2 := (b11).2; omega⟩
        refine lv_iload_n hx hb dX12_ones_10 rfl (lv_at hl 1 rfl) ?_
        refine lv_iload_n hx hb dX12_ones_11 rfl (lv_at hl 2 rfl) ?_
        refine lv_iload_n hx hb dX12_ones_12 rfl (lv_at hl 0 rfl) ?_
        refine lv_ishr hx hb dX12_ones_13 ?_
        refine lv_topi (fun t13 et13 => ?_)
        refine lv_iconst (v := 1) hx hb dX12_ones_14 (by decide) ?_
        refine lv_iand hx hb dX12_ones_15 ?_
        refine lv_topi (fun t14 et14 => ?_)
        have b15 : kb 0 t14 1 := kb_eq et14 (kb_and 1 (by decide) (by decide))
        refine lv_iadd hx hb dX12_ones_16 ?_
        refine lv_topi (fun t16 et16 => ?_)
        have b17 : kb 0 t16 10 := kb_eq et16 (kb_add b12 b15 (by decide) (by decide))
        have qt16 : t16.toInt = y2.toInt + t14.toInt := by rw [et16]; exact kt_add b12 b15 (by decide) (by decide)
        refine lv_istore_n (lv' := [(1, .int t16), (2, .int y1), (0, .int x)]) hx hb dX12_ones_17 rfl hl (by decide) rfl (fun ls hl => ?_)
        obtain ⟨t18, et18⟩ : ∃ z : Int32, z = y1 + Int32.ofInt 1 := ⟨_, rfl⟩
        have qt18 : t18.toInt = y1.toInt + 1 := by rw [et18]; exact km_inc b11 (by decide) (by decide)
        have b19 : kb 1 t18 10 := kb_inc (k := 1) qt18 b11
        refine lv_iinc (v := t18) (lv' := [(2, .int t18), (1, .int t16), (0, .int x)]) hx hb dX12_ones_18 hl (k := 1) rfl et18.symm (by decide) rfl (fun ls hl => ?_)
        refine lv_goto (tgt := 4) hx hb dX12_ones_21 (by decide) ?_
        exact ihlp3 (j + 1) _ _ _ t18 t16 (by omega) (kb_w b19 (by decide) (by decide)) b17 (by have w1 := bitI et13 et14 hs_.symm hvlp3_1 (by have w2 := bx.2; omega) (by omega); have w3 : popI s_ (j + 1) = popI s_ j + s_ / 2 ^ j % 2 := rfl; omega) (by have w1 := hvlp3_1; omega) (by have w1 := hvlp3_1; omega) (by have h1 := hvlp3_3; have h2 := (b15).2; omega) hS (lv_sub hl [0, 1, 2] rfl)
  exact lp3 (11) 0 _ _ _ 0 0 (by omega) (kb_w kc_0 (by decide) (by decide)) (kb_w kc_0 (by decide) (by decide)) (by show (0 : Int32).toInt = ((0 : Nat) : Int); decide +kernel) (by decide +kernel) (Nat.zero_le _) (by decide +kernel) hS (lv_sub hl [0, 1, 2] rfl)
theorem or_z (x : Int32) : x ||| 0 = x := by
  apply Int32.toBitVec_inj.mp
  show x.toBitVec ||| (0 : Int32).toBitVec = x.toBitVec
  have : (0 : Int32).toBitVec = 0#32 := by decide +kernel
  rw [this, BitVec.or_zero]
set_option maxHeartbeats 4000000 in
set_option maxRecDepth 100000 in
theorem m2_standing  (l : Launch) {D : va_G} {K : Nat → ClassId} (o : Nat) (r : Nat → Nat) (f : Nat → Int32) (a : Nat → Nat → Int32) (g : Nat → Int64) (hI : mI f a)     : kI l yX12_standing (Cond.code yX12_standing cX12_standing 3 (some .int) :: kG) (rmD 2 0 0) D (tysK K) [.ref o] (mW K o r f a g) (fun v (_ : Unit) => kb 0 v 1023 ∧ (∃ s_ : Nat, v.toInt = (s_ : Int) ∧ s_ < 2 ^ (a 2 102).toInt.toNat)) (fun _ => mW K o r f a g) 0 0 := by
  refine kI.of (cc := cX12_standing) (maxL := 3) (ret := (some .int)) (by decide) rfl (Nat.le_of_ble_eq_true rfl) ?_
  intro p e s m below meth c A hx hb hr hml hown hts hlocks hnm hK hP hD hS hA ls hl
  have hg : ∀ w ∈ kG, w.before _ s = true := fun w h => hts w (List.mem_cons_of_mem _ h)
  have hown : s.vm.findClass RX12 = some m.cls := hown
  have hl : lv_has ls 3 [(0, .ref o)] := hl
  obtain ⟨cN, ecN⟩ : ∃ z : Int32, z = a 2 102 := ⟨_, rfl⟩
  have b1 : kb 0 cN 10 := kb_eq ecN (aI_at hI.2.1 2 102 (by decide) (by decide))
  obtain ⟨N, hN⟩ : ∃ N : Nat, (N : Int) = cN.toInt := ⟨cN.toInt.toNat, by have w1 := (b1).1; omega⟩
  have hN10 : N ≤ 10 := by have w1 := (b1).2; omega
  have hp2 := p2 hN10
  refine lv_iconst (v := 0) hx hb dX12_standing_0 (by decide) ?_
  refine lv_istore_n (lv' := [(1, .int 0), (0, .ref o)]) hx hb dX12_standing_1 rfl hl (by decide) rfl (fun ls hl => ?_)
  refine lv_iconst (v := 0) hx hb dX12_standing_2 (by decide) ?_
  refine lv_istore_n (lv' := [(2, .int 0), (1, .int 0), (0, .ref o)]) hx hb dX12_standing_3 rfl hl (by decide) rfl (fun ls hl => ?_)
  have lp4 : ∀ (n5 : Nat) (j : Nat) (H : Heap) (locs : List Loc) (ls : Array Slot) (y2 : Int32) (y3 : Int32), ((N : Int) < (j : Int) + (n5 : Int)) → (kb 0 y2 10) → (kb 0 y3 1023) → (∃ s_ : Nat, y3.toInt = (s_ : Int) ∧ s_ < 2 ^ j) → (y2.toInt = (j : Int)) → (j ≤ N) → va_P D vwCl (mW K o r f a g) H → va_D A (mW K o r f a g) → va_S A s.heap H locs → lv_has ls 3 [(2, .int y2), (1, .int y3), (0, .ref o)] → W p l e (rmD 2 0 0) s m ([.ref o] : List Value).toArray below meth c H locs 0 0 (kQi D (tysK K) (fun v (_ : Unit) => kb 0 v 1023 ∧ (∃ s_ : Nat, v.toInt = (s_ : Int) ∧ s_ < 2 ^ (a 2 102).toInt.toNat)) (fun _ => mW K o r f a g) A below ([.ref o] : List Value).toArray s 0 0) (F0 m 4 ls []) := by
    intro n5
    induction n5 with
    | zero =>
      intro j  H locs ls y2 y3 hmlp4 b6 b7 hvlp4_0 hvlp4_1 hvlp4_2 hP hD hS hl
      exact (by have w1 := hmlp4; have w2 := hvlp4_2; omega : False).elim
    | succ n5 ihlp4 =>
      intro j  H locs ls y2 y3 hmlp4 b6 b7 hvlp4_0 hvlp4_1 hvlp4_2 hP hD hS hl
      refine lv_iload_n hx hb dX12_standing_4 rfl (lv_at hl 0 rfl) ?_
      refine lv_aload_n hx hb dX12_standing_5 rfl (lv_at hl 2 rfl) ?_
      refine va_get (D := D) (ci := 12) (v := .ref (r 2)) (C := RX12) (T := TX12) (N := 48) hx hb hg inC12 hown hK hP 0 rfl rfl 2 (by decide) (hg _ wt5_162) (fun _ h9 => h9) rfl dX12_standing_6 ?_
      refine lv_bipush (v := 102) hx hb dX12_standing_9 (by decide) ?_
      refine va_iald hx hb hK hP 2 0 rfl rfl (kb_in kc_102 (by decide) (by decide)) dX12_standing_11 ?_
      refine k_top (z := cN) (by rw [cl_102]; exact ecN.symm) ?_
      refine lv_icmp_ge (tgt := 39) hx hb dX12_standing_12 (by decide) (fun c8 => ?_) (fun c8 => ?_)
      · have h9 := (kc_le c8)
        refine lv_iload_n hx hb dX12_standing_39 rfl (lv_at hl 1 rfl) ?_
        exact kI_ret (v := y3) hx hb hr hlocks rfl hK hS dX12_standing_40 () hP hD ⟨b7, (by obtain ⟨s_, w1, w2⟩ := hvlp4_0; exact ⟨s_, w1, Nat.lt_of_lt_of_le w2 (Nat.pow_le_pow_right (by decide) (by rw [← ecN]; have w3 := hvlp4_2; omega))⟩)⟩
      · have h10 := (kc_nle c8)
        have b11 : kb 0 y2 9 := kr_lt1 h10 b6 b1 (by decide)
        have b12 : kb 1 cN 10 := kr_lt2 h10 b6 b1 (by decide)
        refine lv_iload_n hx hb dX12_standing_15 rfl (lv_at hl 1 rfl) ?_
        refine lv_aload_n hx hb dX12_standing_16 rfl (lv_at hl 2 rfl) ?_
        refine lv_iload_n hx hb dX12_standing_17 rfl (lv_at hl 0 rfl) ?_
        refine kI.callV (As := [.int y2]) (rest := [.int y3]) ⟨hx, hb, hml, hown, hg⟩ (m_stands0 l o r f a g hI y2 (kb_w b11 (by decide) (by decide)) ) (cwV 1 hg (kgV wt6_112 wt6_114 wp3_12 wt1_14 wt6_115) rfl rfl rfl (by decide +kernel) ⟨by decide, by decide⟩) hK hP hD hS hA mIs [] rfl (wr := []) rfl rfl rfl (fun i h => by cases h) 0 12 rfl rfl rfl hl.1 rfl (Nat.le_of_ble_eq_true rfl) dX12_standing_18 ⟨Nat.le_refl _, Nat.le_refl _⟩ (fun v14 u15 H locs hw13 hP hD hS => ?_)
        have hP : va_P D vwCl (mW K o r f a g) H := hP
        have hD : va_D A (mW K o r f a g) := hD
        refine lv_if_eq (tgt := 30) hx hb dX12_standing_21 (by decide) (fun c16 => ?_) (fun c16 => ?_)
        · have b17 : kb 0 v14 0 := kb_eq c16 kc_0
          refine lv_iconst (v := 0) hx hb dX12_standing_30 (by decide) ?_
          refine lv_ior hx hb dX12_standing_31 ?_
          refine lv_topi (fun t18 et18 => ?_)
          have b19 : kb 0 t18 1023 := kb_eq et18 (kb_or 10 b7 kc_0 (by decide) (by decide) (by decide) (by decide) (by decide))
          refine lv_istore_n (lv' := [(1, .int t18), (2, .int y2), (0, .ref o)]) hx hb dX12_standing_32 rfl hl (by decide) rfl (fun ls hl => ?_)
          obtain ⟨t20, et20⟩ : ∃ z : Int32, z = y2 + Int32.ofInt 1 := ⟨_, rfl⟩
          have qt20 : t20.toInt = y2.toInt + 1 := by rw [et20]; exact km_inc b11 (by decide) (by decide)
          have b21 : kb 1 t20 10 := kb_inc (k := 1) qt20 b11
          refine lv_iinc (v := t20) (lv' := [(2, .int t20), (1, .int t18), (0, .ref o)]) hx hb dX12_standing_33 hl (k := 1) rfl et20.symm (by decide) rfl (fun ls hl => ?_)
          refine lv_goto (tgt := 4) hx hb dX12_standing_36 (by decide) ?_
          exact ihlp4 (j + 1) _ _ _ t20 t18 (by omega) (kb_w b21 (by decide) (by decide)) b19 ((by obtain ⟨s_, w1, w2⟩ := hvlp4_0; exact ⟨s_, by rw [et18, or_z]; exact w1, Nat.lt_of_lt_of_le w2 (Nat.pow_le_pow_right (by decide) (Nat.le_succ j))⟩)) (by have w1 := hvlp4_1; omega) (by have w1 := hvlp4_1; omega) hP hD hS (lv_sub hl [0, 1, 2] rfl)
        · have b22 : kb 1 v14 1 := kr_nel c16 hw13 kc_0 (by decide)
          refine lv_iconst (v := 1) hx hb dX12_standing_24 (by decide) ?_
          refine lv_iload_n hx hb dX12_standing_25 rfl (lv_at hl 0 rfl) ?_
          refine lv_ishl hx hb dX12_standing_26 ?_
          refine lv_topi (fun t23 et23 => ?_)
          have b24 : kb 1 t23 512 := kb_eq et23 (kb_shl (l := 0) (h := 9) b11 (by decide))
          refine lv_goto (tgt := 31) hx hb dX12_standing_27 (by decide) ?_
          refine lv_ior hx hb dX12_standing_31 ?_
          refine lv_topi (fun t25 et25 => ?_)
          have b26 : kb 0 t25 1023 := kb_eq et25 (kb_or 10 b7 b24 (by decide) (by decide) (by decide) (by decide) (by decide))
          refine lv_istore_n (lv' := [(1, .int t25), (2, .int y2), (0, .ref o)]) hx hb dX12_standing_32 rfl hl (by decide) rfl (fun ls hl => ?_)
          obtain ⟨t27, et27⟩ : ∃ z : Int32, z = y2 + Int32.ofInt 1 := ⟨_, rfl⟩
          have qt27 : t27.toInt = y2.toInt + 1 := by rw [et27]; exact km_inc b11 (by decide) (by decide)
          have b28 : kb 1 t27 10 := kb_inc (k := 1) qt27 b11
          refine lv_iinc (v := t27) (lv' := [(2, .int t27), (1, .int t25), (0, .ref o)]) hx hb dX12_standing_33 hl (k := 1) rfl et27.symm (by decide) rfl (fun ls hl => ?_)
          refine lv_goto (tgt := 4) hx hb dX12_standing_36 (by decide) ?_
          exact ihlp4 (j + 1) _ _ _ t27 t25 (by omega) (kb_w b28 (by decide) (by decide)) b26 ((by obtain ⟨s_, w1, w2⟩ := hvlp4_0; have w4 : j < 10 := (by have w5 := hvlp4_2; omega); have w9 : s_ < 1024 := Nat.lt_trans w2 (Nat.pow_lt_pow_right (by decide) w4); have w3 := cl_or (t := t25) (by rw [et25, et23]) w1 hvlp4_1 w9 w4; exact ⟨s_ ||| 2 ^ j, w3.2, or_lt (Nat.lt_of_lt_of_le w2 (Nat.pow_le_pow_right (by decide) (Nat.le_succ j))) (Nat.lt_succ_self j)⟩)) (by have w1 := hvlp4_1; omega) (by have w1 := hvlp4_1; omega) hP hD hS (lv_sub hl [0, 1, 2] rfl)
  exact lp4 (N + 1) 0 _ _ _ 0 0 (by omega) (kb_w kc_0 (by decide) (by decide)) (kb_w kc_0 (by decide) (by decide)) (⟨0, by decide +kernel, by decide⟩) (by decide +kernel) (Nat.zero_le _) hP hD hS (lv_sub hl [0, 1, 2] rfl)
set_option maxHeartbeats 4000000 in
set_option maxRecDepth 100000 in
theorem m2_allParts  (l : Launch) {D : va_G} {K : Nat → ClassId} (o : Nat) (r : Nat → Nat) (f : Nat → Int32) (a : Nat → Nat → Int32) (g : Nat → Int64) (hI : mI f a)     : kI l yX12_allParts (Cond.code yX12_allParts cX12_allParts 1 (some .int) :: kG) (rmD 1 0 0) D (tysK K) [.ref o] (mW K o r f a g) (fun v (_ : Unit) => kb 0 v 1023 ∧ v.toInt = ((2 ^ (a 2 102).toInt.toNat - 1 : Nat) : Int)) (fun _ => mW K o r f a g) 0 0 := by
  refine kI.of (cc := cX12_allParts) (maxL := 1) (ret := (some .int)) (by decide) rfl (Nat.le_of_ble_eq_true rfl) ?_
  intro p e s m below meth c A hx hb hr hml hown hts hlocks hnm hK hP hD hS hA ls hl
  have hg : ∀ w ∈ kG, w.before _ s = true := fun w h => hts w (List.mem_cons_of_mem _ h)
  have hown : s.vm.findClass RX12 = some m.cls := hown
  have hl : lv_has ls 1 [(0, .ref o)] := hl
  obtain ⟨cN, ecN⟩ : ∃ z : Int32, z = a 2 102 := ⟨_, rfl⟩
  have b1 : kb 0 cN 10 := kb_eq ecN (aI_at hI.2.1 2 102 (by decide) (by decide))
  obtain ⟨N, hN⟩ : ∃ N : Nat, (N : Int) = cN.toInt := ⟨cN.toInt.toNat, by have w1 := (b1).1; omega⟩
  have hN10 : N ≤ 10 := by have w1 := (b1).2; omega
  have hp2 := p2 hN10
  refine lv_iconst (v := 1) hx hb dX12_allParts_0 (by decide) ?_
  refine lv_aload_n hx hb dX12_allParts_1 rfl (lv_at hl 0 rfl) ?_
  refine va_get (D := D) (ci := 12) (v := .ref (r 2)) (C := RX12) (T := TX12) (N := 48) hx hb hg inC12 hown hK hP 0 rfl rfl 2 (by decide) (hg _ wt5_162) (fun _ h9 => h9) rfl dX12_allParts_2 ?_
  refine lv_bipush (v := 102) hx hb dX12_allParts_5 (by decide) ?_
  refine va_iald hx hb hK hP 2 0 rfl rfl (kb_in kc_102 (by decide) (by decide)) dX12_allParts_7 ?_
  refine k_top (z := cN) (by rw [cl_102]; exact ecN.symm) ?_
  refine lv_ishl hx hb dX12_allParts_8 ?_
  refine lv_topi (fun t2 et2 => ?_)
  have b3 : kb 1 t2 1024 := kb_eq et2 (kb_shl (l := 0) (h := 10) b1 (by decide))
  refine lv_iconst (v := 1) hx hb dX12_allParts_9 (by decide) ?_
  refine lv_isub hx hb dX12_allParts_10 ?_
  refine lv_topi (fun t4 et4 => ?_)
  have b5 : kb 0 t4 1023 := kb_eq et4 (kb_sub b3 kc_1 (by decide) (by decide))
  have qt4 : t4.toInt = t2.toInt - 1 := by rw [et4]; exact kt_subc b3 kc_1 (by decide) (by decide)
  exact kI_ret (v := t4) hx hb hr hlocks rfl hK hS dX12_allParts_11 () hP hD ⟨b5, (by have w1 : t2 = nI (2 ^ N) := (by rw [et2, nI_ofI hN.symm (by omega)]; exact kn_shl ⟨N, by omega⟩); have w2 : (a 2 102).toInt.toNat = N := (by rw [← ecN]; omega); rw [w2, qt4, w1, kn_to (by omega)]; omega)⟩
