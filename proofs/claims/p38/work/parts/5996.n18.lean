/-! chains -/
def chM (k : Nat → Int32) (R : Nat → Int) (p : Nat) : Nat → Int
  | 0 => 0
  | m + 1 => if (k (33 + (p + 1 + m)) >>> (nI p &&& 31)) &&& 1 = 1 ∧ ¬ k (0 + (p + 1 + m)) = 0 ∧ chM k R p m < R (p + 1 + m) then R (p + 1 + m) else chM k R p m
/-- the chains of the last m parts of n -/
def chR (k : Nat → Int32) (n : Nat) : Nat → Nat → Int
  | 0 => fun _ => 0
  | m + 1 => fun i => if i = n - 1 - m then (k (0 + (n - 1 - m))).toInt + chM k (chR k n m) (n - 1 - m) m else chR k n m i
/-- the longest of the first i -/
def chX (R : Nat → Int) : Nat → Int
  | 0 => 0
  | i + 1 => if chX R i < R i then R i else chX R i
/-- the longest of the last m of n -/
def chY (R : Nat → Int) (n : Nat) : Nat → Int
  | 0 => 0
  | m + 1 => if R (n - 1 - m) ≤ chY R n m then chY R n m else R (n - 1 - m)
theorem chX_p (R : Nat → Int) : ∀ i, 0 ≤ chX R i ∧ (∀ q, q < i → R q ≤ chX R i) ∧ (chX R i = 0 ∨ ∃ q, q < i ∧ chX R i = R q)
  | 0 => ⟨Int.le_refl 0, fun q h => absurd h (Nat.not_lt_zero q), Or.inl rfl⟩
  | i + 1 => by
    obtain ⟨h1, h2, h3⟩ := chX_p R i
    show 0 ≤ (if chX R i < R i then R i else chX R i) ∧ (∀ q, q < i + 1 → R q ≤ (if chX R i < R i then R i else chX R i)) ∧ ((if chX R i < R i then R i else chX R i) = 0 ∨ ∃ q, q < i + 1 ∧ (if chX R i < R i then R i else chX R i) = R q)
    by_cases c : chX R i < R i
    · rw [if_pos c]
      refine ⟨by omega, fun q hq => ?_, Or.inr ⟨i, by omega, rfl⟩⟩
      by_cases e : q = i
      · rw [e]; exact Int.le_refl _
      · have := h2 q (by omega); omega
    · rw [if_neg c]
      refine ⟨h1, fun q hq => ?_, h3.imp id (fun ⟨q, a, b⟩ => ⟨q, by omega, b⟩)⟩
      by_cases e : q = i
      · rw [e]; omega
      · exact h2 q (by omega)
theorem chY_p (R : Nat → Int) (n : Nat) : ∀ m, m ≤ n → 0 ≤ chY R n m ∧ (∀ q, n - m ≤ q → q < n → R q ≤ chY R n m) ∧ (chY R n m = 0 ∨ ∃ q, q < n ∧ chY R n m = R q)
  | 0, _ => ⟨Int.le_refl 0, fun q h1 h2 => by omega, Or.inl rfl⟩
  | m + 1, hm => by
    obtain ⟨h1, h2, h3⟩ := chY_p R n m (by omega)
    show 0 ≤ (if R (n - 1 - m) ≤ chY R n m then chY R n m else R (n - 1 - m)) ∧ (∀ q, n - (m + 1) ≤ q → q < n → R q ≤ (if R (n - 1 - m) ≤ chY R n m then chY R n m else R (n - 1 - m))) ∧ ((if R (n - 1 - m) ≤ chY R n m then chY R n m else R (n - 1 - m)) = 0 ∨ ∃ q, q < n ∧ (if R (n - 1 - m) ≤ chY R n m then chY R n m else R (n - 1 - m)) = R q)
    by_cases c : R (n - 1 - m) ≤ chY R n m
    · rw [if_pos c]
      refine ⟨h1, fun q ha hb => ?_, h3⟩
      by_cases e : q = n - 1 - m
      · rw [e]; exact c
      · exact h2 q (by omega) hb
    · rw [if_neg c]
      refine ⟨by omega, fun q ha hb => ?_, Or.inr ⟨n - 1 - m, by omega, rfl⟩⟩
      by_cases e : q = n - 1 - m
      · rw [e]; exact Int.le_refl _
      · have := h2 q (by omega) hb; omega
theorem chXY (R : Nat → Int) (n : Nat) : chX R n = chY R n n := by
  obtain ⟨a1, a2, a3⟩ := chX_p R n
  obtain ⟨b1, b2, b3⟩ := chY_p R n n (Nat.le_refl n)
  rcases a3 with a3 | ⟨q, hq, a3⟩
  · rcases b3 with b3 | ⟨r, hr, b3⟩
    · rw [a3, b3]
    · have := a2 r hr; omega
  · have w := b2 q (by omega) hq
    rcases b3 with b3 | ⟨r, hr, b3⟩
    · omega
    · have := a2 r hr; omega
/-- bounds -/
theorem chM_b {k : Nat → Int32} {R : Nat → Int} {p : Nat} {B : Int} (hB : 0 ≤ B) (h : ∀ q, 0 ≤ R q ∧ R q ≤ B) : ∀ m, 0 ≤ chM k R p m ∧ chM k R p m ≤ B
  | 0 => ⟨Int.le_refl 0, hB⟩
  | m + 1 => by
    have w := chM_b (k := k) (p := p) hB h m
    have q := h (p + 1 + m)
    unfold chM
    split
    · exact q
    · exact w
theorem chR_b {k : Nat → Int32} {n : Nat} (hk : kK k) (hn : n ≤ 10) : ∀ m, m ≤ n → ∀ i, 0 ≤ chR k n m i ∧ chR k n m i ≤ 99 * (m : Int)
  | 0, _, _ => ⟨Int.le_refl 0, by show (0 : Int) ≤ _; omega⟩
  | m + 1, hm, i => by
    have w := chR_b hk hn m (by omega)
    have c := chM_b (k := k) (R := chR k n m) (p := n - 1 - m) (B := 99 * (m : Int)) (by omega) w m
    have l := kK_s hk 0 10 0 99 (by decide) (by decide) (show n - 1 - m < 10 by omega)
    have l1 := l.1
    have l2 := l.2
    show 0 ≤ (if i = n - 1 - m then _ else _) ∧ (if i = n - 1 - m then (k (0 + (n - 1 - m))).toInt + chM k (chR k n m) (n - 1 - m) m else chR k n m i) ≤ 99 * ((m + 1 : Nat) : Int)
    split
    · omega
    · have := w i; omega
section CH
variable {k : Nat → Int32} {R : Nat → Int} {p m n : Nat} {x y z : Int}
theorem chM_y (h : chM k R p m = x) (b : (k (33 + (p + 1 + m)) >>> (nI p &&& 31)) &&& 1 = 1) (s : ¬ k (0 + (p + 1 + m)) = 0) (e : y = R (p + 1 + m)) (hz : z = if x < y then y else x) : chM k R p (m + 1) = z := by
  show (if _ then _ else _) = z
  rw [hz, ← e, ← h]
  by_cases c : chM k R p m < y
  · rw [if_pos c, if_pos ⟨b, s, c⟩]
  · rw [if_neg c, if_neg (fun q => c q.2.2)]
theorem chM_n (h : chM k R p m = x) (b : ¬ ((k (33 + (p + 1 + m)) >>> (nI p &&& 31)) &&& 1 = 1 ∧ ¬ k (0 + (p + 1 + m)) = 0)) : chM k R p (m + 1) = x := by
  show (if _ then _ else _) = x
  rw [if_neg (fun q => b ⟨q.1, q.2.1⟩)]
  exact h
theorem chR_o {i : Nat} (h : ¬ i = n - 1 - m) : chR k n (m + 1) i = chR k n m i := by
  show (if i = n - 1 - m then _ else chR k n m i) = _
  rw [if_neg h]
theorem chR_s : chR k n (m + 1) (n - 1 - m) = (k (0 + (n - 1 - m))).toInt + chM k (chR k n m) (n - 1 - m) m := by
  show (if n - 1 - m = n - 1 - m then _ else _) = _
  rw [if_pos rfl]
end CH
/-- the row of chains behind one more part -/
theorem chW {k C C' : Nat → Int32} {n m ix : Nat} {v : Int32} (h : ∀ i, n - m ≤ i → i < n → (C i).toInt = chR k n m i) (e : C' = upd C ix v) (hm : m < n) (hi : ix = n - 1 - m) (hv : v.toInt = chR k n (m + 1) (n - 1 - m)) : ∀ i, n - (m + 1) ≤ i → i < n → (C' i).toInt = chR k n (m + 1) i := by
  intro i h1 h2
  rw [e]
  by_cases c : i = n - 1 - m
  · rw [c, ← hi, pk_us, hi]; exact hv
  · rw [pk_un (by omega), chR_o c]
    exact h i (by omega) h2
theorem gr_v {x y v : Int32} (h : v = x ∨ v = y) (h1 : x.toInt ≤ v.toInt) (h2 : y.toInt ≤ v.toInt) : v.toInt = (if x.toInt < y.toInt then y.toInt else x.toInt) := by
  rcases h with h | h
  · rw [h] at h2 ⊢
    split <;> omega
  · rw [h] at h1 ⊢
    split <;> omega
def ofF (k : Nat → Int32) (x y : Int32) : Int := if okQ k x = true then (if y = 0 then (k (23 + x.toNatClampNeg)).toInt else if y = 1 then (k (33 + x.toNatClampNeg)).toInt else if y = 2 then (k (43 + x.toNatClampNeg)).toInt else if y = 3 then (k (53 + x.toNatClampNeg)).toInt else if y = 4 then (k (0 + x.toNatClampNeg)).toInt else if y = 5 then (if rdB k x.toNatClampNeg = true then 1 else 0) else if y = 6 then chR k (kPn k) (kPn k) x.toNatClampNeg else -1) else -1
set_option maxHeartbeats 4000000 in
set_option maxRecDepth 100000 in
theorem n_laysChains  (l : Launch) {D : va_G} {K : Nat → ClassId} (o : Nat) (r : Nat → Nat) (f : Nat → Int32) (a : Nat → Nat → Int32) (g : Nat → Int64) (hI : mI f a)    (hp0 : kK (a 2)) : kV l yX12_laysChains (Cond.code yX12_laysChains cX12_laysChains 4 none :: kG) (rmD 2 0 0) D (tysK K) [.ref o] (mW K o r f a g) (fun (u : mS) => mI u.1 u.2.1 ∧ mE (XR []) f a u.1 u.2.1 ∧ (∀ i, i < kPn (a 2) → (u.2.1 34 i).toInt = chR (a 2) (kPn (a 2)) (kPn (a 2)) i) ∧ mZ [] [34] f a u.1 u.2.1) (fun u => mW K o r u.1 u.2.1 u.2.2) 0 0 := by
  refine kV.of (cc := cX12_laysChains) (maxL := 4) (ret := none) (by decide) rfl (Nat.le_of_ble_eq_true rfl) ?_
  intro p e s m below meth c A hx hb hr hml hown hts hlocks hnm hK hP hD hS hA ls hl
  have hE : mE (XR []) f a f a := mE_rf
  have hZ : mZ [] [34] f a f a := mZ_rf
  have hg : ∀ w ∈ kG, w.before _ s = true := fun w h => hts w (List.mem_cons_of_mem _ h)
  have hown : s.vm.findClass RX12 = some m.cls := hown
  have hl : lv_has ls 4 [(0, .ref o)] := hl
  refine lv_aload_n hx hb dX12_laysChains_0 rfl (lv_at hl 0 rfl) ?_
  refine va_get (D := D) (ci := 12) (v := .ref (r 2)) (C := RX12) (T := TX12) (N := 48) hx hb hg inC12 hown hK hP 0 rfl rfl 2 (by decide) (hg _ wt5_162) (fun _ h9 => h9) rfl dX12_laysChains_1 ?_
  refine lv_bipush (v := 102) hx hb dX12_laysChains_4 (by decide) ?_
  refine va_iald hx hb hK hP 2 0 rfl rfl (kb_in kc_102 (by decide) (by decide)) dX12_laysChains_6 ?_
  refine lv_topi (fun t1 et1 => ?_)
  rw [cl_102] at et1
  have b2 : kb 0 t1 10 := kb_eq et1 (aI_at hI.2.1 2 102 (by decide) (by decide))
  refine lv_iconst (v := 1) hx hb dX12_laysChains_7 (by decide) ?_
  refine lv_isub hx hb dX12_laysChains_8 ?_
  refine lv_topi (fun t3 et3 => ?_)
  have b4 : kb (-1) t3 9 := kb_eq et3 (kb_sub b2 kc_1 (by decide) (by decide))
  have qt3 : t3.toInt = t1.toInt - 1 := by rw [et3]; exact kt_subc b2 kc_1 (by decide) (by decide)
  refine lv_istore_n (lv' := [(1, .int t3), (0, .ref o)]) hx hb dX12_laysChains_9 rfl hl (by decide) rfl (fun ls hl => ?_)
  have lp7 : ∀ (n8 : Nat) (mq : Nat) (B6 : Nat → Nat → Int32) (H : Heap) (locs : List Loc) (ls : Array Slot) (y5 : Int32), (y5.toInt + 1 < (n8 : Int)) → (mI f B6) → (mE (XR []) f a f B6) → (mZ [] [34] f a f B6) → (kb (-1) y5 9) → (y5.toInt = (kPn (a 2) : Int) - 1 - (mq : Int)) → (mq ≤ kPn (a 2)) → (∀ i, kPn (a 2) - mq ≤ i → i < kPn (a 2) → (B6 34 i).toInt = chR (a 2) (kPn (a 2)) mq i) → va_P D vwCl (mW K o r f B6 g) H → va_D A (mW K o r f B6 g) → va_S A s.heap H locs → lv_has ls 4 [(1, .int y5), (0, .ref o)] → W p l e (rmD 2 0 0) s m ([.ref o] : List Value).toArray below meth c H locs 0 0 (kQv D (tysK K) (fun (u : mS) => mI u.1 u.2.1 ∧ mE (XR []) f a u.1 u.2.1 ∧ (∀ i, i < kPn (a 2) → (u.2.1 34 i).toInt = chR (a 2) (kPn (a 2)) (kPn (a 2)) i) ∧ mZ [] [34] f a u.1 u.2.1) (fun u => mW K o r u.1 u.2.1 u.2.2) A below ([.ref o] : List Value).toArray s 0 0) (F0 m 10 ls []) := by
    intro n8
    induction n8 with
    | zero =>
      intro mq B6  H locs ls y5 hmlp7 hI hE hZ b9 hvlp7_0 hvlp7_1 hvlp7_2 hP hD hS hl
      exact (by have h1 := b9.1; have h2 := hmlp7; omega : False).elim
    | succ n8 ihlp7 =>
      intro mq B6  H locs ls y5 hmlp7 hI hE hZ b9 hvlp7_0 hvlp7_1 hvlp7_2 hP hD hS hl
      have hZL := hZ
      have hNb := kPn_b hp0
      have hch := hvlp7_2
      refine lv_iload_n hx hb dX12_laysChains_10 rfl (lv_at hl 0 rfl) ?_
      refine lv_if_lt (tgt := 94) hx hb dX12_laysChains_11 (by decide) (fun c10 => ?_) (fun c10 => ?_)
      · have h11 := (kc_lt c10)
        have b12 : kb (-1) y5 (-1) := kr_lt1 h11 b9 kc_0 (by decide)
        exact kV_ret hx hb hr hlocks hK hS dX12_laysChains_94 (f, B6, g) hP hD ⟨hI, hE, (fun i hi => by have hm : mq = kPn (a 2) := (by have w1 := hvlp7_0; have w2 := kc_lt c10; have w3 : (0 : Int32).toInt = 0 := (by decide +kernel); have w4 := hvlp7_1; omega); rw [hm] at hch; exact hch i (by omega) hi), hZ⟩
      · have h13 := (kc_nlt c10)
        have b14 : kb 0 y5 9 := kr_le2 h13 kc_0 b9
        have hmn : mq < kPn (a 2) := by have w1 := hvlp7_0; have w2 := kc_nlt c10; have w3 : (0 : Int32).toInt = 0 := (by decide +kernel); omega
        have hp1 : y5.toInt = ((kPn (a 2) - 1 - mq : Nat) : Int) := by have w1 := hvlp7_0; omega
        refine lv_iconst (v := 0) hx hb dX12_laysChains_14 (by decide) ?_
        refine lv_istore_n (lv' := [(2, .int 0), (1, .int y5), (0, .ref o)]) hx hb dX12_laysChains_15 rfl hl (by decide) rfl (fun ls hl => ?_)
        refine lv_iload_n hx hb dX12_laysChains_16 rfl (lv_at hl 1 rfl) ?_
        refine lv_iconst (v := 1) hx hb dX12_laysChains_17 (by decide) ?_
        refine lv_iadd hx hb dX12_laysChains_18 ?_
        refine lv_topi (fun t15 et15 => ?_)
        have b16 : kb 1 t15 10 := kb_eq et15 (kb_add b14 kc_1 (by decide) (by decide))
        have qt15 : t15.toInt = y5.toInt + 1 := by rw [et15]; exact kt_addc b14 kc_1 (by decide) (by decide)
        refine lv_istore_n (lv' := [(3, .int t15), (2, .int 0), (1, .int y5), (0, .ref o)]) hx hb dX12_laysChains_19 rfl hl (by decide) rfl (fun ls hl => ?_)
        have lp19 : ∀ (n20 : Nat) (j : Nat) (H : Heap) (locs : List Loc) (ls : Array Slot) (y17 : Int32) (y18 : Int32), (10 < y17.toInt + (n20 : Int)) → (kb 1 y17 10) → (y17.toInt = ((kPn (a 2) - mq : Nat) : Int) + (j : Int)) → (y18.toInt = chM (a 2) (chR (a 2) (kPn (a 2)) mq) (kPn (a 2) - 1 - mq) j) → (j ≤ mq) → va_P D vwCl (mW K o r f B6 g) H → va_D A (mW K o r f B6 g) → va_S A s.heap H locs → lv_has ls 4 [(3, .int y17), (2, .int y18), (1, .int y5), (0, .ref o)] → W p l e (rmD 2 0 0) s m ([.ref o] : List Value).toArray below meth c H locs 0 0 (kQv D (tysK K) (fun (u : mS) => mI u.1 u.2.1 ∧ mE (XR []) f a u.1 u.2.1 ∧ (∀ i, i < kPn (a 2) → (u.2.1 34 i).toInt = chR (a 2) (kPn (a 2)) (kPn (a 2)) i) ∧ mZ [] [34] f a u.1 u.2.1) (fun u => mW K o r u.1 u.2.1 u.2.2) A below ([.ref o] : List Value).toArray s 0 0) (F0 m 20 ls []) := by
          intro n20
          induction n20 with
          | zero =>
            intro j  H locs ls y17 y18 hmlp19 b21 hvlp19_0 hvlp19_1 hvlp19_2 hP hD hS hl
            exact (by have h1 := b21.2; have h2 := hmlp19; omega : False).elim
          | succ n20 ihlp19 =>
            intro j  H locs ls y17 y18 hmlp19 b21 hvlp19_0 hvlp19_1 hvlp19_2 hP hD hS hl
            have hi2 := hvlp19_1
            have hi3 := hvlp19_0
            have hi4 := hvlp19_2
            refine lv_iload_n hx hb dX12_laysChains_20 rfl (lv_at hl 0 rfl) ?_
            refine lv_aload_n hx hb dX12_laysChains_21 rfl (lv_at hl 3 rfl) ?_
            refine va_get (D := D) (ci := 12) (v := .ref (r 2)) (C := RX12) (T := TX12) (N := 48) hx hb hg inC12 hown hK hP 0 rfl rfl 2 (by decide) (hg _ wt5_162) (fun _ h9 => h9) rfl dX12_laysChains_22 ?_
            refine lv_bipush (v := 102) hx hb dX12_laysChains_25 (by decide) ?_
            refine va_iald hx hb hK hP 2 0 rfl rfl (kb_in kc_102 (by decide) (by decide)) dX12_laysChains_27 ?_
            refine k_top (z := t1) (by rw [cl_102]; exact ((congrFun (hZL.2 2 rfl) 102).trans et1.symm)) ?_
            refine lv_icmp_ge (tgt := 72) hx hb dX12_laysChains_28 (by decide) (fun c22 => ?_) (fun c22 => ?_)
            · have h23 := (kc_le c22)
              have hjm : j = mq := by have w1 := hi3; have w2 := kc_le c22; have w3 := congrArg Int32.toInt et1; have w4 := hNb.2; have w5 := hi4; omega
              rw [hjm] at hi2
              have hcb := chM_b (k := a 2) (R := chR (a 2) (kPn (a 2)) mq) (p := kPn (a 2) - 1 - mq) (B := 990) (by decide) (fun q => by have w1 := chR_b hp0 hNb.1 mq (by omega) q; omega) mq
              have b24 : kb 0 y18 990 := ⟨by omega, by omega⟩
              refine lv_aload_n hx hb dX12_laysChains_72 rfl (lv_at hl 3 rfl) ?_
              refine va_get (D := D) (ci := 12) (v := .ref (r 34)) (C := RX12) (T := TX12) (N := 48) hx hb hg inC12 hown hK hP 0 rfl rfl 34 (by decide) (hg _ wt5_194) (fun _ h9 => h9) rfl dX12_laysChains_73 ?_
              refine lv_iload_n hx hb dX12_laysChains_76 rfl (lv_at hl 2 rfl) ?_
              refine lv_aload_n hx hb dX12_laysChains_77 rfl (lv_at hl 3 rfl) ?_
              refine va_get (D := D) (ci := 12) (v := .ref (r 2)) (C := RX12) (T := TX12) (N := 48) hx hb hg inC12 hown hK hP 0 rfl rfl 2 (by decide) (hg _ wt5_162) (fun _ h9 => h9) rfl dX12_laysChains_78 ?_
              refine lv_iconst (v := 0) hx hb dX12_laysChains_81 (by decide) ?_
              refine lv_iload_n hx hb dX12_laysChains_82 rfl (lv_at hl 2 rfl) ?_
              refine lv_iadd hx hb dX12_laysChains_83 ?_
              refine k_top (z := y5) (Int32.zero_add _) ?_
              refine va_iald hx hb hK hP 2 0 rfl rfl (kb_in b14 (by decide) (by decide)) dX12_laysChains_84 ?_
              refine lv_topi (fun t25 et25 => ?_)
              have b26 : kb 0 t25 99 := kb_eq et25 (aI_ld hI.2.1 2 0 10 b14 (by decide) (by decide) (by decide +kernel))
              refine lv_iload_n hx hb dX12_laysChains_85 rfl (lv_at hl 1 rfl) ?_
              refine lv_iadd hx hb dX12_laysChains_86 ?_
              refine lv_topi (fun t27 et27 => ?_)
              have b28 : kb 0 t27 1089 := kb_eq et27 (kb_add b26 b24 (by decide) (by decide))
              have qt27 : t27.toInt = t25.toInt + y18.toInt := by rw [et27]; exact kt_add b26 b24 (by decide) (by decide)
              refine va_iast hx hb hK hP hD hS 17 0 rfl rfl (kb_in b14 (by decide) (by decide)) dX12_laysChains_87 (fun H locs hP hD hS => ?_)
              have hP : va_P D vwCl (mW K o r f (va_up B6 34 (upd (B6 34) y5.toNatClampNeg t27)) g) H := hP
              have hD : va_D A (mW K o r f (va_up B6 34 (upd (B6 34) y5.toNatClampNeg t27)) g) := hD
              refine k_gen (P := fun z => va_P D vwCl (mW K o r f z g) H ∧ va_D A (mW K o r f z g) ∧ (mI f z) ∧ (mE (XR []) f a f z) ∧ (mZ [] [34] f a f z)) (va_up B6 34 (upd (B6 34) y5.toNatClampNeg t27)) ⟨hP, hD, (mI_s hI (aI_free hI.2.1 34 _ (fun j => ⟨by show (mBa 34 j).1 ≤ _; exact Int.le_refl _, by show _ ≤ (mBa 34 j).2; exact Int.le_refl _⟩)) (by decide) (by decide)), (mE_s hE (by decide) (by decide) (by decide) (by decide)), (mZ_a hZ rfl)⟩ (fun a_29 ea_29 hq => ?_)
              obtain ⟨hP, hD, hI, hE, hZ⟩ := hq
              obtain ⟨t30, et30⟩ : ∃ z : Int32, z = y5 + Int32.ofInt (-1) := ⟨_, rfl⟩
              have qt30 : t30.toInt = y5.toInt - 1 := by rw [et30]; exact km_dec b14 (by decide)
              have b31 : kb (-1) t30 8 := kb_inc (k := (-1)) qt30 b14
              refine lv_iinc (v := t30) (lv' := [(1, .int t30), (3, .int y17), (2, .int y18), (0, .ref o)]) hx hb dX12_laysChains_88 hl (k := 2) rfl et30.symm (by decide) rfl (fun ls hl => ?_)
              refine lv_goto (tgt := 10) hx hb dX12_laysChains_91 (by decide) ?_
              exact ihlp7 (mq + 1) a_29 _ _ _ t30 (km_dn hmlp7 qt30) hI hE hZ (kb_w b31 (by decide) (by decide)) (by have w1 := hvlp7_0; have w2 := qt30; omega) (hmn) (chW hch (show a_29 34 = upd (B6 34) y5.toNatClampNeg t27 from by rw [← ea_29]; rfl) hmn (by have w1 := hp1; unfold Int32.toNatClampNeg; omega) (by rw [chR_s, ← hi2]; have w1 := qt27; have w2 := congrArg Int32.toInt (show t25 = a 2 (0 + (kPn (a 2) - 1 - mq)) from (show t25 = a 2 (0 + y5.toNatClampNeg) from (et25.trans (congrFun (hZL.2 2 rfl) (y5.toNatClampNeg))).trans (congrArg (a 2) (Nat.zero_add _).symm)).trans (by rw [cl_nat hp1])); omega)) hP hD hS (lv_sub hl [0, 3] rfl)
            · have h32 := (kc_nle c22)
              have b33 : kb 1 y17 9 := kr_lt1 h32 b21 b2 (by decide)
              have b34 : kb 2 t1 10 := kr_lt2 h32 b21 b2 (by decide)
              have hjm : j < mq := by have w1 := hi3; have w2 := kc_nle c22; have w3 := congrArg Int32.toInt et1; have w4 := hNb.2; omega
              have hq : y17.toNatClampNeg = kPn (a 2) - 1 - mq + 1 + j := by have w1 := hi3; have w2 := hmn; unfold Int32.toNatClampNeg; omega
              have b35 : kb 1 y17 9 := ⟨(b33).1, by have w1 := hi3; have w2 := hNb.1; omega⟩
              refine lv_aload_n hx hb dX12_laysChains_31 rfl (lv_at hl 3 rfl) ?_
              refine va_get (D := D) (ci := 12) (v := .ref (r 2)) (C := RX12) (T := TX12) (N := 48) hx hb hg inC12 hown hK hP 0 rfl rfl 2 (by decide) (hg _ wt5_162) (fun _ h9 => h9) rfl dX12_laysChains_32 ?_
              refine lv_bipush (v := 33) hx hb dX12_laysChains_35 (by decide) ?_
              refine lv_iload_n hx hb dX12_laysChains_37 rfl (lv_at hl 0 rfl) ?_
              refine lv_iadd hx hb dX12_laysChains_38 ?_
              refine lv_topi (fun t36 et36 => ?_)
              have b37 : kb 34 t36 42 := kb_eq et36 (kb_add kc_33 b35 (by decide) (by decide))
              have qt36 : t36.toInt = 33 + y17.toInt := by rw [et36]; exact kt_cadd kc_33 b35 (by decide) (by decide)
              refine va_iald hx hb hK hP 2 0 rfl rfl (kb_in b37 (by decide) (by decide)) dX12_laysChains_39 ?_
              refine lv_topi (fun t38 et38 => ?_)
              refine lv_iload_n hx hb dX12_laysChains_40 rfl (lv_at hl 2 rfl) ?_
              refine kN.callS (As := [.int t38, .int y5]) (rest := []) ⟨hx, hb, hml, hown, hg⟩ (n_isIn l t38 y5 ) (va_cwS 2 hg (kgS wt6_124 wt6_125 wt1_14 wt6_126) rfl rfl rfl (by decide +kernel) ⟨by decide, by decide⟩) hP hS rfl hl.1 rfl (Nat.le_of_ble_eq_true rfl) dX12_laysChains_41 ⟨Nat.le_refl _, Nat.le_refl _⟩ (fun v40 H locs hw39 hP hS => ?_)
              refine lv_if_eq (tgt := 66) hx hb dX12_laysChains_44 (by decide) (fun c42 => ?_) (fun c42 => ?_)
              · have b43 : kb 0 v40 0 := kb_eq c42 kc_0
                obtain ⟨t44, et44⟩ : ∃ z : Int32, z = y17 + Int32.ofInt 1 := ⟨_, rfl⟩
                have qt44 : t44.toInt = y17.toInt + 1 := by rw [et44]; exact km_inc b35 (by decide) (by decide)
                have b45 : kb 2 t44 10 := kb_inc (k := 1) qt44 b35
                refine lv_iinc (v := t44) (lv' := [(3, .int t44), (2, .int y18), (1, .int y5), (0, .ref o)]) hx hb dX12_laysChains_66 hl (k := 0) rfl et44.symm (by decide) rfl (fun ls hl => ?_)
                refine lv_goto (tgt := 20) hx hb dX12_laysChains_69 (by decide) ?_
                exact ihlp19 (j + 1) _ _ _ t44 y18 (km_up hmlp19 qt44) (kb_w b45 (by decide) (by decide)) (by have w1 := hvlp19_0; have w2 := qt44; omega) ((chM_n hi2.symm (fun q9 => bit_n hw39.2 c42 (by rw [(show t38 = a 2 (33 + (kPn (a 2) - 1 - mq + 1 + j)) from (show t38 = a 2 (33 + y17.toNatClampNeg) from (et38.trans (congrFun (hZL.2 2 rfl) (t36.toNatClampNeg))).trans (congrArg (a 2) (show t36.toNatClampNeg = _ from by have w1 := qt36; have w2 := (b35).1; unfold Int32.toNatClampNeg; omega))).trans (by rw [hq])), (show y5 = nI (kPn (a 2) - 1 - mq) from nI_q hp1)]; exact q9.1))).symm) (hjm) hP hD hS (lv_sub hl [0, 1, 2, 3] rfl)
              · have b46 : kb 1 v40 1 := kr_nel c42 hw39.1 kc_0 (by decide)
                refine lv_aload_n hx hb dX12_laysChains_47 rfl (lv_at hl 3 rfl) ?_
                refine lv_iload_n hx hb dX12_laysChains_48 rfl (lv_at hl 0 rfl) ?_
                refine kI.callV (As := [.int y17]) (rest := []) ⟨hx, hb, hml, hown, hg⟩ (n_stands0 l o r f B6 g hI y17 (kb_w b35 (by decide) (by decide)) ) (cwV 1 hg (kgV wt6_112 wt6_114 wp3_12 wt1_14 wt6_115) rfl rfl rfl (by decide +kernel) ⟨by decide, by decide⟩) hK hP hD hS hA mIs [] rfl (wr := []) rfl rfl rfl (fun i h => by cases h) 0 12 rfl rfl rfl hl.1 rfl (Nat.le_of_ble_eq_true rfl) dX12_laysChains_49 ⟨Nat.le_refl _, Nat.le_refl _⟩ (fun v48 u49 H locs hw47 hP hD hS => ?_)
                have hP : va_P D vwCl (mW K o r f B6 g) H := hP
                have hD : va_D A (mW K o r f B6 g) := hD
                refine lv_if_ne (tgt := 66) hx hb dX12_laysChains_52 (by decide) (fun c50 => ?_) (fun c50 => ?_)
                · have b51 : kb 1 v48 1 := kr_nel c50 hw47.1 kc_0 (by decide)
                  obtain ⟨t52, et52⟩ : ∃ z : Int32, z = y17 + Int32.ofInt 1 := ⟨_, rfl⟩
                  have qt52 : t52.toInt = y17.toInt + 1 := by rw [et52]; exact km_inc b35 (by decide) (by decide)
                  have b53 : kb 2 t52 10 := kb_inc (k := 1) qt52 b35
                  refine lv_iinc (v := t52) (lv' := [(3, .int t52), (2, .int y18), (1, .int y5), (0, .ref o)]) hx hb dX12_laysChains_66 hl (k := 0) rfl et52.symm (by decide) rfl (fun ls hl => ?_)
                  refine lv_goto (tgt := 20) hx hb dX12_laysChains_69 (by decide) ?_
                  exact ihlp19 (j + 1) _ _ _ t52 y18 (km_up hmlp19 qt52) (kb_w b53 (by decide) (by decide)) (by have w1 := hvlp19_0; have w2 := qt52; omega) ((chM_n hi2.symm (fun q9 => q9.2 (bit0_y (show v48 = (if a 2 (0 + (kPn (a 2) - 1 - mq + 1 + j)) = 0 then 1 else 0) from by have w9 := hw47.2; rw [show B6 2 = a 2 from hZL.2 2 rfl, hq] at w9; exact w9) c50))).symm) (hjm) hP hD hS (lv_sub hl [0, 1, 2, 3] rfl)
                · have b54 : kb 0 v48 0 := kb_eq c50 kc_0
                  refine lv_iload_n hx hb dX12_laysChains_55 rfl (lv_at hl 1 rfl) ?_
                  refine lv_aload_n hx hb dX12_laysChains_56 rfl (lv_at hl 3 rfl) ?_
                  refine va_get (D := D) (ci := 12) (v := .ref (r 34)) (C := RX12) (T := TX12) (N := 48) hx hb hg inC12 hown hK hP 0 rfl rfl 34 (by decide) (hg _ wt5_194) (fun _ h9 => h9) rfl dX12_laysChains_57 ?_
                  refine lv_iload_n hx hb dX12_laysChains_60 rfl (lv_at hl 0 rfl) ?_
                  refine va_iald hx hb hK hP 17 0 rfl rfl (kb_in b35 (by decide) (by decide)) dX12_laysChains_61 ?_
                  refine lv_topi (fun t55 et55 => ?_)
                  refine kN.callS (As := [.int y18, .int t55]) (rest := []) ⟨hx, hb, hml, hown, hg⟩ (m_greater l y18 t55 ) (va_cwS 2 hg (kgS wt6_127 wt6_128 wt1_14 wt6_129) rfl rfl rfl (by decide +kernel) ⟨by decide, by decide⟩) hP hS rfl hl.1 rfl (Nat.le_of_ble_eq_true rfl) dX12_laysChains_62 ⟨Nat.le_refl _, Nat.le_refl _⟩ (fun v57 H locs hw56 hP hS => ?_)
                  refine lv_istore_n (lv' := [(2, .int v57), (3, .int y17), (1, .int y5), (0, .ref o)]) hx hb dX12_laysChains_65 rfl hl (by decide) rfl (fun ls hl => ?_)
                  obtain ⟨t59, et59⟩ : ∃ z : Int32, z = y17 + Int32.ofInt 1 := ⟨_, rfl⟩
                  have qt59 : t59.toInt = y17.toInt + 1 := by rw [et59]; exact km_inc b35 (by decide) (by decide)
                  have b60 : kb 2 t59 10 := kb_inc (k := 1) qt59 b35
                  refine lv_iinc (v := t59) (lv' := [(3, .int t59), (2, .int v57), (1, .int y5), (0, .ref o)]) hx hb dX12_laysChains_66 hl (k := 1) rfl et59.symm (by decide) rfl (fun ls hl => ?_)
                  refine lv_goto (tgt := 20) hx hb dX12_laysChains_69 (by decide) ?_
                  exact ihlp19 (j + 1) _ _ _ t59 v57 (km_up hmlp19 qt59) (kb_w b60 (by decide) (by decide)) (by have w1 := hvlp19_0; have w2 := qt59; omega) ((chM_y hi2.symm (by have w9 := bit_y hw39.2 c42; rw [(show t38 = a 2 (33 + (kPn (a 2) - 1 - mq + 1 + j)) from (show t38 = a 2 (33 + y17.toNatClampNeg) from (et38.trans (congrFun (hZL.2 2 rfl) (t36.toNatClampNeg))).trans (congrArg (a 2) (show t36.toNatClampNeg = _ from by have w1 := qt36; have w2 := (b35).1; unfold Int32.toNatClampNeg; omega))).trans (by rw [hq])), (show y5 = nI (kPn (a 2) - 1 - mq) from nI_q hp1)] at w9; exact w9) (bit0_n (show v48 = (if a 2 (0 + (kPn (a 2) - 1 - mq + 1 + j)) = 0 then 1 else 0) from by have w9 := hw47.2; rw [show B6 2 = a 2 from hZL.2 2 rfl, hq] at w9; exact w9) c50) (show t55.toInt = chR (a 2) (kPn (a 2)) mq (kPn (a 2) - 1 - mq + 1 + j) from by rw [et55, hq]; exact hch _ (by omega) (by omega)) (gr_v hw56.2.1 hw56.2.2.1 hw56.2.2.2)).symm) (hjm) hP hD hS (lv_sub hl [0, 1, 2, 3] rfl)
        exact lp19 (10) 0 _ _ _ t15 0 (by have h1 := (b16); unfold kb at h1; omega) b16 (by have w1 := qt15; have w2 := hp1; have w3 := hmn; omega) (by show (0 : Int32).toInt = (0 : Int); decide +kernel) (Nat.zero_le _) hP hD hS (lv_sub hl [0, 1, 2, 3] rfl)
  exact lp7 (11) 0 a _ _ _ t3 (by have h1 := (b4); unfold kb at h1; omega) hI hE hZ b4 (by have w1 := qt3; have w2 := congrArg Int32.toInt et1; have w3 := (kPn_b hp0).2; omega) (Nat.zero_le _) (fun i h1 h2 => by omega) hP hD hS (lv_sub hl [0, 1] rfl)
set_option maxHeartbeats 4000000 in
set_option maxRecDepth 100000 in
theorem n_longest  (l : Launch) {D : va_G} {K : Nat → ClassId} (o : Nat) (r : Nat → Nat) (f : Nat → Int32) (a : Nat → Nat → Int32) (g : Nat → Int64) (hI : mI f a)    (hp0 : kK (a 2)) : kI l yX12_longest (Cond.code yX12_longest cX12_longest 3 (some .int) :: kG) (rmD 3 0 0) D (tysK K) [.ref o] (mW K o r f a g) (fun v (u : mS) => kb (-2147483648) v 2147483647 ∧ mI u.1 u.2.1 ∧ mE (XR []) f a u.1 u.2.1 ∧ v.toInt = chX (chR (a 2) (kPn (a 2)) (kPn (a 2))) (kPn (a 2)) ∧ mZ [] [34] f a u.1 u.2.1) (fun u => mW K o r u.1 u.2.1 u.2.2) 0 0 := by
  refine kI.of (cc := cX12_longest) (maxL := 3) (ret := (some .int)) (by decide) rfl (Nat.le_of_ble_eq_true rfl) ?_
  intro p e s m below meth c A hx hb hr hml hown hts hlocks hnm hK hP hD hS hA ls hl
  have hE : mE (XR []) f a f a := mE_rf
  have hZ : mZ [] [34] f a f a := mZ_rf
  have hg : ∀ w ∈ kG, w.before _ s = true := fun w h => hts w (List.mem_cons_of_mem _ h)
  have hown : s.vm.findClass RX12 = some m.cls := hown
  have hl : lv_has ls 3 [(0, .ref o)] := hl
  refine lv_aload_n hx hb dX12_longest_0 rfl (lv_at hl 0 rfl) ?_
  refine kV.callV (As := []) (rest := []) ⟨hx, hb, hml, hown, hg⟩ (n_laysChains l o r f a g hI   hp0) (cwV 0 hg (kgV wt6_120 wt6_122 wp3_14 wt1_14 wt6_123) rfl rfl rfl (by decide +kernel) ⟨by decide, by decide⟩) hK hP hD hS hA mIs [] rfl (wr := []) rfl rfl rfl (fun i h => by cases h) 0 12 rfl rfl rfl hl.1 rfl (Nat.le_of_ble_eq_true rfl) dX12_longest_1 ⟨Nat.le_refl _, Nat.le_refl _⟩ (fun u3 H locs hw1 hP hD hS => ?_)
  obtain ⟨f4, a5, g6⟩ := u3
  have hP : va_P D vwCl (mW K o r f4 a5 g6) H := hP
  have hD : va_D A (mW K o r f4 a5 g6) := hD
  have hI : mI f4 a5 := hw1.1
  have hE : mE (XR []) f a f4 a5 := mE_tr hE hw1.2.1
  have eE7 : mE (XR []) f a f4 a5 := hw1.2.1
  have eZ8 : mZ [] [34] f a f4 a5 := hw1.2.2.2
  have hZ : mZ [] [34] f a f4 a5 := mZ_tr hZ (mZ_w (by decide) (by decide) eZ8)
  have hchn := hw1.2.2.1
  refine lv_iconst (v := 0) hx hb dX12_longest_4 (by decide) ?_
  refine lv_istore_n (lv' := [(1, .int 0), (0, .ref o)]) hx hb dX12_longest_5 rfl hl (by decide) rfl (fun ls hl => ?_)
  refine lv_iconst (v := 0) hx hb dX12_longest_6 (by decide) ?_
  refine lv_istore_n (lv' := [(2, .int 0), (1, .int 0), (0, .ref o)]) hx hb dX12_longest_7 rfl hl (by decide) rfl (fun ls hl => ?_)
  have lp11 : ∀ (n12 : Nat) (nn : Nat) (H : Heap) (locs : List Loc) (ls : Array Slot) (y9 : Int32) (y10 : Int32), (10 < y9.toInt + (n12 : Int)) → (kb 0 y9 10) → (y9.toInt = (nn : Int)) → (y10.toInt = chX (chR (a 2) (kPn (a 2)) (kPn (a 2))) nn) → (nn ≤ kPn (a 2)) → va_P D vwCl (mW K o r f4 a5 g6) H → va_D A (mW K o r f4 a5 g6) → va_S A s.heap H locs → lv_has ls 3 [(2, .int y9), (1, .int y10), (0, .ref o)] → W p l e (rmD 3 0 0) s m ([.ref o] : List Value).toArray below meth c H locs 0 0 (kQi D (tysK K) (fun v (u : mS) => kb (-2147483648) v 2147483647 ∧ mI u.1 u.2.1 ∧ mE (XR []) f a u.1 u.2.1 ∧ v.toInt = chX (chR (a 2) (kPn (a 2)) (kPn (a 2))) (kPn (a 2)) ∧ mZ [] [34] f a u.1 u.2.1) (fun u => mW K o r u.1 u.2.1 u.2.2) A below ([.ref o] : List Value).toArray s 0 0) (F0 m 8 ls []) := by
    intro n12
    induction n12 with
    | zero =>
      intro nn  H locs ls y9 y10 hmlp11 b13 hvlp11_0 hvlp11_1 hvlp11_2 hP hD hS hl
      exact (by have h1 := b13.2; have h2 := hmlp11; omega : False).elim
    | succ n12 ihlp11 =>
      intro nn  H locs ls y9 y10 hmlp11 b13 hvlp11_0 hvlp11_1 hvlp11_2 hP hD hS hl
      have hnn : y9 = nI nn := nI_q hvlp11_0
      have hZB := hZ
      have hlg := hvlp11_1
      refine lv_iload_n hx hb dX12_longest_8 rfl (lv_at hl 0 rfl) ?_
      refine lv_aload_n hx hb dX12_longest_9 rfl (lv_at hl 2 rfl) ?_
      refine va_get (D := D) (ci := 12) (v := .ref (r 2)) (C := RX12) (T := TX12) (N := 48) hx hb hg inC12 hown hK hP 0 rfl rfl 2 (by decide) (hg _ wt5_162) (fun _ h9 => h9) rfl dX12_longest_10 ?_
      refine lv_bipush (v := 102) hx hb dX12_longest_13 (by decide) ?_
      refine va_iald hx hb hK hP 2 0 rfl rfl (kb_in kc_102 (by decide) (by decide)) dX12_longest_15 ?_
      refine lv_topi (fun t14 et14 => ?_)
      rw [cl_102] at et14
      have b15 : kb 0 t14 10 := kb_eq et14 (aI_at hI.2.1 2 102 (by decide) (by decide))
      refine lv_icmp_ge (tgt := 36) hx hb dX12_longest_16 (by decide) (fun c16 => ?_) (fun c16 => ?_)
      · have h17 := (kc_le c16)
        refine lv_iload_n hx hb dX12_longest_36 rfl (lv_at hl 1 rfl) ?_
        exact kI_ret (v := y10) hx hb hr hlocks rfl hK hS dX12_longest_37 (f4, a5, g6) hP hD ⟨(kb_any y10), hI, hE, (by have hn : nn = kPn (a 2) := (by have w1 := hvlp11_0; have w2 := kc_le c16; have w3 := congrArg Int32.toInt (et14.trans (congrFun ((eZ8.2 2 rfl)) 102)); have w4 := (kPn_b hp0).2; have w5 := hvlp11_2; omega); rw [hn] at hlg; exact hlg), hZ⟩
      · have h18 := (kc_nle c16)
        have b19 : kb 0 y9 9 := kr_lt1 h18 b13 b15 (by decide)
        have b20 : kb 1 t14 10 := kr_lt2 h18 b13 b15 (by decide)
        refine lv_iload_n hx hb dX12_longest_19 rfl (lv_at hl 1 rfl) ?_
        refine lv_aload_n hx hb dX12_longest_20 rfl (lv_at hl 2 rfl) ?_
        refine va_get (D := D) (ci := 12) (v := .ref (r 34)) (C := RX12) (T := TX12) (N := 48) hx hb hg inC12 hown hK hP 0 rfl rfl 34 (by decide) (hg _ wt5_194) (fun _ h9 => h9) rfl dX12_longest_21 ?_
        refine lv_iload_n hx hb dX12_longest_24 rfl (lv_at hl 0 rfl) ?_
        refine va_iald hx hb hK hP 17 0 rfl rfl (kb_in b19 (by decide) (by decide)) dX12_longest_25 ?_
        refine lv_topi (fun t21 et21 => ?_)
        refine kN.callS (As := [.int y10, .int t21]) (rest := []) ⟨hx, hb, hml, hown, hg⟩ (m_greater l y10 t21 ) (va_cwS 2 hg (kgS wt6_127 wt6_128 wt1_14 wt6_129) rfl rfl rfl (by decide +kernel) ⟨by decide, by decide⟩) hP hS rfl hl.1 rfl (Nat.le_of_ble_eq_true rfl) dX12_longest_26 ⟨Nat.le_refl _, Nat.le_refl _⟩ (fun v23 H locs hw22 hP hS => ?_)
        refine lv_istore_n (lv' := [(1, .int v23), (2, .int y9), (0, .ref o)]) hx hb dX12_longest_29 rfl hl (by decide) rfl (fun ls hl => ?_)
        obtain ⟨t25, et25⟩ : ∃ z : Int32, z = y9 + Int32.ofInt 1 := ⟨_, rfl⟩
        have qt25 : t25.toInt = y9.toInt + 1 := by rw [et25]; exact km_inc b19 (by decide) (by decide)
        have b26 : kb 1 t25 10 := kb_inc (k := 1) qt25 b19
        refine lv_iinc (v := t25) (lv' := [(2, .int t25), (1, .int v23), (0, .ref o)]) hx hb dX12_longest_30 hl (k := 1) rfl et25.symm (by decide) rfl (fun ls hl => ?_)
        refine lv_goto (tgt := 8) hx hb dX12_longest_33 (by decide) ?_
        exact ihlp11 (nn + 1) _ _ _ t25 v23 (km_up hmlp11 qt25) (kb_w b26 (by decide) (by decide)) (by have w1 := hvlp11_0; have w2 := qt25; omega) (by have w9 := gr_v hw22.2.1 hw22.2.2.1 hw22.2.2.2; rw [show t21.toInt = chR (a 2) (kPn (a 2)) (kPn (a 2)) nn from by rw [et21, cl_nat hvlp11_0]; exact hchn nn (by have w1 := hvlp11_0; have w2 := kc_nle c16; have w3 := congrArg Int32.toInt (et14.trans (congrFun ((eZ8.2 2 rfl)) 102)); have w4 := (kPn_b hp0).2; omega), hlg] at w9; exact w9) (by have w1 := hvlp11_0; have w2 := kc_nle c16; have w3 := congrArg Int32.toInt (et14.trans (congrFun ((eZ8.2 2 rfl)) 102)); have w4 := (kPn_b hp0).2; omega) hP hD hS (lv_sub hl [0, 1, 2] rfl)
  exact lp11 (11) 0 _ _ _ 0 0 (by have h1 := (kc_0); unfold kb at h1; omega) (kb_w kc_0 (by decide) (by decide)) (by decide +kernel) (by show (0 : Int32).toInt = (0 : Int); decide +kernel) (Nat.zero_le _) hP hD hS (lv_sub hl [0, 1, 2] rfl)
set_option maxHeartbeats 4000000 in
set_option maxRecDepth 100000 in
theorem n_of  (l : Launch) {D : va_G} {K : Nat → ClassId} (o : Nat) (r : Nat → Nat) (f : Nat → Int32) (a : Nat → Nat → Int32) (g : Nat → Int64) (hI : mI f a) (x : Int32) (y : Int32)   (hp0 : kK (a 2)) : kI l yX12_of (Cond.code yX12_of cX12_of 3 (some .int) :: kG) (rmD 4 0 0) D (tysK K) [.ref o, .int x, .int y] (mW K o r f a g) (fun v (u : mS) => kb (-2147483648) v 2147483647 ∧ mI u.1 u.2.1 ∧ mE (XR []) f a u.1 u.2.1 ∧ v.toInt = ofF (a 2) x y ∧ mZ [] [34] f a u.1 u.2.1) (fun u => mW K o r u.1 u.2.1 u.2.2) 0 0 := by
  refine kI.of (cc := cX12_of) (maxL := 3) (ret := (some .int)) (by decide) rfl (Nat.le_of_ble_eq_true rfl) ?_
  intro p e s m below meth c A hx hb hr hml hown hts hlocks hnm hK hP hD hS hA ls hl
  have hE : mE (XR []) f a f a := mE_rf
  have hZ : mZ [] [34] f a f a := mZ_rf
  have hg : ∀ w ∈ kG, w.before _ s = true := fun w h => hts w (List.mem_cons_of_mem _ h)
  have hown : s.vm.findClass RX12 = some m.cls := hown
  have hl : lv_has ls 3 [(0, .ref o), (1, .int x), (2, .int y)] := hl
  refine lv_aload_n hx hb dX12_of_0 rfl (lv_at hl 0 rfl) ?_
  refine lv_iload_n hx hb dX12_of_1 rfl (lv_at hl 1 rfl) ?_
  refine kI.callV (As := [.int x]) (rest := []) ⟨hx, hb, hml, hown, hg⟩ (m_isPart l o r f a g hI x  ) (cwV 1 hg (kgV wt6_104 wt6_106 wp3_10 wt1_14 wt6_107) rfl rfl rfl (by decide +kernel) ⟨by decide, by decide⟩) hK hP hD hS hA mIs [] rfl (wr := []) rfl rfl rfl (fun i h => by cases h) 0 12 rfl rfl rfl hl.1 rfl (Nat.le_of_ble_eq_true rfl) dX12_of_2 ⟨Nat.le_refl _, Nat.le_refl _⟩ (fun v2 u3 H locs hw1 hP hD hS => ?_)
  have hP : va_P D vwCl (mW K o r f a g) H := hP
  have hD : va_D A (mW K o r f a g) := hD
  refine lv_if_ne (tgt := 10) hx hb dX12_of_5 (by decide) (fun c4 => ?_) (fun c4 => ?_)
  · have b5 : kb 1 v2 1 := kr_nel c4 hw1.1 kc_0 (by decide)
    have h6 := hw1.2.1 c4
    have b7 : kb 0 x 9 := ⟨by have h1 := h6.1; omega, (by have h1 := h6.2; have h2 := (aI_at hI.2.1 2 102 (by decide) (by decide) : kb 0 (a 2 102) 10).2; omega)⟩
    refine lv_iload_n hx hb dX12_of_10 rfl (lv_at hl 2 rfl) ?_
    by_cases q8 : y = 0
    · have b9 : kb 0 y 0 := kb_eq q8 kc_0
      refine lv_tableIn (tgt := 52) hx hb dX12_of_11 (by rw [q8]; decide +kernel) (by rw [q8]; decide +kernel) (by rw [q8]; rfl) (by decide) ?_
      refine lv_aload_n hx hb dX12_of_52 rfl (lv_at hl 0 rfl) ?_
      refine va_get (D := D) (ci := 12) (v := .ref (r 2)) (C := RX12) (T := TX12) (N := 48) hx hb hg inC12 hown hK hP 0 rfl rfl 2 (by decide) (hg _ wt5_162) (fun _ h9 => h9) rfl dX12_of_53 ?_
      refine lv_bipush (v := 23) hx hb dX12_of_56 (by decide) ?_
      refine lv_iload_n hx hb dX12_of_58 rfl (lv_at hl 1 rfl) ?_
      refine lv_iadd hx hb dX12_of_59 ?_
      refine lv_topi (fun t10 et10 => ?_)
      have b11 : kb 23 t10 32 := kb_eq et10 (kb_add kc_23 b7 (by decide) (by decide))
      have qt10 : t10.toInt = 23 + x.toInt := by rw [et10]; exact kt_cadd kc_23 b7 (by decide) (by decide)
      refine va_iald hx hb hK hP 2 0 rfl rfl (kb_in b11 (by decide) (by decide)) dX12_of_60 ?_
      refine lv_topi (fun t12 et12 => ?_)
      have b13 : kb 0 t12 99 := kb_eq et12 (aI_ld hI.2.1 2 23 10 b11 (by decide) (by decide) (by decide +kernel))
      exact kI_ret (v := t12) hx hb hr hlocks rfl hK hS dX12_of_61 (f, a, g) hP hD ⟨(kb_w b13 (by decide) (by decide)), hI, hE, (by unfold ofF; rw [if_pos (okQ_y ⟨h6.1, by have w1 := h6.2; omega⟩), if_pos q8]; exact congrArg Int32.toInt (show t12 = a 2 (23 + x.toNatClampNeg) from et12.trans (congrArg (a 2) (show t10.toNatClampNeg = _ from by have w1 := qt10; have w2 := (b7).1; unfold Int32.toNatClampNeg; omega)))), hZ⟩
    by_cases q14 : y = 1
    · have b15 : kb 1 y 1 := kb_eq q14 kc_1
      refine lv_tableIn (tgt := 62) hx hb dX12_of_11 (by rw [q14]; decide +kernel) (by rw [q14]; decide +kernel) (by rw [q14]; rfl) (by decide) ?_
      refine lv_aload_n hx hb dX12_of_62 rfl (lv_at hl 0 rfl) ?_
      refine va_get (D := D) (ci := 12) (v := .ref (r 2)) (C := RX12) (T := TX12) (N := 48) hx hb hg inC12 hown hK hP 0 rfl rfl 2 (by decide) (hg _ wt5_162) (fun _ h9 => h9) rfl dX12_of_63 ?_
      refine lv_bipush (v := 33) hx hb dX12_of_66 (by decide) ?_
      refine lv_iload_n hx hb dX12_of_68 rfl (lv_at hl 1 rfl) ?_
      refine lv_iadd hx hb dX12_of_69 ?_
      refine lv_topi (fun t16 et16 => ?_)
      have b17 : kb 33 t16 42 := kb_eq et16 (kb_add kc_33 b7 (by decide) (by decide))
      have qt16 : t16.toInt = 33 + x.toInt := by rw [et16]; exact kt_cadd kc_33 b7 (by decide) (by decide)
      refine va_iald hx hb hK hP 2 0 rfl rfl (kb_in b17 (by decide) (by decide)) dX12_of_70 ?_
      refine lv_topi (fun t18 et18 => ?_)
      exact kI_ret (v := t18) hx hb hr hlocks rfl hK hS dX12_of_71 (f, a, g) hP hD ⟨(kb_any t18), hI, hE, (by unfold ofF; rw [if_pos (okQ_y ⟨h6.1, by have w1 := h6.2; omega⟩), if_neg (by rw [q14]; decide +kernel), if_pos q14]; exact congrArg Int32.toInt (show t18 = a 2 (33 + x.toNatClampNeg) from et18.trans (congrArg (a 2) (show t16.toNatClampNeg = _ from by have w1 := qt16; have w2 := (b7).1; unfold Int32.toNatClampNeg; omega)))), hZ⟩
    by_cases q19 : y = 2
    · have b20 : kb 2 y 2 := kb_eq q19 kc_2
      refine lv_tableIn (tgt := 72) hx hb dX12_of_11 (by rw [q19]; decide +kernel) (by rw [q19]; decide +kernel) (by rw [q19]; rfl) (by decide) ?_
      refine lv_aload_n hx hb dX12_of_72 rfl (lv_at hl 0 rfl) ?_
      refine va_get (D := D) (ci := 12) (v := .ref (r 2)) (C := RX12) (T := TX12) (N := 48) hx hb hg inC12 hown hK hP 0 rfl rfl 2 (by decide) (hg _ wt5_162) (fun _ h9 => h9) rfl dX12_of_73 ?_
      refine lv_bipush (v := 43) hx hb dX12_of_76 (by decide) ?_
      refine lv_iload_n hx hb dX12_of_78 rfl (lv_at hl 1 rfl) ?_
      refine lv_iadd hx hb dX12_of_79 ?_
      refine lv_topi (fun t21 et21 => ?_)
      have b22 : kb 43 t21 52 := kb_eq et21 (kb_add kc_43 b7 (by decide) (by decide))
      have qt21 : t21.toInt = 43 + x.toInt := by rw [et21]; exact kt_cadd kc_43 b7 (by decide) (by decide)
      refine va_iald hx hb hK hP 2 0 rfl rfl (kb_in b22 (by decide) (by decide)) dX12_of_80 ?_
      refine lv_topi (fun t23 et23 => ?_)
      exact kI_ret (v := t23) hx hb hr hlocks rfl hK hS dX12_of_81 (f, a, g) hP hD ⟨(kb_any t23), hI, hE, (by unfold ofF; rw [if_pos (okQ_y ⟨h6.1, by have w1 := h6.2; omega⟩), if_neg (by rw [q19]; decide +kernel), if_neg (by rw [q19]; decide +kernel), if_pos q19]; exact congrArg Int32.toInt (show t23 = a 2 (43 + x.toNatClampNeg) from et23.trans (congrArg (a 2) (show t21.toNatClampNeg = _ from by have w1 := qt21; have w2 := (b7).1; unfold Int32.toNatClampNeg; omega)))), hZ⟩
    by_cases q24 : y = 3
    · have b25 : kb 3 y 3 := kb_eq q24 kc_3
      refine lv_tableIn (tgt := 82) hx hb dX12_of_11 (by rw [q24]; decide +kernel) (by rw [q24]; decide +kernel) (by rw [q24]; rfl) (by decide) ?_
      refine lv_aload_n hx hb dX12_of_82 rfl (lv_at hl 0 rfl) ?_
      refine va_get (D := D) (ci := 12) (v := .ref (r 2)) (C := RX12) (T := TX12) (N := 48) hx hb hg inC12 hown hK hP 0 rfl rfl 2 (by decide) (hg _ wt5_162) (fun _ h9 => h9) rfl dX12_of_83 ?_
      refine lv_bipush (v := 53) hx hb dX12_of_86 (by decide) ?_
      refine lv_iload_n hx hb dX12_of_88 rfl (lv_at hl 1 rfl) ?_
      refine lv_iadd hx hb dX12_of_89 ?_
      refine lv_topi (fun t26 et26 => ?_)
      have b27 : kb 53 t26 62 := kb_eq et26 (kb_add kc_53 b7 (by decide) (by decide))
      have qt26 : t26.toInt = 53 + x.toInt := by rw [et26]; exact kt_cadd kc_53 b7 (by decide) (by decide)
      refine va_iald hx hb hK hP 2 0 rfl rfl (kb_in b27 (by decide) (by decide)) dX12_of_90 ?_
      refine lv_topi (fun t28 et28 => ?_)
      exact kI_ret (v := t28) hx hb hr hlocks rfl hK hS dX12_of_91 (f, a, g) hP hD ⟨(kb_any t28), hI, hE, (by unfold ofF; rw [if_pos (okQ_y ⟨h6.1, by have w1 := h6.2; omega⟩), if_neg (by rw [q24]; decide +kernel), if_neg (by rw [q24]; decide +kernel), if_neg (by rw [q24]; decide +kernel), if_pos q24]; exact congrArg Int32.toInt (show t28 = a 2 (53 + x.toNatClampNeg) from et28.trans (congrArg (a 2) (show t26.toNatClampNeg = _ from by have w1 := qt26; have w2 := (b7).1; unfold Int32.toNatClampNeg; omega)))), hZ⟩
    by_cases q29 : y = 4
    · have b30 : kb 4 y 4 := kb_eq q29 kc_4
      refine lv_tableIn (tgt := 92) hx hb dX12_of_11 (by rw [q29]; decide +kernel) (by rw [q29]; decide +kernel) (by rw [q29]; rfl) (by decide) ?_
      refine lv_aload_n hx hb dX12_of_92 rfl (lv_at hl 0 rfl) ?_
      refine va_get (D := D) (ci := 12) (v := .ref (r 2)) (C := RX12) (T := TX12) (N := 48) hx hb hg inC12 hown hK hP 0 rfl rfl 2 (by decide) (hg _ wt5_162) (fun _ h9 => h9) rfl dX12_of_93 ?_
      refine lv_iconst (v := 0) hx hb dX12_of_96 (by decide) ?_
      refine lv_iload_n hx hb dX12_of_97 rfl (lv_at hl 1 rfl) ?_
      refine lv_iadd hx hb dX12_of_98 ?_
      refine k_top (z := x) (Int32.zero_add _) ?_
      refine va_iald hx hb hK hP 2 0 rfl rfl (kb_in b7 (by decide) (by decide)) dX12_of_99 ?_
      refine lv_topi (fun t31 et31 => ?_)
      have b32 : kb 0 t31 99 := kb_eq et31 (aI_ld hI.2.1 2 0 10 b7 (by decide) (by decide) (by decide +kernel))
      exact kI_ret (v := t31) hx hb hr hlocks rfl hK hS dX12_of_100 (f, a, g) hP hD ⟨(kb_w b32 (by decide) (by decide)), hI, hE, (by unfold ofF; rw [if_pos (okQ_y ⟨h6.1, by have w1 := h6.2; omega⟩), if_neg (by rw [q29]; decide +kernel), if_neg (by rw [q29]; decide +kernel), if_neg (by rw [q29]; decide +kernel), if_neg (by rw [q29]; decide +kernel), if_pos q29]; exact congrArg Int32.toInt (show t31 = a 2 (0 + x.toNatClampNeg) from et31.trans (congrArg (a 2) (Nat.zero_add _).symm))), hZ⟩
    by_cases q33 : y = 5
    · have b34 : kb 5 y 5 := kb_eq q33 kc_5
      refine lv_tableIn (tgt := 101) hx hb dX12_of_11 (by rw [q33]; decide +kernel) (by rw [q33]; decide +kernel) (by rw [q33]; rfl) (by decide) ?_
      refine lv_aload_n hx hb dX12_of_101 rfl (lv_at hl 0 rfl) ?_
      refine lv_iload_n hx hb dX12_of_102 rfl (lv_at hl 1 rfl) ?_
      refine kI.callV (As := [.int x]) (rest := []) ⟨hx, hb, hml, hown, hg⟩ (n_isReady l o r f a g hI x b7 hp0) (cwV 1 hg (kgV wt6_108 wt6_110 wp3_11 wt1_14 wt6_111) rfl rfl rfl (by decide +kernel) ⟨by decide, by decide⟩) hK hP hD hS hA mIs [] rfl (wr := []) rfl rfl rfl (fun i h => by cases h) 0 12 rfl rfl rfl hl.1 rfl (Nat.le_of_ble_eq_true rfl) dX12_of_103 ⟨Nat.le_refl _, Nat.le_refl _⟩ (fun v36 u37 H locs hw35 hP hD hS => ?_)
      have hP : va_P D vwCl (mW K o r f a g) H := hP
      have hD : va_D A (mW K o r f a g) := hD
      refine lv_if_eq (tgt := 113) hx hb dX12_of_106 (by decide) (fun c38 => ?_) (fun c38 => ?_)
      · have b39 : kb 0 v36 0 := kb_eq c38 kc_0
        refine lv_iconst (v := 0) hx hb dX12_of_113 (by decide) ?_
        exact kI_ret (v := 0) hx hb hr hlocks rfl hK hS dX12_of_114 (f, a, g) hP hD ⟨(kb_w kc_0 (by decide) (by decide)), hI, hE, (by unfold ofF; rw [if_pos (okQ_y ⟨h6.1, by have w1 := h6.2; omega⟩), if_neg (by rw [q33]; decide +kernel), if_neg (by rw [q33]; decide +kernel), if_neg (by rw [q33]; decide +kernel), if_neg (by rw [q33]; decide +kernel), if_neg (by rw [q33]; decide +kernel), if_pos q33, if_neg (bit1_n hw35.2 c38)]; decide +kernel), hZ⟩
      · have b40 : kb 1 v36 1 := kr_nel c38 hw35.1 kc_0 (by decide)
        refine lv_iconst (v := 1) hx hb dX12_of_109 (by decide) ?_
        refine lv_goto (tgt := 114) hx hb dX12_of_110 (by decide) ?_
        exact kI_ret (v := 1) hx hb hr hlocks rfl hK hS dX12_of_114 (f, a, g) hP hD ⟨(kb_w kc_1 (by decide) (by decide)), hI, hE, (by unfold ofF; rw [if_pos (okQ_y ⟨h6.1, by have w1 := h6.2; omega⟩), if_neg (by rw [q33]; decide +kernel), if_neg (by rw [q33]; decide +kernel), if_neg (by rw [q33]; decide +kernel), if_neg (by rw [q33]; decide +kernel), if_neg (by rw [q33]; decide +kernel), if_pos q33, if_pos (bit1_y hw35.2 c38)]; decide +kernel), hZ⟩
    by_cases q41 : y = 6
    · have b42 : kb 6 y 6 := kb_eq q41 kc_6
      refine lv_tableIn (tgt := 115) hx hb dX12_of_11 (by rw [q41]; decide +kernel) (by rw [q41]; decide +kernel) (by rw [q41]; rfl) (by decide) ?_
      refine lv_aload_n hx hb dX12_of_115 rfl (lv_at hl 0 rfl) ?_
      refine kV.callV (As := []) (rest := []) ⟨hx, hb, hml, hown, hg⟩ (n_laysChains l o r f a g hI   hp0) (cwV 0 hg (kgV wt6_120 wt6_122 wp3_14 wt1_14 wt6_123) rfl rfl rfl (by decide +kernel) ⟨by decide, by decide⟩) hK hP hD hS hA mIs [] rfl (wr := []) rfl rfl rfl (fun i h => by cases h) 0 12 rfl rfl rfl hl.1 rfl (Nat.le_of_ble_eq_true rfl) dX12_of_116 ⟨Nat.le_refl _, Nat.le_refl _⟩ (fun u45 H locs hw43 hP hD hS => ?_)
      obtain ⟨f46, a47, g48⟩ := u45
      have hP : va_P D vwCl (mW K o r f46 a47 g48) H := hP
      have hD : va_D A (mW K o r f46 a47 g48) := hD
      have hI : mI f46 a47 := hw43.1
      have hE : mE (XR []) f a f46 a47 := mE_tr hE hw43.2.1
      have eE49 : mE (XR []) f a f46 a47 := hw43.2.1
      have eZ50 : mZ [] [34] f a f46 a47 := hw43.2.2.2
      have hZ : mZ [] [34] f a f46 a47 := mZ_tr hZ (mZ_w (by decide) (by decide) eZ50)
      have hchn := hw43.2.2.1
      refine lv_aload_n hx hb dX12_of_119 rfl (lv_at hl 0 rfl) ?_
      refine va_get (D := D) (ci := 12) (v := .ref (r 34)) (C := RX12) (T := TX12) (N := 48) hx hb hg inC12 hown hK hP 0 rfl rfl 34 (by decide) (hg _ wt5_194) (fun _ h9 => h9) rfl dX12_of_120 ?_
      refine lv_iload_n hx hb dX12_of_123 rfl (lv_at hl 1 rfl) ?_
      refine va_iald hx hb hK hP 17 0 rfl rfl (kb_in b7 (by decide) (by decide)) dX12_of_124 ?_
      refine lv_topi (fun t51 et51 => ?_)
      exact kI_ret (v := t51) hx hb hr hlocks rfl hK hS dX12_of_125 (f46, a47, g48) hP hD ⟨(kb_any t51), hI, hE, (by unfold ofF; rw [if_pos (okQ_y ⟨h6.1, by have w1 := h6.2; omega⟩), if_neg (by rw [q41]; decide +kernel), if_neg (by rw [q41]; decide +kernel), if_neg (by rw [q41]; decide +kernel), if_neg (by rw [q41]; decide +kernel), if_neg (by rw [q41]; decide +kernel), if_neg (by rw [q41]; decide +kernel), if_pos q41]; rw [et51]; exact hchn _ (by have w1 := h6; have w2 := (kPn_b hp0).2; unfold Int32.toNatClampNeg; omega)), hZ⟩
    refine lv_tableOut (tgt := 126) hx hb dX12_of_11 (by have gq8 := lv_neT q8 (a := 0) (by decide +kernel); have gq14 := lv_neT q14 (a := 1) (by decide +kernel); have gq19 := lv_neT q19 (a := 2) (by decide +kernel); have gq24 := lv_neT q24 (a := 3) (by decide +kernel); have gq29 := lv_neT q29 (a := 4) (by decide +kernel); have gq33 := lv_neT q33 (a := 5) (by decide +kernel); have gq41 := lv_neT q41 (a := 6) (by decide +kernel); omega) (by decide) ?_
    refine lv_iconst (v := (-1)) hx hb dX12_of_126 (by decide) ?_
    exact kI_ret (v := (-1)) hx hb hr hlocks rfl hK hS dX12_of_127 (f, a, g) hP hD ⟨(kb_w kc_m1 (by decide) (by decide)), hI, hE, (by unfold ofF; rw [if_pos (okQ_y ⟨h6.1, by have w1 := h6.2; omega⟩), if_neg q8, if_neg q14, if_neg q19, if_neg q24, if_neg q29, if_neg q33, if_neg q41]; decide +kernel), hZ⟩
  · have b52 : kb 0 v2 0 := kb_eq c4 kc_0
    refine lv_iconst (v := (-1)) hx hb dX12_of_8 (by decide) ?_
    exact kI_ret (v := (-1)) hx hb hr hlocks rfl hK hS dX12_of_9 (f, a, g) hP hD ⟨(kb_w kc_m1 (by decide) (by decide)), hI, hE, (by unfold ofF; rw [if_neg (okQ_n (fun q => (hw1.2.2 c4) ⟨q.1, by have w1 := q.2; omega⟩))]; decide +kernel), hZ⟩
