theorem chR_st {k : Nat → Int32} {n m : Nat} : ∀ d, m + d ≤ n → ∀ i, n - m ≤ i → i < n → chR k n (m + d) i = chR k n m i
  | 0, _, i, _, _ => rfl
  | d + 1, hd, i, h1, h2 => by
    rw [show m + (d + 1) = (m + d) + 1 from rfl, chR_o (by omega)]
    exact chR_st d (by omega) i h1 h2
theorem chR_f {k : Nat → Int32} {n m : Nat} (hm : m ≤ n) {i : Nat} (h1 : n - m ≤ i) (h2 : i < n) : chR k n n i = chR k n m i := by
  have w := chR_st (k := k) (n := n) (m := m) (n - m) (by omega) i h1 h2
  rw [show m + (n - m) = n by omega] at w
  exact w
theorem mx_y {x y v : Int} (h : v = max x y) : v = (if y ≤ x then x else y) := by
  rw [h, Int.max_def]
  split <;> split <;> omega
theorem gt_c {x y v : Int32} {X Y : Int} (hx : x.toInt = X) (hy : y.toInt = Y) (h : (x < y ∧ v = y) ∨ (¬ x < y ∧ v = x)) : v.toInt = (if X < Y then Y else X) := by
  rcases h with ⟨c, h⟩ | ⟨c, h⟩
  · have w := kc_lt c
    rw [if_pos (by omega), h]; exact hy
  · have w := kc_nlt c
    rw [if_neg (by omega), h]; exact hx
set_option maxHeartbeats 4000000 in
set_option maxRecDepth 100000 in
theorem z_reckonChains  (l : Launch) {D : va_G} {K : Nat → ClassId} (r : Nat → Nat) (f : Nat → Int32) (a : Nat → Nat → Int32) (g : xG) (tx tt : va_W) (hT : ∀ c ∈ tt, c ∈ tx) (hI : xI f a) (hG : gOK K g.2 tt)   (k : Nat → Int32) (hVw : sV 32 2 f a k) (hkk : kK k)   : kIG l yX7_reckonChains (Cond.code yX7_reckonChains cX7_reckonChains 5 (some .int) :: kG) (rmD 2 0 0) D K [.ref (r 1)] (xX K r f a g tx) (fun v (u : xS) => kb (-2147483648) v 2147483647 ∧ xI u.1 u.2.1 ∧ gOK K u.2.2.2 tt ∧ xEk ([], [21], []) f a g u.1 u.2.1 u.2.2 ∧ v.toInt = chX (chR k (kPn k) (kPn k)) (kPn k) ∧ (∀ i, i < kPn k → (u.2.1 21 i).toInt = chR k (kPn k) (kPn k) i)) (fun u => xX K r u.1 u.2.1 u.2.2 tx) 0 0 := by
  refine kIE.of (cc := cX7_reckonChains) (maxL := 5) (ret := (some .int)) (by decide) rfl (Nat.le_of_ble_eq_true rfl) ?_
  intro p e s m below meth c A hx hb hr hml hown hts hlocks hnm hK hP hD hS hA hV ls hl
  have hE : xEk ([], [21], []) f a g f a g := xEk_rf
  have hg : ∀ w ∈ kG, w.before _ s = true := fun w h => hts w (List.mem_cons_of_mem _ h)
  have hown : s.vm.findClass RX7 = some m.cls := hown
  have hl : lv_has ls 5 [(0, .ref (r 1))] := hl
  refine lv_iconst (v := 0) hx hb dX7_reckonChains_0 (by decide) ?_
  refine lv_istore_n (lv' := [(1, .int 0), (0, .ref (r 1))]) hx hb dX7_reckonChains_1 rfl hl (by decide) rfl (fun ls hl => ?_)
  refine lv_aload_n hx hb dX7_reckonChains_2 rfl (lv_at hl 1 rfl) ?_
  refine va_get (D := D) (ci := 7) (v := .int (f 32)) (C := RX7) (T := TX7) (N := 20) hx hb hg inC7 hown hK hP 1 rfl rfl 0 (by decide) (hg _ wt1_79) (fun _ h9 => h9) rfl dX7_reckonChains_3 ?_
  refine lv_topi (fun t1 et1 => ?_)
  have b2 : kb 0 t1 10 := kb_eq et1 (fI_at hI.1 32 (by decide) (by decide))
  have kvt1 : t1 = k 102 := et1.trans ((sv_parts hVw))
  have kvit1 : t1.toInt = (k 102).toInt := congrArg Int32.toInt kvt1
  have b3 : kb 0 t1 10 := kb_eq kvt1 (kK_r hkk 102 _ _ (by decide) (by decide))
  refine lv_bipush (v := 10) hx hb dX7_reckonChains_6 (by decide) ?_
  refine va_mmin hx hb (hml.trans hl.1.symm) hown (hg _ wt3_51) (hg _ wt3_52) (hg _ wt1_9) (hg _ wt3_53) (by decide) (Nat.le_of_ble_eq_true rfl) (by decide) (by decide) dX7_reckonChains_8 ?_
  refine lv_topi (fun t4 et4 => ?_)
  have b5 : kb 0 t4 10 := kb_eq et4 (kb_mn b3 kc_10 (by decide) (by decide) (by decide) (by decide))
  refine lv_iconst (v := 1) hx hb dX7_reckonChains_11 (by decide) ?_
  refine lv_isub hx hb dX7_reckonChains_12 ?_
  refine lv_topi (fun t6 et6 => ?_)
  have b7 : kb (-1) t6 9 := kb_eq et6 (kb_sub b5 kc_1 (by decide) (by decide))
  have qt6 : t6.toInt = t4.toInt - 1 := by rw [et6]; exact kt_subc b5 kc_1 (by decide) (by decide)
  refine lv_istore_n (lv' := [(2, .int t6), (1, .int 0), (0, .ref (r 1))]) hx hb dX7_reckonChains_13 rfl hl (by decide) rfl (fun ls hl => ?_)
  have lp11 : ∀ (n12 : Nat) (mq : Nat) (B10 : Nat → Nat → Int32) (H : Heap) (locs : List Loc) (ls : Array Slot) (y8 : Int32) (y9 : Int32), (y8.toInt + 1 < (n12 : Int)) → (xI f B10) → (gOK K g.2 tt) → (xEk ([], [21], []) f a g f B10 g) → (kb (-1) y8 9) → (kb 0 y9 2000) → (y8.toInt = (kPn k : Int) - 1 - (mq : Int)) → (mq ≤ kPn k) → (∀ i, kPn k - mq ≤ i → i < kPn k → (B10 21 i).toInt = chR k (kPn k) mq i) → (y9.toInt = chY (chR k (kPn k) (kPn k)) (kPn k) mq) → va_P D vwCl (xX K r f B10 g tx) H → va_D A (xX K r f B10 g tx) → va_S A s.heap H locs → lv_has ls 5 [(2, .int y8), (1, .int y9), (0, .ref (r 1))] → W p l e (rmD 2 0 0) s m ([.ref (r 1)] : List Value).toArray below meth c H locs 0 0 (kQi D (tysK K) (fun v (u : xS) => kb (-2147483648) v 2147483647 ∧ xI u.1 u.2.1 ∧ gOK K u.2.2.2 tt ∧ xEk ([], [21], []) f a g u.1 u.2.1 u.2.2 ∧ v.toInt = chX (chR k (kPn k) (kPn k)) (kPn k) ∧ (∀ i, i < kPn k → (u.2.1 21 i).toInt = chR k (kPn k) (kPn k) i)) (fun u => xX K r u.1 u.2.1 u.2.2 tx) A below ([.ref (r 1)] : List Value).toArray s 0 0) (F0 m 14 ls []) := by
    intro n12
    induction n12 with
    | zero =>
      intro mq B10  H locs ls y8 y9 hmlp11 hI hG hE b13 b14 hvlp11_0 hvlp11_1 hvlp11_2 hvlp11_3 hP hD hS hl
      exact (by have h1 := b13.1; have h2 := hmlp11; omega : False).elim
    | succ n12 ihlp11 =>
      intro mq B10  H locs ls y8 y9 hmlp11 hI hG hE b13 b14 hvlp11_0 hvlp11_1 hvlp11_2 hvlp11_3 hP hD hS hl
      have hNb := kPn_b hkk
      have hch := hvlp11_2
      have hlo := hvlp11_3
      refine lv_iload_n hx hb dX7_reckonChains_14 rfl (lv_at hl 0 rfl) ?_
      refine lv_if_lt (tgt := 134) hx hb dX7_reckonChains_15 (by decide) (fun c15 => ?_) (fun c15 => ?_)
      · have h16 := (kc_lt c15)
        have b17 : kb (-1) y8 (-1) := kr_lt1 h16 b13 kc_0 (by decide)
        refine lv_iload_n hx hb dX7_reckonChains_134 rfl (lv_at hl 1 rfl) ?_
        exact kI_ret (v := y9) hx hb hr hlocks rfl hK hS dX7_reckonChains_135 (f, B10, g) hP hD ⟨(kb_w b14 (by decide) (by decide)), hI, hG, hE, (by have hm : mq = kPn k := (by have w1 := hvlp11_0; have w2 := kc_lt c15; have w3 : (0 : Int32).toInt = 0 := (by decide +kernel); have w4 := hvlp11_1; omega); rw [chXY, ← hm]; rw [← hm] at hlo; exact hlo), (fun i hi => by have hm : mq = kPn k := (by have w1 := hvlp11_0; have w2 := kc_lt c15; have w3 : (0 : Int32).toInt = 0 := (by decide +kernel); have w4 := hvlp11_1; omega); rw [hm] at hch; exact hch i (by omega) hi)⟩
      · have h18 := (kc_nlt c15)
        have b19 : kb 0 y8 9 := kr_le2 h18 kc_0 b13
        have hmn : mq < kPn k := by have w1 := hvlp11_0; have w2 := kc_nlt c15; have w3 : (0 : Int32).toInt = 0 := (by decide +kernel); omega
        have hp1 : y8.toInt = ((kPn k - 1 - mq : Nat) : Int) := by have w1 := hvlp11_0; omega
        refine lv_iconst (v := 0) hx hb dX7_reckonChains_18 (by decide) ?_
        refine lv_istore_n (lv' := [(3, .int 0), (2, .int y8), (1, .int y9), (0, .ref (r 1))]) hx hb dX7_reckonChains_19 rfl hl (by decide) rfl (fun ls hl => ?_)
        refine lv_iload_n hx hb dX7_reckonChains_20 rfl (lv_at hl 1 rfl) ?_
        refine lv_iconst (v := 1) hx hb dX7_reckonChains_21 (by decide) ?_
        refine lv_iadd hx hb dX7_reckonChains_22 ?_
        refine lv_topi (fun t20 et20 => ?_)
        have b21 : kb 1 t20 10 := kb_eq et20 (kb_add b19 kc_1 (by decide) (by decide))
        have qt20 : t20.toInt = y8.toInt + 1 := by rw [et20]; exact kt_addc b19 kc_1 (by decide) (by decide)
        refine lv_istore (lv' := [(4, .int t20), (3, .int 0), (2, .int y8), (1, .int y9), (0, .ref (r 1))]) hx hb dX7_reckonChains_23 hl (by decide) rfl (fun ls hl => ?_)
        have lp24 : ∀ (n25 : Nat) (j : Nat) (H : Heap) (locs : List Loc) (ls : Array Slot) (y22 : Int32) (y23 : Int32), (10 < y22.toInt + (n25 : Int)) → (kb 1 y22 10) → (y22.toInt = ((kPn k - mq : Nat) : Int) + (j : Int)) → (y23.toInt = chM k (chR k (kPn k) mq) (kPn k - 1 - mq) j) → (j ≤ mq) → va_P D vwCl (xX K r f B10 g tx) H → va_D A (xX K r f B10 g tx) → va_S A s.heap H locs → lv_has ls 5 [(4, .int y22), (3, .int y23), (2, .int y8), (1, .int y9), (0, .ref (r 1))] → W p l e (rmD 2 0 0) s m ([.ref (r 1)] : List Value).toArray below meth c H locs 0 0 (kQi D (tysK K) (fun v (u : xS) => kb (-2147483648) v 2147483647 ∧ xI u.1 u.2.1 ∧ gOK K u.2.2.2 tt ∧ xEk ([], [21], []) f a g u.1 u.2.1 u.2.2 ∧ v.toInt = chX (chR k (kPn k) (kPn k)) (kPn k) ∧ (∀ i, i < kPn k → (u.2.1 21 i).toInt = chR k (kPn k) (kPn k) i)) (fun u => xX K r u.1 u.2.1 u.2.2 tx) A below ([.ref (r 1)] : List Value).toArray s 0 0) (F0 m 25 ls []) := by
          intro n25
          induction n25 with
          | zero =>
            intro j  H locs ls y22 y23 hmlp24 b26 hvlp24_0 hvlp24_1 hvlp24_2 hP hD hS hl
            exact (by have h1 := b26.2; have h2 := hmlp24; omega : False).elim
          | succ n25 ihlp24 =>
            intro j  H locs ls y22 y23 hmlp24 b26 hvlp24_0 hvlp24_1 hvlp24_2 hP hD hS hl
            have hi3 := hvlp24_0
            have hi2 := hvlp24_1
            have hi4 := hvlp24_2
            refine lv_iload hx hb dX7_reckonChains_25 (lv_at hl 0 rfl) ?_
            refine lv_aload_n hx hb dX7_reckonChains_27 rfl (lv_at hl 4 rfl) ?_
            refine va_get (D := D) (ci := 7) (v := .int (f 32)) (C := RX7) (T := TX7) (N := 20) hx hb hg inC7 hown hK hP 1 rfl rfl 0 (by decide) (hg _ wt1_79) (fun _ h9 => h9) rfl dX7_reckonChains_28 ?_
            refine k_top (z := t1) et1.symm ?_
            refine lv_icmp_ge (tgt := 97) hx hb dX7_reckonChains_31 (by decide) (fun c27 => ?_) (fun c27 => ?_)
            · have h28 := (kc_le c27)
              have hjm : j = mq := by have w1 := hi3; have w4 := hNb.2; have w5 := hi4; have w6 := hNb.1; have w2 := kc_le c27; have w3 := kvit1; omega
              rw [hjm] at hi2
              have hcb := chM_b (k := k) (R := chR k (kPn k) mq) (p := kPn k - 1 - mq) (B := 990) (by decide) (fun q => by have w1 := chR_b hkk hNb.1 mq (by omega) q; omega) mq
              have b29 : kb 0 y23 990 := ⟨by omega, by omega⟩
              refine lv_aload_n hx hb dX7_reckonChains_97 rfl (lv_at hl 4 rfl) ?_
              refine va_get (D := D) (ci := 7) (v := .ref (r 16)) (C := RX7) (T := TX7) (N := 20) hx hb hg inC7 hown hK hP 1 rfl rfl 19 (by decide) (hg _ wt1_154) (fun _ h9 => h9) rfl dX7_reckonChains_98 ?_
              refine va_get (D := D) (ci := 8) (v := .ref (r 21)) (C := RX8) (T := TX8) (N := 5) hx hb hg inC8 hown hK hP 16 rfl rfl 4 (by decide) (hg _ wt1_65) (fun _ h9 => h9) rfl dX7_reckonChains_101 ?_
              refine lv_iload_n hx hb dX7_reckonChains_104 rfl (lv_at hl 2 rfl) ?_
              refine lv_aload_n hx hb dX7_reckonChains_105 rfl (lv_at hl 4 rfl) ?_
              refine va_get (D := D) (ci := 7) (v := .ref (r 6)) (C := RX7) (T := TX7) (N := 20) hx hb hg inC7 hown hK hP 1 rfl rfl 5 (by decide) (hg _ wt1_97) (fun _ h9 => h9) rfl dX7_reckonChains_106 ?_
              refine lv_iload_n hx hb dX7_reckonChains_109 rfl (lv_at hl 2 rfl) ?_
              refine va_iald hx hb hK hP 6 0 rfl rfl (kb_in b19 (by decide) (by decide)) dX7_reckonChains_110 ?_
              refine lv_topi (fun t30 et30 => ?_)
              have kvt30 : t30 = k (0 + y8.toNatClampNeg) := et30.trans ((congrFun (hE.2.1 6 rfl) (y8.toNatClampNeg)).trans (sv_left hVw (kb_clt b19 (by decide) (by decide))))
              have b31 : kb 0 t30 99 := kb_eq et30 (et30 ▸ kb_eq kvt30 (kK_s hkk 0 10 _ _ (by decide) (by decide) (kb_clt b19 (by decide) (by decide))))
              refine lv_iload_n hx hb dX7_reckonChains_111 rfl (lv_at hl 1 rfl) ?_
              refine lv_iadd hx hb dX7_reckonChains_112 ?_
              refine lv_topi (fun t32 et32 => ?_)
              have b33 : kb 0 t32 1089 := kb_eq et32 (kb_add b31 b29 (by decide) (by decide))
              have qt32 : t32.toInt = t30.toInt + y23.toInt := by rw [et32]; exact kt_add b31 b29 (by decide) (by decide)
              refine va_iast hx hb hK hP hD hS 21 0 rfl rfl (kb_in b19 (by decide) (by decide)) dX7_reckonChains_113 (fun H locs hP hD hS => ?_)
              have hP : va_P D vwCl (xX K r f (va_up B10 21 (upd (B10 21) y8.toNatClampNeg t32)) g tx) H := hP
              have hD : va_D A (xX K r f (va_up B10 21 (upd (B10 21) y8.toNatClampNeg t32)) g tx) := hD
              refine k_gen (P := fun z => va_P D vwCl (xX K r f z g tx) H ∧ va_D A (xX K r f z g tx) ∧ (xI f z) ∧ (gOK K g.2 tt) ∧ (xEk ([], [21], []) f a g f z g)) (va_up B10 21 (upd (B10 21) y8.toNatClampNeg t32)) ⟨hP, hD, (xI_a hI (by decide)), hG, (xEk_a hE rfl)⟩ (fun a_34 ea_34 hq => ?_)
              obtain ⟨hP, hD, hI, hG, hE⟩ := hq
              refine lv_iload_n hx hb dX7_reckonChains_114 rfl (lv_at hl 3 rfl) ?_
              refine lv_aload_n hx hb dX7_reckonChains_115 rfl (lv_at hl 4 rfl) ?_
              refine va_get (D := D) (ci := 7) (v := .ref (r 16)) (C := RX7) (T := TX7) (N := 20) hx hb hg inC7 hown hK hP 1 rfl rfl 19 (by decide) (hg _ wt1_154) (fun _ h9 => h9) rfl dX7_reckonChains_116 ?_
              refine va_get (D := D) (ci := 8) (v := .ref (r 21)) (C := RX8) (T := TX8) (N := 5) hx hb hg inC8 hown hK hP 16 rfl rfl 4 (by decide) (hg _ wt1_65) (fun _ h9 => h9) rfl dX7_reckonChains_119 ?_
              refine lv_iload_n hx hb dX7_reckonChains_122 rfl (lv_at hl 2 rfl) ?_
              refine va_iald hx hb hK hP 21 0 rfl rfl (kb_in b19 (by decide) (by decide)) dX7_reckonChains_123 ?_
              refine k_top (z := t32) (show a_34 21 y8.toNatClampNeg = t32 from by rw [← ea_34]; exact (pk_us (f := B10 21) (k := y8.toNatClampNeg) (x := t32))) ?_
              refine va_mmax hx hb (hml.trans hl.1.symm) hown (hg _ wt3_54) (hg _ wt2_38) (hg _ wt1_9) (hg _ wt2_39) (by decide) (Nat.le_of_ble_eq_true rfl) (by decide) (by decide) dX7_reckonChains_124 ?_
              refine lv_topi (fun t35 et35 => ?_)
              have b36 : kb 0 t35 2000 := kb_eq et35 (kb_mx b14 b33 (by decide) (by decide) (by decide) (by decide))
              refine lv_istore_n (lv' := [(1, .int t35), (4, .int y22), (3, .int y23), (2, .int y8), (0, .ref (r 1))]) hx hb dX7_reckonChains_127 rfl hl (by decide) rfl (fun ls hl => ?_)
              obtain ⟨t37, et37⟩ : ∃ z : Int32, z = y8 + Int32.ofInt (-1) := ⟨_, rfl⟩
              have qt37 : t37.toInt = y8.toInt - 1 := by rw [et37]; exact km_dec b19 (by decide)
              have b38 : kb (-1) t37 8 := kb_inc (k := (-1)) qt37 b19
              refine lv_iinc (v := t37) (lv' := [(2, .int t37), (1, .int t35), (4, .int y22), (3, .int y23), (0, .ref (r 1))]) hx hb dX7_reckonChains_128 hl (k := 3) rfl et37.symm (by decide) rfl (fun ls hl => ?_)
              refine lv_goto (tgt := 14) hx hb dX7_reckonChains_131 (by decide) ?_
              exact ihlp11 (mq + 1) a_34 _ _ _ t37 t35 (km_dn hmlp11 qt37) hI hG hE (kb_w b38 (by decide) (by decide)) b36 (by have w1 := hvlp11_0; have w2 := qt37; omega) (hmn) (chW hch (show a_34 21 = upd (B10 21) y8.toNatClampNeg t32 from by rw [← ea_34]; rfl) hmn (by have w1 := hp1; unfold Int32.toNatClampNeg; omega) (by rw [chR_s, ← hi2]; have w1 := qt32; have w2 := congrArg Int32.toInt (show t30 = k (0 + (kPn k - 1 - mq)) from kvt30.trans (by rw [cl_nat hp1])); omega)) (by have w9 := mx_y ((congrArg Int32.toInt et35).trans (mx_v y9 t32)); rw [hlo, (show t32.toInt = chR k (kPn k) (mq + 1) (kPn k - 1 - mq) from by rw [chR_s, ← hi2]; have w1 := qt32; have w2 := congrArg Int32.toInt (show t30 = k (0 + (kPn k - 1 - mq)) from kvt30.trans (by rw [cl_nat hp1])); omega), ← chR_f (m := mq + 1) (by omega) (by omega) (by omega)] at w9; exact w9) hP hD hS (lv_sub hl [0, 1, 4] rfl)
            · have h39 := (kc_nle c27)
              have b40 : kb 1 y22 9 := kr_lt1 h39 b26 b3 (by decide)
              have b41 : kb 2 t1 10 := kr_lt2 h39 b26 b3 (by decide)
              refine lv_iload hx hb dX7_reckonChains_34 (lv_at hl 0 rfl) ?_
              refine lv_bipush (v := 10) hx hb dX7_reckonChains_36 (by decide) ?_
              refine lv_icmp_ge (tgt := 97) hx hb dX7_reckonChains_38 (by decide) (fun c42 => ?_) (fun c42 => ?_)
              · have h43 := (kc_le c42)
                exact kb_no (kr_le1 h43 kc_10 b40) (by decide)
              · have h44 := (kc_nle c42)
                have hjm : j < mq := by have w1 := hi3; have w2 := kc_nle c27; have w3 := kvit1; have w4 := hNb.2; omega
                have hq : y22.toNatClampNeg = kPn k - 1 - mq + 1 + j := by have w1 := hi3; have w2 := hmn; unfold Int32.toNatClampNeg; omega
                have b45 : kb 1 y22 9 := ⟨(b40).1, by have w1 := hi3; have w2 := hNb.1; omega⟩
                refine lv_aload_n hx hb dX7_reckonChains_41 rfl (lv_at hl 4 rfl) ?_
                refine va_get (D := D) (ci := 7) (v := .ref (r 3)) (C := RX7) (T := TX7) (N := 20) hx hb hg inC7 hown hK hP 1 rfl rfl 2 (by decide) (hg _ wt1_89) (fun _ h9 => h9) rfl dX7_reckonChains_42 ?_
                refine lv_iload hx hb dX7_reckonChains_45 (lv_at hl 0 rfl) ?_
                refine va_iald hx hb hK hP 3 0 rfl rfl (kb_in b45 (by decide) (by decide)) dX7_reckonChains_47 ?_
                refine lv_topi (fun t46 et46 => ?_)
                have kvt46 : t46 = k (33 + y22.toNatClampNeg) := et46.trans ((congrFun (hE.2.1 3 rfl) (y22.toNatClampNeg)).trans (sv_needs hVw (kb_clt b45 (by decide) (by decide))))
                have b47 : kb 0 t46 1023 := kb_eq et46 (et46 ▸ kb_eq kvt46 (kK_s hkk 33 10 _ _ (by decide) (by decide) (kb_clt b45 (by decide) (by decide))))
                refine lv_iload_n hx hb dX7_reckonChains_48 rfl (lv_at hl 2 rfl) ?_
                refine lv_ishr hx hb dX7_reckonChains_49 ?_
                refine lv_topi (fun t48 et48 => ?_)
                refine lv_iconst (v := 1) hx hb dX7_reckonChains_50 (by decide) ?_
                refine lv_iand hx hb dX7_reckonChains_51 ?_
                refine lv_topi (fun t49 et49 => ?_)
                have b50 : kb 0 t49 1 := kb_eq et49 (kb_and 1 (by decide) (by decide))
                refine lv_iconst (v := 1) hx hb dX7_reckonChains_52 (by decide) ?_
                refine lv_icmp_ne (tgt := 91) hx hb dX7_reckonChains_53 (by decide) (fun c51 => ?_) (fun c51 => ?_)
                · have b52 : kb 0 t49 0 := kr_neh c51 b50 kc_1 (by decide)
                  obtain ⟨t53, et53⟩ : ∃ z : Int32, z = y22 + Int32.ofInt 1 := ⟨_, rfl⟩
                  have qt53 : t53.toInt = y22.toInt + 1 := by rw [et53]; exact km_inc b45 (by decide) (by decide)
                  have b54 : kb 2 t53 10 := kb_inc (k := 1) qt53 b45
                  refine lv_iinc (v := t53) (lv' := [(4, .int t53), (3, .int y23), (2, .int y8), (1, .int y9), (0, .ref (r 1))]) hx hb dX7_reckonChains_91 hl (k := 0) rfl et53.symm (by decide) rfl (fun ls hl => ?_)
                  refine lv_goto (tgt := 25) hx hb dX7_reckonChains_94 (by decide) ?_
                  exact ihlp24 (j + 1) _ _ _ t53 y23 (km_up hmlp24 qt53) (kb_w b54 (by decide) (by decide)) (by have w1 := hvlp24_0; have w2 := qt53; omega) ((chM_n hi2.symm (fun q9 => c51 ((show (k (33 + (kPn k - 1 - mq + 1 + j)) >>> (nI (kPn k - 1 - mq) &&& 31)) &&& 1 = t49 from by rw [et49, et48, ← (show t46 = k (33 + (kPn k - 1 - mq + 1 + j)) from kvt46.trans (by rw [hq])), ← (show y8 = nI (kPn k - 1 - mq) from nI_q hp1)]).symm.trans q9.1))).symm) (hjm) hP hD hS (lv_sub hl [0, 1, 2, 3, 4] rfl)
                · have b55 : kb 1 t49 1 := kb_eq c51 kc_1
                  refine lv_aload_n hx hb dX7_reckonChains_56 rfl (lv_at hl 4 rfl) ?_
                  refine va_get (D := D) (ci := 7) (v := .ref (r 6)) (C := RX7) (T := TX7) (N := 20) hx hb hg inC7 hown hK hP 1 rfl rfl 5 (by decide) (hg _ wt1_97) (fun _ h9 => h9) rfl dX7_reckonChains_57 ?_
                  refine lv_iload hx hb dX7_reckonChains_60 (lv_at hl 0 rfl) ?_
                  refine va_iald hx hb hK hP 6 0 rfl rfl (kb_in b45 (by decide) (by decide)) dX7_reckonChains_62 ?_
                  refine lv_topi (fun t56 et56 => ?_)
                  have kvt56 : t56 = k (0 + y22.toNatClampNeg) := et56.trans ((congrFun (hE.2.1 6 rfl) (y22.toNatClampNeg)).trans (sv_left hVw (kb_clt b45 (by decide) (by decide))))
                  have b57 : kb 0 t56 99 := kb_eq et56 (et56 ▸ kb_eq kvt56 (kK_s hkk 0 10 _ _ (by decide) (by decide) (kb_clt b45 (by decide) (by decide))))
                  refine lv_if_eq (tgt := 91) hx hb dX7_reckonChains_63 (by decide) (fun c58 => ?_) (fun c58 => ?_)
                  · have b59 : kb 0 t56 0 := kb_eq c58 kc_0
                    obtain ⟨t60, et60⟩ : ∃ z : Int32, z = y22 + Int32.ofInt 1 := ⟨_, rfl⟩
                    have qt60 : t60.toInt = y22.toInt + 1 := by rw [et60]; exact km_inc b45 (by decide) (by decide)
                    have b61 : kb 2 t60 10 := kb_inc (k := 1) qt60 b45
                    refine lv_iinc (v := t60) (lv' := [(4, .int t60), (3, .int y23), (2, .int y8), (1, .int y9), (0, .ref (r 1))]) hx hb dX7_reckonChains_91 hl (k := 0) rfl et60.symm (by decide) rfl (fun ls hl => ?_)
                    refine lv_goto (tgt := 25) hx hb dX7_reckonChains_94 (by decide) ?_
                    exact ihlp24 (j + 1) _ _ _ t60 y23 (km_up hmlp24 qt60) (kb_w b61 (by decide) (by decide)) (by have w1 := hvlp24_0; have w2 := qt60; omega) ((chM_n hi2.symm (fun q9 => q9.2 ((show t56 = k (0 + (kPn k - 1 - mq + 1 + j)) from kvt56.trans (by rw [hq])).symm.trans c58))).symm) (hjm) hP hD hS (lv_sub hl [0, 1, 2, 3, 4] rfl)
                  · have b62 : kb 1 t56 99 := kr_nel c58 b57 kc_0 (by decide)
                    refine lv_aload_n hx hb dX7_reckonChains_66 rfl (lv_at hl 4 rfl) ?_
                    refine va_get (D := D) (ci := 7) (v := .ref (r 16)) (C := RX7) (T := TX7) (N := 20) hx hb hg inC7 hown hK hP 1 rfl rfl 19 (by decide) (hg _ wt1_154) (fun _ h9 => h9) rfl dX7_reckonChains_67 ?_
                    refine va_get (D := D) (ci := 8) (v := .ref (r 21)) (C := RX8) (T := TX8) (N := 5) hx hb hg inC8 hown hK hP 16 rfl rfl 4 (by decide) (hg _ wt1_65) (fun _ h9 => h9) rfl dX7_reckonChains_70 ?_
                    refine lv_iload hx hb dX7_reckonChains_73 (lv_at hl 0 rfl) ?_
                    refine va_iald hx hb hK hP 21 0 rfl rfl (kb_in b45 (by decide) (by decide)) dX7_reckonChains_75 ?_
                    refine lv_topi (fun t63 et63 => ?_)
                    refine lv_iload_n hx hb dX7_reckonChains_76 rfl (lv_at hl 1 rfl) ?_
                    refine lv_icmp_le (tgt := 91) hx hb dX7_reckonChains_77 (by decide) (fun c64 => ?_) (fun c64 => ?_)
                    · have h65 := (kc_le c64)
                      obtain ⟨t66, et66⟩ : ∃ z : Int32, z = y22 + Int32.ofInt 1 := ⟨_, rfl⟩
                      have qt66 : t66.toInt = y22.toInt + 1 := by rw [et66]; exact km_inc b45 (by decide) (by decide)
                      have b67 : kb 2 t66 10 := kb_inc (k := 1) qt66 b45
                      refine lv_iinc (v := t66) (lv' := [(4, .int t66), (3, .int y23), (2, .int y8), (1, .int y9), (0, .ref (r 1))]) hx hb dX7_reckonChains_91 hl (k := 0) rfl et66.symm (by decide) rfl (fun ls hl => ?_)
                      refine lv_goto (tgt := 25) hx hb dX7_reckonChains_94 (by decide) ?_
                      exact ihlp24 (j + 1) _ _ _ t66 y23 (km_up hmlp24 qt66) (kb_w b67 (by decide) (by decide)) (by have w1 := hvlp24_0; have w2 := qt66; omega) ((chM_y hi2.symm ((show (k (33 + (kPn k - 1 - mq + 1 + j)) >>> (nI (kPn k - 1 - mq) &&& 31)) &&& 1 = t49 from by rw [et49, et48, ← (show t46 = k (33 + (kPn k - 1 - mq + 1 + j)) from kvt46.trans (by rw [hq])), ← (show y8 = nI (kPn k - 1 - mq) from nI_q hp1)]).trans c51) (fun w9 => c58 ((show t56 = k (0 + (kPn k - 1 - mq + 1 + j)) from kvt56.trans (by rw [hq])).trans w9)) (show t63.toInt = chR k (kPn k) mq (kPn k - 1 - mq + 1 + j) from by rw [et63, hq]; exact hch _ (by omega) (by omega)) (gt_c rfl rfl (Or.inr ⟨fun w9 => absurd (kc_lt w9) (Int.not_lt.mpr (kc_le c64)), rfl⟩))).symm) (hjm) hP hD hS (lv_sub hl [0, 1, 2, 3, 4] rfl)
                    · have h68 := (kc_nle c64)
                      have b69 : kb (-2147483648) y23 2147483646 := kr_lt1 h68 (kb_any y23) (kb_any t63) (by decide)
                      have b70 : kb (-2147483647) t63 2147483647 := kr_lt2 h68 (kb_any y23) (kb_any t63) (by decide)
                      refine lv_aload_n hx hb dX7_reckonChains_80 rfl (lv_at hl 4 rfl) ?_
                      refine va_get (D := D) (ci := 7) (v := .ref (r 16)) (C := RX7) (T := TX7) (N := 20) hx hb hg inC7 hown hK hP 1 rfl rfl 19 (by decide) (hg _ wt1_154) (fun _ h9 => h9) rfl dX7_reckonChains_81 ?_
                      refine va_get (D := D) (ci := 8) (v := .ref (r 21)) (C := RX8) (T := TX8) (N := 5) hx hb hg inC8 hown hK hP 16 rfl rfl 4 (by decide) (hg _ wt1_65) (fun _ h9 => h9) rfl dX7_reckonChains_84 ?_
                      refine lv_iload hx hb dX7_reckonChains_87 (lv_at hl 0 rfl) ?_
                      refine va_iald hx hb hK hP 21 0 rfl rfl (kb_in b45 (by decide) (by decide)) dX7_reckonChains_89 ?_
                      refine k_top (z := t63) et63.symm ?_
                      refine lv_istore_n (lv' := [(3, .int t63), (4, .int y22), (2, .int y8), (1, .int y9), (0, .ref (r 1))]) hx hb dX7_reckonChains_90 rfl hl (by decide) rfl (fun ls hl => ?_)
                      obtain ⟨t71, et71⟩ : ∃ z : Int32, z = y22 + Int32.ofInt 1 := ⟨_, rfl⟩
                      have qt71 : t71.toInt = y22.toInt + 1 := by rw [et71]; exact km_inc b45 (by decide) (by decide)
                      have b72 : kb 2 t71 10 := kb_inc (k := 1) qt71 b45
                      refine lv_iinc (v := t71) (lv' := [(4, .int t71), (3, .int t63), (2, .int y8), (1, .int y9), (0, .ref (r 1))]) hx hb dX7_reckonChains_91 hl (k := 1) rfl et71.symm (by decide) rfl (fun ls hl => ?_)
                      refine lv_goto (tgt := 25) hx hb dX7_reckonChains_94 (by decide) ?_
                      exact ihlp24 (j + 1) _ _ _ t71 t63 (km_up hmlp24 qt71) (kb_w b72 (by decide) (by decide)) (by have w1 := hvlp24_0; have w2 := qt71; omega) ((chM_y hi2.symm ((show (k (33 + (kPn k - 1 - mq + 1 + j)) >>> (nI (kPn k - 1 - mq) &&& 31)) &&& 1 = t49 from by rw [et49, et48, ← (show t46 = k (33 + (kPn k - 1 - mq + 1 + j)) from kvt46.trans (by rw [hq])), ← (show y8 = nI (kPn k - 1 - mq) from nI_q hp1)]).trans c51) (fun w9 => c58 ((show t56 = k (0 + (kPn k - 1 - mq + 1 + j)) from kvt56.trans (by rw [hq])).trans w9)) (show t63.toInt = chR k (kPn k) mq (kPn k - 1 - mq + 1 + j) from by rw [et63, hq]; exact hch _ (by omega) (by omega)) (gt_c rfl rfl (Or.inl ⟨Int32.lt_iff_toInt_lt.mpr (kc_nle c64), rfl⟩))).symm) (hjm) hP hD hS (lv_sub hl [0, 1, 2, 3, 4] rfl)
        exact lp24 (10) 0 _ _ _ t20 0 (by have h1 := (b21); unfold kb at h1; omega) b21 (by have w1 := qt20; have w2 := hp1; have w3 := hmn; omega) (by show (0 : Int32).toInt = (0 : Int); decide +kernel) (Nat.zero_le _) hP hD hS (lv_sub hl [0, 1, 2, 3, 4] rfl)
  exact lp11 (11) 0 a _ _ _ t6 0 (by have h1 := (b7); unfold kb at h1; omega) hI hG hE b7 (kb_w kc_0 (by decide) (by decide)) (by have w1 := qt6; have w2 := (congrArg Int32.toInt et4).trans (mn_v _ _); have w3 := kvit1; have w4 := (kPn_b hkk).2; have w5 := (kPn_b hkk).1; have w6 : (10 : Int32).toInt = 10 := (by decide +kernel); omega) (Nat.zero_le _) (fun i h1 h2 => by omega) (by show (0 : Int32).toInt = (0 : Int); decide +kernel) hP hD hS (lv_sub hl [0, 1, 2] rfl)
set_option maxHeartbeats 4000000 in
set_option maxRecDepth 100000 in
theorem z_longest  (l : Launch) {D : va_G} {K : Nat → ClassId} (r : Nat → Nat) (f : Nat → Int32) (a : Nat → Nat → Int32) (g : xG) (tx tt : va_W) (hT : ∀ c ∈ tt, c ∈ tx) (hI : xI f a) (hG : gOK K g.2 tt)   (k : Nat → Int32) (hVw : sV 32 2 f a k) (hkk : kK k)   : kIG l yX11_longest (Cond.code yX11_longest cX11_longest 1 (some .int) :: kG) (rmD 3 0 0) D K [.ref (r 0)] (xX K r f a g tx) (fun v (u : xS) => kb (-2147483648) v 2147483647 ∧ xI u.1 u.2.1 ∧ gOK K u.2.2.2 tt ∧ xEk ([], [21], []) f a g u.1 u.2.1 u.2.2 ∧ v.toInt = chX (chR k (kPn k) (kPn k)) (kPn k)) (fun u => xX K r u.1 u.2.1 u.2.2 tx) 0 0 := by
  refine kIE.of (cc := cX11_longest) (maxL := 1) (ret := (some .int)) (by decide) rfl (Nat.le_of_ble_eq_true rfl) ?_
  intro p e s m below meth c A hx hb hr hml hown hts hlocks hnm hK hP hD hS hA hV ls hl
  have hE : xEk ([], [21], []) f a g f a g := xEk_rf
  have hg : ∀ w ∈ kG, w.before _ s = true := fun w h => hts w (List.mem_cons_of_mem _ h)
  have hown : s.vm.findClass RX11 = some m.cls := hown
  have hl : lv_has ls 1 [(0, .ref (r 0))] := hl
  refine lv_aload_n hx hb dX11_longest_0 rfl (lv_at hl 0 rfl) ?_
  refine va_get (D := D) (ci := 11) (v := .ref (r 1)) (C := RX11) (T := TX11) (N := 17) hx hb hg inC11 hown hK hP 0 rfl rfl 0 (by decide) (hg _ wt2_186) (fun _ h9 => h9) rfl dX11_longest_1 ?_
  refine kIG.callW (As := []) (rest := []) ⟨hx, hb, hml, hown, hg⟩ (z_reckonChains l r f a g tx tt hT hI hG   k hVw hkk ) (cwV 0 hg (kgV wt3_47 wt3_48 wt3_49 wt1_2 wt3_50) rfl rfl rfl (by decide +kernel) ⟨by decide, by decide⟩) hV hK hP hD hS hA (1) 7 rfl rfl rfl hl.1 rfl (Nat.le_of_ble_eq_true rfl) dX11_longest_4 ⟨Nat.le_refl _, Nat.le_refl _⟩ (fun v2 u3 H locs hw1 hP hD hS => ?_)
  obtain ⟨f4, a5, g6⟩ := u3
  have hP : va_P D vwCl (xX K r f4 a5 g6 tx) H := hP
  have hD : va_D A (xX K r f4 a5 g6 tx) := hD
  have hI : xI f4 a5 := hw1.2.1
  have hG : gOK K g6.2 tt := hw1.2.2.1
  have eE7 : xEk ([], [21], []) f a g f4 a5 g6 := hw1.2.2.2.1
  have hE : xEk ([], [21], []) f a g f4 a5 g6 := xEk_tr hE eE7
  have hchn := hw1.2.2.2.2.2
  exact kI_ret (v := v2) hx hb hr hlocks rfl hK hS dX11_longest_7 (f4, a5, g6) hP hD ⟨(kb_any v2), hI, hG, hE, hw1.2.2.2.2.1⟩
