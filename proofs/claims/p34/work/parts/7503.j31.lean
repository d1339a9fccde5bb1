theorem kc_1103 : kb 1103 1103 1103 := ⟨by decide +kernel, by decide +kernel⟩
theorem kc_12345 : kb 12345 12345 12345 := ⟨by decide +kernel, by decide +kernel⟩
set_option maxHeartbeats 4000000 in
set_option maxRecDepth 100000 in
theorem z_drawNights  (l : Launch) {D : va_G} {K : Nat → ClassId} (r : Nat → Nat) (f : Nat → Int32) (a : Nat → Nat → Int32) (g : xG) (tx tt : va_W) (hT : ∀ c ∈ tt, c ∈ tx) (hI : xI f a) (hG : gOK K g.2 tt) (x : Int32) (n_ : Int32) (bx : kb 0 x 1000000) (bn_ : kb 1 n_ 20) (k : Nat → Int32) (hVw : sV 32 2 f a k) (hkk : kK k) (DD : Nat → tE) (hL : lC K tt (g.2 15) k DD)  (hp0 : f 1858 = -1) (hp1 : (k 22).toInt ≤ 999) : kIG l yX1_drawNights (Cond.code yX1_drawNights cX1_drawNights 8 (some .int) :: kG) (rmD 5 0 0) D K [.ref (r 89), .int x, .int n_] (xX K r f a g tx) (fun v (u : xS) => kb (-2147483648) v 2147483647 ∧ xI u.1 u.2.1 ∧ gOK K u.2.2.2 tt ∧ xEk ([1888, 1894, 1900, 1905, 1906, 2849, 2850], [60, 61, 62, 63, 64, 65, 66, 67, 68, 69, 70, 71, 72, 77, 78, 79, 90, 91], [73]) f a g u.1 u.2.1 u.2.2 ∧ v.toInt = ((nsF DD k x.toInt n_.toInt.toNat).1 : Int) ∧ u.1 2849 = k 102 ∧ u.1 2850 = k 103 ∧ (∀ i, i < 10 → u.2.1 90 i = (nsF DD k x.toInt n_.toInt.toNat).2.1 (0 + i)) ∧ (∀ i, i < 6 → u.2.1 91 i = (nsF DD k x.toInt n_.toInt.toNat).2.1 (10 + i))) (fun u => xX K r u.1 u.2.1 u.2.2 tx) 0 0 := by
  refine kIE.of (cc := cX1_drawNights) (maxL := 8) (ret := (some .int)) (by decide) rfl (Nat.le_of_ble_eq_true rfl) ?_
  intro p e s m below meth c A hx hb hr hml hown hts hlocks hnm hK hP hD hS hA hV ls hl
  have hE : xEk ([1888, 1894, 1900, 1905, 1906, 2849, 2850], [60, 61, 62, 63, 64, 65, 66, 67, 68, 69, 70, 71, 72, 77, 78, 79, 90, 91], [73]) f a g f a g := xEk_rf
  have hg : ∀ w ∈ kG, w.before _ s = true := fun w h => hts w (List.mem_cons_of_mem _ h)
  have hown : s.vm.findClass RX1 = some m.cls := hown
  have hl : lv_has ls 8 [(0, .ref (r 89)), (1, .int x), (2, .int n_)] := hl
  have hxb : 0 ≤ x.toInt ∧ x.toInt ≤ 1000002 := ⟨by have w1 := (bx).1; omega, by have w1 := (bx).2; omega⟩
  have hK99 := kK_r hkk 99 1 99 (by decide) (by decide)
  refine lv_aload_n hx hb dX1_drawNights_0 rfl (lv_at hl 0 rfl) ?_
  refine va_get (D := D) (ci := 1) (v := .ref (r 58)) (C := RX1) (T := TX1) (N := 5) hx hb hg inC1 hown hK hP 89 rfl rfl 0 (by decide) (hg _ wt2_169) (fun _ h9 => h9) rfl dX1_drawNights_1 ?_
  refine va_get (D := D) (ci := 3) (v := .ref (r 59)) (C := RX3) (T := TX3) (N := 4) hx hb hg inC3 hown hK hP 58 rfl rfl 0 (by decide) (hg _ wt2_96) (fun _ h9 => h9) rfl dX1_drawNights_4 ?_
  refine lv_astore_n (lv' := [(3, .ref (r 59)), (0, .ref (r 89)), (1, .int x), (2, .int n_)]) hx hb dX1_drawNights_7 rfl hl (by decide) rfl (fun ls hl => ?_)
  refine lv_iload_n hx hb dX1_drawNights_8 rfl (lv_at hl 2 rfl) ?_
  refine lv_istore (lv' := [(4, .int x), (3, .ref (r 59)), (0, .ref (r 89)), (1, .int x), (2, .int n_)]) hx hb dX1_drawNights_9 hl (by decide) rfl (fun ls hl => ?_)
  refine lv_iconst (v := 0) hx hb dX1_drawNights_11 (by decide) ?_
  refine lv_istore (lv' := [(5, .int 0), (4, .int x), (3, .ref (r 59)), (0, .ref (r 89)), (1, .int x), (2, .int n_)]) hx hb dX1_drawNights_12 hl (by decide) rfl (fun ls hl => ?_)
  refine lv_iconst (v := 0) hx hb dX1_drawNights_14 (by decide) ?_
  refine lv_istore (lv' := [(6, .int 0), (5, .int 0), (4, .int x), (3, .ref (r 59)), (0, .ref (r 89)), (1, .int x), (2, .int n_)]) hx hb dX1_drawNights_15 hl (by decide) rfl (fun ls hl => ?_)
  have lp7 : ∀ (n8 : Nat) (nn : Nat) (F4 : Nat → Int32) (B5 : Nat → Nat → Int32) (G6 : xG) (H : Heap) (locs : List Loc) (ls : Array Slot) (y1 : Int32) (y2 : Int32) (y3 : Int32), (20 < y1.toInt + (n8 : Int)) → (xI F4 B5) → (gOK K G6.2 tt) → (xEk ([1888, 1894, 1900, 1905, 1906, 2849, 2850], [60, 61, 62, 63, 64, 65, 66, 67, 68, 69, 70, 71, 72, 77, 78, 79, 90, 91], [73]) f a g F4 B5 G6) → (kb 0 y1 20) → (kb 0 y2 20) → (kb 0 y3 1000002) → (y1.toInt = (nn : Int)) → (y3.toInt = (nsF DD k x.toInt nn).2.2) → (y2.toInt = ((nsF DD k x.toInt nn).1 : Int)) → (0 < nn → sV 1888 60 F4 B5 (nsF DD k x.toInt nn).2.1) → (nn ≤ n_.toInt.toNat) → va_P D vwCl (xX K r F4 B5 G6 tx) H → va_D A (xX K r F4 B5 G6 tx) → va_S A s.heap H locs → lv_has ls 8 [(6, .int y1), (5, .int y2), (4, .int y3), (3, .ref (r 59)), (0, .ref (r 89)), (1, .int x), (2, .int n_)] → W p l e (rmD 5 0 0) s m ([.ref (r 89), .int x, .int n_] : List Value).toArray below meth c H locs 0 0 (kQi D (tysK K) (fun v (u : xS) => kb (-2147483648) v 2147483647 ∧ xI u.1 u.2.1 ∧ gOK K u.2.2.2 tt ∧ xEk ([1888, 1894, 1900, 1905, 1906, 2849, 2850], [60, 61, 62, 63, 64, 65, 66, 67, 68, 69, 70, 71, 72, 77, 78, 79, 90, 91], [73]) f a g u.1 u.2.1 u.2.2 ∧ v.toInt = ((nsF DD k x.toInt n_.toInt.toNat).1 : Int) ∧ u.1 2849 = k 102 ∧ u.1 2850 = k 103 ∧ (∀ i, i < 10 → u.2.1 90 i = (nsF DD k x.toInt n_.toInt.toNat).2.1 (0 + i)) ∧ (∀ i, i < 6 → u.2.1 91 i = (nsF DD k x.toInt n_.toInt.toNat).2.1 (10 + i))) (fun u => xX K r u.1 u.2.1 u.2.2 tx) A below ([.ref (r 89), .int x, .int n_] : List Value).toArray s 0 0) (F0 m 17 ls []) := by
    intro n8
    induction n8 with
    | zero =>
      intro nn F4 B5 G6  H locs ls y1 y2 y3 hmlp7 hI hG hE b9 b10 b11 hvlp7_0 hvlp7_1 hvlp7_2 hvlp7_3 hvlp7_4 hP hD hS hl
      exact (by have h1 := b9.2; have h2 := hmlp7; omega : False).elim
    | succ n8 ihlp7 =>
      intro nn F4 B5 G6  H locs ls y1 y2 y3 hmlp7 hI hG hE b9 b10 b11 hvlp7_0 hvlp7_1 hvlp7_2 hvlp7_3 hvlp7_4 hP hD hS hl
      have hnn : y1 = nI nn := nI_q hvlp7_0
      have hal := hvlp7_2
      refine lv_iload hx hb dX1_drawNights_17 (lv_at hl 0 rfl) ?_
      refine lv_iload_n hx hb dX1_drawNights_19 rfl (lv_at hl 6 rfl) ?_
      refine lv_icmp_ge (tgt := 125) hx hb dX1_drawNights_20 (by decide) (fun c12 => ?_) (fun c12 => ?_)
      · have h13 := (kc_le c12)
        have b14 : kb 1 y1 20 := kr_le2 h13 bn_ b9
        have hnn2 : nn = n_.toInt.toNat := by have w1 := hvlp7_0; have w2 := kc_le c12; have w3 := (bn_).1; have w4 := hvlp7_4; omega
        have hn0 : 0 < nn := by have w3 := (bn_).1; omega
        have hsF := hvlp7_3 hn0
        have hIF := ns_I (DD := DD) hkk (by have w1 := hp1; omega) hxb hn0
        refine lv_aload_n hx hb dX1_drawNights_125 rfl (lv_at hl 4 rfl) ?_
        refine lv_aload_n hx hb dX1_drawNights_126 rfl (lv_at hl 3 rfl) ?_
        refine va_get (D := D) (ci := 7) (v := .int (F4 1888)) (C := RX7) (T := TX7) (N := 20) hx hb hg inC7 hown hK hP 59 rfl rfl 0 (by decide) (hg _ wt1_80) (fun _ h9 => h9) rfl dX1_drawNights_127 ?_
        refine lv_topi (fun t15 et15 => ?_)
        have b16 : kb 0 t15 10 := kb_eq et15 (fI_at hI.1 1888 (by decide) (by decide))
        refine va_put (D := D) (ci := 1) (v := .int t15) (ty := .int) (C := RX1) (T := TX1) (N := 5) hx hb hg inC1 tyX1 tyX1_ok nmX1 hown hK hP hD hS 89 rfl rfl 1 (by decide) (hg _ wt2_170) (fun _ h9 => h9) rfl (by decide +kernel) rfl rfl (Nat.le_of_ble_eq_true rfl) dX1_drawNights_130 (fun H locs hP hD hS => ?_)
        have hP : va_P D vwCl (xX K r (upd F4 2849 t15) B5 G6 tx) H := hP
        have hD : va_D A (xX K r (upd F4 2849 t15) B5 G6 tx) := hD
        refine k_gen (P := fun z => va_P D vwCl (xX K r z B5 G6 tx) H ∧ va_D A (xX K r z B5 G6 tx) ∧ (xI z B5) ∧ (gOK K G6.2 tt) ∧ (xEk ([1888, 1894, 1900, 1905, 1906, 2849, 2850], [60, 61, 62, 63, 64, 65, 66, 67, 68, 69, 70, 71, 72, 77, 78, 79, 90, 91], [73]) f a g z B5 G6)) (upd F4 2849 t15) ⟨hP, hD, (xI_f hI (fI_st hI.1 2849 (kb_any _) (by decide) (by decide))), hG, (xEk_f hE rfl)⟩ (fun f_17 ef_17 hq => ?_)
        obtain ⟨hP, hD, hI, hG, hE⟩ := hq
        refine lv_aload_n hx hb dX1_drawNights_133 rfl (lv_at hl 4 rfl) ?_
        refine lv_aload_n hx hb dX1_drawNights_134 rfl (lv_at hl 3 rfl) ?_
        refine va_get (D := D) (ci := 7) (v := .int (f_17 1894)) (C := RX7) (T := TX7) (N := 20) hx hb hg inC7 hown hK hP 59 rfl rfl 6 (by decide) (hg _ wt1_105) (fun _ h9 => h9) rfl dX1_drawNights_135 ?_
        refine lv_topi (fun t18 et18 => ?_)
        refine va_put (D := D) (ci := 1) (v := .int t18) (ty := .int) (C := RX1) (T := TX1) (N := 5) hx hb hg inC1 tyX1 tyX1_ok nmX1 hown hK hP hD hS 89 rfl rfl 2 (by decide) (hg _ wt2_171) (fun _ h9 => h9) rfl (by decide +kernel) rfl rfl (Nat.le_of_ble_eq_true rfl) dX1_drawNights_138 (fun H locs hP hD hS => ?_)
        have hP : va_P D vwCl (xX K r (upd f_17 2850 t18) B5 G6 tx) H := hP
        have hD : va_D A (xX K r (upd f_17 2850 t18) B5 G6 tx) := hD
        refine k_gen (P := fun z => va_P D vwCl (xX K r z B5 G6 tx) H ∧ va_D A (xX K r z B5 G6 tx) ∧ (xI z B5) ∧ (gOK K G6.2 tt) ∧ (xEk ([1888, 1894, 1900, 1905, 1906, 2849, 2850], [60, 61, 62, 63, 64, 65, 66, 67, 68, 69, 70, 71, 72, 77, 78, 79, 90, 91], [73]) f a g z B5 G6)) (upd f_17 2850 t18) ⟨hP, hD, (xI_f hI (fI_st hI.1 2850 (kb_any _) (by decide) (by decide))), hG, (xEk_f hE rfl)⟩ (fun f_19 ef_19 hq => ?_)
        obtain ⟨hP, hD, hI, hG, hE⟩ := hq
        refine lv_aload_n hx hb dX1_drawNights_141 rfl (lv_at hl 3 rfl) ?_
        refine va_get (D := D) (ci := 7) (v := .ref (r 64)) (C := RX7) (T := TX7) (N := 20) hx hb hg inC7 hown hK hP 59 rfl rfl 5 (by decide) (hg _ wt1_99) (fun _ h9 => h9) rfl dX1_drawNights_142 ?_
        refine lv_iconst (v := 0) hx hb dX1_drawNights_145 (by decide) ?_
        refine lv_aload_n hx hb dX1_drawNights_146 rfl (lv_at hl 4 rfl) ?_
        refine va_get (D := D) (ci := 1) (v := .ref (r 90)) (C := RX1) (T := TX1) (N := 5) hx hb hg inC1 hown hK hP 89 rfl rfl 3 (by decide) (hg _ wt2_172) (fun _ h9 => h9) rfl dX1_drawNights_147 ?_
        refine lv_iconst (v := 0) hx hb dX1_drawNights_150 (by decide) ?_
        refine lv_bipush (v := 10) hx hb dX1_drawNights_151 (by decide) ?_
        refine va_copyi (ty := .int) hx hb (hml.trans hl.1.symm) hown (hg _ wt5_128) (hg _ wt4_70) (hg _ wt4_69) (hg _ wt1_20) hK hP hD hS 64 90 0 0 rfl rfl rfl rfl rfl (by decide) (by decide) (by decide) (by decide +kernel) (by decide +kernel) (fun i _ => rfl) (by decide) (Nat.le_of_ble_eq_true rfl) dX1_drawNights_153 (fun H locs hP hD hS => ?_)
        have hP : va_P D vwCl (xX K r f_19 (va_up B5 90 (va_cpy (B5 64) (B5 90) (0 : Int32).toNatClampNeg (0 : Int32).toNatClampNeg (10 : Int32).toNatClampNeg)) G6 tx) H := hP
        have hD : va_D A (xX K r f_19 (va_up B5 90 (va_cpy (B5 64) (B5 90) (0 : Int32).toNatClampNeg (0 : Int32).toNatClampNeg (10 : Int32).toNatClampNeg)) G6 tx) := hD
        refine k_gen (P := fun z => va_P D vwCl (xX K r f_19 z G6 tx) H ∧ va_D A (xX K r f_19 z G6 tx) ∧ (xI f_19 z) ∧ (gOK K G6.2 tt) ∧ (xEk ([1888, 1894, 1900, 1905, 1906, 2849, 2850], [60, 61, 62, 63, 64, 65, 66, 67, 68, 69, 70, 71, 72, 77, 78, 79, 90, 91], [73]) f a g f_19 z G6)) (va_up B5 90 (va_cpy (B5 64) (B5 90) (0 : Int32).toNatClampNeg (0 : Int32).toNatClampNeg (10 : Int32).toNatClampNeg)) ⟨hP, hD, (xI_a hI (by decide)), hG, (xEk_a hE rfl)⟩ (fun a_20 ea_20 hq => ?_)
        obtain ⟨hP, hD, hI, hG, hE⟩ := hq
        refine lv_aload_n hx hb dX1_drawNights_156 rfl (lv_at hl 3 rfl) ?_
        refine va_get (D := D) (ci := 7) (v := .ref (r 67)) (C := RX7) (T := TX7) (N := 20) hx hb hg inC7 hown hK hP 59 rfl rfl 9 (by decide) (hg _ wt1_117) (fun _ h9 => h9) rfl dX1_drawNights_157 ?_
        refine lv_iconst (v := 0) hx hb dX1_drawNights_160 (by decide) ?_
        refine lv_aload_n hx hb dX1_drawNights_161 rfl (lv_at hl 4 rfl) ?_
        refine va_get (D := D) (ci := 1) (v := .ref (r 91)) (C := RX1) (T := TX1) (N := 5) hx hb hg inC1 hown hK hP 89 rfl rfl 4 (by decide) (hg _ wt2_173) (fun _ h9 => h9) rfl dX1_drawNights_162 ?_
        refine lv_iconst (v := 0) hx hb dX1_drawNights_165 (by decide) ?_
        refine lv_bipush (v := 6) hx hb dX1_drawNights_166 (by decide) ?_
        refine va_copyi (ty := .int) hx hb (hml.trans hl.1.symm) hown (hg _ wt5_128) (hg _ wt4_70) (hg _ wt4_69) (hg _ wt1_20) hK hP hD hS 67 91 0 0 rfl rfl rfl rfl rfl (by decide) (by decide) (by decide) (by decide +kernel) (by decide +kernel) (fun i _ => rfl) (by decide) (Nat.le_of_ble_eq_true rfl) dX1_drawNights_168 (fun H locs hP hD hS => ?_)
        have hP : va_P D vwCl (xX K r f_19 (va_up a_20 91 (va_cpy (a_20 67) (a_20 91) (0 : Int32).toNatClampNeg (0 : Int32).toNatClampNeg (6 : Int32).toNatClampNeg)) G6 tx) H := hP
        have hD : va_D A (xX K r f_19 (va_up a_20 91 (va_cpy (a_20 67) (a_20 91) (0 : Int32).toNatClampNeg (0 : Int32).toNatClampNeg (6 : Int32).toNatClampNeg)) G6 tx) := hD
        refine k_gen (P := fun z => va_P D vwCl (xX K r f_19 z G6 tx) H ∧ va_D A (xX K r f_19 z G6 tx) ∧ (xI f_19 z) ∧ (gOK K G6.2 tt) ∧ (xEk ([1888, 1894, 1900, 1905, 1906, 2849, 2850], [60, 61, 62, 63, 64, 65, 66, 67, 68, 69, 70, 71, 72, 77, 78, 79, 90, 91], [73]) f a g f_19 z G6)) (va_up a_20 91 (va_cpy (a_20 67) (a_20 91) (0 : Int32).toNatClampNeg (0 : Int32).toNatClampNeg (6 : Int32).toNatClampNeg)) ⟨hP, hD, (xI_a hI (by decide)), hG, (xEk_a hE rfl)⟩ (fun a_21 ea_21 hq => ?_)
        obtain ⟨hP, hD, hI, hG, hE⟩ := hq
        refine lv_iload hx hb dX1_drawNights_171 (lv_at hl 1 rfl) ?_
        exact kI_ret (v := y2) hx hb hr hlocks rfl hK hS dX1_drawNights_173 (f_19, a_21, G6) hP hD ⟨(kb_w b10 (by decide) (by decide)), hI, hG, hE, (by rw [← hnn2]; exact hal), ((((show f_19 2849 = f_17 2849 from by rw [← ef_19]; rfl).trans (show f_17 2849 = t15 from by rw [← ef_17]; rfl))).trans (et15.trans ((sv_parts hsF).trans (hIF.2 102 (by decide))))), (((show f_19 2850 = t18 from by rw [← ef_19]; rfl)).trans (et18.trans (((show f_17 1894 = F4 1894 from by rw [← ef_17]; rfl)).trans ((sv_builders hsF).trans (hIF.2 103 (by decide)))))), (by rw [← hnn2]; exact fun i hi => (congrFun ((show a_21 90 = a_20 90 from by rw [← ea_21]; rfl)) i).trans ((cp_z (n := 10) (show a_20 90 = _ from by rw [← ea_20]; rfl) (by decide +kernel) (by decide +kernel) (by decide +kernel) i hi).trans ((congrFun (show B5 64 = B5 64 from rfl) i).trans (sv_left hsF hi)))), (by rw [← hnn2]; exact fun i hi => (congrFun ((rfl : a_21 91 = a_21 91)) i).trans ((cp_z (n := 6) (show a_21 91 = _ from by rw [← ea_21]; rfl) (by decide +kernel) (by decide +kernel) (by decide +kernel) i hi).trans ((congrFun (show a_20 67 = B5 67 from (show a_20 67 = B5 67 from by rw [← ea_20]; rfl)) i).trans (sv_tired hsF hi))))⟩
      · have h22 := (kc_nle c12)
        have b23 : kb 0 y1 19 := kr_lt1 h22 b9 bn_ (by decide)
        have hny : nn < n_.toInt.toNat := by have w1 := hvlp7_0; have w2 := kc_nle c12; have w3 := (bn_).1; omega
        refine lv_aload_n hx hb dX1_drawNights_23 rfl (lv_at hl 4 rfl) ?_
        refine va_get (D := D) (ci := 1) (v := .ref (r 58)) (C := RX1) (T := TX1) (N := 5) hx hb hg inC1 hown hK hP 89 rfl rfl 0 (by decide) (hg _ wt2_169) (fun _ h9 => h9) rfl dX1_drawNights_24 ?_
        have hg15 : G6.2 15 = g.2 15 := hE.2.2 15 rfl
        refine kVG.callW (As := []) (rest := []) ⟨hx, hb, hml, hown, hg⟩ (z_begin l r F4 B5 G6 tx tt hT hI hG   k (sV_E hVw hE (by decide +kernel) (by decide +kernel)) hkk ((hE.1 1858 rfl).trans hp0)) (cwV 0 hg (kgV wt5_123 wt4_237 wt4_238 wt1_10 wt4_239) rfl rfl rfl (by decide +kernel) ⟨by decide, by decide⟩) hV hK hP hD hS hA (58) 3 rfl rfl rfl hl.1 rfl (Nat.le_of_ble_eq_true rfl) dX1_drawNights_27 ⟨Nat.le_refl _, Nat.le_refl _⟩ (fun u26 H locs hw24 hP hD hS => ?_)
        obtain ⟨f27, a28, g29⟩ := u26
        have hP : va_P D vwCl (xX K r f27 a28 g29 tx) H := hP
        have hD : va_D A (xX K r f27 a28 g29 tx) := hD
        have hI : xI f27 a28 := hw24.1
        have hG : gOK K g29.2 tt := hw24.2.1
        have eE30 : xEk ([1888, 1894, 1900, 1905, 1906], [60, 61, 62, 63, 64, 65, 66, 67, 68, 69, 70, 71, 72], [73]) F4 B5 G6 f27 a28 g29 := hw24.2.2.1
        have hE : xEk ([1888, 1894, 1900, 1905, 1906, 2849, 2850], [60, 61, 62, 63, 64, 65, 66, 67, 68, 69, 70, 71, 72, 77, 78, 79, 90, 91], [73]) f a g f27 a28 g29 := xEk_tr hE (xEk_w (by decide +kernel) eE30)
        have hsb := hw24.2.2.2.1
        have hlb : ∀ i, i < 6 → g29.2 73 i = g.2 15 i := fun i hi => ((hw24.2.2.2.2) i hi).trans (congrFun hg15 i)
        have hnb := nt_b (z := (nsF DD k x.toInt nn).2.2) hkk (ns_z (DD := DD) hkk (by have w1 := hp1; omega) hxb nn)
        refine lv_iconst (v := 0) hx hb dX1_drawNights_30 (by decide) ?_
        refine lv_istore (lv' := [(7, .int 0), (6, .int y1), (5, .int y2), (4, .int y3), (3, .ref (r 59)), (0, .ref (r 89)), (1, .int x), (2, .int n_)]) hx hb dX1_drawNights_31 hl (by decide) rfl (fun ls hl => ?_)
        have lp36 : ∀ (n37 : Nat) (mm : Nat) (F33 : Nat → Int32) (B34 : Nat → Nat → Int32) (G35 : xG) (H : Heap) (locs : List Loc) (ls : Array Slot) (y31 : Int32) (y32 : Int32), (99 < y31.toInt + (n37 : Int)) → (xI F33 B34) → (gOK K G35.2 tt) → (xEk ([1888, 1894, 1900, 1905, 1906, 2849, 2850], [60, 61, 62, 63, 64, 65, 66, 67, 68, 69, 70, 71, 72, 77, 78, 79, 90, 91], [73]) f a g F33 B34 G35) → (kb 0 y31 99) → (kb 0 y32 1000002) → (y31.toInt = (mm : Int)) → (y32.toInt = (ntN DD (bgF k, (nsF DD k x.toInt nn).2.2) mm).2) → (sV 1888 60 F33 B34 (ntN DD (bgF k, (nsF DD k x.toInt nn).2.2) mm).1) → (∀ i, i < 6 → G35.2 73 i = g.2 15 i) → (mm ≤ (k 99).toInt.toNat) → va_P D vwCl (xX K r F33 B34 G35 tx) H → va_D A (xX K r F33 B34 G35 tx) → va_S A s.heap H locs → lv_has ls 8 [(7, .int y31), (6, .int y1), (5, .int y2), (4, .int y32), (3, .ref (r 59)), (0, .ref (r 89)), (1, .int x), (2, .int n_)] → W p l e (rmD 5 0 0) s m ([.ref (r 89), .int x, .int n_] : List Value).toArray below meth c H locs 0 0 (kQi D (tysK K) (fun v (u : xS) => kb (-2147483648) v 2147483647 ∧ xI u.1 u.2.1 ∧ gOK K u.2.2.2 tt ∧ xEk ([1888, 1894, 1900, 1905, 1906, 2849, 2850], [60, 61, 62, 63, 64, 65, 66, 67, 68, 69, 70, 71, 72, 77, 78, 79, 90, 91], [73]) f a g u.1 u.2.1 u.2.2 ∧ v.toInt = ((nsF DD k x.toInt n_.toInt.toNat).1 : Int) ∧ u.1 2849 = k 102 ∧ u.1 2850 = k 103 ∧ (∀ i, i < 10 → u.2.1 90 i = (nsF DD k x.toInt n_.toInt.toNat).2.1 (0 + i)) ∧ (∀ i, i < 6 → u.2.1 91 i = (nsF DD k x.toInt n_.toInt.toNat).2.1 (10 + i))) (fun u => xX K r u.1 u.2.1 u.2.2 tx) A below ([.ref (r 89), .int x, .int n_] : List Value).toArray s 0 0) (F0 m 33 ls []) := by
          intro n37
          induction n37 with
          | zero =>
            intro mm F33 B34 G35  H locs ls y31 y32 hmlp36 hI hG hE b38 b39 hvlp36_0 hvlp36_1 hvlp36_2 hvlp36_3 hvlp36_4 hP hD hS hl
            exact (by have h1 := b38.2; have h2 := hmlp36; omega : False).elim
          | succ n37 ihlp36 =>
            intro mm F33 B34 G35  H locs ls y31 y32 hmlp36 hI hG hE b38 b39 hvlp36_0 hvlp36_1 hvlp36_2 hvlp36_3 hvlp36_4 hP hD hS hl
            have hnn : y31 = nI mm := nI_q hvlp36_0
            have hsp := hvlp36_2
            have hlg := hvlp36_3
            have hmI := fun (hm9 : mm ≤ 200) => nt_N (DD := DD) hnb (by have w1 := hp1; omega) mm hm9
            have hm1 := hvlp36_4
            refine lv_iload hx hb dX1_drawNights_33 (lv_at hl 0 rfl) ?_
            refine lv_aload_n hx hb dX1_drawNights_35 rfl (lv_at hl 4 rfl) ?_
            refine va_get (D := D) (ci := 7) (v := .ref (r 69)) (C := RX7) (T := TX7) (N := 20) hx hb hg inC7 hown hK hP 59 rfl rfl 11 (by decide) (hg _ wt1_128) (fun _ h9 => h9) rfl dX1_drawNights_36 ?_
            refine lv_iconst (v := 1) hx hb dX1_drawNights_39 (by decide) ?_
            refine va_iald hx hb hK hP 69 0 rfl rfl (kb_in kc_1 (by decide) (by decide)) dX1_drawNights_40 ?_
            refine lv_topi (fun t40 et40 => ?_)
            rw [cl_1] at et40
            have hkn : t40 = k 99 := et40.trans ((sv_night hsp).trans ((hmI (by have w9 := hK99.2; omega)).2.2.1 99 (by decide)))
            have b41 : kb 1 t40 99 := kb_eq hkn hK99
            refine lv_icmp_ge (tgt := 106) hx hb dX1_drawNights_41 (by decide) (fun c42 => ?_) (fun c42 => ?_)
            · have h43 := (kc_le c42)
              have b44 : kb 1 y31 99 := kr_le2 h43 b41 b38
              have hmm : mm = (k 99).toInt.toNat := by have w1 := hvlp36_0; have w2 := kc_le c42; have w3 := congrArg Int32.toInt hkn; have w4 := hm1; omega
              have hse : sV 1888 60 F33 B34 (ntE DD k (nsF DD k x.toInt nn).2.2).1 := by have w9 := hsp; rw [hmm] at w9; exact w9
              have hze : y32.toInt = (ntE DD k (nsF DD k x.toInt nn).2.2).2 := by have w9 := hvlp36_1; rw [hmm] at w9; exact w9
              have hEI := nt_E (DD := DD) hkk (by have w1 := hp1; omega) (ns_z (DD := DD) hkk (by have w1 := hp1; omega) hxb nn)
              refine lv_aload_n hx hb dX1_drawNights_106 rfl (lv_at hl 5 rfl) ?_
              refine va_get (D := D) (ci := 1) (v := .ref (r 58)) (C := RX1) (T := TX1) (N := 5) hx hb hg inC1 hown hK hP 89 rfl rfl 0 (by decide) (hg _ wt2_169) (fun _ h9 => h9) rfl dX1_drawNights_107 ?_
              refine kIG.callW (As := []) (rest := []) ⟨hx, hb, hml, hown, hg⟩ (z_allStand l r F33 B34 G35 tx tt hT hI hG   (ntE DD k (nsF DD k x.toInt nn).2.2).1 hse hEI.1 ) (cwV 0 hg (kgV wt5_127 wt5_71 wt5_72 wt1_10 wt5_73) rfl rfl rfl (by decide +kernel) ⟨by decide, by decide⟩) hV hK hP hD hS hA (58) 3 rfl rfl rfl hl.1 rfl (Nat.le_of_ble_eq_true rfl) dX1_drawNights_110 ⟨Nat.le_refl _, Nat.le_refl _⟩ (fun v46 u47 H locs hw45 hP hD hS => ?_)
              have hP : va_P D vwCl (xX K r F33 B34 G35 tx) H := hP
              have hD : va_D A (xX K r F33 B34 G35 tx) := hD
              refine lv_if_eq (tgt := 119) hx hb dX1_drawNights_113 (by decide) (fun c48 => ?_) (fun c48 => ?_)
              · have b49 : kb 0 v46 0 := kb_eq c48 kc_0
                have hal2 : y2.toInt = ((nsF DD k x.toInt (nn + 1)).1 : Int) := by show _ = (((nsF DD k x.toInt nn).1 + (if alS (ntE DD k (nsF DD k x.toInt nn).2.2).1 = true then 1 else 0) : Nat) : Int); rw [if_neg (bit1_n hw45.2 c48)]; have w1 := hal; omega
                obtain ⟨t50, et50⟩ : ∃ z : Int32, z = y1 + Int32.ofInt 1 := ⟨_, rfl⟩
                have qt50 : t50.toInt = y1.toInt + 1 := by rw [et50]; exact km_inc b23 (by decide) (by decide)
                have b51 : kb 1 t50 20 := kb_inc (k := 1) qt50 b23
                refine lv_iinc (v := t50) (lv' := [(6, .int t50), (7, .int y31), (5, .int y2), (4, .int y32), (3, .ref (r 59)), (0, .ref (r 89)), (1, .int x), (2, .int n_)]) hx hb dX1_drawNights_119 hl (k := 1) rfl et50.symm (by decide) rfl (fun ls hl => ?_)
                refine lv_goto (tgt := 17) hx hb dX1_drawNights_122 (by decide) ?_
                exact ihlp7 (nn + 1) F33 B34 G35 _ _ _ t50 y2 y32 (km_up hmlp7 qt50) hI hG hE (kb_w b51 (by decide) (by decide)) b10 b39 (by have w1 := hvlp7_0; have w2 := qt50; omega) (hze) (hal2) (fun _ => hse) (hny) hP hD hS (lv_sub hl [0, 2, 3, 4, 5, 6, 7] rfl)
              · have b52 : kb 1 v46 1 := kr_nel c48 hw45.1 kc_0 (by decide)
                obtain ⟨t53, et53⟩ : ∃ z : Int32, z = y2 + Int32.ofInt 1 := ⟨_, rfl⟩
                have qt53 : t53.toInt = y2.toInt + 1 := by rw [et53]; exact km_inc b10 (by decide) (by decide)
                have b54 : kb 1 t53 21 := kb_inc (k := 1) qt53 b10
                refine lv_iinc (v := t53) (lv' := [(5, .int t53), (7, .int y31), (6, .int y1), (4, .int y32), (3, .ref (r 59)), (0, .ref (r 89)), (1, .int x), (2, .int n_)]) hx hb dX1_drawNights_116 hl (k := 2) rfl et53.symm (by decide) rfl (fun ls hl => ?_)
                have hal2 : t53.toInt = ((nsF DD k x.toInt (nn + 1)).1 : Int) := by show _ = (((nsF DD k x.toInt nn).1 + (if alS (ntE DD k (nsF DD k x.toInt nn).2.2).1 = true then 1 else 0) : Nat) : Int); rw [if_pos (bit1_y hw45.2 c48)]; have w1 := hal; have w2 := qt53; omega
                have b55 : kb 0 t53 20 := ⟨by omega, by have w1 := ns_1 (DD := DD) (k := k) (z := x.toInt) (nn + 1); have w2 := (bn_).2; omega⟩
                obtain ⟨t56, et56⟩ : ∃ z : Int32, z = y1 + Int32.ofInt 1 := ⟨_, rfl⟩
                have qt56 : t56.toInt = y1.toInt + 1 := by rw [et56]; exact km_inc b23 (by decide) (by decide)
                have b57 : kb 1 t56 20 := kb_inc (k := 1) qt56 b23
                refine lv_iinc (v := t56) (lv' := [(6, .int t56), (5, .int t53), (7, .int y31), (4, .int y32), (3, .ref (r 59)), (0, .ref (r 89)), (1, .int x), (2, .int n_)]) hx hb dX1_drawNights_119 hl (k := 2) rfl et56.symm (by decide) rfl (fun ls hl => ?_)
                refine lv_goto (tgt := 17) hx hb dX1_drawNights_122 (by decide) ?_
                exact ihlp7 (nn + 1) F33 B34 G35 _ _ _ t56 t53 y32 (km_up hmlp7 qt56) hI hG hE (kb_w b57 (by decide) (by decide)) b55 b39 (by have w1 := hvlp7_0; have w2 := qt56; omega) (hze) (hal2) (fun _ => hse) (hny) hP hD hS (lv_sub hl [0, 1, 3, 4, 5, 6, 7] rfl)
            · have h58 := (kc_nle c42)
              have b59 : kb 0 y31 98 := kr_lt1 h58 b38 b41 (by decide)
              have hm99 : mm < (k 99).toInt.toNat := by have w1 := hvlp36_0; have w2 := kc_nle c42; have w3 := congrArg Int32.toInt hkn; omega
              have hM := hmI (by have w9 := hK99.2; omega)
              have hlp : lC K tt (G35.2 73) (ntN DD (bgF k, (nsF DD k x.toInt nn).2.2) mm).1 DD := lC_6 hkk hL hlg (hM.2.2.1 105 (by decide))
              refine lv_aload_n hx hb dX1_drawNights_44 rfl (lv_at hl 5 rfl) ?_
              refine va_get (D := D) (ci := 1) (v := .ref (r 58)) (C := RX1) (T := TX1) (N := 5) hx hb hg inC1 hown hK hP 89 rfl rfl 0 (by decide) (hg _ wt2_169) (fun _ h9 => h9) rfl dX1_drawNights_45 ?_
              refine lv_bipush (v := 63) hx hb dX1_drawNights_48 (by decide) ?_
              refine kVG.callW (As := [.int 63]) (rest := []) ⟨hx, hb, hml, hown, hg⟩ (z_sendFree l r F33 B34 G35 tx tt hT hI hG 63  (ntN DD (bgF k, (nsF DD k x.toInt nn).2.2) mm).1 hsp hM.1 DD hlp rfl) (cwV 1 hg (kgV wt5_124 wt5_12 wt5_13 wt1_10 wt5_14) rfl rfl rfl (by decide +kernel) ⟨by decide, by decide⟩) hV hK hP hD hS hA (58) 3 rfl rfl rfl hl.1 rfl (Nat.le_of_ble_eq_true rfl) dX1_drawNights_50 ⟨Nat.le_refl _, Nat.le_refl _⟩ (fun u62 H locs hw60 hP hD hS => ?_)
              obtain ⟨f63, a64, g65⟩ := u62
              have hP : va_P D vwCl (xX K r f63 a64 g65 tx) H := hP
              have hD : va_D A (xX K r f63 a64 g65 tx) := hD
              have hI : xI f63 a64 := hw60.1
              have hG : gOK K g65.2 tt := hw60.2.1
              have eE66 : xEk ([], [68, 79], []) F33 B34 G35 f63 a64 g65 := hw60.2.2.1
              have hE : xEk ([1888, 1894, 1900, 1905, 1906, 2849, 2850], [60, 61, 62, 63, 64, 65, 66, 67, 68, 69, 70, 71, 72, 77, 78, 79, 90, 91], [73]) f a g f63 a64 g65 := xEk_tr hE (xEk_w (by decide +kernel) eE66)
              have hs2 := hw60.2.2.2
              have hkA := sA_k (DD := DD) hM.1
              have hEA := sA_E (DD := DD) hM.1
              have hlg2 : ∀ i, i < 6 → g65.2 73 i = g.2 15 i := fun i hi => (congrFun (eE66.2.2 73 rfl) i).trans (hlg i hi)
              have hlA : lC K tt (g65.2 73) (sdA DD (ntN DD (bgF k, (nsF DD k x.toInt nn).2.2) mm).1) DD := lC_6 hkk hL hlg2 ((hEA 105 (Or.inr (by decide))).trans (hM.2.2.1 105 (by decide)))
              refine lv_iload hx hb dX1_drawNights_53 (lv_at hl 3 rfl) ?_
              refine lv_sipush (v := 1103) hx hb dX1_drawNights_55 (by decide) ?_
              refine lv_imul hx hb dX1_drawNights_58 ?_
              refine lv_topi (fun t67 et67 => ?_)
              have b68 : kb 0 t67 1103002206 := kb_eq et67 (kb_mul b39 kc_1103 (by decide) (by decide) (by decide))
              have qt67 : t67.toInt = y32.toInt * 1103 := by rw [et67]; exact kt_mulc b39 kc_1103 (by decide) (by decide) (by decide)
              refine lv_sipush (v := 12345) hx hb dX1_drawNights_59 (by decide) ?_
              refine lv_iadd hx hb dX1_drawNights_62 ?_
              refine lv_topi (fun t69 et69 => ?_)
              have b70 : kb 12345 t69 1103014551 := kb_eq et69 (kb_add b68 kc_12345 (by decide) (by decide))
              have qt69 : t69.toInt = t67.toInt + 12345 := by rw [et69]; exact kt_addc b68 kc_12345 (by decide) (by decide)
              refine lv_ldc (v := (1000003)) hx hb hown (hg _ wt5_125) dX1_drawNights_63 ?_
              refine lv_irem hx hb dX1_drawNights_65 (by decide +kernel) ?_
              refine lv_topi (fun t71 et71 => ?_)
              have b72 : kb 0 t71 1000002 := kb_eq et71 (kb_rem (d := 1000003) b70 (by decide) rfl (by decide) (by decide))
              have hdr : t71.toInt = drI (ntN DD (bgF k, (nsF DD k x.toInt nn).2.2) mm).2 := by rw [dr_x (M := 1103014551) (kb_w b70 (by decide) (by decide)) qt67 qt69 et71, hvlp36_1]
              refine lv_istore (lv' := [(4, .int t71), (7, .int y31), (6, .int y1), (5, .int y2), (3, .ref (r 59)), (0, .ref (r 89)), (1, .int x), (2, .int n_)]) hx hb dX1_drawNights_66 hl (by decide) rfl (fun ls hl => ?_)
              refine lv_iload hx hb dX1_drawNights_68 (lv_at hl 0 rfl) ?_
              refine lv_bipush (v := 10) hx hb dX1_drawNights_70 (by decide) ?_
              refine lv_irem hx hb dX1_drawNights_72 (by decide +kernel) ?_
              refine lv_topi (fun t73 et73 => ?_)
              have b74 : kb 0 t73 9 := kb_eq et73 (kb_rem (d := 10) b72 (by decide) rfl (by decide) (by decide))
              have hd0 : t73.toInt = drI (ntN DD (bgF k, (nsF DD k x.toInt nn).2.2) mm).2 % 10 := by rw [dr_10 b72 et73, hdr]
              refine lv_aload_n hx hb dX1_drawNights_73 rfl (lv_at hl 4 rfl) ?_
              refine va_get (D := D) (ci := 7) (v := .ref (r 69)) (C := RX7) (T := TX7) (N := 20) hx hb hg inC7 hown hK hP 59 rfl rfl 11 (by decide) (hg _ wt1_128) (fun _ h9 => h9) rfl dX1_drawNights_74 ?_
              refine lv_iconst (v := 2) hx hb dX1_drawNights_77 (by decide) ?_
              refine va_iald hx hb hK hP 69 0 rfl rfl (kb_in kc_2 (by decide) (by decide)) dX1_drawNights_78 ?_
              refine lv_topi (fun t75 et75 => ?_)
              rw [cl_2] at et75
              have hrn : t75.toInt = ((ntN DD (bgF k, (nsF DD k x.toInt nn).2.2) mm).1 100).toInt := congrArg Int32.toInt (et75.trans ((sv_rain hs2).trans (hEA 100 (Or.inr (by decide)))))
              refine lv_icmp_ge (tgt := 95) hx hb dX1_drawNights_79 (by decide) (fun c76 => ?_) (fun c76 => ?_)
              · have h77 := (kc_le c76)
                have b78 : kb (-2147483648) t75 9 := kr_le1 h77 (kb_any t75) b74
                refine lv_aload_n hx hb dX1_drawNights_95 rfl (lv_at hl 4 rfl) ?_
                refine kIG.callW (As := []) (rest := []) ⟨hx, hb, hml, hown, hg⟩ (z_workOneTickP l r f63 a64 g65 tx tt hT hI hG   (sdA DD (ntN DD (bgF k, (nsF DD k x.toInt nn).2.2) mm).1) hs2 hkA DD hlA (by rw [hEA 22 (Or.inr (by decide)), hM.2.1]; have w9 := hK99.2; have w8 := hp1; omega)) (cwV 0 hg (kgV wt5_126 wt4_143 wt4_144 wt1_2 wt4_145) rfl rfl rfl (by decide +kernel) ⟨by decide, by decide⟩) hV hK hP hD hS hA (59) 7 rfl rfl rfl hl.1 rfl (Nat.le_of_ble_eq_true rfl) dX1_drawNights_96 ⟨Nat.le_refl _, Nat.le_refl _⟩ (fun v80 u81 H locs hw79 hP hD hS => ?_)
                obtain ⟨f82, a83, g84⟩ := u81
                have hP : va_P D vwCl (xX K r f82 a83 g84 tx) H := hP
                have hD : va_D A (xX K r f82 a83 g84 tx) := hD
                have hI : xI f82 a83 := hw79.2.1
                have hG : gOK K g84.2 tt := hw79.2.2.1
                have eE85 : xEk ([], [64, 67, 68, 69, 77, 78], []) f63 a64 g65 f82 a83 g84 := hw79.2.2.2.1
                have hE : xEk ([1888, 1894, 1900, 1905, 1906, 2849, 2850], [60, 61, 62, 63, 64, 65, 66, 67, 68, 69, 70, 71, 72, 77, 78, 79, 90, 91], [73]) f a g f82 a83 g84 := xEk_tr hE (xEk_w (by decide +kernel) eE85)
                have hs3 := hw79.2.2.2.2.1
                have hlg3 : ∀ i, i < 6 → g84.2 73 i = g.2 15 i := fun i hi => (congrFun (eE85.2.2 73 rfl) i).trans (hlg2 i hi)
                refine lv_pop hx hb dX1_drawNights_99 rfl ?_
                obtain ⟨t86, et86⟩ : ∃ z : Int32, z = y31 + Int32.ofInt 1 := ⟨_, rfl⟩
                have qt86 : t86.toInt = y31.toInt + 1 := by rw [et86]; exact km_inc b59 (by decide) (by decide)
                have b87 : kb 1 t86 99 := kb_inc (k := 1) qt86 b59
                refine lv_iinc (v := t86) (lv' := [(7, .int t86), (4, .int t71), (6, .int y1), (5, .int y2), (3, .ref (r 59)), (0, .ref (r 89)), (1, .int x), (2, .int n_)]) hx hb dX1_drawNights_100 hl (k := 1) rfl et86.symm (by decide) rfl (fun ls hl => ?_)
                refine lv_goto (tgt := 33) hx hb dX1_drawNights_103 (by decide) ?_
                exact ihlp36 (mm + 1) f82 a83 g84 _ _ _ t86 t71 (km_up hmlp36 qt86) hI hG hE (kb_w b87 (by decide) (by decide)) b72 (by have w1 := hvlp36_0; have w2 := qt86; omega) ((by show _ = (ntT DD (ntN DD (bgF k, (nsF DD k x.toInt nn).2.2) mm)).2; rw [nt_w (by have w1 := hrn; have w2 := kc_le c76; have w3 := hd0; omega)]; exact hdr)) ((by show sV 1888 60 _ _ (ntT DD (ntN DD (bgF k, (nsF DD k x.toInt nn).2.2) mm)).1; rw [nt_w (by have w1 := hrn; have w2 := kc_le c76; have w3 := hd0; omega)]; exact hs3)) (hlg3) (hm99) hP hD hS (lv_sub hl [0, 2, 3, 1, 4, 5, 6, 7] rfl)
              · have h88 := (kc_nle c76)
                have b89 : kb 1 t75 2147483647 := kr_lt2 h88 b74 (kb_any t75) (by decide)
                refine lv_aload_n hx hb dX1_drawNights_82 rfl (lv_at hl 4 rfl) ?_
                refine va_get (D := D) (ci := 7) (v := .ref (r 69)) (C := RX7) (T := TX7) (N := 20) hx hb hg inC7 hown hK hP 59 rfl rfl 11 (by decide) (hg _ wt1_128) (fun _ h9 => h9) rfl dX1_drawNights_83 ?_
                refine lv_iconst (v := 0) hx hb dX1_drawNights_86 (by decide) ?_
                refine lv_dup2_11 hx hb dX1_drawNights_87 rfl rfl ?_
                refine va_iald hx hb hK hP 69 0 rfl rfl (kb_in kc_0 (by decide) (by decide)) dX1_drawNights_88 ?_
                refine lv_topi (fun t90 et90 => ?_)
                rw [cl_0] at et90
                refine lv_iconst (v := 1) hx hb dX1_drawNights_89 (by decide) ?_
                refine lv_iadd hx hb dX1_drawNights_90 ?_
                refine lv_topi (fun t91 et91 => ?_)
                refine va_iast hx hb hK hP hD hS 69 0 rfl rfl (kb_in kc_0 (by decide) (by decide)) dX1_drawNights_91 (fun H locs hP hD hS => ?_)
                rw [cl_0] at hP hD
                have hP : va_P D vwCl (xX K r f63 (va_up a64 69 (upd (a64 69) 0 t91)) g65 tx) H := hP
                have hD : va_D A (xX K r f63 (va_up a64 69 (upd (a64 69) 0 t91)) g65 tx) := hD
                refine k_gen (P := fun z => va_P D vwCl (xX K r f63 z g65 tx) H ∧ va_D A (xX K r f63 z g65 tx) ∧ (xI f63 z) ∧ (gOK K g65.2 tt) ∧ (xEk ([1888, 1894, 1900, 1905, 1906, 2849, 2850], [60, 61, 62, 63, 64, 65, 66, 67, 68, 69, 70, 71, 72, 77, 78, 79, 90, 91], [73]) f a g f63 z g65)) (va_up a64 69 (upd (a64 69) 0 t91)) ⟨hP, hD, (xI_a hI (by decide)), hG, (xEk_a hE rfl)⟩ (fun a_92 ea_92 hq => ?_)
                obtain ⟨hP, hD, hI, hG, hE⟩ := hq
                have hv9 : t91 = sdA DD (ntN DD (bgF k, (nsF DD k x.toInt nn).2.2) mm).1 22 + 1 := by rw [et91, show t90 = _ from et90.trans (sv_hour hs2)]
                have hs3 : sV 1888 60 f63 a_92 (upd (sdA DD (ntN DD (bgF k, (nsF DD k x.toInt nn).2.2) mm).1) 22 (sdA DD (ntN DD (bgF k, (nsF DD k x.toInt nn).2.2) mm).1 22 + 1)) := sV_h1 hs2 (fun j hj hn => by rcases (show j = 0 ∨ j = 1 ∨ j = 2 ∨ j = 3 ∨ j = 4 ∨ j = 5 ∨ j = 6 ∨ j = 7 ∨ j = 8 ∨ j = 10 ∨ j = 11 ∨ j = 12 by omega) with e9 | e9 | e9 | e9 | e9 | e9 | e9 | e9 | e9 | e9 | e9 | e9 <;> (subst e9; rw [← ea_92]; rfl)) (show a_92 69 = upd (a64 69) 0 t91 from (show a_92 69 = upd (a64 69) 0 t91 from by rw [← ea_92]; rfl)) hv9
                refine lv_goto (tgt := 100) hx hb dX1_drawNights_92 (by decide) ?_
                obtain ⟨t93, et93⟩ : ∃ z : Int32, z = y31 + Int32.ofInt 1 := ⟨_, rfl⟩
                have qt93 : t93.toInt = y31.toInt + 1 := by rw [et93]; exact km_inc b59 (by decide) (by decide)
                have b94 : kb 1 t93 99 := kb_inc (k := 1) qt93 b59
                refine lv_iinc (v := t93) (lv' := [(7, .int t93), (4, .int t71), (6, .int y1), (5, .int y2), (3, .ref (r 59)), (0, .ref (r 89)), (1, .int x), (2, .int n_)]) hx hb dX1_drawNights_100 hl (k := 1) rfl et93.symm (by decide) rfl (fun ls hl => ?_)
                refine lv_goto (tgt := 33) hx hb dX1_drawNights_103 (by decide) ?_
                exact ihlp36 (mm + 1) f63 a_92 g65 _ _ _ t93 t71 (km_up hmlp36 qt93) hI hG hE (kb_w b94 (by decide) (by decide)) b72 (by have w1 := hvlp36_0; have w2 := qt93; omega) ((by show _ = (ntT DD (ntN DD (bgF k, (nsF DD k x.toInt nn).2.2) mm)).2; rw [nt_r (by have w1 := hrn; have w2 := kc_nle c76; have w3 := hd0; omega)]; exact hdr)) ((by show sV 1888 60 _ _ (ntT DD (ntN DD (bgF k, (nsF DD k x.toInt nn).2.2) mm)).1; rw [nt_r (by have w1 := hrn; have w2 := kc_nle c76; have w3 := hd0; omega)]; exact hs3)) (hlg2) (hm99) hP hD hS (lv_sub hl [0, 2, 3, 1, 4, 5, 6, 7] rfl)
        exact lp36 (100) 0 f27 a28 g29 _ _ _ 0 y3 (by have h1 := (kc_0); unfold kb at h1; omega) hI hG hE (kb_w kc_0 (by decide) (by decide)) b11 (by decide +kernel) (hvlp7_1) (hsb) (hlb) (Nat.zero_le _) hP hD hS (lv_sub hl [0, 1, 2, 3, 4, 5, 6, 7] rfl)
  exact lp7 (21) 0 f a g _ _ _ 0 0 x (by have h1 := (kc_0); unfold kb at h1; omega) hI hG hE (kb_w kc_0 (by decide) (by decide)) (kb_w kc_0 (by decide) (by decide)) (kb_w bx (by decide) (by decide)) (by decide +kernel) (rfl) (by show (0 : Int32).toInt = ((0 : Nat) : Int); decide +kernel) (fun h9 => absurd h9 (Nat.lt_irrefl 0)) (Nat.zero_le _) hP hD hS (lv_sub hl [0, 1, 2, 3, 4, 5, 6] rfl)
set_option maxHeartbeats 4000000 in
set_option maxRecDepth 100000 in
theorem z_nights3  (l : Launch) {D : va_G} {K : Nat → ClassId} (r : Nat → Nat) (f : Nat → Int32) (a : Nat → Nat → Int32) (g : xG) (tx tt : va_W) (hT : ∀ c ∈ tt, c ∈ tx) (hI : xI f a) (hG : gOK K g.2 tt) (x : Int32) (y : Int32)  (k : Nat → Int32) (hVw : sV 32 2 f a k) (hkk : kK k) (DD : Nat → tE) (hL : lC K tt (g.2 15) k DD)  (hp0 : f 1858 = -1) (hp1 : (k 22).toInt ≤ 999) : kIG l yX11_nights (Cond.code yX11_nights cX11_nights 3 (some .int) :: kG) (rmD 6 0 0) D K [.ref (r 0), .int x, .int y] (xX K r f a g tx) (fun v (u : xS) => kb (-2147483648) v 2147483647 ∧ xI u.1 u.2.1 ∧ gOK K u.2.2.2 tt ∧ xEk ([16, 1888, 1894, 1900, 1905, 1906, 2849, 2850], [60, 61, 62, 63, 64, 65, 66, 67, 68, 69, 70, 71, 72, 77, 78, 79, 90, 91, 94], [73]) f a g u.1 u.2.1 u.2.2 ∧ ((v = -1 ∧ ¬ ngtO x y ∧ u.1 16 = -1 ∧ (∀ R1, rfE (a 94) R1 → rfE (u.2.1 94) (rfS (-1 : Int32).toInt R1)) ∧ u.1 2849 = f 2849 ∧ u.1 2850 = f 2850 ∧ u.2.1 90 = a 90 ∧ u.2.1 91 = a 91) ∨ (ngtO x y ∧ u.1 16 = 0 ∧ (∀ R1, rfE (a 94) R1 → rfE (u.2.1 94) R1) ∧ v.toInt = ((nsF DD k x.toInt y.toInt.toNat).1 : Int) ∧ u.1 2849 = k 102 ∧ u.1 2850 = k 103 ∧ (∀ i, i < 10 → u.2.1 90 i = (nsF DD k x.toInt y.toInt.toNat).2.1 (0 + i)) ∧ ∀ i, i < 6 → u.2.1 91 i = (nsF DD k x.toInt y.toInt.toNat).2.1 (10 + i)))) (fun u => xX K r u.1 u.2.1 u.2.2 tx) 0 0 := by
  refine kIE.of (cc := cX11_nights) (maxL := 3) (ret := (some .int)) (by decide) rfl (Nat.le_of_ble_eq_true rfl) ?_
  intro p e s m below meth c A hx hb hr hml hown hts hlocks hnm hK hP hD hS hA hV ls hl
  have hE : xEk ([16, 1888, 1894, 1900, 1905, 1906, 2849, 2850], [60, 61, 62, 63, 64, 65, 66, 67, 68, 69, 70, 71, 72, 77, 78, 79, 90, 91, 94], [73]) f a g f a g := xEk_rf
  have hg : ∀ w ∈ kG, w.before _ s = true := fun w h => hts w (List.mem_cons_of_mem _ h)
  have hown : s.vm.findClass RX11 = some m.cls := hown
  have hl : lv_has ls 3 [(0, .ref (r 0)), (1, .int x), (2, .int y)] := hl
  refine lv_iload_n hx hb dX11_nights_0 rfl (lv_at hl 1 rfl) ?_
  refine lv_if_lt (tgt := 22) hx hb dX11_nights_1 (by decide) (fun c1 => ?_) (fun c1 => ?_)
  · have h2 := (kc_lt c1)
    have b3 : kb (-2147483648) x (-1) := kr_lt1 h2 (kb_any x) kc_0 (by decide)
    refine lv_aload_n hx hb dX11_nights_22 rfl (lv_at hl 0 rfl) ?_
    refine lv_iconst (v := (-1)) hx hb dX11_nights_23 (by decide) ?_
    refine kIG.callW (As := [.int (-1)]) (rest := []) ⟨hx, hb, hml, hown, hg⟩ (z_refuse l r f a g tx tt hT hI hG (-1) (kb_w kc_m1 (by decide) (by decide)) (by decide +kernel)) (cwV 1 hg (kgV wt3_7 wt3_9 wp1_0 wt1_1 wt3_10) rfl rfl rfl (by decide +kernel) ⟨by decide, by decide⟩) hV hK hP hD hS hA (0) 11 rfl rfl rfl hl.1 rfl (Nat.le_of_ble_eq_true rfl) dX11_nights_24 ⟨Nat.le_refl _, Nat.le_refl _⟩ (fun v5 u6 H locs hw4 hP hD hS => ?_)
    obtain ⟨f7, a8, g9⟩ := u6
    have hP : va_P D vwCl (xX K r f7 a8 g9 tx) H := hP
    have hD : va_D A (xX K r f7 a8 g9 tx) := hD
    have hI : xI f7 a8 := hw4.2.1
    have hG : gOK K g9.2 tt := hw4.2.2.1
    have eE10 : xEk ([16], [94], []) f a g f7 a8 g9 := hw4.2.2.2.1
    have hE : xEk ([16, 1888, 1894, 1900, 1905, 1906, 2849, 2850], [60, 61, 62, 63, 64, 65, 66, 67, 68, 69, 70, 71, 72, 77, 78, 79, 90, 91, 94], [73]) f a g f7 a8 g9 := xEk_tr hE (xEk_w (by decide +kernel) eE10)
    refine k_top (z := (-1)) hw4.2.2.2.2.1 ?_
    exact kI_ret (v := (-1)) hx hb hr hlocks rfl hK hS dX11_nights_27 (f7, a8, g9) hP hD ⟨(kb_w kc_m1 (by decide) (by decide)), hI, hG, hE, (Or.inl ⟨rfl, (fun q => by have w1 := (b3).1; have w2 := (b3).2; have w3 := ((kb_any y)).1; have w4 := ((kb_any y)).2; have q1 := q.1; have q2 := q.2; omega), hw4.2.2.2.2.2.1, (fun R1 hR => hw4.2.2.2.2.2.2 R1 hR), (eE10.1 2849 rfl), (eE10.1 2850 rfl), (eE10.2.1 90 rfl), (eE10.2.1 91 rfl)⟩)⟩
  · have h11 := (kc_nlt c1)
    have b12 : kb 0 x 2147483647 := kr_le2 h11 kc_0 (kb_any x)
    refine lv_iload_n hx hb dX11_nights_4 rfl (lv_at hl 1 rfl) ?_
    refine lv_ldcw (v := (1000000)) hx hb hown (hg _ wt5_118) dX11_nights_5 ?_
    refine lv_icmp_gt (tgt := 22) hx hb dX11_nights_8 (by decide) (fun c13 => ?_) (fun c13 => ?_)
    · have h14 := (kc_lt c13)
      have b15 : kb 1000001 x 2147483647 := kr_lt2 h14 kc_1000000 b12 (by decide)
      refine lv_aload_n hx hb dX11_nights_22 rfl (lv_at hl 0 rfl) ?_
      refine lv_iconst (v := (-1)) hx hb dX11_nights_23 (by decide) ?_
      refine kIG.callW (As := [.int (-1)]) (rest := []) ⟨hx, hb, hml, hown, hg⟩ (z_refuse l r f a g tx tt hT hI hG (-1) (kb_w kc_m1 (by decide) (by decide)) (by decide +kernel)) (cwV 1 hg (kgV wt3_7 wt3_9 wp1_0 wt1_1 wt3_10) rfl rfl rfl (by decide +kernel) ⟨by decide, by decide⟩) hV hK hP hD hS hA (0) 11 rfl rfl rfl hl.1 rfl (Nat.le_of_ble_eq_true rfl) dX11_nights_24 ⟨Nat.le_refl _, Nat.le_refl _⟩ (fun v17 u18 H locs hw16 hP hD hS => ?_)
      obtain ⟨f19, a20, g21⟩ := u18
      have hP : va_P D vwCl (xX K r f19 a20 g21 tx) H := hP
      have hD : va_D A (xX K r f19 a20 g21 tx) := hD
      have hI : xI f19 a20 := hw16.2.1
      have hG : gOK K g21.2 tt := hw16.2.2.1
      have eE22 : xEk ([16], [94], []) f a g f19 a20 g21 := hw16.2.2.2.1
      have hE : xEk ([16, 1888, 1894, 1900, 1905, 1906, 2849, 2850], [60, 61, 62, 63, 64, 65, 66, 67, 68, 69, 70, 71, 72, 77, 78, 79, 90, 91, 94], [73]) f a g f19 a20 g21 := xEk_tr hE (xEk_w (by decide +kernel) eE22)
      refine k_top (z := (-1)) hw16.2.2.2.2.1 ?_
      exact kI_ret (v := (-1)) hx hb hr hlocks rfl hK hS dX11_nights_27 (f19, a20, g21) hP hD ⟨(kb_w kc_m1 (by decide) (by decide)), hI, hG, hE, (Or.inl ⟨rfl, (fun q => by have w1 := (b15).1; have w2 := (b15).2; have w3 := ((kb_any y)).1; have w4 := ((kb_any y)).2; have q1 := q.1; have q2 := q.2; omega), hw16.2.2.2.2.2.1, (fun R1 hR => hw16.2.2.2.2.2.2 R1 hR), (eE22.1 2849 rfl), (eE22.1 2850 rfl), (eE22.2.1 90 rfl), (eE22.2.1 91 rfl)⟩)⟩
    · have h23 := (kc_nlt c13)
      have b24 : kb 0 x 1000000 := kr_le1 h23 b12 kc_1000000
      refine lv_iload_n hx hb dX11_nights_11 rfl (lv_at hl 2 rfl) ?_
      refine lv_iconst (v := 1) hx hb dX11_nights_12 (by decide) ?_
      refine lv_icmp_lt (tgt := 22) hx hb dX11_nights_13 (by decide) (fun c25 => ?_) (fun c25 => ?_)
      · have h26 := (kc_lt c25)
        have b27 : kb (-2147483648) y 0 := kr_lt1 h26 (kb_any y) kc_1 (by decide)
        refine lv_aload_n hx hb dX11_nights_22 rfl (lv_at hl 0 rfl) ?_
        refine lv_iconst (v := (-1)) hx hb dX11_nights_23 (by decide) ?_
        refine kIG.callW (As := [.int (-1)]) (rest := []) ⟨hx, hb, hml, hown, hg⟩ (z_refuse l r f a g tx tt hT hI hG (-1) (kb_w kc_m1 (by decide) (by decide)) (by decide +kernel)) (cwV 1 hg (kgV wt3_7 wt3_9 wp1_0 wt1_1 wt3_10) rfl rfl rfl (by decide +kernel) ⟨by decide, by decide⟩) hV hK hP hD hS hA (0) 11 rfl rfl rfl hl.1 rfl (Nat.le_of_ble_eq_true rfl) dX11_nights_24 ⟨Nat.le_refl _, Nat.le_refl _⟩ (fun v29 u30 H locs hw28 hP hD hS => ?_)
        obtain ⟨f31, a32, g33⟩ := u30
        have hP : va_P D vwCl (xX K r f31 a32 g33 tx) H := hP
        have hD : va_D A (xX K r f31 a32 g33 tx) := hD
        have hI : xI f31 a32 := hw28.2.1
        have hG : gOK K g33.2 tt := hw28.2.2.1
        have eE34 : xEk ([16], [94], []) f a g f31 a32 g33 := hw28.2.2.2.1
        have hE : xEk ([16, 1888, 1894, 1900, 1905, 1906, 2849, 2850], [60, 61, 62, 63, 64, 65, 66, 67, 68, 69, 70, 71, 72, 77, 78, 79, 90, 91, 94], [73]) f a g f31 a32 g33 := xEk_tr hE (xEk_w (by decide +kernel) eE34)
        refine k_top (z := (-1)) hw28.2.2.2.2.1 ?_
        exact kI_ret (v := (-1)) hx hb hr hlocks rfl hK hS dX11_nights_27 (f31, a32, g33) hP hD ⟨(kb_w kc_m1 (by decide) (by decide)), hI, hG, hE, (Or.inl ⟨rfl, (fun q => by have w1 := (b24).1; have w2 := (b24).2; have w3 := (b27).1; have w4 := (b27).2; have q1 := q.1; have q2 := q.2; omega), hw28.2.2.2.2.2.1, (fun R1 hR => hw28.2.2.2.2.2.2 R1 hR), (eE34.1 2849 rfl), (eE34.1 2850 rfl), (eE34.2.1 90 rfl), (eE34.2.1 91 rfl)⟩)⟩
      · have h35 := (kc_nlt c25)
        have b36 : kb 1 y 2147483647 := kr_le2 h35 kc_1 (kb_any y)
        refine lv_iload_n hx hb dX11_nights_16 rfl (lv_at hl 2 rfl) ?_
        refine lv_bipush (v := 20) hx hb dX11_nights_17 (by decide) ?_
        refine lv_icmp_le (tgt := 28) hx hb dX11_nights_19 (by decide) (fun c37 => ?_) (fun c37 => ?_)
        · have h38 := (kc_le c37)
          have b39 : kb 1 y 20 := kr_le1 h38 b36 kc_20
          refine lv_aload_n hx hb dX11_nights_28 rfl (lv_at hl 0 rfl) ?_
          refine lv_aload_n hx hb dX11_nights_29 rfl (lv_at hl 0 rfl) ?_
          refine va_get (D := D) (ci := 11) (v := .ref (r 89)) (C := RX11) (T := TX11) (N := 17) hx hb hg inC11 hown hK hP 0 rfl rfl 8 (by decide) (hg _ wt2_194) (fun _ h9 => h9) rfl dX11_nights_30 ?_
          refine lv_iload_n hx hb dX11_nights_33 rfl (lv_at hl 1 rfl) ?_
          refine lv_iload_n hx hb dX11_nights_34 rfl (lv_at hl 2 rfl) ?_
          refine kIG.callW (As := [.int x, .int y]) (rest := [.ref (r 0)]) ⟨hx, hb, hml, hown, hg⟩ (z_drawNights l r f a g tx tt hT hI hG x y b24 b39 k hVw hkk DD hL hp0 hp1) (cwV 2 hg (kgV wt5_119 wt5_120 wt5_121 wt1_13 wt5_122) rfl rfl rfl (by decide +kernel) ⟨by decide, by decide⟩) hV hK hP hD hS hA (89) 1 rfl rfl rfl hl.1 rfl (Nat.le_of_ble_eq_true rfl) dX11_nights_35 ⟨Nat.le_refl _, Nat.le_refl _⟩ (fun v41 u42 H locs hw40 hP hD hS => ?_)
          obtain ⟨f43, a44, g45⟩ := u42
          have hP : va_P D vwCl (xX K r f43 a44 g45 tx) H := hP
          have hD : va_D A (xX K r f43 a44 g45 tx) := hD
          have hI : xI f43 a44 := hw40.2.1
          have hG : gOK K g45.2 tt := hw40.2.2.1
          have eE46 : xEk ([1888, 1894, 1900, 1905, 1906, 2849, 2850], [60, 61, 62, 63, 64, 65, 66, 67, 68, 69, 70, 71, 72, 77, 78, 79, 90, 91], [73]) f a g f43 a44 g45 := hw40.2.2.2.1
          have hE : xEk ([16, 1888, 1894, 1900, 1905, 1906, 2849, 2850], [60, 61, 62, 63, 64, 65, 66, 67, 68, 69, 70, 71, 72, 77, 78, 79, 90, 91, 94], [73]) f a g f43 a44 g45 := xEk_tr hE (xEk_w (by decide +kernel) eE46)
          refine kIG.callW (As := [.int v41]) (rest := []) ⟨hx, hb, hml, hown, hg⟩ (z_agree l r f43 a44 g45 tx tt hT hI hG v41  ) (cwV 1 hg (kgV wt3_27 wt3_29 wp1_2 wt1_1 wt3_30) rfl rfl rfl (by decide +kernel) ⟨by decide, by decide⟩) hV hK hP hD hS hA (0) 11 rfl rfl rfl hl.1 rfl (Nat.le_of_ble_eq_true rfl) dX11_nights_38 ⟨Nat.le_refl _, Nat.le_refl _⟩ (fun v48 u49 H locs hw47 hP hD hS => ?_)
          obtain ⟨f50, a51, g52⟩ := u49
          have hP : va_P D vwCl (xX K r f50 a51 g52 tx) H := hP
          have hD : va_D A (xX K r f50 a51 g52 tx) := hD
          have hI : xI f50 a51 := hw47.2.1
          have hG : gOK K g52.2 tt := hw47.2.2.1
          have eE53 : xEk ([16], [], []) f43 a44 g45 f50 a51 g52 := hw47.2.2.2.1
          have hE : xEk ([16, 1888, 1894, 1900, 1905, 1906, 2849, 2850], [60, 61, 62, 63, 64, 65, 66, 67, 68, 69, 70, 71, 72, 77, 78, 79, 90, 91, 94], [73]) f a g f50 a51 g52 := xEk_tr hE (xEk_w (by decide +kernel) eE53)
          refine k_top (z := v41) hw47.2.2.2.2.1 ?_
          exact kI_ret (v := v41) hx hb hr hlocks rfl hK hS dX11_nights_41 (f50, a51, g52) hP hD ⟨(kb_any v41), hI, hG, hE, (Or.inr ⟨⟨⟨(b24).1, (b24).2⟩, (b39).1, (b39).2⟩, hw47.2.2.2.2.2, (fun R1 hR => by (try dsimp only); rw [show a51 94 = a 94 from ((eE53.2.1 94 rfl).trans (eE46.2.1 94 rfl))]; exact hR), hw40.2.2.2.2.1, ((eE53.1 2849 rfl)).trans hw40.2.2.2.2.2.1, ((eE53.1 2850 rfl)).trans hw40.2.2.2.2.2.2.1, (fun i hi => (congrFun ((eE53.2.1 90 rfl)) i).trans (hw40.2.2.2.2.2.2.2.1 i hi)), (fun i hi => (congrFun ((eE53.2.1 91 rfl)) i).trans (hw40.2.2.2.2.2.2.2.2 i hi))⟩)⟩
        · have h54 := (kc_nle c37)
          have b55 : kb 21 y 2147483647 := kr_lt2 h54 kc_20 b36 (by decide)
          refine lv_aload_n hx hb dX11_nights_22 rfl (lv_at hl 0 rfl) ?_
          refine lv_iconst (v := (-1)) hx hb dX11_nights_23 (by decide) ?_
          refine kIG.callW (As := [.int (-1)]) (rest := []) ⟨hx, hb, hml, hown, hg⟩ (z_refuse l r f a g tx tt hT hI hG (-1) (kb_w kc_m1 (by decide) (by decide)) (by decide +kernel)) (cwV 1 hg (kgV wt3_7 wt3_9 wp1_0 wt1_1 wt3_10) rfl rfl rfl (by decide +kernel) ⟨by decide, by decide⟩) hV hK hP hD hS hA (0) 11 rfl rfl rfl hl.1 rfl (Nat.le_of_ble_eq_true rfl) dX11_nights_24 ⟨Nat.le_refl _, Nat.le_refl _⟩ (fun v57 u58 H locs hw56 hP hD hS => ?_)
          obtain ⟨f59, a60, g61⟩ := u58
          have hP : va_P D vwCl (xX K r f59 a60 g61 tx) H := hP
          have hD : va_D A (xX K r f59 a60 g61 tx) := hD
          have hI : xI f59 a60 := hw56.2.1
          have hG : gOK K g61.2 tt := hw56.2.2.1
          have eE62 : xEk ([16], [94], []) f a g f59 a60 g61 := hw56.2.2.2.1
          have hE : xEk ([16, 1888, 1894, 1900, 1905, 1906, 2849, 2850], [60, 61, 62, 63, 64, 65, 66, 67, 68, 69, 70, 71, 72, 77, 78, 79, 90, 91, 94], [73]) f a g f59 a60 g61 := xEk_tr hE (xEk_w (by decide +kernel) eE62)
          refine k_top (z := (-1)) hw56.2.2.2.2.1 ?_
          exact kI_ret (v := (-1)) hx hb hr hlocks rfl hK hS dX11_nights_27 (f59, a60, g61) hP hD ⟨(kb_w kc_m1 (by decide) (by decide)), hI, hG, hE, (Or.inl ⟨rfl, (fun q => by have w1 := (b24).1; have w2 := (b24).2; have w3 := (b55).1; have w4 := (b55).2; have q1 := q.1; have q2 := q.2; omega), hw56.2.2.2.2.2.1, (fun R1 hR => hw56.2.2.2.2.2.2 R1 hR), (eE62.1 2849 rfl), (eE62.1 2850 rfl), (eE62.2.1 90 rfl), (eE62.2.1 91 rfl)⟩)⟩
set_option maxHeartbeats 4000000 in
set_option maxRecDepth 100000 in
theorem z_endOf  (l : Launch) {D : va_G} {K : Nat → ClassId} (r : Nat → Nat) (f : Nat → Int32) (a : Nat → Nat → Int32) (g : xG) (tx tt : va_W) (hT : ∀ c ∈ tt, c ∈ tx) (hI : xI f a) (hG : gOK K g.2 tt) (x : Int32) (y : Int32)    : kIG l yX1_endOf (Cond.code yX1_endOf cX1_endOf 3 (some .int) :: kG) (rmD 1 0 0) D K [.ref (r 89), .int x, .int y] (xX K r f a g tx) (fun v (_ : Unit) => kb (-2147483648) v 2147483647 ∧ v = enF (f 2849) (f 2850) (a 90) (a 91) x y) (fun _ => xX K r f a g tx) 0 0 := by
  refine kIE.of (cc := cX1_endOf) (maxL := 3) (ret := (some .int)) (by decide) rfl (Nat.le_of_ble_eq_true rfl) ?_
  intro p e s m below meth c A hx hb hr hml hown hts hlocks hnm hK hP hD hS hA hV ls hl
  have hg : ∀ w ∈ kG, w.before _ s = true := fun w h => hts w (List.mem_cons_of_mem _ h)
  have hown : s.vm.findClass RX1 = some m.cls := hown
  have hl : lv_has ls 3 [(0, .ref (r 89)), (1, .int x), (2, .int y)] := hl
  refine lv_iload_n hx hb dX1_endOf_0 rfl (lv_at hl 2 rfl) ?_
  refine lv_if_ne (tgt := 29) hx hb dX1_endOf_1 (by decide) (fun c1 => ?_) (fun c1 => ?_)
  · refine lv_iload_n hx hb dX1_endOf_29 rfl (lv_at hl 2 rfl) ?_
    refine lv_iconst (v := 1) hx hb dX1_endOf_30 (by decide) ?_
    refine lv_icmp_ne (tgt := 61) hx hb dX1_endOf_31 (by decide) (fun c2 => ?_) (fun c2 => ?_)
    · refine lv_iconst (v := (-1)) hx hb dX1_endOf_61 (by decide) ?_
      exact kI_ret (v := (-1)) hx hb hr hlocks rfl hK hS dX1_endOf_62 () hP hD ⟨(kb_w kc_m1 (by decide) (by decide)), (by unfold enF; rw [if_neg (fun q9 => by have p1 := congrArg Int32.toInt q9.1; have p2 := q9.2.1; have p3 := q9.2.2.1; have p4 := q9.2.2.2; have u0 : ¬ y.toInt = (0 : Int32).toInt := (fun z9 => c1 (Int32.toInt_inj.mp z9)); have v0 : (0 : Int32).toInt = 0 := (by decide +kernel); have u1 : ¬ y.toInt = (1 : Int32).toInt := (fun z9 => c2 (Int32.toInt_inj.mp z9)); have v1 : (1 : Int32).toInt = 1 := (by decide +kernel); omega), if_neg (fun q9 => by have p1 := congrArg Int32.toInt q9.1; have p2 := q9.2.1; have p3 := q9.2.2.1; have p4 := q9.2.2.2; have u0 : ¬ y.toInt = (0 : Int32).toInt := (fun z9 => c1 (Int32.toInt_inj.mp z9)); have v0 : (0 : Int32).toInt = 0 := (by decide +kernel); have u1 : ¬ y.toInt = (1 : Int32).toInt := (fun z9 => c2 (Int32.toInt_inj.mp z9)); have v1 : (1 : Int32).toInt = 1 := (by decide +kernel); omega)])⟩
    · have b3 : kb 1 y 1 := kb_eq c2 kc_1
      refine lv_iload_n hx hb dX1_endOf_34 rfl (lv_at hl 1 rfl) ?_
      refine lv_if_lt (tgt := 61) hx hb dX1_endOf_35 (by decide) (fun c4 => ?_) (fun c4 => ?_)
      · have h5 := (kc_lt c4)
        have b6 : kb (-2147483648) x (-1) := kr_lt1 h5 (kb_any x) kc_0 (by decide)
        refine lv_iconst (v := (-1)) hx hb dX1_endOf_61 (by decide) ?_
        exact kI_ret (v := (-1)) hx hb hr hlocks rfl hK hS dX1_endOf_62 () hP hD ⟨(kb_w kc_m1 (by decide) (by decide)), (by unfold enF; rw [if_neg (fun q9 => by have p1 := congrArg Int32.toInt q9.1; have p2 := q9.2.1; have p3 := q9.2.2.1; have p4 := q9.2.2.2; have u0 : ¬ y.toInt = (0 : Int32).toInt := (fun z9 => c1 (Int32.toInt_inj.mp z9)); have v0 : (0 : Int32).toInt = 0 := (by decide +kernel); have u1 : y.toInt = (1 : Int32).toInt := congrArg Int32.toInt c2; have v1 : (1 : Int32).toInt = 1 := (by decide +kernel); have u2 : x.toInt < (0 : Int32).toInt := (by first | exact kc_lt c4 | exact kc_nle c4); have v2 : (0 : Int32).toInt = 0 := (by decide +kernel); omega), if_neg (fun q9 => by have p1 := congrArg Int32.toInt q9.1; have p2 := q9.2.1; have p3 := q9.2.2.1; have p4 := q9.2.2.2; have u0 : ¬ y.toInt = (0 : Int32).toInt := (fun z9 => c1 (Int32.toInt_inj.mp z9)); have v0 : (0 : Int32).toInt = 0 := (by decide +kernel); have u1 : y.toInt = (1 : Int32).toInt := congrArg Int32.toInt c2; have v1 : (1 : Int32).toInt = 1 := (by decide +kernel); have u2 : x.toInt < (0 : Int32).toInt := (by first | exact kc_lt c4 | exact kc_nle c4); have v2 : (0 : Int32).toInt = 0 := (by decide +kernel); omega)])⟩
      · have h7 := (kc_nlt c4)
        have b8 : kb 0 x 2147483647 := kr_le2 h7 kc_0 (kb_any x)
        refine lv_iload_n hx hb dX1_endOf_38 rfl (lv_at hl 1 rfl) ?_
        refine lv_aload_n hx hb dX1_endOf_39 rfl (lv_at hl 0 rfl) ?_
        refine va_get (D := D) (ci := 1) (v := .int (f 2850)) (C := RX1) (T := TX1) (N := 5) hx hb hg inC1 hown hK hP 89 rfl rfl 2 (by decide) (hg _ wt2_171) (fun _ h9 => h9) rfl dX1_endOf_40 ?_
        refine lv_topi (fun t9 et9 => ?_)
        refine lv_icmp_ge (tgt := 61) hx hb dX1_endOf_43 (by decide) (fun c10 => ?_) (fun c10 => ?_)
        · have h11 := (kc_le c10)
          refine lv_iconst (v := (-1)) hx hb dX1_endOf_61 (by decide) ?_
          exact kI_ret (v := (-1)) hx hb hr hlocks rfl hK hS dX1_endOf_62 () hP hD ⟨(kb_w kc_m1 (by decide) (by decide)), (by unfold enF; rw [if_neg (fun q9 => by have p1 := congrArg Int32.toInt q9.1; have p2 := q9.2.1; have p3 := q9.2.2.1; have p4 := q9.2.2.2; have rt9 := congrArg Int32.toInt et9; have u0 : ¬ y.toInt = (0 : Int32).toInt := (fun z9 => c1 (Int32.toInt_inj.mp z9)); have v0 : (0 : Int32).toInt = 0 := (by decide +kernel); have u1 : y.toInt = (1 : Int32).toInt := congrArg Int32.toInt c2; have v1 : (1 : Int32).toInt = 1 := (by decide +kernel); have u2 : (0 : Int32).toInt ≤ x.toInt := (by first | exact kc_le c4 | exact kc_nlt c4); have v2 : (0 : Int32).toInt = 0 := (by decide +kernel); have u3 : t9.toInt ≤ x.toInt := (by first | exact kc_le c10 | exact kc_nlt c10); omega), if_neg (fun q9 => by have p1 := congrArg Int32.toInt q9.1; have p2 := q9.2.1; have p3 := q9.2.2.1; have p4 := q9.2.2.2; have rt9 := congrArg Int32.toInt et9; have u0 : ¬ y.toInt = (0 : Int32).toInt := (fun z9 => c1 (Int32.toInt_inj.mp z9)); have v0 : (0 : Int32).toInt = 0 := (by decide +kernel); have u1 : y.toInt = (1 : Int32).toInt := congrArg Int32.toInt c2; have v1 : (1 : Int32).toInt = 1 := (by decide +kernel); have u2 : (0 : Int32).toInt ≤ x.toInt := (by first | exact kc_le c4 | exact kc_nlt c4); have v2 : (0 : Int32).toInt = 0 := (by decide +kernel); have u3 : t9.toInt ≤ x.toInt := (by first | exact kc_le c10 | exact kc_nlt c10); omega)])⟩
        · have h12 := (kc_nle c10)
          have b13 : kb 0 x 2147483646 := kr_lt1 h12 b8 (kb_any t9) (by decide)
          have b14 : kb 1 t9 2147483647 := kr_lt2 h12 b8 (kb_any t9) (by decide)
          refine lv_iload_n hx hb dX1_endOf_46 rfl (lv_at hl 1 rfl) ?_
          refine lv_bipush (v := 6) hx hb dX1_endOf_47 (by decide) ?_
          refine lv_icmp_ge (tgt := 61) hx hb dX1_endOf_49 (by decide) (fun c15 => ?_) (fun c15 => ?_)
          · have h16 := (kc_le c15)
            have b17 : kb 6 x 2147483646 := kr_le2 h16 kc_6 b13
            refine lv_iconst (v := (-1)) hx hb dX1_endOf_61 (by decide) ?_
            exact kI_ret (v := (-1)) hx hb hr hlocks rfl hK hS dX1_endOf_62 () hP hD ⟨(kb_w kc_m1 (by decide) (by decide)), (by unfold enF; rw [if_neg (fun q9 => by have p1 := congrArg Int32.toInt q9.1; have p2 := q9.2.1; have p3 := q9.2.2.1; have p4 := q9.2.2.2; have rt9 := congrArg Int32.toInt et9; have u0 : ¬ y.toInt = (0 : Int32).toInt := (fun z9 => c1 (Int32.toInt_inj.mp z9)); have v0 : (0 : Int32).toInt = 0 := (by decide +kernel); have u1 : y.toInt = (1 : Int32).toInt := congrArg Int32.toInt c2; have v1 : (1 : Int32).toInt = 1 := (by decide +kernel); have u2 : (0 : Int32).toInt ≤ x.toInt := (by first | exact kc_le c4 | exact kc_nlt c4); have v2 : (0 : Int32).toInt = 0 := (by decide +kernel); have u3 : x.toInt < t9.toInt := (by first | exact kc_lt c10 | exact kc_nle c10); have u4 : (6 : Int32).toInt ≤ x.toInt := (by first | exact kc_le c15 | exact kc_nlt c15); have v4 : (6 : Int32).toInt = 6 := (by decide +kernel); omega), if_neg (fun q9 => by have p1 := congrArg Int32.toInt q9.1; have p2 := q9.2.1; have p3 := q9.2.2.1; have p4 := q9.2.2.2; have rt9 := congrArg Int32.toInt et9; have u0 : ¬ y.toInt = (0 : Int32).toInt := (fun z9 => c1 (Int32.toInt_inj.mp z9)); have v0 : (0 : Int32).toInt = 0 := (by decide +kernel); have u1 : y.toInt = (1 : Int32).toInt := congrArg Int32.toInt c2; have v1 : (1 : Int32).toInt = 1 := (by decide +kernel); have u2 : (0 : Int32).toInt ≤ x.toInt := (by first | exact kc_le c4 | exact kc_nlt c4); have v2 : (0 : Int32).toInt = 0 := (by decide +kernel); have u3 : x.toInt < t9.toInt := (by first | exact kc_lt c10 | exact kc_nle c10); have u4 : (6 : Int32).toInt ≤ x.toInt := (by first | exact kc_le c15 | exact kc_nlt c15); have v4 : (6 : Int32).toInt = 6 := (by decide +kernel); omega)])⟩
          · have h18 := (kc_nle c15)
            have b19 : kb 0 x 5 := kr_lt1 h18 b13 kc_6 (by decide)
            refine lv_aload_n hx hb dX1_endOf_52 rfl (lv_at hl 0 rfl) ?_
            refine va_get (D := D) (ci := 1) (v := .ref (r 91)) (C := RX1) (T := TX1) (N := 5) hx hb hg inC1 hown hK hP 89 rfl rfl 4 (by decide) (hg _ wt2_173) (fun _ h9 => h9) rfl dX1_endOf_53 ?_
            refine lv_iload_n hx hb dX1_endOf_56 rfl (lv_at hl 1 rfl) ?_
            refine va_iald hx hb hK hP 91 0 rfl rfl (kb_in b19 (by decide) (by decide)) dX1_endOf_57 ?_
            refine lv_topi (fun t20 et20 => ?_)
            refine lv_goto (tgt := 62) hx hb dX1_endOf_58 (by decide) ?_
            exact kI_ret (v := t20) hx hb hr hlocks rfl hK hS dX1_endOf_62 () hP hD ⟨(kb_any t20), (by unfold enF; rw [if_neg (fun q9 => by have p1 := congrArg Int32.toInt q9.1; have p2 := q9.2.1; have p3 := q9.2.2.1; have p4 := q9.2.2.2; have rt9 := congrArg Int32.toInt et9; have u0 : ¬ y.toInt = (0 : Int32).toInt := (fun z9 => c1 (Int32.toInt_inj.mp z9)); have v0 : (0 : Int32).toInt = 0 := (by decide +kernel); have u1 : y.toInt = (1 : Int32).toInt := congrArg Int32.toInt c2; have v1 : (1 : Int32).toInt = 1 := (by decide +kernel); have u2 : (0 : Int32).toInt ≤ x.toInt := (by first | exact kc_le c4 | exact kc_nlt c4); have v2 : (0 : Int32).toInt = 0 := (by decide +kernel); have u3 : x.toInt < t9.toInt := (by first | exact kc_lt c10 | exact kc_nle c10); have u4 : x.toInt < (6 : Int32).toInt := (by first | exact kc_lt c15 | exact kc_nle c15); have v4 : (6 : Int32).toInt = 6 := (by decide +kernel); omega), if_pos ⟨c2, (by have z0 : (0 : Int32).toInt = 0 := (by decide +kernel); have z1 : (1 : Int32).toInt = 1 := (by decide +kernel); have u0 : ¬ y.toInt = (0 : Int32).toInt := (fun z9 => c1 (Int32.toInt_inj.mp z9)); have v0 : (0 : Int32).toInt = 0 := (by decide +kernel); have u1 : y.toInt = (1 : Int32).toInt := congrArg Int32.toInt c2; have v1 : (1 : Int32).toInt = 1 := (by decide +kernel); have u2 : (0 : Int32).toInt ≤ x.toInt := (by first | exact kc_le c4 | exact kc_nlt c4); have v2 : (0 : Int32).toInt = 0 := (by decide +kernel); have u3 : x.toInt < t9.toInt := (by first | exact kc_lt c10 | exact kc_nle c10); have u4 : x.toInt < (6 : Int32).toInt := (by first | exact kc_lt c15 | exact kc_nle c15); have v4 : (6 : Int32).toInt = 6 := (by decide +kernel); omega), (by have rt9 := congrArg Int32.toInt et9; have z0 : (0 : Int32).toInt = 0 := (by decide +kernel); have z1 : (1 : Int32).toInt = 1 := (by decide +kernel); have u0 : ¬ y.toInt = (0 : Int32).toInt := (fun z9 => c1 (Int32.toInt_inj.mp z9)); have v0 : (0 : Int32).toInt = 0 := (by decide +kernel); have u1 : y.toInt = (1 : Int32).toInt := congrArg Int32.toInt c2; have v1 : (1 : Int32).toInt = 1 := (by decide +kernel); have u2 : (0 : Int32).toInt ≤ x.toInt := (by first | exact kc_le c4 | exact kc_nlt c4); have v2 : (0 : Int32).toInt = 0 := (by decide +kernel); have u3 : x.toInt < t9.toInt := (by first | exact kc_lt c10 | exact kc_nle c10); have u4 : x.toInt < (6 : Int32).toInt := (by first | exact kc_lt c15 | exact kc_nle c15); have v4 : (6 : Int32).toInt = 6 := (by decide +kernel); omega), (by have u0 : ¬ y.toInt = (0 : Int32).toInt := (fun z9 => c1 (Int32.toInt_inj.mp z9)); have v0 : (0 : Int32).toInt = 0 := (by decide +kernel); have u1 : y.toInt = (1 : Int32).toInt := congrArg Int32.toInt c2; have v1 : (1 : Int32).toInt = 1 := (by decide +kernel); have u2 : (0 : Int32).toInt ≤ x.toInt := (by first | exact kc_le c4 | exact kc_nlt c4); have v2 : (0 : Int32).toInt = 0 := (by decide +kernel); have u3 : x.toInt < t9.toInt := (by first | exact kc_lt c10 | exact kc_nle c10); have u4 : x.toInt < (6 : Int32).toInt := (by first | exact kc_lt c15 | exact kc_nle c15); have v4 : (6 : Int32).toInt = 6 := (by decide +kernel); omega)⟩]; exact et20)⟩
  · have b21 : kb 0 y 0 := kb_eq c1 kc_0
    refine lv_iload_n hx hb dX1_endOf_4 rfl (lv_at hl 1 rfl) ?_
    refine lv_if_lt (tgt := 29) hx hb dX1_endOf_5 (by decide) (fun c22 => ?_) (fun c22 => ?_)
    · have h23 := (kc_lt c22)
      have b24 : kb (-2147483648) x (-1) := kr_lt1 h23 (kb_any x) kc_0 (by decide)
      refine lv_iload_n hx hb dX1_endOf_29 rfl (lv_at hl 2 rfl) ?_
      refine lv_iconst (v := 1) hx hb dX1_endOf_30 (by decide) ?_
      refine lv_icmp_ne (tgt := 61) hx hb dX1_endOf_31 (by decide) (fun c25 => ?_) (fun c25 => ?_)
      · refine lv_iconst (v := (-1)) hx hb dX1_endOf_61 (by decide) ?_
        exact kI_ret (v := (-1)) hx hb hr hlocks rfl hK hS dX1_endOf_62 () hP hD ⟨(kb_w kc_m1 (by decide) (by decide)), (by unfold enF; rw [if_neg (fun q9 => by have p1 := congrArg Int32.toInt q9.1; have p2 := q9.2.1; have p3 := q9.2.2.1; have p4 := q9.2.2.2; have u0 : y.toInt = (0 : Int32).toInt := congrArg Int32.toInt c1; have v0 : (0 : Int32).toInt = 0 := (by decide +kernel); have u1 : x.toInt < (0 : Int32).toInt := (by first | exact kc_lt c22 | exact kc_nle c22); have v1 : (0 : Int32).toInt = 0 := (by decide +kernel); have u2 : ¬ y.toInt = (1 : Int32).toInt := (fun z9 => c25 (Int32.toInt_inj.mp z9)); have v2 : (1 : Int32).toInt = 1 := (by decide +kernel); omega), if_neg (fun q9 => by have p1 := congrArg Int32.toInt q9.1; have p2 := q9.2.1; have p3 := q9.2.2.1; have p4 := q9.2.2.2; have u0 : y.toInt = (0 : Int32).toInt := congrArg Int32.toInt c1; have v0 : (0 : Int32).toInt = 0 := (by decide +kernel); have u1 : x.toInt < (0 : Int32).toInt := (by first | exact kc_lt c22 | exact kc_nle c22); have v1 : (0 : Int32).toInt = 0 := (by decide +kernel); have u2 : ¬ y.toInt = (1 : Int32).toInt := (fun z9 => c25 (Int32.toInt_inj.mp z9)); have v2 : (1 : Int32).toInt = 1 := (by decide +kernel); omega)])⟩
      · exact kb_dj c25 b21 kc_1 (by decide)
    · have h26 := (kc_nlt c22)
      have b27 : kb 0 x 2147483647 := kr_le2 h26 kc_0 (kb_any x)
      refine lv_iload_n hx hb dX1_endOf_8 rfl (lv_at hl 1 rfl) ?_
      refine lv_aload_n hx hb dX1_endOf_9 rfl (lv_at hl 0 rfl) ?_
      refine va_get (D := D) (ci := 1) (v := .int (f 2849)) (C := RX1) (T := TX1) (N := 5) hx hb hg inC1 hown hK hP 89 rfl rfl 1 (by decide) (hg _ wt2_170) (fun _ h9 => h9) rfl dX1_endOf_10 ?_
      refine lv_topi (fun t28 et28 => ?_)
      refine lv_icmp_ge (tgt := 29) hx hb dX1_endOf_13 (by decide) (fun c29 => ?_) (fun c29 => ?_)
      · have h30 := (kc_le c29)
        refine lv_iload_n hx hb dX1_endOf_29 rfl (lv_at hl 2 rfl) ?_
        refine lv_iconst (v := 1) hx hb dX1_endOf_30 (by decide) ?_
        refine lv_icmp_ne (tgt := 61) hx hb dX1_endOf_31 (by decide) (fun c31 => ?_) (fun c31 => ?_)
        · refine lv_iconst (v := (-1)) hx hb dX1_endOf_61 (by decide) ?_
          exact kI_ret (v := (-1)) hx hb hr hlocks rfl hK hS dX1_endOf_62 () hP hD ⟨(kb_w kc_m1 (by decide) (by decide)), (by unfold enF; rw [if_neg (fun q9 => by have p1 := congrArg Int32.toInt q9.1; have p2 := q9.2.1; have p3 := q9.2.2.1; have p4 := q9.2.2.2; have rt28 := congrArg Int32.toInt et28; have u0 : y.toInt = (0 : Int32).toInt := congrArg Int32.toInt c1; have v0 : (0 : Int32).toInt = 0 := (by decide +kernel); have u1 : (0 : Int32).toInt ≤ x.toInt := (by first | exact kc_le c22 | exact kc_nlt c22); have v1 : (0 : Int32).toInt = 0 := (by decide +kernel); have u2 : t28.toInt ≤ x.toInt := (by first | exact kc_le c29 | exact kc_nlt c29); have u3 : ¬ y.toInt = (1 : Int32).toInt := (fun z9 => c31 (Int32.toInt_inj.mp z9)); have v3 : (1 : Int32).toInt = 1 := (by decide +kernel); omega), if_neg (fun q9 => by have p1 := congrArg Int32.toInt q9.1; have p2 := q9.2.1; have p3 := q9.2.2.1; have p4 := q9.2.2.2; have rt28 := congrArg Int32.toInt et28; have u0 : y.toInt = (0 : Int32).toInt := congrArg Int32.toInt c1; have v0 : (0 : Int32).toInt = 0 := (by decide +kernel); have u1 : (0 : Int32).toInt ≤ x.toInt := (by first | exact kc_le c22 | exact kc_nlt c22); have v1 : (0 : Int32).toInt = 0 := (by decide +kernel); have u2 : t28.toInt ≤ x.toInt := (by first | exact kc_le c29 | exact kc_nlt c29); have u3 : ¬ y.toInt = (1 : Int32).toInt := (fun z9 => c31 (Int32.toInt_inj.mp z9)); have v3 : (1 : Int32).toInt = 1 := (by decide +kernel); omega)])⟩
        · exact kb_dj c31 b21 kc_1 (by decide)
      · have h32 := (kc_nle c29)
        have b33 : kb 0 x 2147483646 := kr_lt1 h32 b27 (kb_any t28) (by decide)
        have b34 : kb 1 t28 2147483647 := kr_lt2 h32 b27 (kb_any t28) (by decide)
        refine lv_iload_n hx hb dX1_endOf_16 rfl (lv_at hl 1 rfl) ?_
        refine lv_bipush (v := 10) hx hb dX1_endOf_17 (by decide) ?_
        refine lv_icmp_ge (tgt := 29) hx hb dX1_endOf_19 (by decide) (fun c35 => ?_) (fun c35 => ?_)
        · have h36 := (kc_le c35)
          have b37 : kb 10 x 2147483646 := kr_le2 h36 kc_10 b33
          refine lv_iload_n hx hb dX1_endOf_29 rfl (lv_at hl 2 rfl) ?_
          refine lv_iconst (v := 1) hx hb dX1_endOf_30 (by decide) ?_
          refine lv_icmp_ne (tgt := 61) hx hb dX1_endOf_31 (by decide) (fun c38 => ?_) (fun c38 => ?_)
          · refine lv_iconst (v := (-1)) hx hb dX1_endOf_61 (by decide) ?_
            exact kI_ret (v := (-1)) hx hb hr hlocks rfl hK hS dX1_endOf_62 () hP hD ⟨(kb_w kc_m1 (by decide) (by decide)), (by unfold enF; rw [if_neg (fun q9 => by have p1 := congrArg Int32.toInt q9.1; have p2 := q9.2.1; have p3 := q9.2.2.1; have p4 := q9.2.2.2; have rt28 := congrArg Int32.toInt et28; have u0 : y.toInt = (0 : Int32).toInt := congrArg Int32.toInt c1; have v0 : (0 : Int32).toInt = 0 := (by decide +kernel); have u1 : (0 : Int32).toInt ≤ x.toInt := (by first | exact kc_le c22 | exact kc_nlt c22); have v1 : (0 : Int32).toInt = 0 := (by decide +kernel); have u2 : x.toInt < t28.toInt := (by first | exact kc_lt c29 | exact kc_nle c29); have u3 : (10 : Int32).toInt ≤ x.toInt := (by first | exact kc_le c35 | exact kc_nlt c35); have v3 : (10 : Int32).toInt = 10 := (by decide +kernel); have u4 : ¬ y.toInt = (1 : Int32).toInt := (fun z9 => c38 (Int32.toInt_inj.mp z9)); have v4 : (1 : Int32).toInt = 1 := (by decide +kernel); omega), if_neg (fun q9 => by have p1 := congrArg Int32.toInt q9.1; have p2 := q9.2.1; have p3 := q9.2.2.1; have p4 := q9.2.2.2; have rt28 := congrArg Int32.toInt et28; have u0 : y.toInt = (0 : Int32).toInt := congrArg Int32.toInt c1; have v0 : (0 : Int32).toInt = 0 := (by decide +kernel); have u1 : (0 : Int32).toInt ≤ x.toInt := (by first | exact kc_le c22 | exact kc_nlt c22); have v1 : (0 : Int32).toInt = 0 := (by decide +kernel); have u2 : x.toInt < t28.toInt := (by first | exact kc_lt c29 | exact kc_nle c29); have u3 : (10 : Int32).toInt ≤ x.toInt := (by first | exact kc_le c35 | exact kc_nlt c35); have v3 : (10 : Int32).toInt = 10 := (by decide +kernel); have u4 : ¬ y.toInt = (1 : Int32).toInt := (fun z9 => c38 (Int32.toInt_inj.mp z9)); have v4 : (1 : Int32).toInt = 1 := (by decide +kernel); omega)])⟩
          · exact kb_dj c38 b21 kc_1 (by decide)
        · have h39 := (kc_nle c35)
          have b40 : kb 0 x 9 := kr_lt1 h39 b33 kc_10 (by decide)
          refine lv_aload_n hx hb dX1_endOf_22 rfl (lv_at hl 0 rfl) ?_
          refine va_get (D := D) (ci := 1) (v := .ref (r 90)) (C := RX1) (T := TX1) (N := 5) hx hb hg inC1 hown hK hP 89 rfl rfl 3 (by decide) (hg _ wt2_172) (fun _ h9 => h9) rfl dX1_endOf_23 ?_
          refine lv_iload_n hx hb dX1_endOf_26 rfl (lv_at hl 1 rfl) ?_
          refine va_iald hx hb hK hP 90 0 rfl rfl (kb_in b40 (by decide) (by decide)) dX1_endOf_27 ?_
          refine lv_topi (fun t41 et41 => ?_)
          exact kI_ret (v := t41) hx hb hr hlocks rfl hK hS dX1_endOf_28 () hP hD ⟨(kb_any t41), (by unfold enF; rw [if_pos ⟨c1, (by have z0 : (0 : Int32).toInt = 0 := (by decide +kernel); have z1 : (1 : Int32).toInt = 1 := (by decide +kernel); have u0 : y.toInt = (0 : Int32).toInt := congrArg Int32.toInt c1; have v0 : (0 : Int32).toInt = 0 := (by decide +kernel); have u1 : (0 : Int32).toInt ≤ x.toInt := (by first | exact kc_le c22 | exact kc_nlt c22); have v1 : (0 : Int32).toInt = 0 := (by decide +kernel); have u2 : x.toInt < t28.toInt := (by first | exact kc_lt c29 | exact kc_nle c29); have u3 : x.toInt < (10 : Int32).toInt := (by first | exact kc_lt c35 | exact kc_nle c35); have v3 : (10 : Int32).toInt = 10 := (by decide +kernel); omega), (by have rt28 := congrArg Int32.toInt et28; have z0 : (0 : Int32).toInt = 0 := (by decide +kernel); have z1 : (1 : Int32).toInt = 1 := (by decide +kernel); have u0 : y.toInt = (0 : Int32).toInt := congrArg Int32.toInt c1; have v0 : (0 : Int32).toInt = 0 := (by decide +kernel); have u1 : (0 : Int32).toInt ≤ x.toInt := (by first | exact kc_le c22 | exact kc_nlt c22); have v1 : (0 : Int32).toInt = 0 := (by decide +kernel); have u2 : x.toInt < t28.toInt := (by first | exact kc_lt c29 | exact kc_nle c29); have u3 : x.toInt < (10 : Int32).toInt := (by first | exact kc_lt c35 | exact kc_nle c35); have v3 : (10 : Int32).toInt = 10 := (by decide +kernel); omega), (by have u0 : y.toInt = (0 : Int32).toInt := congrArg Int32.toInt c1; have v0 : (0 : Int32).toInt = 0 := (by decide +kernel); have u1 : (0 : Int32).toInt ≤ x.toInt := (by first | exact kc_le c22 | exact kc_nlt c22); have v1 : (0 : Int32).toInt = 0 := (by decide +kernel); have u2 : x.toInt < t28.toInt := (by first | exact kc_lt c29 | exact kc_nle c29); have u3 : x.toInt < (10 : Int32).toInt := (by first | exact kc_lt c35 | exact kc_nle c35); have v3 : (10 : Int32).toInt = 10 := (by decide +kernel); omega)⟩]; exact et41)⟩
set_option maxHeartbeats 4000000 in
set_option maxRecDepth 100000 in
theorem z_drawn  (l : Launch) {D : va_G} {K : Nat → ClassId} (r : Nat → Nat) (f : Nat → Int32) (a : Nat → Nat → Int32) (g : xG) (tx tt : va_W) (hT : ∀ c ∈ tt, c ∈ tx) (hI : xI f a) (hG : gOK K g.2 tt) (x : Int32) (y : Int32)    : kIG l yX11_drawn (Cond.code yX11_drawn cX11_drawn 3 (some .int) :: kG) (rmD 2 0 0) D K [.ref (r 0), .int x, .int y] (xX K r f a g tx) (fun v (_ : Unit) => kb (-2147483648) v 2147483647 ∧ v = enF (f 2849) (f 2850) (a 90) (a 91) x y) (fun _ => xX K r f a g tx) 0 0 := by
  refine kIE.of (cc := cX11_drawn) (maxL := 3) (ret := (some .int)) (by decide) rfl (Nat.le_of_ble_eq_true rfl) ?_
  intro p e s m below meth c A hx hb hr hml hown hts hlocks hnm hK hP hD hS hA hV ls hl
  have hg : ∀ w ∈ kG, w.before _ s = true := fun w h => hts w (List.mem_cons_of_mem _ h)
  have hown : s.vm.findClass RX11 = some m.cls := hown
  have hl : lv_has ls 3 [(0, .ref (r 0)), (1, .int x), (2, .int y)] := hl
  refine lv_aload_n hx hb dX11_drawn_0 rfl (lv_at hl 0 rfl) ?_
  refine va_get (D := D) (ci := 11) (v := .ref (r 89)) (C := RX11) (T := TX11) (N := 17) hx hb hg inC11 hown hK hP 0 rfl rfl 8 (by decide) (hg _ wt2_194) (fun _ h9 => h9) rfl dX11_drawn_1 ?_
  refine lv_iload_n hx hb dX11_drawn_4 rfl (lv_at hl 1 rfl) ?_
  refine lv_iload_n hx hb dX11_drawn_5 rfl (lv_at hl 2 rfl) ?_
  refine kIG.callW (As := [.int x, .int y]) (rest := []) ⟨hx, hb, hml, hown, hg⟩ (z_endOf l r f a g tx tt hT hI hG x y  ) (cwV 2 hg (kgV wt5_133 wt5_134 wt5_135 wt1_13 wt5_136) rfl rfl rfl (by decide +kernel) ⟨by decide, by decide⟩) hV hK hP hD hS hA (89) 1 rfl rfl rfl hl.1 rfl (Nat.le_of_ble_eq_true rfl) dX11_drawn_6 ⟨Nat.le_refl _, Nat.le_refl _⟩ (fun v2 u3 H locs hw1 hP hD hS => ?_)
  have hP : va_P D vwCl (xX K r f a g tx) H := hP
  have hD : va_D A (xX K r f a g tx) := hD
  exact kI_ret (v := v2) hx hb hr hlocks rfl hK hS dX11_drawn_9 () hP hD ⟨(kb_any v2), hw1.2⟩
set_option maxHeartbeats 4000000 in
set_option maxRecDepth 100000 in
theorem z_teach  (l : Launch) {D : va_G} {K : Nat → ClassId} (r : Nat → Nat) (f : Nat → Int32) (a : Nat → Nat → Int32) (g : xG) (tx tt : va_W) (hT : ∀ c ∈ tt, c ∈ tx) (hI : xI f a) (hG : gOK K g.2 tt) (x : Int32) (y : Int32)    : kVG l yX3_teach (Cond.code yX3_teach cX3_teach 3 none :: kG) (rmD 1 0 0) D K [.ref (r 58), .int x, .int y] (xX K r f a g tx) (fun (u : xS) => xI u.1 u.2.1 ∧ gOK K u.2.2.2 tt ∧ xEk ([1858, 1859], [], []) f a g u.1 u.2.1 u.2.2 ∧ u.1 1858 = x) (fun u => xX K r u.1 u.2.1 u.2.2 tx) 0 0 := by
  refine kVG.of (cc := cX3_teach) (maxL := 3) (ret := none) (by decide) rfl (Nat.le_of_ble_eq_true rfl) ?_
  intro p e s m below meth c A hx hb hr hml hown hts hlocks hnm hK hP hD hS hA hV ls hl
  have hE : xEk ([1858, 1859], [], []) f a g f a g := xEk_rf
  have hg : ∀ w ∈ kG, w.before _ s = true := fun w h => hts w (List.mem_cons_of_mem _ h)
  have hown : s.vm.findClass RX3 = some m.cls := hown
  have hl : lv_has ls 3 [(0, .ref (r 58)), (1, .int x), (2, .int y)] := hl
  refine lv_aload_n hx hb dX3_teach_0 rfl (lv_at hl 0 rfl) ?_
  refine lv_iload_n hx hb dX3_teach_1 rfl (lv_at hl 1 rfl) ?_
  refine va_put (D := D) (ci := 3) (v := .int x) (ty := .int) (C := RX3) (T := TX3) (N := 4) hx hb hg inC3 tyX3 tyX3_ok nmX3 hown hK hP hD hS 58 rfl rfl 2 (by decide) (hg _ wt2_98) (fun _ h9 => h9) rfl (by decide +kernel) rfl rfl (Nat.le_of_ble_eq_true rfl) dX3_teach_2 (fun H locs hP hD hS => ?_)
  have hP : va_P D vwCl (xX K r (upd f 1858 x) a g tx) H := hP
  have hD : va_D A (xX K r (upd f 1858 x) a g tx) := hD
  refine k_gen (P := fun z => va_P D vwCl (xX K r z a g tx) H ∧ va_D A (xX K r z a g tx) ∧ (xI z a) ∧ (gOK K g.2 tt) ∧ (xEk ([1858, 1859], [], []) f a g z a g)) (upd f 1858 x) ⟨hP, hD, (xI_f hI (fI_st hI.1 1858 (kb_any _) (by decide) (by decide))), hG, (xEk_f hE rfl)⟩ (fun f_1 ef_1 hq => ?_)
  obtain ⟨hP, hD, hI, hG, hE⟩ := hq
  refine lv_aload_n hx hb dX3_teach_5 rfl (lv_at hl 0 rfl) ?_
  refine lv_iconst (v := 1) hx hb dX3_teach_6 (by decide) ?_
  refine lv_iload_n hx hb dX3_teach_7 rfl (lv_at hl 2 rfl) ?_
  refine lv_ishl hx hb dX3_teach_8 ?_
  refine lv_topi (fun t2 et2 => ?_)
  refine va_put (D := D) (ci := 3) (v := .int t2) (ty := .int) (C := RX3) (T := TX3) (N := 4) hx hb hg inC3 tyX3 tyX3_ok nmX3 hown hK hP hD hS 58 rfl rfl 3 (by decide) (hg _ wt2_99) (fun _ h9 => h9) rfl (by decide +kernel) rfl rfl (Nat.le_of_ble_eq_true rfl) dX3_teach_9 (fun H locs hP hD hS => ?_)
  have hP : va_P D vwCl (xX K r (upd f_1 1859 t2) a g tx) H := hP
  have hD : va_D A (xX K r (upd f_1 1859 t2) a g tx) := hD
  refine k_gen (P := fun z => va_P D vwCl (xX K r z a g tx) H ∧ va_D A (xX K r z a g tx) ∧ (xI z a) ∧ (gOK K g.2 tt) ∧ (xEk ([1858, 1859], [], []) f a g z a g)) (upd f_1 1859 t2) ⟨hP, hD, (xI_f hI (fI_st hI.1 1859 (kb_any _) (by decide) (by decide))), hG, (xEk_f hE rfl)⟩ (fun f_3 ef_3 hq => ?_)
  obtain ⟨hP, hD, hI, hG, hE⟩ := hq
  exact kV_ret hx hb hr hlocks hK hS dX3_teach_12 (f_3, a, g) hP hD ⟨hI, hG, hE, ((show f_3 1858 = f_1 1858 from by rw [← ef_3]; rfl).trans (show f_1 1858 = x from by rw [← ef_1]; rfl))⟩
set_option maxHeartbeats 4000000 in
set_option maxRecDepth 100000 in
theorem z_ticksWith  (l : Launch) {D : va_G} {K : Nat → ClassId} (r : Nat → Nat) (f : Nat → Int32) (a : Nat → Nat → Int32) (g : xG) (tx tt : va_W) (hT : ∀ c ∈ tt, c ∈ tx) (hI : xI f a) (hG : gOK K g.2 tt) (bd : Int32) (cr : Int32) (li : Int32)    : kIG l yX9_ticksWith (Cond.code yX9_ticksWith cX9_ticksWith 5 (some .int) :: kG) (rmD 6 0 0) D K [.ref (r 80), .int bd, .int cr, .int li] (xX K r f a g tx) (fun v (u : xS) => kb (-2147483648) v 2147483647 ∧ xI u.1 u.2.1 ∧ gOK K u.2.2.2 tt ∧ xEk ([1858, 1859, 1888, 1894, 1900, 1905, 1906], [60, 61, 62, 63, 64, 65, 66, 67, 68, 69, 70, 71, 72, 77, 78, 79, 82], [73]) f a g u.1 u.2.1 u.2.2 ∧ u.1 1858 = -1) (fun u => xX K r u.1 u.2.1 u.2.2 tx) 0 0 := by
  refine kIE.of (cc := cX9_ticksWith) (maxL := 5) (ret := (some .int)) (by decide) rfl (Nat.le_of_ble_eq_true rfl) ?_
  intro p e s m below meth c A hx hb hr hml hown hts hlocks hnm hK hP hD hS hA hV ls hl
  have hE : xEk ([1858, 1859, 1888, 1894, 1900, 1905, 1906], [60, 61, 62, 63, 64, 65, 66, 67, 68, 69, 70, 71, 72, 77, 78, 79, 82], [73]) f a g f a g := xEk_rf
  have hg : ∀ w ∈ kG, w.before _ s = true := fun w h => hts w (List.mem_cons_of_mem _ h)
  have hown : s.vm.findClass RX9 = some m.cls := hown
  have hl : lv_has ls 5 [(0, .ref (r 80)), (1, .int bd), (2, .int cr), (3, .int li)] := hl
  refine lv_aload_n hx hb dX9_ticksWith_0 rfl (lv_at hl 0 rfl) ?_
  refine va_get (D := D) (ci := 9) (v := .ref (r 58)) (C := RX9) (T := TX9) (N := 10) hx hb hg inC9 hown hK hP 80 rfl rfl 1 (by decide) (hg _ wt2_116) (fun _ h9 => h9) rfl dX9_ticksWith_1 ?_
  refine lv_iload_n hx hb dX9_ticksWith_4 rfl (lv_at hl 1 rfl) ?_
  refine lv_iload_n hx hb dX9_ticksWith_5 rfl (lv_at hl 2 rfl) ?_
  refine kVG.callW (As := [.int bd, .int cr]) (rest := []) ⟨hx, hb, hml, hown, hg⟩ (z_teach l r f a g tx tt hT hI hG bd cr  ) (cwV 2 hg (kgV wt5_56 wt5_57 wt5_58 wt1_10 wt5_59) rfl rfl rfl (by decide +kernel) ⟨by decide, by decide⟩) hV hK hP hD hS hA (58) 3 rfl rfl rfl hl.1 rfl (Nat.le_of_ble_eq_true rfl) dX9_ticksWith_6 ⟨Nat.le_refl _, Nat.le_refl _⟩ (fun u3 H locs hw1 hP hD hS => ?_)
  obtain ⟨f4, a5, g6⟩ := u3
  have hP : va_P D vwCl (xX K r f4 a5 g6 tx) H := hP
  have hD : va_D A (xX K r f4 a5 g6 tx) := hD
  have hI : xI f4 a5 := hw1.1
  have hG : gOK K g6.2 tt := hw1.2.1
  have eE7 : xEk ([1858, 1859], [], []) f a g f4 a5 g6 := hw1.2.2.1
  have hE : xEk ([1858, 1859, 1888, 1894, 1900, 1905, 1906], [60, 61, 62, 63, 64, 65, 66, 67, 68, 69, 70, 71, 72, 77, 78, 79, 82], [73]) f a g f4 a5 g6 := xEk_tr hE (xEk_w (by decide +kernel) eE7)
  refine lv_aload_n hx hb dX9_ticksWith_9 rfl (lv_at hl 0 rfl) ?_
  refine va_get (D := D) (ci := 9) (v := .ref (r 82)) (C := RX9) (T := TX9) (N := 10) hx hb hg inC9 hown hK hP 80 rfl rfl 3 (by decide) (hg _ wt2_118) (fun _ h9 => h9) rfl dX9_ticksWith_10 ?_
  refine lv_iconst (v := 0) hx hb dX9_ticksWith_13 (by decide) ?_
  refine lv_bipush (v := (-2)) hx hb dX9_ticksWith_14 (by decide) ?_
  refine va_iast hx hb hK hP hD hS 82 0 rfl rfl (kb_in kc_0 (by decide) (by decide)) dX9_ticksWith_16 (fun H locs hP hD hS => ?_)
  rw [cl_0] at hP hD
  have hP : va_P D vwCl (xX K r f4 (va_up a5 82 (upd (a5 82) 0 (-2))) g6 tx) H := hP
  have hD : va_D A (xX K r f4 (va_up a5 82 (upd (a5 82) 0 (-2))) g6 tx) := hD
  refine k_gen (P := fun z => va_P D vwCl (xX K r f4 z g6 tx) H ∧ va_D A (xX K r f4 z g6 tx) ∧ (xI f4 z) ∧ (gOK K g6.2 tt) ∧ (xEk ([1858, 1859, 1888, 1894, 1900, 1905, 1906], [60, 61, 62, 63, 64, 65, 66, 67, 68, 69, 70, 71, 72, 77, 78, 79, 82], [73]) f a g f4 z g6)) (va_up a5 82 (upd (a5 82) 0 (-2))) ⟨hP, hD, (xI_a hI (by decide)), hG, (xEk_a hE rfl)⟩ (fun a_8 ea_8 hq => ?_)
  obtain ⟨hP, hD, hI, hG, hE⟩ := hq
  refine lv_aload_n hx hb dX9_ticksWith_17 rfl (lv_at hl 0 rfl) ?_
  refine va_get (D := D) (ci := 9) (v := .ref (r 58)) (C := RX9) (T := TX9) (N := 10) hx hb hg inC9 hown hK hP 80 rfl rfl 1 (by decide) (hg _ wt2_116) (fun _ h9 => h9) rfl dX9_ticksWith_18 ?_
  refine lv_bipush (v := 63) hx hb dX9_ticksWith_21 (by decide) ?_
  refine lv_iload_n hx hb dX9_ticksWith_23 rfl (lv_at hl 3 rfl) ?_
  refine lv_aload_n hx hb dX9_ticksWith_24 rfl (lv_at hl 0 rfl) ?_
  refine va_get (D := D) (ci := 9) (v := .ref (r 82)) (C := RX9) (T := TX9) (N := 10) hx hb hg inC9 hown hK hP 80 rfl rfl 3 (by decide) (hg _ wt2_118) (fun _ h9 => h9) rfl dX9_ticksWith_25 ?_
  refine lv_iconst (v := 0) hx hb dX9_ticksWith_28 (by decide) ?_
  refine kIG.callW (As := [.int 63, .int li, .ref (r 82), .int 0]) (rest := []) ⟨hx, hb, hml, hown, hg⟩ (x_3_runL l r f4 a_8 g6 tx tt hT hI hG 63 li 0 kc_0 ) (cwV 4 hg (kgV wt4_232 wt4_233 wt4_234 wt1_10 wt4_235) rfl rfl rfl (by decide +kernel) ⟨by decide, by decide⟩) hV hK hP hD hS hA (58) 3 rfl rfl rfl hl.1 rfl (Nat.le_of_ble_eq_true rfl) dX9_ticksWith_29 ⟨Nat.le_refl _, Nat.le_refl _⟩ (fun v10 u11 H locs hw9 hP hD hS => ?_)
  obtain ⟨f12, a13, g14⟩ := u11
  have hP : va_P D vwCl (xX K r f12 a13 g14 tx) H := hP
  have hD : va_D A (xX K r f12 a13 g14 tx) := hD
  have hI : xI f12 a13 := hw9.2.1
  have hG : gOK K g14.2 tt := hw9.2.2.1
  have eE15 : xEk ([1888, 1894, 1900, 1905, 1906], [60, 61, 62, 63, 64, 65, 66, 67, 68, 69, 70, 71, 72, 77, 78, 79, 82], [73]) f4 a_8 g6 f12 a13 g14 := hw9.2.2.2
  have hE : xEk ([1858, 1859, 1888, 1894, 1900, 1905, 1906], [60, 61, 62, 63, 64, 65, 66, 67, 68, 69, 70, 71, 72, 77, 78, 79, 82], [73]) f a g f12 a13 g14 := xEk_tr hE (xEk_w (by decide +kernel) eE15)
  refine lv_istore (lv' := [(4, .int v10), (0, .ref (r 80)), (1, .int bd), (2, .int cr), (3, .int li)]) hx hb dX9_ticksWith_32 hl (by decide) rfl (fun ls hl => ?_)
  refine lv_aload_n hx hb dX9_ticksWith_34 rfl (lv_at hl 1 rfl) ?_
  refine va_get (D := D) (ci := 9) (v := .ref (r 58)) (C := RX9) (T := TX9) (N := 10) hx hb hg inC9 hown hK hP 80 rfl rfl 1 (by decide) (hg _ wt2_116) (fun _ h9 => h9) rfl dX9_ticksWith_35 ?_
  refine lv_iconst (v := (-1)) hx hb dX9_ticksWith_38 (by decide) ?_
  refine lv_iconst (v := 0) hx hb dX9_ticksWith_39 (by decide) ?_
  refine kVG.callW (As := [.int (-1), .int 0]) (rest := []) ⟨hx, hb, hml, hown, hg⟩ (z_teach l r f12 a13 g14 tx tt hT hI hG (-1) 0  ) (cwV 2 hg (kgV wt5_56 wt5_57 wt5_58 wt1_10 wt5_59) rfl rfl rfl (by decide +kernel) ⟨by decide, by decide⟩) hV hK hP hD hS hA (58) 3 rfl rfl rfl hl.1 rfl (Nat.le_of_ble_eq_true rfl) dX9_ticksWith_40 ⟨Nat.le_refl _, Nat.le_refl _⟩ (fun u18 H locs hw16 hP hD hS => ?_)
  obtain ⟨f19, a20, g21⟩ := u18
  have hP : va_P D vwCl (xX K r f19 a20 g21 tx) H := hP
  have hD : va_D A (xX K r f19 a20 g21 tx) := hD
  have hI : xI f19 a20 := hw16.1
  have hG : gOK K g21.2 tt := hw16.2.1
  have eE22 : xEk ([1858, 1859], [], []) f12 a13 g14 f19 a20 g21 := hw16.2.2.1
  have hE : xEk ([1858, 1859, 1888, 1894, 1900, 1905, 1906], [60, 61, 62, 63, 64, 65, 66, 67, 68, 69, 70, 71, 72, 77, 78, 79, 82], [73]) f a g f19 a20 g21 := xEk_tr hE (xEk_w (by decide +kernel) eE22)
  refine lv_iload hx hb dX9_ticksWith_43 (lv_at hl 0 rfl) ?_
  exact kI_ret (v := v10) hx hb hr hlocks rfl hK hS dX9_ticksWith_45 (f19, a20, g21) hP hD ⟨(kb_any v10), hI, hG, hE, hw16.2.2.2⟩
set_option maxHeartbeats 4000000 in
set_option maxRecDepth 100000 in
theorem z_bestLesson  (l : Launch) {D : va_G} {K : Nat → ClassId} (r : Nat → Nat) (f : Nat → Int32) (a : Nat → Nat → Int32) (g : xG) (tx tt : va_W) (hT : ∀ c ∈ tt, c ∈ tx) (hI : xI f a) (hG : gOK K g.2 tt) (x : Int32)   (hp0 : f 1858 = -1) : kIG l yX9_bestLesson (Cond.code yX9_bestLesson cX9_bestLesson 7 (some .int) :: kG) (rmD 7 0 0) D K [.ref (r 80), .int x] (xX K r f a g tx) (fun v (u : xS) => kb (-2147483648) v 2147483647 ∧ xI u.1 u.2.1 ∧ gOK K u.2.2.2 tt ∧ xEk ([1858, 1859, 1888, 1894, 1900, 1905, 1906, 2566], [60, 61, 62, 63, 64, 65, 66, 67, 68, 69, 70, 71, 72, 77, 78, 79, 81, 82, 84], [73]) f a g u.1 u.2.1 u.2.2 ∧ u.1 1858 = -1) (fun u => xX K r u.1 u.2.1 u.2.2 tx) 0 0 := by
  refine kIE.of (cc := cX9_bestLesson) (maxL := 7) (ret := (some .int)) (by decide) rfl (Nat.le_of_ble_eq_true rfl) ?_
  intro p e s m below meth c A hx hb hr hml hown hts hlocks hnm hK hP hD hS hA hV ls hl
  have hE : xEk ([1858, 1859, 1888, 1894, 1900, 1905, 1906, 2566], [60, 61, 62, 63, 64, 65, 66, 67, 68, 69, 70, 71, 72, 77, 78, 79, 81, 82, 84], [73]) f a g f a g := xEk_rf
  have hg : ∀ w ∈ kG, w.before _ s = true := fun w h => hts w (List.mem_cons_of_mem _ h)
  have hown : s.vm.findClass RX9 = some m.cls := hown
  have hl : lv_has ls 7 [(0, .ref (r 80)), (1, .int x)] := hl
  have hk0 : f 1858 = -1 := hp0
  refine lv_aload_n hx hb dX9_bestLesson_0 rfl (lv_at hl 0 rfl) ?_
  refine va_get (D := D) (ci := 9) (v := .int (f 2566)) (C := RX9) (T := TX9) (N := 10) hx hb hg inC9 hown hK hP 80 rfl rfl 6 (by decide) (hg _ wt2_121) (fun _ h9 => h9) rfl dX9_bestLesson_1 ?_
  refine lv_topi (fun t1 et1 => ?_)
  have jn171 : ∀ (F168 : Nat → Int32) (B169 : Nat → Nat → Int32) (G170 : xG) (H : Heap) (locs : List Loc) (ls : Array Slot), (xI F168 B169) → (gOK K G170.2 tt) → (xEk ([1858, 1859, 1888, 1894, 1900, 1905, 1906, 2566], [60, 61, 62, 63, 64, 65, 66, 67, 68, 69, 70, 71, 72, 77, 78, 79, 81, 82, 84], [73]) f a g F168 B169 G170) → (F168 1858 = -1) → va_P D vwCl (xX K r F168 B169 G170 tx) H → va_D A (xX K r F168 B169 G170 tx) → va_S A s.heap H locs → lv_has ls 7 [(0, .ref (r 80)), (1, .int x)] → W p l e (rmD 7 0 0) s m ([.ref (r 80), .int x] : List Value).toArray below meth c H locs 0 0 (kQi D (tysK K) (fun v (u : xS) => kb (-2147483648) v 2147483647 ∧ xI u.1 u.2.1 ∧ gOK K u.2.2.2 tt ∧ xEk ([1858, 1859, 1888, 1894, 1900, 1905, 1906, 2566], [60, 61, 62, 63, 64, 65, 66, 67, 68, 69, 70, 71, 72, 77, 78, 79, 81, 82, 84], [73]) f a g u.1 u.2.1 u.2.2 ∧ u.1 1858 = -1) (fun u => xX K r u.1 u.2.1 u.2.2 tx) A below ([.ref (r 80), .int x] : List Value).toArray s 0 0) (F0 m 152 ls []) := by
    intro F168 B169 G170  H locs ls  hI hG hE hk0 hP hD hS hl
    refine lv_iload_n hx hb dX9_bestLesson_152 rfl (lv_at hl 1 rfl) ?_
    refine lv_if_lt (tgt := 174) hx hb dX9_bestLesson_153 (by decide) (fun c172 => ?_) (fun c172 => ?_)
    · have h173 := (kc_lt c172)
      have b174 : kb (-2147483648) x (-1) := kr_lt1 h173 (kb_any x) kc_0 (by decide)
      refine lv_iconst (v := (-1)) hx hb dX9_bestLesson_174 (by decide) ?_
      exact kI_ret (v := (-1)) hx hb hr hlocks rfl hK hS dX9_bestLesson_175 (F168, B169, G170) hP hD ⟨(kb_w kc_m1 (by decide) (by decide)), hI, hG, hE, hk0⟩
    · have h175 := (kc_nlt c172)
      have b176 : kb 0 x 2147483647 := kr_le2 h175 kc_0 (kb_any x)
      refine lv_iload_n hx hb dX9_bestLesson_156 rfl (lv_at hl 1 rfl) ?_
      refine lv_aload_n hx hb dX9_bestLesson_157 rfl (lv_at hl 0 rfl) ?_
      refine va_get (D := D) (ci := 9) (v := .ref (r 84)) (C := RX9) (T := TX9) (N := 10) hx hb hg inC9 hown hK hP 80 rfl rfl 7 (by decide) (hg _ wt2_122) (fun _ h9 => h9) rfl dX9_bestLesson_158 ?_
      refine va_alen (v := 3) hx hb hK hP 84 0 rfl rfl rfl dX9_bestLesson_161 ?_
      refine lv_icmp_ge (tgt := 174) hx hb dX9_bestLesson_162 (by decide) (fun c177 => ?_) (fun c177 => ?_)
      · have h178 := (kc_le c177)
        have b179 : kb 3 x 2147483647 := kr_le2 h178 kc_3 b176
        refine lv_iconst (v := (-1)) hx hb dX9_bestLesson_174 (by decide) ?_
        exact kI_ret (v := (-1)) hx hb hr hlocks rfl hK hS dX9_bestLesson_175 (F168, B169, G170) hP hD ⟨(kb_w kc_m1 (by decide) (by decide)), hI, hG, hE, hk0⟩
      · have h180 := (kc_nle c177)
        have b181 : kb 0 x 2 := kr_lt1 h180 b176 kc_3 (by decide)
        refine lv_aload_n hx hb dX9_bestLesson_165 rfl (lv_at hl 0 rfl) ?_
        refine va_get (D := D) (ci := 9) (v := .ref (r 84)) (C := RX9) (T := TX9) (N := 10) hx hb hg inC9 hown hK hP 80 rfl rfl 7 (by decide) (hg _ wt2_122) (fun _ h9 => h9) rfl dX9_bestLesson_166 ?_
        refine lv_iload_n hx hb dX9_bestLesson_169 rfl (lv_at hl 1 rfl) ?_
        refine va_iald hx hb hK hP 84 0 rfl rfl (kb_in b181 (by decide) (by decide)) dX9_bestLesson_170 ?_
        refine lv_topi (fun t182 et182 => ?_)
        refine lv_goto (tgt := 175) hx hb dX9_bestLesson_171 (by decide) ?_
        exact kI_ret (v := t182) hx hb hr hlocks rfl hK hS dX9_bestLesson_175 (F168, B169, G170) hP hD ⟨(kb_any t182), hI, hG, hE, hk0⟩
  refine lv_if_ne (tgt := 152) hx hb dX9_bestLesson_4 (by decide) (fun c183 => ?_) (fun c183 => ?_)
  · exact jn171 f a g _ _ _  hI hG hE hk0 hP hD hS (lv_sub hl [0, 1] rfl)
  · have b184 : kb 0 t1 0 := kb_eq c183 kc_0
    refine lv_aload_n hx hb dX9_bestLesson_7 rfl (lv_at hl 0 rfl) ?_
    refine va_get (D := D) (ci := 9) (v := .ref (r 84)) (C := RX9) (T := TX9) (N := 10) hx hb hg inC9 hown hK hP 80 rfl rfl 7 (by decide) (hg _ wt2_122) (fun _ h9 => h9) rfl dX9_bestLesson_8 ?_
    refine lv_iconst (v := (-1)) hx hb dX9_bestLesson_11 (by decide) ?_
    refine kV.callA (q0 := 84) (As := [.ref (r 84), .int (-1)]) (rest := []) ⟨hx, hb, hml, hown, hg⟩ (x_fill l (r 84) 3 (a 84) (-1) (by decide)) (va_cwS 2 hg (kgS wt5_51 wt3_232 wt1_19 wt3_233) rfl rfl rfl (by decide +kernel) ⟨by decide, by decide⟩) hK hP hD hS hA rfl rfl hl.1 rfl (Nat.le_of_ble_eq_true rfl) dX9_bestLesson_12 ⟨by decide, by decide⟩ (fun u185 H locs hw186 hP hD hS => ?_)
    have hP : va_P D vwCl (xX K r f (va_up a 84 u185) g tx) H := hP
    have hD : va_D A (xX K r f (va_up a 84 u185) g tx) := hD
    refine k_gen (P := fun z => va_P D vwCl (xX K r f z g tx) H ∧ va_D A (xX K r f z g tx) ∧ (xI f z) ∧ (gOK K g.2 tt) ∧ (xEk ([1858, 1859, 1888, 1894, 1900, 1905, 1906, 2566], [60, 61, 62, 63, 64, 65, 66, 67, 68, 69, 70, 71, 72, 77, 78, 79, 81, 82, 84], [73]) f a g f z g) ∧ (f 1858 = -1)) (va_up a 84 u185) ⟨hP, hD, (xI_a hI (by decide)), hG, (xEk_a hE rfl), hk0⟩ (fun a_187 ea_187 hq => ?_)
    obtain ⟨hP, hD, hI, hG, hE, hk0⟩ := hq
    refine lv_aload_n hx hb dX9_bestLesson_15 rfl (lv_at hl 0 rfl) ?_
    refine kIG.callW (As := []) (rest := []) ⟨hx, hb, hml, hown, hg⟩ (x_9_planTicks l r f a_187 g tx tt hT hI hG   ) (cwV 0 hg (kgV wt5_27 wt4_229 wt4_230 wt1_11 wt4_231) rfl rfl rfl (by decide +kernel) ⟨by decide, by decide⟩) hV hK hP hD hS hA (80) 9 rfl rfl rfl hl.1 rfl (Nat.le_of_ble_eq_true rfl) dX9_bestLesson_16 ⟨Nat.le_refl _, Nat.le_refl _⟩ (fun v189 u190 H locs hw188 hP hD hS => ?_)
    obtain ⟨f191, a192, g193⟩ := u190
    have hP : va_P D vwCl (xX K r f191 a192 g193 tx) H := hP
    have hD : va_D A (xX K r f191 a192 g193 tx) := hD
    have hI : xI f191 a192 := hw188.2.1
    have hG : gOK K g193.2 tt := hw188.2.2.1
    have eE194 : xEk ([1888, 1894, 1900, 1905, 1906], [60, 61, 62, 63, 64, 65, 66, 67, 68, 69, 70, 71, 72, 77, 78, 79, 81], [73]) f a_187 g f191 a192 g193 := hw188.2.2.2
    have hE : xEk ([1858, 1859, 1888, 1894, 1900, 1905, 1906, 2566], [60, 61, 62, 63, 64, 65, 66, 67, 68, 69, 70, 71, 72, 77, 78, 79, 81, 82, 84], [73]) f a g f191 a192 g193 := xEk_tr hE (xEk_w (by decide +kernel) eE194)
    have hk0 : f191 1858 = -1 := ((eE194.1 1858 rfl).trans hk0)
    refine lv_istore_n (lv' := [(2, .int v189), (0, .ref (r 80)), (1, .int x)]) hx hb dX9_bestLesson_19 rfl hl (by decide) rfl (fun ls hl => ?_)
    refine lv_iload_n hx hb dX9_bestLesson_20 rfl (lv_at hl 0 rfl) ?_
    refine lv_iconst (v := (-1)) hx hb dX9_bestLesson_21 (by decide) ?_
    have jn198 : ∀ (H : Heap) (locs : List Loc) (ls : Array Slot) (z197 : Int32), va_P D vwCl (xX K r f191 a192 g193 tx) H → va_D A (xX K r f191 a192 g193 tx) → va_S A s.heap H locs → lv_has ls 7 [(2, .int v189), (0, .ref (r 80)), (1, .int x)] → W p l e (rmD 7 0 0) s m ([.ref (r 80), .int x] : List Value).toArray below meth c H locs 0 0 (kQi D (tysK K) (fun v (u : xS) => kb (-2147483648) v 2147483647 ∧ xI u.1 u.2.1 ∧ gOK K u.2.2.2 tt ∧ xEk ([1858, 1859, 1888, 1894, 1900, 1905, 1906, 2566], [60, 61, 62, 63, 64, 65, 66, 67, 68, 69, 70, 71, 72, 77, 78, 79, 81, 82, 84], [73]) f a g u.1 u.2.1 u.2.2 ∧ u.1 1858 = -1) (fun u => xX K r u.1 u.2.1 u.2.2 tx) A below ([.ref (r 80), .int x] : List Value).toArray s 0 0) (F0 m 34 ls [.int z197]) := by
      intro  H locs ls z197  hP hD hS hl
      refine lv_istore_n (lv' := [(3, .int z197), (2, .int v189), (0, .ref (r 80)), (1, .int x)]) hx hb dX9_bestLesson_34 rfl hl (by decide) rfl (fun ls hl => ?_)
      refine lv_iconst (v := 0) hx hb dX9_bestLesson_35 (by decide) ?_
      refine lv_istore (lv' := [(4, .int 0), (3, .int z197), (2, .int v189), (0, .ref (r 80)), (1, .int x)]) hx hb dX9_bestLesson_36 hl (by decide) rfl (fun ls hl => ?_)
      have lp204 : ∀ (n205 : Nat) (F201 : Nat → Int32) (B202 : Nat → Nat → Int32) (G203 : xG) (H : Heap) (locs : List Loc) (ls : Array Slot) (y199 : Int32) (y200 : Int32), (6 < y199.toInt + (n205 : Int)) → (xI F201 B202) → (gOK K G203.2 tt) → (xEk ([1858, 1859, 1888, 1894, 1900, 1905, 1906, 2566], [60, 61, 62, 63, 64, 65, 66, 67, 68, 69, 70, 71, 72, 77, 78, 79, 81, 82, 84], [73]) f a g F201 B202 G203) → (F201 1858 = -1) → (kb 0 y199 6) → va_P D vwCl (xX K r F201 B202 G203 tx) H → va_D A (xX K r F201 B202 G203 tx) → va_S A s.heap H locs → lv_has ls 7 [(4, .int y199), (3, .int y200), (2, .int v189), (0, .ref (r 80)), (1, .int x)] → W p l e (rmD 7 0 0) s m ([.ref (r 80), .int x] : List Value).toArray below meth c H locs 0 0 (kQi D (tysK K) (fun v (u : xS) => kb (-2147483648) v 2147483647 ∧ xI u.1 u.2.1 ∧ gOK K u.2.2.2 tt ∧ xEk ([1858, 1859, 1888, 1894, 1900, 1905, 1906, 2566], [60, 61, 62, 63, 64, 65, 66, 67, 68, 69, 70, 71, 72, 77, 78, 79, 81, 82, 84], [73]) f a g u.1 u.2.1 u.2.2 ∧ u.1 1858 = -1) (fun u => xX K r u.1 u.2.1 u.2.2 tx) A below ([.ref (r 80), .int x] : List Value).toArray s 0 0) (F0 m 38 ls []) := by
        intro n205
        induction n205 with
        | zero =>
          intro  F201 B202 G203  H locs ls y199 y200 hmlp204 hI hG hE hk0 b206 hP hD hS hl
          exact (by have h1 := b206.2; have h2 := hmlp204; omega : False).elim
        | succ n205 ihlp204 =>
          intro  F201 B202 G203  H locs ls y199 y200 hmlp204 hI hG hE hk0 b206 hP hD hS hl
          refine lv_iload hx hb dX9_bestLesson_38 (lv_at hl 0 rfl) ?_
          refine lv_aload_n hx hb dX9_bestLesson_40 rfl (lv_at hl 3 rfl) ?_
          refine va_get (D := D) (ci := 9) (v := .ref (r 1)) (C := RX9) (T := TX9) (N := 10) hx hb hg inC9 hown hK hP 80 rfl rfl 0 (by decide) (hg _ wt2_115) (fun _ h9 => h9) rfl dX9_bestLesson_41 ?_
          refine va_get (D := D) (ci := 7) (v := .int (F201 38)) (C := RX7) (T := TX7) (N := 20) hx hb hg inC7 hown hK hP 1 rfl rfl 6 (by decide) (hg _ wt1_107) (fun _ h9 => h9) rfl dX9_bestLesson_44 ?_
          refine lv_topi (fun t207 et207 => ?_)
          have jn276 : ∀ (H : Heap) (locs : List Loc) (ls : Array Slot), va_P D vwCl (xX K r F201 B202 G203 tx) H → va_D A (xX K r F201 B202 G203 tx) → va_S A s.heap H locs → lv_has ls 7 [(4, .int y199), (3, .int y200), (2, .int v189), (0, .ref (r 80)), (1, .int x)] → W p l e (rmD 7 0 0) s m ([.ref (r 80), .int x] : List Value).toArray below meth c H locs 0 0 (kQi D (tysK K) (fun v (u : xS) => kb (-2147483648) v 2147483647 ∧ xI u.1 u.2.1 ∧ gOK K u.2.2.2 tt ∧ xEk ([1858, 1859, 1888, 1894, 1900, 1905, 1906, 2566], [60, 61, 62, 63, 64, 65, 66, 67, 68, 69, 70, 71, 72, 77, 78, 79, 81, 82, 84], [73]) f a g u.1 u.2.1 u.2.2 ∧ u.1 1858 = -1) (fun u => xX K r u.1 u.2.1 u.2.2 tx) A below ([.ref (r 80), .int x] : List Value).toArray s 0 0) (F0 m 147 ls []) := by
            intro  H locs ls   hP hD hS hl
            refine lv_aload_n hx hb dX9_bestLesson_147 rfl (lv_at hl 3 rfl) ?_
            refine lv_iconst (v := 1) hx hb dX9_bestLesson_148 (by decide) ?_
            refine va_put (D := D) (ci := 9) (v := .int 1) (ty := .boolean) (C := RX9) (T := TX9) (N := 10) hx hb hg inC9 tyX9 tyX9_ok nmX9 hown hK hP hD hS 80 rfl rfl 6 (by decide) (hg _ wt2_121) (fun _ h9 => h9) rfl (by decide +kernel) rfl rfl (Nat.le_of_ble_eq_true rfl) dX9_bestLesson_149 (fun H locs hP hD hS => ?_)
            have hP : va_P D vwCl (xX K r (upd F201 2566 1) B202 G203 tx) H := hP
            have hD : va_D A (xX K r (upd F201 2566 1) B202 G203 tx) := hD
            refine k_gen (P := fun z => va_P D vwCl (xX K r z B202 G203 tx) H ∧ va_D A (xX K r z B202 G203 tx) ∧ (xI z B202) ∧ (gOK K G203.2 tt) ∧ (xEk ([1858, 1859, 1888, 1894, 1900, 1905, 1906, 2566], [60, 61, 62, 63, 64, 65, 66, 67, 68, 69, 70, 71, 72, 77, 78, 79, 81, 82, 84], [73]) f a g z B202 G203) ∧ (z 1858 = -1)) (upd F201 2566 1) ⟨hP, hD, (xI_f hI (fI_st hI.1 2566 (kb_any _) (by decide) (by decide))), hG, (xEk_f hE rfl), ((pk_un (by decide)).trans hk0)⟩ (fun f_277 ef_277 hq => ?_)
            obtain ⟨hP, hD, hI, hG, hE, hk0⟩ := hq
            exact jn171 f_277 B202 G203 _ _ _  hI hG hE hk0 hP hD hS (lv_sub hl [3, 4] rfl)
          refine lv_icmp_ge (tgt := 147) hx hb dX9_bestLesson_47 (by decide) (fun c278 => ?_) (fun c278 => ?_)
          · have h279 := (kc_le c278)
            have b280 : kb (-2147483648) t207 6 := kr_le1 h279 (kb_any t207) b206
            exact jn276 _ _ _   hP hD hS (lv_sub hl [0, 1, 2, 3, 4] rfl)
          · have h281 := (kc_nle c278)
            have b282 : kb 1 t207 2147483647 := kr_lt2 h281 b206 (kb_any t207) (by decide)
            refine lv_iload hx hb dX9_bestLesson_50 (lv_at hl 0 rfl) ?_
            refine lv_bipush (v := 6) hx hb dX9_bestLesson_52 (by decide) ?_
            refine lv_icmp_ge (tgt := 147) hx hb dX9_bestLesson_54 (by decide) (fun c283 => ?_) (fun c283 => ?_)
            · have h284 := (kc_le c283)
              have b285 : kb 6 y199 6 := kr_le2 h284 kc_6 b206
              exact jn276 _ _ _   hP hD hS (lv_sub hl [0, 1, 2, 3, 4] rfl)
            · have h286 := (kc_nle c283)
              have b287 : kb 0 y199 5 := kr_lt1 h286 b206 kc_6 (by decide)
              refine lv_iconst (v := 0) hx hb dX9_bestLesson_57 (by decide) ?_
              refine lv_istore (lv' := [(5, .int 0), (4, .int y199), (3, .int y200), (2, .int v189), (0, .ref (r 80)), (1, .int x)]) hx hb dX9_bestLesson_58 hl (by decide) rfl (fun ls hl => ?_)
              have lp293 : ∀ (n294 : Nat) (F290 : Nat → Int32) (B291 : Nat → Nat → Int32) (G292 : xG) (H : Heap) (locs : List Loc) (ls : Array Slot) (y288 : Int32) (y289 : Int32), (4 < y288.toInt + (n294 : Int)) → (xI F290 B291) → (gOK K G292.2 tt) → (xEk ([1858, 1859, 1888, 1894, 1900, 1905, 1906, 2566], [60, 61, 62, 63, 64, 65, 66, 67, 68, 69, 70, 71, 72, 77, 78, 79, 81, 82, 84], [73]) f a g F290 B291 G292) → (F290 1858 = -1) → (kb 0 y288 4) → va_P D vwCl (xX K r F290 B291 G292 tx) H → va_D A (xX K r F290 B291 G292 tx) → va_S A s.heap H locs → lv_has ls 7 [(5, .int y288), (4, .int y199), (3, .int y289), (2, .int v189), (0, .ref (r 80)), (1, .int x)] → W p l e (rmD 7 0 0) s m ([.ref (r 80), .int x] : List Value).toArray below meth c H locs 0 0 (kQi D (tysK K) (fun v (u : xS) => kb (-2147483648) v 2147483647 ∧ xI u.1 u.2.1 ∧ gOK K u.2.2.2 tt ∧ xEk ([1858, 1859, 1888, 1894, 1900, 1905, 1906, 2566], [60, 61, 62, 63, 64, 65, 66, 67, 68, 69, 70, 71, 72, 77, 78, 79, 81, 82, 84], [73]) f a g u.1 u.2.1 u.2.2 ∧ u.1 1858 = -1) (fun u => xX K r u.1 u.2.1 u.2.2 tx) A below ([.ref (r 80), .int x] : List Value).toArray s 0 0) (F0 m 60 ls []) := by
                intro n294
                induction n294 with
                | zero =>
                  intro  F290 B291 G292  H locs ls y288 y289 hmlp293 hI hG hE hk0 b295 hP hD hS hl
                  exact (by have h1 := b295.2; have h2 := hmlp293; omega : False).elim
                | succ n294 ihlp293 =>
                  intro  F290 B291 G292  H locs ls y288 y289 hmlp293 hI hG hE hk0 b295 hP hD hS hl
                  refine lv_iload hx hb dX9_bestLesson_60 (lv_at hl 0 rfl) ?_
                  refine lv_iconst (v := 4) hx hb dX9_bestLesson_62 (by decide) ?_
                  refine lv_icmp_ge (tgt := 141) hx hb dX9_bestLesson_63 (by decide) (fun c296 => ?_) (fun c296 => ?_)
                  · have h297 := (kc_le c296)
                    have b298 : kb 4 y288 4 := kr_le2 h297 kc_4 b295
                    obtain ⟨t299, et299⟩ : ∃ z : Int32, z = y199 + Int32.ofInt 1 := ⟨_, rfl⟩
                    have qt299 : t299.toInt = y199.toInt + 1 := by rw [et299]; exact km_inc b287 (by decide) (by decide)
                    have b300 : kb 1 t299 6 := kb_inc (k := 1) qt299 b287
                    refine lv_iinc (v := t299) (lv' := [(4, .int t299), (5, .int y288), (3, .int y289), (2, .int v189), (0, .ref (r 80)), (1, .int x)]) hx hb dX9_bestLesson_141 hl (k := 1) rfl et299.symm (by decide) rfl (fun ls hl => ?_)
                    refine lv_goto (tgt := 38) hx hb dX9_bestLesson_144 (by decide) ?_
                    exact ihlp204  F290 B291 G292 _ _ _ t299 y289 (km_up hmlp204 qt299) hI hG hE hk0 (kb_w b300 (by decide) (by decide)) hP hD hS (lv_sub hl [0, 2, 3, 4, 5] rfl)
                  · have h301 := (kc_nle c296)
                    have b302 : kb 0 y288 3 := kr_lt1 h301 b295 kc_4 (by decide)
                    refine lv_aload_n hx hb dX9_bestLesson_66 rfl (lv_at hl 4 rfl) ?_
                    refine va_get (D := D) (ci := 9) (v := .ref (r 1)) (C := RX9) (T := TX9) (N := 10) hx hb hg inC9 hown hK hP 80 rfl rfl 0 (by decide) (hg _ wt2_115) (fun _ h9 => h9) rfl dX9_bestLesson_67 ?_
                    refine va_get (D := D) (ci := 7) (v := .ref (r 7)) (C := RX7) (T := TX7) (N := 20) hx hb hg inC7 hown hK hP 1 rfl rfl 7 (by decide) (hg _ wt1_113) (fun _ h9 => h9) rfl dX9_bestLesson_70 ?_
                    refine lv_iload hx hb dX9_bestLesson_73 (lv_at hl 1 rfl) ?_
                    refine va_iald hx hb hK hP 7 0 rfl rfl (kb_in b287 (by decide) (by decide)) dX9_bestLesson_75 ?_
                    refine lv_topi (fun t303 et303 => ?_)
                    refine lv_iload hx hb dX9_bestLesson_76 (lv_at hl 0 rfl) ?_
                    refine lv_ishr hx hb dX9_bestLesson_78 ?_
                    refine lv_topi (fun t304 et304 => ?_)
                    refine lv_iconst (v := 1) hx hb dX9_bestLesson_79 (by decide) ?_
                    refine lv_iand hx hb dX9_bestLesson_80 ?_
                    refine lv_topi (fun t305 et305 => ?_)
                    have b306 : kb 0 t305 1 := kb_eq et305 (kb_and 1 (by decide) (by decide))
                    refine lv_iconst (v := 1) hx hb dX9_bestLesson_81 (by decide) ?_
                    have jn320 : ∀ (F317 : Nat → Int32) (B318 : Nat → Nat → Int32) (G319 : xG) (H : Heap) (locs : List Loc) (ls : Array Slot) (z316 : Int32), (xI F317 B318) → (gOK K G319.2 tt) → (xEk ([1858, 1859, 1888, 1894, 1900, 1905, 1906, 2566], [60, 61, 62, 63, 64, 65, 66, 67, 68, 69, 70, 71, 72, 77, 78, 79, 81, 82, 84], [73]) f a g F317 B318 G319) → (F317 1858 = -1) → va_P D vwCl (xX K r F317 B318 G319 tx) H → va_D A (xX K r F317 B318 G319 tx) → va_S A s.heap H locs → lv_has ls 7 [(5, .int y288), (4, .int y199), (3, .int y289), (2, .int v189), (0, .ref (r 80)), (1, .int x)] → W p l e (rmD 7 0 0) s m ([.ref (r 80), .int x] : List Value).toArray below meth c H locs 0 0 (kQi D (tysK K) (fun v (u : xS) => kb (-2147483648) v 2147483647 ∧ xI u.1 u.2.1 ∧ gOK K u.2.2.2 tt ∧ xEk ([1858, 1859, 1888, 1894, 1900, 1905, 1906, 2566], [60, 61, 62, 63, 64, 65, 66, 67, 68, 69, 70, 71, 72, 77, 78, 79, 81, 82, 84], [73]) f a g u.1 u.2.1 u.2.2 ∧ u.1 1858 = -1) (fun u => xX K r u.1 u.2.1 u.2.2 tx) A below ([.ref (r 80), .int x] : List Value).toArray s 0 0) (F0 m 98 ls [.int z316]) := by
                      intro F317 B318 G319  H locs ls z316 hI hG hE hk0 hP hD hS hl
                      refine lv_istore (lv' := [(6, .int z316), (5, .int y288), (4, .int y199), (3, .int y289), (2, .int v189), (0, .ref (r 80)), (1, .int x)]) hx hb dX9_bestLesson_98 hl (by decide) rfl (fun ls hl => ?_)
                      refine lv_iload hx hb dX9_bestLesson_100 (lv_at hl 0 rfl) ?_
                      refine lv_iconst (v := (-1)) hx hb dX9_bestLesson_102 (by decide) ?_
                      have jn328 : ∀ (B327 : Nat → Nat → Int32) (H : Heap) (locs : List Loc) (ls : Array Slot) (y326 : Int32), (xI F317 B327) → (gOK K G319.2 tt) → (xEk ([1858, 1859, 1888, 1894, 1900, 1905, 1906, 2566], [60, 61, 62, 63, 64, 65, 66, 67, 68, 69, 70, 71, 72, 77, 78, 79, 81, 82, 84], [73]) f a g F317 B327 G319) → (F317 1858 = -1) → va_P D vwCl (xX K r F317 B327 G319 tx) H → va_D A (xX K r F317 B327 G319 tx) → va_S A s.heap H locs → lv_has ls 7 [(6, .int z316), (5, .int y288), (4, .int y199), (3, .int y326), (2, .int v189), (0, .ref (r 80)), (1, .int x)] → W p l e (rmD 7 0 0) s m ([.ref (r 80), .int x] : List Value).toArray below meth c H locs 0 0 (kQi D (tysK K) (fun v (u : xS) => kb (-2147483648) v 2147483647 ∧ xI u.1 u.2.1 ∧ gOK K u.2.2.2 tt ∧ xEk ([1858, 1859, 1888, 1894, 1900, 1905, 1906, 2566], [60, 61, 62, 63, 64, 65, 66, 67, 68, 69, 70, 71, 72, 77, 78, 79, 81, 82, 84], [73]) f a g u.1 u.2.1 u.2.2 ∧ u.1 1858 = -1) (fun u => xX K r u.1 u.2.1 u.2.2 tx) A below ([.ref (r 80), .int x] : List Value).toArray s 0 0) (F0 m 135 ls []) := by
                        intro B327  H locs ls y326 hI hG hE hk0 hP hD hS hl
                        obtain ⟨t329, et329⟩ : ∃ z : Int32, z = y288 + Int32.ofInt 1 := ⟨_, rfl⟩
                        have qt329 : t329.toInt = y288.toInt + 1 := by rw [et329]; exact km_inc b302 (by decide) (by decide)
                        have b330 : kb 1 t329 4 := kb_inc (k := 1) qt329 b302
                        refine lv_iinc (v := t329) (lv' := [(5, .int t329), (6, .int z316), (4, .int y199), (3, .int y326), (2, .int v189), (0, .ref (r 80)), (1, .int x)]) hx hb dX9_bestLesson_135 hl (k := 1) rfl et329.symm (by decide) rfl (fun ls hl => ?_)
                        refine lv_goto (tgt := 60) hx hb dX9_bestLesson_138 (by decide) ?_
                        exact ihlp293  F317 B327 G319 _ _ _ t329 y326 (km_up hmlp293 qt329) hI hG hE hk0 (kb_w b330 (by decide) (by decide)) hP hD hS (lv_sub hl [0, 2, 3, 4, 5, 6] rfl)
                      refine lv_icmp_eq (tgt := 135) hx hb dX9_bestLesson_103 (by decide) (fun c331 => ?_) (fun c331 => ?_)
                      · have b332 : kb (-1) z316 (-1) := kb_eq c331 kc_m1
                        exact jn328 B318 _ _ _ y289 hI hG hE hk0 hP hD hS (lv_sub hl [0, 1, 2, 3, 4, 5, 6] rfl)
                      · refine lv_aload_n hx hb dX9_bestLesson_106 rfl (lv_at hl 5 rfl) ?_
                        refine va_get (D := D) (ci := 9) (v := .ref (r 84)) (C := RX9) (T := TX9) (N := 10) hx hb hg inC9 hown hK hP 80 rfl rfl 7 (by decide) (hg _ wt2_122) (fun _ h9 => h9) rfl dX9_bestLesson_107 ?_
                        refine lv_iconst (v := 0) hx hb dX9_bestLesson_110 (by decide) ?_
                        refine lv_iload hx hb dX9_bestLesson_111 (lv_at hl 2 rfl) ?_
                        refine va_iast hx hb hK hP hD hS 84 0 rfl rfl (kb_in kc_0 (by decide) (by decide)) dX9_bestLesson_113 (fun H locs hP hD hS => ?_)
                        rw [cl_0] at hP hD
                        have hP : va_P D vwCl (xX K r F317 (va_up B318 84 (upd (B318 84) 0 y199)) G319 tx) H := hP
                        have hD : va_D A (xX K r F317 (va_up B318 84 (upd (B318 84) 0 y199)) G319 tx) := hD
                        refine k_gen (P := fun z => va_P D vwCl (xX K r F317 z G319 tx) H ∧ va_D A (xX K r F317 z G319 tx) ∧ (xI F317 z) ∧ (gOK K G319.2 tt) ∧ (xEk ([1858, 1859, 1888, 1894, 1900, 1905, 1906, 2566], [60, 61, 62, 63, 64, 65, 66, 67, 68, 69, 70, 71, 72, 77, 78, 79, 81, 82, 84], [73]) f a g F317 z G319) ∧ (F317 1858 = -1)) (va_up B318 84 (upd (B318 84) 0 y199)) ⟨hP, hD, (xI_a hI (by decide)), hG, (xEk_a hE rfl), hk0⟩ (fun a_333 ea_333 hq => ?_)
                        obtain ⟨hP, hD, hI, hG, hE, hk0⟩ := hq
                        refine lv_aload_n hx hb dX9_bestLesson_114 rfl (lv_at hl 5 rfl) ?_
                        refine va_get (D := D) (ci := 9) (v := .ref (r 84)) (C := RX9) (T := TX9) (N := 10) hx hb hg inC9 hown hK hP 80 rfl rfl 7 (by decide) (hg _ wt2_122) (fun _ h9 => h9) rfl dX9_bestLesson_115 ?_
                        refine lv_iconst (v := 1) hx hb dX9_bestLesson_118 (by decide) ?_
                        refine lv_iload hx hb dX9_bestLesson_119 (lv_at hl 1 rfl) ?_
                        refine va_iast hx hb hK hP hD hS 84 0 rfl rfl (kb_in kc_1 (by decide) (by decide)) dX9_bestLesson_121 (fun H locs hP hD hS => ?_)
                        rw [cl_1] at hP hD
                        have hP : va_P D vwCl (xX K r F317 (va_up a_333 84 (upd (a_333 84) 1 y288)) G319 tx) H := hP
                        have hD : va_D A (xX K r F317 (va_up a_333 84 (upd (a_333 84) 1 y288)) G319 tx) := hD
                        refine k_gen (P := fun z => va_P D vwCl (xX K r F317 z G319 tx) H ∧ va_D A (xX K r F317 z G319 tx) ∧ (xI F317 z) ∧ (gOK K G319.2 tt) ∧ (xEk ([1858, 1859, 1888, 1894, 1900, 1905, 1906, 2566], [60, 61, 62, 63, 64, 65, 66, 67, 68, 69, 70, 71, 72, 77, 78, 79, 81, 82, 84], [73]) f a g F317 z G319) ∧ (F317 1858 = -1)) (va_up a_333 84 (upd (a_333 84) 1 y288)) ⟨hP, hD, (xI_a hI (by decide)), hG, (xEk_a hE rfl), hk0⟩ (fun a_334 ea_334 hq => ?_)
                        obtain ⟨hP, hD, hI, hG, hE, hk0⟩ := hq
                        refine lv_aload_n hx hb dX9_bestLesson_122 rfl (lv_at hl 5 rfl) ?_
                        refine va_get (D := D) (ci := 9) (v := .ref (r 84)) (C := RX9) (T := TX9) (N := 10) hx hb hg inC9 hown hK hP 80 rfl rfl 7 (by decide) (hg _ wt2_122) (fun _ h9 => h9) rfl dX9_bestLesson_123 ?_
                        refine lv_iconst (v := 2) hx hb dX9_bestLesson_126 (by decide) ?_
                        refine lv_iload hx hb dX9_bestLesson_127 (lv_at hl 0 rfl) ?_
                        refine va_iast hx hb hK hP hD hS 84 0 rfl rfl (kb_in kc_2 (by decide) (by decide)) dX9_bestLesson_129 (fun H locs hP hD hS => ?_)
                        rw [cl_2] at hP hD
                        have hP : va_P D vwCl (xX K r F317 (va_up a_334 84 (upd (a_334 84) 2 z316)) G319 tx) H := hP
                        have hD : va_D A (xX K r F317 (va_up a_334 84 (upd (a_334 84) 2 z316)) G319 tx) := hD
                        refine k_gen (P := fun z => va_P D vwCl (xX K r F317 z G319 tx) H ∧ va_D A (xX K r F317 z G319 tx) ∧ (xI F317 z) ∧ (gOK K G319.2 tt) ∧ (xEk ([1858, 1859, 1888, 1894, 1900, 1905, 1906, 2566], [60, 61, 62, 63, 64, 65, 66, 67, 68, 69, 70, 71, 72, 77, 78, 79, 81, 82, 84], [73]) f a g F317 z G319) ∧ (F317 1858 = -1)) (va_up a_334 84 (upd (a_334 84) 2 z316)) ⟨hP, hD, (xI_a hI (by decide)), hG, (xEk_a hE rfl), hk0⟩ (fun a_335 ea_335 hq => ?_)
                        obtain ⟨hP, hD, hI, hG, hE, hk0⟩ := hq
                        refine lv_iload hx hb dX9_bestLesson_130 (lv_at hl 0 rfl) ?_
                        refine lv_iconst (v := 1) hx hb dX9_bestLesson_132 (by decide) ?_
                        refine lv_isub hx hb dX9_bestLesson_133 ?_
                        refine lv_topi (fun t336 et336 => ?_)
                        refine lv_istore_n (lv' := [(3, .int t336), (6, .int z316), (5, .int y288), (4, .int y199), (2, .int v189), (0, .ref (r 80)), (1, .int x)]) hx hb dX9_bestLesson_134 rfl hl (by decide) rfl (fun ls hl => ?_)
                        exact jn328 a_335 _ _ _ t336 hI hG hE hk0 hP hD hS (lv_sub hl [1, 2, 3, 0, 4, 5, 6] rfl)
                    refine lv_icmp_ne (tgt := 89) hx hb dX9_bestLesson_82 (by decide) (fun c337 => ?_) (fun c337 => ?_)
                    · have b338 : kb 0 t305 0 := kr_neh c337 b306 kc_1 (by decide)
                      refine lv_aload_n hx hb dX9_bestLesson_89 rfl (lv_at hl 4 rfl) ?_
                      refine lv_iload hx hb dX9_bestLesson_90 (lv_at hl 1 rfl) ?_
                      refine lv_iload hx hb dX9_bestLesson_92 (lv_at hl 0 rfl) ?_
                      refine lv_iload_n hx hb dX9_bestLesson_94 rfl (lv_at hl 2 rfl) ?_
                      refine kIG.callW (As := [.int y199, .int y288, .int y289]) (rest := []) ⟨hx, hb, hml, hown, hg⟩ (z_ticksWith l r F290 B291 G292 tx tt hT hI hG y199 y288 y289  ) (cwV 3 hg (kgV wt5_52 wt5_54 wp3_1 wt1_11 wt5_55) rfl rfl rfl (by decide +kernel) ⟨by decide, by decide⟩) hV hK hP hD hS hA (80) 9 rfl rfl rfl hl.1 rfl (Nat.le_of_ble_eq_true rfl) dX9_bestLesson_95 ⟨Nat.le_refl _, Nat.le_refl _⟩ (fun v340 u341 H locs hw339 hP hD hS => ?_)
                      obtain ⟨f342, a343, g344⟩ := u341
                      have hP : va_P D vwCl (xX K r f342 a343 g344 tx) H := hP
                      have hD : va_D A (xX K r f342 a343 g344 tx) := hD
                      have hI : xI f342 a343 := hw339.2.1
                      have hG : gOK K g344.2 tt := hw339.2.2.1
                      have eE345 : xEk ([1858, 1859, 1888, 1894, 1900, 1905, 1906], [60, 61, 62, 63, 64, 65, 66, 67, 68, 69, 70, 71, 72, 77, 78, 79, 82], [73]) F290 B291 G292 f342 a343 g344 := hw339.2.2.2.1
                      have hE : xEk ([1858, 1859, 1888, 1894, 1900, 1905, 1906, 2566], [60, 61, 62, 63, 64, 65, 66, 67, 68, 69, 70, 71, 72, 77, 78, 79, 81, 82, 84], [73]) f a g f342 a343 g344 := xEk_tr hE (xEk_w (by decide +kernel) eE345)
                      have hk0 : f342 1858 = -1 := hw339.2.2.2.2
                      exact jn320 f342 a343 g344 _ _ _ v340 hI hG hE hk0 hP hD hS (lv_sub hl [0, 1, 2, 3, 4, 5] rfl)
                    · have b346 : kb 1 t305 1 := kb_eq c337 kc_1
                      refine lv_iconst (v := (-1)) hx hb dX9_bestLesson_85 (by decide) ?_
                      refine lv_goto (tgt := 98) hx hb dX9_bestLesson_86 (by decide) ?_
                      exact jn320 F290 B291 G292 _ _ _ (-1) hI hG hE hk0 hP hD hS (lv_sub hl [0, 1, 2, 3, 4, 5] rfl)
              exact lp293 (5)  F201 B202 G203 _ _ _ 0 y200 (by have h1 := (kc_0); unfold kb at h1; omega) hI hG hE hk0 (kb_w kc_0 (by decide) (by decide)) hP hD hS (lv_sub hl [0, 1, 2, 3, 4, 5] rfl)
      exact lp204 (7)  f191 a192 g193 _ _ _ 0 z197 (by have h1 := (kc_0); unfold kb at h1; omega) hI hG hE hk0 (kb_w kc_0 (by decide) (by decide)) hP hD hS (lv_sub hl [0, 1, 2, 3, 4] rfl)
    refine lv_icmp_ne (tgt := 31) hx hb dX9_bestLesson_22 (by decide) (fun c347 => ?_) (fun c347 => ?_)
    · refine lv_iload_n hx hb dX9_bestLesson_31 rfl (lv_at hl 0 rfl) ?_
      refine lv_iconst (v := 1) hx hb dX9_bestLesson_32 (by decide) ?_
      refine lv_isub hx hb dX9_bestLesson_33 ?_
      refine lv_topi (fun t348 et348 => ?_)
      exact jn198 _ _ _ t348  hP hD hS (lv_sub hl [0, 1, 2] rfl)
    · have b349 : kb (-1) v189 (-1) := kb_eq c347 kc_m1
      refine lv_sipush (v := 200) hx hb dX9_bestLesson_25 (by decide) ?_
      refine lv_goto (tgt := 34) hx hb dX9_bestLesson_28 (by decide) ?_
      exact jn198 _ _ _ 200  hP hD hS (lv_sub hl [0, 1, 2] rfl)
set_option maxHeartbeats 4000000 in
set_option maxRecDepth 100000 in
theorem z_taught  (l : Launch) {D : va_G} {K : Nat → ClassId} (r : Nat → Nat) (f : Nat → Int32) (a : Nat → Nat → Int32) (g : xG) (tx tt : va_W) (hT : ∀ c ∈ tt, c ∈ tx) (hI : xI f a) (hG : gOK K g.2 tt) (x : Int32)   (hp0 : f 1858 = -1) : kIG l yX11_taught (Cond.code yX11_taught cX11_taught 2 (some .int) :: kG) (rmD 8 0 0) D K [.ref (r 0), .int x] (xX K r f a g tx) (fun v (u : xS) => kb (-2147483648) v 2147483647 ∧ xI u.1 u.2.1 ∧ gOK K u.2.2.2 tt ∧ xEk ([1858, 1859, 1888, 1894, 1900, 1905, 1906, 2566], [60, 61, 62, 63, 64, 65, 66, 67, 68, 69, 70, 71, 72, 77, 78, 79, 81, 82, 84], [73]) f a g u.1 u.2.1 u.2.2 ∧ u.1 1858 = -1) (fun u => xX K r u.1 u.2.1 u.2.2 tx) 0 0 := by
  refine kIE.of (cc := cX11_taught) (maxL := 2) (ret := (some .int)) (by decide) rfl (Nat.le_of_ble_eq_true rfl) ?_
  intro p e s m below meth c A hx hb hr hml hown hts hlocks hnm hK hP hD hS hA hV ls hl
  have hE : xEk ([1858, 1859, 1888, 1894, 1900, 1905, 1906, 2566], [60, 61, 62, 63, 64, 65, 66, 67, 68, 69, 70, 71, 72, 77, 78, 79, 81, 82, 84], [73]) f a g f a g := xEk_rf
  have hg : ∀ w ∈ kG, w.before _ s = true := fun w h => hts w (List.mem_cons_of_mem _ h)
  have hown : s.vm.findClass RX11 = some m.cls := hown
  have hl : lv_has ls 2 [(0, .ref (r 0)), (1, .int x)] := hl
  have hk0 : f 1858 = -1 := hp0
  refine lv_iload_n hx hb dX11_taught_0 rfl (lv_at hl 1 rfl) ?_
  refine lv_if_lt (tgt := 9) hx hb dX11_taught_1 (by decide) (fun c1 => ?_) (fun c1 => ?_)
  · have h2 := (kc_lt c1)
    have b3 : kb (-2147483648) x (-1) := kr_lt1 h2 (kb_any x) kc_0 (by decide)
    refine lv_iconst (v := (-1)) hx hb dX11_taught_9 (by decide) ?_
    refine lv_goto (tgt := 21) hx hb dX11_taught_10 (by decide) ?_
    exact kI_ret (v := (-1)) hx hb hr hlocks rfl hK hS dX11_taught_21 (f, a, g) hP hD ⟨(kb_w kc_m1 (by decide) (by decide)), hI, hG, hE, hk0⟩
  · have h4 := (kc_nlt c1)
    have b5 : kb 0 x 2147483647 := kr_le2 h4 kc_0 (kb_any x)
    refine lv_iload_n hx hb dX11_taught_4 rfl (lv_at hl 1 rfl) ?_
    refine lv_iconst (v := 2) hx hb dX11_taught_5 (by decide) ?_
    refine lv_icmp_le (tgt := 13) hx hb dX11_taught_6 (by decide) (fun c6 => ?_) (fun c6 => ?_)
    · have h7 := (kc_le c6)
      have b8 : kb 0 x 2 := kr_le1 h7 b5 kc_2
      refine lv_aload_n hx hb dX11_taught_13 rfl (lv_at hl 0 rfl) ?_
      refine va_get (D := D) (ci := 11) (v := .ref (r 80)) (C := RX11) (T := TX11) (N := 17) hx hb hg inC11 hown hK hP 0 rfl rfl 6 (by decide) (hg _ wt2_192) (fun _ h9 => h9) rfl dX11_taught_14 ?_
      refine lv_iload_n hx hb dX11_taught_17 rfl (lv_at hl 1 rfl) ?_
      refine kIG.callW (As := [.int x]) (rest := []) ⟨hx, hb, hml, hown, hg⟩ (z_bestLesson l r f a g tx tt hT hI hG x  hk0) (cwV 1 hg (kgV wt5_47 wt5_48 wt5_49 wt1_11 wt5_50) rfl rfl rfl (by decide +kernel) ⟨by decide, by decide⟩) hV hK hP hD hS hA (80) 9 rfl rfl rfl hl.1 rfl (Nat.le_of_ble_eq_true rfl) dX11_taught_18 ⟨Nat.le_refl _, Nat.le_refl _⟩ (fun v10 u11 H locs hw9 hP hD hS => ?_)
      obtain ⟨f12, a13, g14⟩ := u11
      have hP : va_P D vwCl (xX K r f12 a13 g14 tx) H := hP
      have hD : va_D A (xX K r f12 a13 g14 tx) := hD
      have hI : xI f12 a13 := hw9.2.1
      have hG : gOK K g14.2 tt := hw9.2.2.1
      have eE15 : xEk ([1858, 1859, 1888, 1894, 1900, 1905, 1906, 2566], [60, 61, 62, 63, 64, 65, 66, 67, 68, 69, 70, 71, 72, 77, 78, 79, 81, 82, 84], [73]) f a g f12 a13 g14 := hw9.2.2.2.1
      have hE : xEk ([1858, 1859, 1888, 1894, 1900, 1905, 1906, 2566], [60, 61, 62, 63, 64, 65, 66, 67, 68, 69, 70, 71, 72, 77, 78, 79, 81, 82, 84], [73]) f a g f12 a13 g14 := xEk_tr hE eE15
      have hk0 : f12 1858 = -1 := hw9.2.2.2.2
      exact kI_ret (v := v10) hx hb hr hlocks rfl hK hS dX11_taught_21 (f12, a13, g14) hP hD ⟨(kb_any v10), hI, hG, hE, hk0⟩
    · have h16 := (kc_nle c6)
      have b17 : kb 3 x 2147483647 := kr_lt2 h16 kc_2 b5 (by decide)
      refine lv_iconst (v := (-1)) hx hb dX11_taught_9 (by decide) ?_
      refine lv_goto (tgt := 21) hx hb dX11_taught_10 (by decide) ?_
      exact kI_ret (v := (-1)) hx hb hr hlocks rfl hK hS dX11_taught_21 (f, a, g) hP hD ⟨(kb_w kc_m1 (by decide) (by decide)), hI, hG, hE, hk0⟩
