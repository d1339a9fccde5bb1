theorem ask_3 {DD : Nat → tE} {k : Nat → Int32} {b p : Int32} : 0 ≤ askF DD k 3 b p ∧ askF DD k 3 b p ≤ 1 := by
  have q : wo0 k 3 b p = 0 := by
    unfold wo0
    rw [if_neg (by decide), if_pos rfl]
  have e : kHi 3 = 1 := by decide
  unfold askF
  split
  · rw [q]; omega
  · have w := lastOf_b (f := clT (DD (k 106).toInt.toNat) (kHd 3) (lwW k b p) (kHi 3)) (w := wo0 k 3 b p) (l := 0) (h := kHi 3) ⟨by rw [q]; omega, by rw [q, e]; decide⟩ (fun c x hx => clT_b (by rw [e]; decide) c x hx) (DD (k 106).toInt.toNat).1
    unfold lwV
    rw [e] at w
    exact w
theorem as_z {DD : Nat → tE} {k : Nat → Int32} {x y z : Int32} (hx : okB k x = true) (hy : okQ k y = true) (hz : kb 0 z 3) : asF DD k x y z = askF DD k z.toInt.toNat x y := by
  unfold asF
  rw [if_pos hx, if_pos hy]
  rcases tr_ix hz with ⟨e, _, _⟩ | ⟨e, _, _⟩ | ⟨e, _, _⟩ | ⟨e, _, _⟩
  · rw [e, if_pos rfl, show (0 : Int32).toInt.toNat = 0 from by decide +kernel]
  · rw [e, if_neg (by decide +kernel), if_pos rfl, show (1 : Int32).toInt.toNat = 1 from by decide +kernel]
  · rw [e, if_neg (by decide +kernel), if_neg (by decide +kernel), if_pos rfl, show (2 : Int32).toInt.toNat = 2 from by decide +kernel]
  · rw [e, if_neg (by decide +kernel), if_neg (by decide +kernel), if_neg (by decide +kernel), if_pos rfl, show (3 : Int32).toInt.toNat = 3 from by decide +kernel]
    have w := ask_3 (DD := DD) (k := k) (b := x) (p := y)
    by_cases c : askF DD k 3 x y = 1
    · rw [if_pos c, c]
    · rw [if_neg c]; omega
theorem as_o {DD : Nat → tE} {k : Nat → Int32} {x y z : Int32} (h : ¬ (0 ≤ z.toInt ∧ z.toInt ≤ 3)) : asF DD k x y z = -1 := by
  unfold asF
  have n0 : ¬ z = 0 := fun e => h (by rw [e]; decide +kernel)
  have n1 : ¬ z = 1 := fun e => h (by rw [e]; decide +kernel)
  have n2 : ¬ z = 2 := fun e => h (by rw [e]; decide +kernel)
  have n3 : ¬ z = 3 := fun e => h (by rw [e]; decide +kernel)
  rw [if_neg n0, if_neg n1, if_neg n2, if_neg n3]
  split
  · split <;> rfl
  · rfl
set_option maxHeartbeats 4000000 in
set_option maxRecDepth 100000 in
theorem z_at  (l : Launch) {D : va_G} {K : Nat → ClassId} (r : Nat → Nat) (f : Nat → Int32) (a : Nat → Nat → Int32) (g : xG) (tx tt : va_W) (hT : ∀ c ∈ tt, c ∈ tx) (hI : xI f a) (hG : gOK K g.2 tt) (x : Int32) (y : Int32)  (k : Nat → Int32) (hVw : sV 32 2 f a k) (hkk : kK k)   : kIG l yX11_at (Cond.code yX11_at cX11_at 3 (some .int) :: kG) (rmD 2 0 0) D K [.ref (r 0), .int x, .int y] (xX K r f a g tx) (fun v (_ : Unit) => kb (-2147483648) v 2147483647 ∧ v = atF k x y) (fun _ => xX K r f a g tx) 0 0 := by
  refine kIE.of (cc := cX11_at) (maxL := 3) (ret := (some .int)) (by decide) rfl (Nat.le_of_ble_eq_true rfl) ?_
  intro p e s m below meth c A hx hb hr hml hown hts hlocks hnm hK hP hD hS hA hV ls hl
  have hg : ∀ w ∈ kG, w.before _ s = true := fun w h => hts w (List.mem_cons_of_mem _ h)
  have hown : s.vm.findClass RX11 = some m.cls := hown
  have hl : lv_has ls 3 [(0, .ref (r 0)), (1, .int x), (2, .int y)] := hl
  refine lv_aload_n hx hb dX11_at_0 rfl (lv_at hl 0 rfl) ?_
  refine va_get (D := D) (ci := 11) (v := .ref (r 1)) (C := RX11) (T := TX11) (N := 17) hx hb hg inC11 hown hK hP 0 rfl rfl 0 (by decide) (hg _ wt2_186) (fun _ h9 => h9) rfl dX11_at_1 ?_
  refine lv_iload_n hx hb dX11_at_4 rfl (lv_at hl 1 rfl) ?_
  refine kIG.callW (As := [.int x]) (rest := []) ⟨hx, hb, hml, hown, hg⟩ (z_hasBuilderN l r f a g tx tt hT hI hG x  k hVw hkk ) (cwV 1 hg (kgV wt3_67 wt3_68 wt3_69 wt1_2 wt3_70) rfl rfl rfl (by decide +kernel) ⟨by decide, by decide⟩) hV hK hP hD hS hA (1) 7 rfl rfl rfl hl.1 rfl (Nat.le_of_ble_eq_true rfl) dX11_at_5 ⟨Nat.le_refl _, Nat.le_refl _⟩ (fun v2 u3 H locs hw1 hP hD hS => ?_)
  have hP : va_P D vwCl (xX K r f a g tx) H := hP
  have hD : va_D A (xX K r f a g tx) := hD
  by_cases hh4 : 0 ≤ x.toInt ∧ x.toInt < (k 103).toInt
  · refine k_top (z := 1) (hw1.2.trans (if_pos hh4)) ?_
    have b5 : kb 0 x 5 := ⟨hh4.1, by have w1 := hh4.2; have w2 := (kK_r hkk 103 0 6 (by decide) (by decide)).2; omega⟩
    refine lv_if_ne (tgt := 13) hx hb dX11_at_8 (by decide) (fun c6 => ?_) (fun c6 => ?_)
    · refine lv_iload_n hx hb dX11_at_13 rfl (lv_at hl 2 rfl) ?_
      by_cases q7 : y = 0
      · have b8 : kb 0 y 0 := kb_eq q7 kc_0
        refine lv_tableIn (tgt := 44) hx hb dX11_at_14 (by rw [q7]; decide +kernel) (by rw [q7]; decide +kernel) (by rw [q7]; rfl) (by decide) ?_
        refine lv_aload_n hx hb dX11_at_44 rfl (lv_at hl 0 rfl) ?_
        refine va_get (D := D) (ci := 11) (v := .ref (r 1)) (C := RX11) (T := TX11) (N := 17) hx hb hg inC11 hown hK hP 0 rfl rfl 0 (by decide) (hg _ wt2_186) (fun _ h9 => h9) rfl dX11_at_45 ?_
        refine va_get (D := D) (ci := 7) (v := .ref (r 7)) (C := RX7) (T := TX7) (N := 20) hx hb hg inC7 hown hK hP 1 rfl rfl 7 (by decide) (hg _ wt1_112) (fun _ h9 => h9) rfl dX11_at_48 ?_
        refine lv_iload_n hx hb dX11_at_51 rfl (lv_at hl 1 rfl) ?_
        refine va_iald hx hb hK hP 7 0 rfl rfl (kb_in b5 (by decide) (by decide)) dX11_at_52 ?_
        refine lv_topi (fun t9 et9 => ?_)
        have kvt9 : t9 = k (63 + x.toNatClampNeg) := et9.trans ((sv_crafts hVw (kb_clt b5 (by decide) (by decide))))
        have b10 : kb 0 t9 15 := kb_eq et9 (et9 ▸ kb_eq kvt9 (kK_s hkk 63 6 _ _ (by decide) (by decide) (kb_clt b5 (by decide) (by decide))))
        exact kI_ret (v := t9) hx hb hr hlocks rfl hK hS dX11_at_53 () hP hD ⟨(kb_w b10 (by decide) (by decide)), (by unfold atF; rw [if_pos (okB_y hh4), if_pos q7]; exact kvt9)⟩
      by_cases q11 : y = 1
      · have b12 : kb 1 y 1 := kb_eq q11 kc_1
        refine lv_tableIn (tgt := 54) hx hb dX11_at_14 (by rw [q11]; decide +kernel) (by rw [q11]; decide +kernel) (by rw [q11]; rfl) (by decide) ?_
        refine lv_aload_n hx hb dX11_at_54 rfl (lv_at hl 0 rfl) ?_
        refine va_get (D := D) (ci := 11) (v := .ref (r 1)) (C := RX11) (T := TX11) (N := 17) hx hb hg inC11 hown hK hP 0 rfl rfl 0 (by decide) (hg _ wt2_186) (fun _ h9 => h9) rfl dX11_at_55 ?_
        refine va_get (D := D) (ci := 7) (v := .ref (r 8)) (C := RX7) (T := TX7) (N := 20) hx hb hg inC7 hown hK hP 1 rfl rfl 8 (by decide) (hg _ wt1_115) (fun _ h9 => h9) rfl dX11_at_58 ?_
        refine lv_iload_n hx hb dX11_at_61 rfl (lv_at hl 1 rfl) ?_
        refine va_iald hx hb hK hP 8 0 rfl rfl (kb_in b5 (by decide) (by decide)) dX11_at_62 ?_
        refine lv_topi (fun t13 et13 => ?_)
        have kvt13 : t13 = k (69 + x.toNatClampNeg) := et13.trans ((sv_pace hVw (kb_clt b5 (by decide) (by decide))))
        have b14 : kb 0 t13 9 := kb_eq et13 (et13 ▸ kb_eq kvt13 (kK_s hkk 69 6 _ _ (by decide) (by decide) (kb_clt b5 (by decide) (by decide))))
        exact kI_ret (v := t13) hx hb hr hlocks rfl hK hS dX11_at_63 () hP hD ⟨(kb_w b14 (by decide) (by decide)), (by unfold atF; rw [if_pos (okB_y hh4), if_neg (by rw [q11]; decide +kernel), if_pos q11]; exact kvt13)⟩
      by_cases q15 : y = 2
      · have b16 : kb 2 y 2 := kb_eq q15 kc_2
        refine lv_tableIn (tgt := 64) hx hb dX11_at_14 (by rw [q15]; decide +kernel) (by rw [q15]; decide +kernel) (by rw [q15]; rfl) (by decide) ?_
        refine lv_aload_n hx hb dX11_at_64 rfl (lv_at hl 0 rfl) ?_
        refine va_get (D := D) (ci := 11) (v := .ref (r 1)) (C := RX11) (T := TX11) (N := 17) hx hb hg inC11 hown hK hP 0 rfl rfl 0 (by decide) (hg _ wt2_186) (fun _ h9 => h9) rfl dX11_at_65 ?_
        refine va_get (D := D) (ci := 7) (v := .ref (r 9)) (C := RX7) (T := TX7) (N := 20) hx hb hg inC7 hown hK hP 1 rfl rfl 9 (by decide) (hg _ wt1_120) (fun _ h9 => h9) rfl dX11_at_68 ?_
        refine lv_iload_n hx hb dX11_at_71 rfl (lv_at hl 1 rfl) ?_
        refine va_iald hx hb hK hP 9 0 rfl rfl (kb_in b5 (by decide) (by decide)) dX11_at_72 ?_
        refine lv_topi (fun t17 et17 => ?_)
        have kvt17 : t17 = k (10 + x.toNatClampNeg) := et17.trans ((sv_tired hVw (kb_clt b5 (by decide) (by decide))))
        have b18 : kb 0 t17 99 := kb_eq et17 (et17 ▸ kb_eq kvt17 (kK_s hkk 10 6 _ _ (by decide) (by decide) (kb_clt b5 (by decide) (by decide))))
        exact kI_ret (v := t17) hx hb hr hlocks rfl hK hS dX11_at_73 () hP hD ⟨(kb_w b18 (by decide) (by decide)), (by unfold atF; rw [if_pos (okB_y hh4), if_neg (by rw [q15]; decide +kernel), if_neg (by rw [q15]; decide +kernel), if_pos q15]; exact kvt17)⟩
      by_cases q19 : y = 3
      · have b20 : kb 3 y 3 := kb_eq q19 kc_3
        refine lv_tableIn (tgt := 74) hx hb dX11_at_14 (by rw [q19]; decide +kernel) (by rw [q19]; decide +kernel) (by rw [q19]; rfl) (by decide) ?_
        refine lv_aload_n hx hb dX11_at_74 rfl (lv_at hl 0 rfl) ?_
        refine va_get (D := D) (ci := 11) (v := .ref (r 1)) (C := RX11) (T := TX11) (N := 17) hx hb hg inC11 hown hK hP 0 rfl rfl 0 (by decide) (hg _ wt2_186) (fun _ h9 => h9) rfl dX11_at_75 ?_
        refine va_get (D := D) (ci := 7) (v := .ref (r 10)) (C := RX7) (T := TX7) (N := 20) hx hb hg inC7 hown hK hP 1 rfl rfl 10 (by decide) (hg _ wt1_126) (fun _ h9 => h9) rfl dX11_at_78 ?_
        refine lv_iload_n hx hb dX11_at_81 rfl (lv_at hl 1 rfl) ?_
        refine va_iald hx hb hK hP 10 0 rfl rfl (kb_in b5 (by decide) (by decide)) dX11_at_82 ?_
        refine lv_topi (fun t21 et21 => ?_)
        have kvt21 : t21 = k (16 + x.toNatClampNeg) := et21.trans ((sv_place hVw (kb_clt b5 (by decide) (by decide)) (by have w1 := hh4; have w4 := (b5).1; have w5 := kb_cl b5 (by decide); omega)))
        have b22 : kb (-1) t21 9 := kb_eq et21 (et21 ▸ kb_eq kvt21 (kK_s hkk 16 6 _ _ (by decide) (by decide) (kb_clt b5 (by decide) (by decide))))
        exact kI_ret (v := t21) hx hb hr hlocks rfl hK hS dX11_at_83 () hP hD ⟨(kb_w b22 (by decide) (by decide)), (by unfold atF; rw [if_pos (okB_y hh4), if_neg (by rw [q19]; decide +kernel), if_neg (by rw [q19]; decide +kernel), if_neg (by rw [q19]; decide +kernel), if_pos q19]; exact kvt21)⟩
      refine lv_tableOut (tgt := 84) hx hb dX11_at_14 (by have gq7 := lv_neT q7 (a := 0) (by decide +kernel); have gq11 := lv_neT q11 (a := 1) (by decide +kernel); have gq15 := lv_neT q15 (a := 2) (by decide +kernel); have gq19 := lv_neT q19 (a := 3) (by decide +kernel); omega) (by decide) ?_
      refine lv_iconst (v := (-1)) hx hb dX11_at_84 (by decide) ?_
      exact kI_ret (v := (-1)) hx hb hr hlocks rfl hK hS dX11_at_85 () hP hD ⟨(kb_w kc_m1 (by decide) (by decide)), (by unfold atF; rw [if_pos (okB_y hh4), if_neg q7, if_neg q11, if_neg q15, if_neg q19])⟩
    · exact kb_dj c6 kc_1 kc_0 (by decide)
  · refine k_top (z := 0) (hw1.2.trans (if_neg hh4)) ?_
    refine lv_if_ne (tgt := 13) hx hb dX11_at_8 (by decide) (fun c23 => ?_) (fun c23 => ?_)
    · exact kb_nsame c23 kc_0 kc_0
    · refine lv_iconst (v := (-1)) hx hb dX11_at_11 (by decide) ?_
      exact kI_ret (v := (-1)) hx hb hr hlocks rfl hK hS dX11_at_12 () hP hD ⟨(kb_w kc_m1 (by decide) (by decide)), (by unfold atF; rw [if_neg (okB_n hh4)])⟩
set_option maxHeartbeats 4000000 in
set_option maxRecDepth 100000 in
theorem z_asks  (l : Launch) {D : va_G} {K : Nat → ClassId} (r : Nat → Nat) (f : Nat → Int32) (a : Nat → Nat → Int32) (g : xG) (tx tt : va_W) (hT : ∀ c ∈ tt, c ∈ tx) (hI : xI f a) (hG : gOK K g.2 tt) (x : Int32) (y : Int32) (z : Int32)  (k : Nat → Int32) (hVw : sV 32 2 f a k) (hkk : kK k) (DD : Nat → tE) (hL : lC K tt (g.2 15) k DD)   : kIG l yX11_asks (Cond.code yX11_asks cX11_asks 4 (some .int) :: kG) (rmD 4 0 0) D K [.ref (r 0), .int x, .int y, .int z] (xX K r f a g tx) (fun v (u : xS) => kb (-2147483648) v 2147483647 ∧ xI u.1 u.2.1 ∧ gOK K u.2.2.2 tt ∧ xEk ([], [], []) f a g u.1 u.2.1 u.2.2 ∧ v.toInt = asF DD k x y z) (fun u => xX K r u.1 u.2.1 u.2.2 tx) 0 0 := by
  refine kIE.of (cc := cX11_asks) (maxL := 4) (ret := (some .int)) (by decide) rfl (Nat.le_of_ble_eq_true rfl) ?_
  intro p e s m below meth c A hx hb hr hml hown hts hlocks hnm hK hP hD hS hA hV ls hl
  have hE : xEk ([], [], []) f a g f a g := xEk_rf
  have hg : ∀ w ∈ kG, w.before _ s = true := fun w h => hts w (List.mem_cons_of_mem _ h)
  have hown : s.vm.findClass RX11 = some m.cls := hown
  have hl : lv_has ls 4 [(0, .ref (r 0)), (1, .int x), (2, .int y), (3, .int z)] := hl
  refine lv_aload_n hx hb dX11_asks_0 rfl (lv_at hl 0 rfl) ?_
  refine va_get (D := D) (ci := 11) (v := .ref (r 1)) (C := RX11) (T := TX11) (N := 17) hx hb hg inC11 hown hK hP 0 rfl rfl 0 (by decide) (hg _ wt2_186) (fun _ h9 => h9) rfl dX11_asks_1 ?_
  refine lv_iload_n hx hb dX11_asks_4 rfl (lv_at hl 1 rfl) ?_
  refine kIG.callW (As := [.int x]) (rest := []) ⟨hx, hb, hml, hown, hg⟩ (z_hasBuilderN l r f a g tx tt hT hI hG x  k hVw hkk ) (cwV 1 hg (kgV wt3_67 wt3_68 wt3_69 wt1_2 wt3_70) rfl rfl rfl (by decide +kernel) ⟨by decide, by decide⟩) hV hK hP hD hS hA (1) 7 rfl rfl rfl hl.1 rfl (Nat.le_of_ble_eq_true rfl) dX11_asks_5 ⟨Nat.le_refl _, Nat.le_refl _⟩ (fun v2 u3 H locs hw1 hP hD hS => ?_)
  have hP : va_P D vwCl (xX K r f a g tx) H := hP
  have hD : va_D A (xX K r f a g tx) := hD
  by_cases hh4 : 0 ≤ x.toInt ∧ x.toInt < (k 103).toInt
  · refine k_top (z := 1) (hw1.2.trans (if_pos hh4)) ?_
    have b5 : kb 0 x 5 := ⟨hh4.1, by have w1 := hh4.2; have w2 := (kK_r hkk 103 0 6 (by decide) (by decide)).2; omega⟩
    refine lv_if_eq (tgt := 34) hx hb dX11_asks_8 (by decide) (fun c6 => ?_) (fun c6 => ?_)
    · exact kb_dj c6 kc_1 kc_0 (by decide)
    · refine lv_aload_n hx hb dX11_asks_11 rfl (lv_at hl 0 rfl) ?_
      refine va_get (D := D) (ci := 11) (v := .ref (r 1)) (C := RX11) (T := TX11) (N := 17) hx hb hg inC11 hown hK hP 0 rfl rfl 0 (by decide) (hg _ wt2_186) (fun _ h9 => h9) rfl dX11_asks_12 ?_
      refine lv_iload_n hx hb dX11_asks_15 rfl (lv_at hl 2 rfl) ?_
      refine kIG.callW (As := [.int y]) (rest := []) ⟨hx, hb, hml, hown, hg⟩ (z_hasPartN l r f a g tx tt hT hI hG y  k hVw hkk ) (cwV 1 hg (kgV wt3_35 wt3_36 wt3_37 wt1_2 wt3_38) rfl rfl rfl (by decide +kernel) ⟨by decide, by decide⟩) hV hK hP hD hS hA (1) 7 rfl rfl rfl hl.1 rfl (Nat.le_of_ble_eq_true rfl) dX11_asks_16 ⟨Nat.le_refl _, Nat.le_refl _⟩ (fun v8 u9 H locs hw7 hP hD hS => ?_)
      have hP : va_P D vwCl (xX K r f a g tx) H := hP
      have hD : va_D A (xX K r f a g tx) := hD
      by_cases hh10 : 0 ≤ y.toInt ∧ y.toInt < (k 102).toInt
      · refine k_top (z := 1) (hw7.2.trans (if_pos hh10)) ?_
        have b11 : kb 0 y 9 := ⟨hh10.1, by have w1 := hh10.2; have w2 := (kK_r hkk 102 0 10 (by decide) (by decide)).2; omega⟩
        refine lv_if_eq (tgt := 34) hx hb dX11_asks_19 (by decide) (fun c12 => ?_) (fun c12 => ?_)
        · exact kb_dj c12 kc_1 kc_0 (by decide)
        · refine lv_iload_n hx hb dX11_asks_22 rfl (lv_at hl 3 rfl) ?_
          refine lv_if_lt (tgt := 34) hx hb dX11_asks_23 (by decide) (fun c13 => ?_) (fun c13 => ?_)
          · have h14 := (kc_lt c13)
            have b15 : kb (-2147483648) z (-1) := kr_lt1 h14 (kb_any z) kc_0 (by decide)
            refine lv_iconst (v := (-1)) hx hb dX11_asks_34 (by decide) ?_
            exact kI_ret (v := (-1)) hx hb hr hlocks rfl hK hS dX11_asks_35 (f, a, g) hP hD ⟨(kb_w kc_m1 (by decide) (by decide)), hI, hG, hE, (by rw [as_o (fun q => by have w3 : (0 : Int32).toInt = 0 := (by decide +kernel); have w2 := kc_lt c13; omega)]; decide +kernel)⟩
          · have h16 := (kc_nlt c13)
            have b17 : kb 0 z 2147483647 := kr_le2 h16 kc_0 (kb_any z)
            refine lv_iload_n hx hb dX11_asks_26 rfl (lv_at hl 3 rfl) ?_
            obtain ⟨tt1, tt2, hz1, hT1, hz2, hT2⟩ := hV.2.1
            obtain ⟨tt3, hz3, hT3, hN3⟩ := hV.2.2.1
            refine va_gets hx hb hz3 hS hown (hg _ wt3_75) (fun _ h => h) dX11_asks_27 ?_
            refine va_tlen (v := 4) hx hb hT3 hS (by decide +kernel) dX11_asks_30 ?_
            refine lv_icmp_lt (tgt := 36) hx hb dX11_asks_31 (by decide) (fun c18 => ?_) (fun c18 => ?_)
            · have h19 := (kc_lt c18)
              have b20 : kb 0 z 3 := kr_lt1 h19 b17 kc_4 (by decide)
              refine lv_aload_n hx hb dX11_asks_36 rfl (lv_at hl 0 rfl) ?_
              refine va_get (D := D) (ci := 11) (v := .ref (r 1)) (C := RX11) (T := TX11) (N := 17) hx hb hg inC11 hown hK hP 0 rfl rfl 0 (by decide) (hg _ wt2_186) (fun _ h9 => h9) rfl dX11_asks_37 ?_
              refine lv_iload_n hx hb dX11_asks_40 rfl (lv_at hl 3 rfl) ?_
              refine lv_iload_n hx hb dX11_asks_41 rfl (lv_at hl 1 rfl) ?_
              refine lv_iload_n hx hb dX11_asks_42 rfl (lv_at hl 2 rfl) ?_
              refine kIG.callW (As := [.int z, .int x, .int y]) (rest := []) ⟨hx, hb, hml, hown, hg⟩ (z_askedN l r f a g tx tt hT hI hG z x y b20 b5 b11 k hVw hkk DD hL hh4 hh10) (cwV 3 hg (kgV wt3_77 wt3_78 wt3_79 wt1_2 wt3_80) rfl rfl rfl (by decide +kernel) ⟨by decide, by decide⟩) hV hK hP hD hS hA (1) 7 rfl rfl rfl hl.1 rfl (Nat.le_of_ble_eq_true rfl) dX11_asks_43 ⟨Nat.le_refl _, Nat.le_refl _⟩ (fun v22 u23 H locs hw21 hP hD hS => ?_)
              obtain ⟨f24, a25, g26⟩ := u23
              have hP : va_P D vwCl (xX K r f24 a25 g26 tx) H := hP
              have hD : va_D A (xX K r f24 a25 g26 tx) := hD
              have hI : xI f24 a25 := hw21.2.1
              have hG : gOK K g26.2 tt := hw21.2.2.1
              have eE27 : xEk ([], [], []) f a g f24 a25 g26 := hw21.2.2.2.1
              have hE : xEk ([], [], []) f a g f24 a25 g26 := xEk_tr hE eE27
              exact kI_ret (v := v22) hx hb hr hlocks rfl hK hS dX11_asks_46 (f24, a25, g26) hP hD ⟨(kb_any v22), hI, hG, hE, (by rw [as_z (okB_y hh4) (okQ_y hh10) b20]; exact hw21.2.2.2.2)⟩
            · have h28 := (kc_nlt c18)
              have b29 : kb 4 z 2147483647 := kr_le2 h28 kc_4 b17
              refine lv_iconst (v := (-1)) hx hb dX11_asks_34 (by decide) ?_
              exact kI_ret (v := (-1)) hx hb hr hlocks rfl hK hS dX11_asks_35 (f, a, g) hP hD ⟨(kb_w kc_m1 (by decide) (by decide)), hI, hG, hE, (by rw [as_o (fun q => by have w3 : (4 : Int32).toInt = 4 := (by decide +kernel); have w2 := kc_nlt c18; omega)]; decide +kernel)⟩
      · refine k_top (z := 0) (hw7.2.trans (if_neg hh10)) ?_
        refine lv_if_eq (tgt := 34) hx hb dX11_asks_19 (by decide) (fun c30 => ?_) (fun c30 => ?_)
        · refine lv_iconst (v := (-1)) hx hb dX11_asks_34 (by decide) ?_
          exact kI_ret (v := (-1)) hx hb hr hlocks rfl hK hS dX11_asks_35 (f, a, g) hP hD ⟨(kb_w kc_m1 (by decide) (by decide)), hI, hG, hE, (by unfold asF; rw [if_pos (okB_y hh4), if_neg (okQ_n hh10)]; decide +kernel)⟩
        · exact kb_nsame c30 kc_0 kc_0
  · refine k_top (z := 0) (hw1.2.trans (if_neg hh4)) ?_
    refine lv_if_eq (tgt := 34) hx hb dX11_asks_8 (by decide) (fun c31 => ?_) (fun c31 => ?_)
    · refine lv_iconst (v := (-1)) hx hb dX11_asks_34 (by decide) ?_
      exact kI_ret (v := (-1)) hx hb hr hlocks rfl hK hS dX11_asks_35 (f, a, g) hP hD ⟨(kb_w kc_m1 (by decide) (by decide)), hI, hG, hE, (by unfold asF; rw [if_neg (okB_n hh4)]; decide +kernel)⟩
    · exact kb_nsame c31 kc_0 kc_0
set_option maxHeartbeats 4000000 in
set_option maxRecDepth 100000 in
theorem z_stands  (l : Launch) {D : va_G} {K : Nat → ClassId} (r : Nat → Nat) (f : Nat → Int32) (a : Nat → Nat → Int32) (g : xG) (tx tt : va_W) (hT : ∀ c ∈ tt, c ∈ tx) (hI : xI f a) (hG : gOK K g.2 tt) (x : Int32)  (k : Nat → Int32) (hVw : sV 32 2 f a k) (hkk : kK k)   : kIG l yX11_stands (Cond.code yX11_stands cX11_stands 2 (some .int) :: kG) (rmD 3 0 0) D K [.ref (r 0), .int x] (xX K r f a g tx) (fun v (_ : Unit) => kb (-2147483648) v 2147483647 ∧ v = stF k x) (fun _ => xX K r f a g tx) 0 0 := by
  refine kIE.of (cc := cX11_stands) (maxL := 2) (ret := (some .int)) (by decide) rfl (Nat.le_of_ble_eq_true rfl) ?_
  intro p e s m below meth c A hx hb hr hml hown hts hlocks hnm hK hP hD hS hA hV ls hl
  have hg : ∀ w ∈ kG, w.before _ s = true := fun w h => hts w (List.mem_cons_of_mem _ h)
  have hown : s.vm.findClass RX11 = some m.cls := hown
  have hl : lv_has ls 2 [(0, .ref (r 0)), (1, .int x)] := hl
  refine lv_iload_n hx hb dX11_stands_0 rfl (lv_at hl 1 rfl) ?_
  by_cases q1 : x = 0
  · have b2 : kb 0 x 0 := kb_eq q1 kc_0
    refine lv_lookup (tgt := 28) (off := 27) hx hb dX11_stands_1 (by decide +kernel) (by rw [q1]; decide +kernel) (by decide) ?_
    refine lv_aload_n hx hb dX11_stands_28 rfl (lv_at hl 0 rfl) ?_
    refine va_get (D := D) (ci := 11) (v := .ref (r 1)) (C := RX11) (T := TX11) (N := 17) hx hb hg inC11 hown hK hP 0 rfl rfl 0 (by decide) (hg _ wt2_186) (fun _ h9 => h9) rfl dX11_stands_29 ?_
    refine kIG.callW (As := []) (rest := []) ⟨hx, hb, hml, hown, hg⟩ (z_upMaskN l r f a g tx tt hT hI hG   k hVw hkk ) (cwV 0 hg (kgV wt4_164 wt3_44 wt3_45 wt1_2 wt3_46) rfl rfl rfl (by decide +kernel) ⟨by decide, by decide⟩) hV hK hP hD hS hA (1) 7 rfl rfl rfl hl.1 rfl (Nat.le_of_ble_eq_true rfl) dX11_stands_32 ⟨Nat.le_refl _, Nat.le_refl _⟩ (fun v4 u5 H locs hw3 hP hD hS => ?_)
    have hP : va_P D vwCl (xX K r f a g tx) H := hP
    have hD : va_D A (xX K r f a g tx) := hD
    exact kI_ret (v := v4) hx hb hr hlocks rfl hK hS dX11_stands_35 () hP hD ⟨(kb_w hw3.1 (by decide) (by decide)), (by unfold stF; rw [if_pos q1]; exact hw3.2)⟩
  by_cases q6 : x = 1
  · have b7 : kb 1 x 1 := kb_eq q6 kc_1
    refine lv_lookup (tgt := 36) (off := 35) hx hb dX11_stands_1 (by decide +kernel) (by rw [q6]; decide +kernel) (by decide) ?_
    refine lv_aload_n hx hb dX11_stands_36 rfl (lv_at hl 0 rfl) ?_
    refine va_get (D := D) (ci := 11) (v := .ref (r 1)) (C := RX11) (T := TX11) (N := 17) hx hb hg inC11 hown hK hP 0 rfl rfl 0 (by decide) (hg _ wt2_186) (fun _ h9 => h9) rfl dX11_stands_37 ?_
    refine kIG.callW (As := []) (rest := []) ⟨hx, hb, hml, hown, hg⟩ (z_readyMaskN l r f a g tx tt hT hI hG   k hVw hkk ) (cwV 0 hg (kgV wt3_39 wt3_40 wt3_41 wt1_2 wt3_42) rfl rfl rfl (by decide +kernel) ⟨by decide, by decide⟩) hV hK hP hD hS hA (1) 7 rfl rfl rfl hl.1 rfl (Nat.le_of_ble_eq_true rfl) dX11_stands_40 ⟨Nat.le_refl _, Nat.le_refl _⟩ (fun v9 u10 H locs hw8 hP hD hS => ?_)
    have hP : va_P D vwCl (xX K r f a g tx) H := hP
    have hD : va_D A (xX K r f a g tx) := hD
    exact kI_ret (v := v9) hx hb hr hlocks rfl hK hS dX11_stands_43 () hP hD ⟨(kb_w hw8.1 (by decide) (by decide)), (by unfold stF; rw [if_neg (by rw [q6]; decide +kernel), if_pos q6]; exact hw8.2)⟩
  refine lv_lookup (tgt := 44) (off := 43) hx hb dX11_stands_1 (by decide +kernel) ((lv_osw q1 (by decide +kernel)).trans ((lv_osw q6 (by decide +kernel)).trans rfl)) (by decide) ?_
  refine lv_iconst (v := (-1)) hx hb dX11_stands_44 (by decide) ?_
  exact kI_ret (v := (-1)) hx hb hr hlocks rfl hK hS dX11_stands_45 () hP hD ⟨(kb_w kc_m1 (by decide) (by decide)), (by unfold stF; rw [if_neg q1, if_neg q6])⟩
set_option maxHeartbeats 4000000 in
set_option maxRecDepth 100000 in
theorem z_status  (l : Launch) {D : va_G} {K : Nat → ClassId} (r : Nat → Nat) (f : Nat → Int32) (a : Nat → Nat → Int32) (g : xG) (tx tt : va_W) (hT : ∀ c ∈ tt, c ∈ tx) (hI : xI f a) (hG : gOK K g.2 tt)     : kIG l yX11_status (Cond.code yX11_status cX11_status 1 (some .int) :: kG) (rmD 1 0 0) D K [.ref (r 0)] (xX K r f a g tx) (fun v (_ : Unit) => kb (-2147483648) v 2147483647 ∧ v = f 16) (fun _ => xX K r f a g tx) 0 0 := by
  refine kIE.of (cc := cX11_status) (maxL := 1) (ret := (some .int)) (by decide) rfl (Nat.le_of_ble_eq_true rfl) ?_
  intro p e s m below meth c A hx hb hr hml hown hts hlocks hnm hK hP hD hS hA hV ls hl
  have hg : ∀ w ∈ kG, w.before _ s = true := fun w h => hts w (List.mem_cons_of_mem _ h)
  have hown : s.vm.findClass RX11 = some m.cls := hown
  have hl : lv_has ls 1 [(0, .ref (r 0))] := hl
  refine lv_aload_n hx hb dX11_status_0 rfl (lv_at hl 0 rfl) ?_
  refine va_get (D := D) (ci := 11) (v := .int (f 16)) (C := RX11) (T := TX11) (N := 17) hx hb hg inC11 hown hK hP 0 rfl rfl 16 (by decide) (hg _ wt2_202) (fun _ h9 => h9) rfl dX11_status_1 ?_
  refine lv_topi (fun t1 et1 => ?_)
  exact kI_ret (v := t1) hx hb hr hlocks rfl hK hS dX11_status_4 () hP hD ⟨(kb_any t1), et1⟩
set_option maxHeartbeats 4000000 in
set_option maxRecDepth 100000 in
theorem z_stopped  (l : Launch) {D : va_G} {K : Nat → ClassId} (r : Nat → Nat) (f : Nat → Int32) (a : Nat → Nat → Int32) (g : xG) (tx tt : va_W) (hT : ∀ c ∈ tt, c ∈ tx) (hI : xI f a) (hG : gOK K g.2 tt)     : kIG l yX11_stopped (Cond.code yX11_stopped cX11_stopped 1 (some .int) :: kG) (rmD 1 0 0) D K [.ref (r 0)] (xX K r f a g tx) (fun v (_ : Unit) => kb (-2147483648) v 2147483647 ∧ v = f 15) (fun _ => xX K r f a g tx) 0 0 := by
  refine kIE.of (cc := cX11_stopped) (maxL := 1) (ret := (some .int)) (by decide) rfl (Nat.le_of_ble_eq_true rfl) ?_
  intro p e s m below meth c A hx hb hr hml hown hts hlocks hnm hK hP hD hS hA hV ls hl
  have hg : ∀ w ∈ kG, w.before _ s = true := fun w h => hts w (List.mem_cons_of_mem _ h)
  have hown : s.vm.findClass RX11 = some m.cls := hown
  have hl : lv_has ls 1 [(0, .ref (r 0))] := hl
  refine lv_aload_n hx hb dX11_stopped_0 rfl (lv_at hl 0 rfl) ?_
  refine va_get (D := D) (ci := 11) (v := .int (f 15)) (C := RX11) (T := TX11) (N := 17) hx hb hg inC11 hown hK hP 0 rfl rfl 15 (by decide) (hg _ wt2_201) (fun _ h9 => h9) rfl dX11_stopped_1 ?_
  refine lv_topi (fun t1 et1 => ?_)
  exact kI_ret (v := t1) hx hb hr hlocks rfl hK hS dX11_stopped_4 () hP hD ⟨(kb_any t1), et1⟩
