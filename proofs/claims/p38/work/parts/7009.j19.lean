set_option maxHeartbeats 4000000 in
set_option maxRecDepth 100000 in
theorem z_undo  (l : Launch) {D : va_G} {K : Nat → ClassId} (r : Nat → Nat) (f : Nat → Int32) (a : Nat → Nat → Int32) (g : xG) (tx tt : va_W) (hT : ∀ c ∈ tt, c ∈ tx) (hI : xI f a) (hG : gOK K g.2 tt)   (k : Nat → Int32) (hVw : sV 32 2 f a k) (hkk : kK k) (P : pS) (hp0 : xPs (f 704) (f 705) (a 23) P (kBn k)) (hp1 : ∀ j, j < P.1 → 0 ≤ (P.2.1 j).toInt) : kIG l yX11_undo (Cond.code yX11_undo cX11_undo 1 (some .int) :: kG) (rmD 4 0 0) D K [.ref (r 0)] (xX K r f a g tx) (fun v (u : xS) => kb (-2147483648) v 2147483647 ∧ xI u.1 u.2.1 ∧ gOK K u.2.2.2 tt ∧ xEk ([16, 704, 705, 2565, 2566, 2786], [6, 9, 10, 11, 81, 94], []) f a g u.1 u.2.1 u.2.2 ∧ xTp 32 2 v u.1 u.2.1 (a 94) (udF k P) (kBn k) (decide ((udF k P).1 < 0))) (fun u => xX K r u.1 u.2.1 u.2.2 tx) 0 0 := by
  refine kIE.of (cc := cX11_undo) (maxL := 1) (ret := (some .int)) (by decide) rfl (Nat.le_of_ble_eq_true rfl) ?_
  intro p e s m below meth c A hx hb hr hml hown hts hlocks hnm hK hP hD hS hA hV ls hl
  have hE : xEk ([16, 704, 705, 2565, 2566, 2786], [6, 9, 10, 11, 81, 94], []) f a g f a g := xEk_rf
  have hg : ∀ w ∈ kG, w.before _ s = true := fun w h => hts w (List.mem_cons_of_mem _ h)
  have hown : s.vm.findClass RX11 = some m.cls := hown
  have hl : lv_has ls 1 [(0, .ref (r 0))] := hl
  refine lv_aload_n hx hb dX11_undo_0 rfl (lv_at hl 0 rfl) ?_
  refine lv_aload_n hx hb dX11_undo_1 rfl (lv_at hl 0 rfl) ?_
  refine va_get (D := D) (ci := 11) (v := .ref (r 22)) (C := RX11) (T := TX11) (N := 17) hx hb hg inC11 hown hK hP 0 rfl rfl 1 (by decide) (hg _ wt2_187) (fun _ h9 => h9) rfl dX11_undo_2 ?_
  refine lv_aload_n hx hb dX11_undo_5 rfl (lv_at hl 0 rfl) ?_
  refine va_get (D := D) (ci := 11) (v := .ref (r 1)) (C := RX11) (T := TX11) (N := 17) hx hb hg inC11 hown hK hP 0 rfl rfl 0 (by decide) (hg _ wt2_186) (fun _ h9 => h9) rfl dX11_undo_6 ?_
  refine kIG.callW (As := [.ref (r 1)]) (rest := [.ref (r 0)]) ⟨hx, hb, hml, hown, hg⟩ (z_restoreLatest l r f a g tx tt hT hI hG   k hVw hkk P hp0) (cwV 1 hg (kgV wt4_193 wt4_194 wt4_195 wt1_4 wt4_196) rfl rfl rfl (by decide +kernel) ⟨by decide, by decide⟩) hV hK hP hD hS hA (22) 2 rfl rfl rfl hl.1 rfl (Nat.le_of_ble_eq_true rfl) dX11_undo_9 ⟨Nat.le_refl _, Nat.le_refl _⟩ (fun v2 u3 H locs hw1 hP hD hS => ?_)
  obtain ⟨f4, a5, g6⟩ := u3
  have hP : va_P D vwCl (xX K r f4 a5 g6 tx) H := hP
  have hD : va_D A (xX K r f4 a5 g6 tx) := hD
  have hI : xI f4 a5 := hw1.2.1
  have hG : gOK K g6.2 tt := hw1.2.2.1
  have eE7 : xEk ([704, 705], [6, 9, 10, 11], []) f a g f4 a5 g6 := hw1.2.2.2.1
  have hE : xEk ([16, 704, 705, 2565, 2566, 2786], [6, 9, 10, 11, 81, 94], []) f a g f4 a5 g6 := xEk_tr hE (xEk_w (by decide +kernel) eE7)
  refine kIG.callW (As := [.int v2]) (rest := []) ⟨hx, hb, hml, hown, hg⟩ (z_settle l r f4 a5 g6 tx tt hT hI hG v2  (fun h => dN (udF_r hp1) (hw1.2.2.2.2).1 h)) (cwV 1 hg (kgV wt4_170 wt4_172 wp2_11 wt1_1 wt4_173) rfl rfl rfl (by decide +kernel) ⟨by decide, by decide⟩) hV hK hP hD hS hA (0) 11 rfl rfl rfl hl.1 rfl (Nat.le_of_ble_eq_true rfl) dX11_undo_12 ⟨Nat.le_refl _, Nat.le_refl _⟩ (fun v9 u10 H locs hw8 hP hD hS => ?_)
  obtain ⟨f11, a12, g13⟩ := u10
  have hP : va_P D vwCl (xX K r f11 a12 g13 tx) H := hP
  have hD : va_D A (xX K r f11 a12 g13 tx) := hD
  have hI : xI f11 a12 := hw8.2.1
  have hG : gOK K g13.2 tt := hw8.2.2.1
  have eE14 : xEk ([16, 2565, 2566, 2786], [81, 94], []) f4 a5 g6 f11 a12 g13 := hw8.2.2.2.1
  have hE : xEk ([16, 704, 705, 2565, 2566, 2786], [6, 9, 10, 11, 81, 94], []) f a g f11 a12 g13 := xEk_tr hE (xEk_w (by decide +kernel) eE14)
  refine k_top (z := v2) hw8.2.2.2.2.1 ?_
  exact kI_ret (v := v2) hx hb hr hlocks rfl hK hS dX11_undo_15 (f11, a12, g13) hP hD ⟨(kb_any v2), hI, hG, hE, (xTp_i hw1.2.2.2.2 (fun h => sV_E h eE14 (by decide +kernel) (by decide +kernel)) (fun h => xP_cg h (eE14.1 704 rfl) (eE14.1 705 rfl) (eE14.2.1 23 rfl)) hw8.2.2.2.2.2.1 (fun R1 hR => hw8.2.2.2.2.2.2 R1 (by rw [show a5 94 = a 94 from (eE7.2.1 94 rfl)]; exact hR)))⟩
set_option maxHeartbeats 4000000 in
set_option maxRecDepth 100000 in
theorem z_nights  (l : Launch) {D : va_G} {K : Nat → ClassId} (r : Nat → Nat) (f : Nat → Int32) (a : Nat → Nat → Int32) (g : xG) (tx tt : va_W) (hT : ∀ c ∈ tt, c ∈ tx) (hI : xI f a) (hG : gOK K g.2 tt) (x : Int32) (y : Int32)    : kIG l yX11_nights (Cond.code yX11_nights cX11_nights 3 (some .int) :: kG) (rmD 6 0 0) D K [.ref (r 0), .int x, .int y] (xX K r f a g tx) (fun v (u : xS) => kb (-2147483648) v 2147483647 ∧ xI u.1 u.2.1 ∧ gOK K u.2.2.2 tt ∧ xEk ([16, 1888, 1894, 1900, 1905, 1906, 2849, 2850], [60, 61, 62, 63, 64, 65, 66, 67, 68, 69, 70, 71, 72, 77, 78, 79, 90, 91, 94], [73]) f a g u.1 u.2.1 u.2.2 ∧ ((v = -1 ∧ ¬ ngtO x y ∧ u.1 16 = -1 ∧ ∀ R1, rfE (a 94) R1 → rfE (u.2.1 94) (rfS (-1 : Int32).toInt R1)) ∨ (ngtO x y ∧ u.1 16 = 0 ∧ ∀ R1, rfE (a 94) R1 → rfE (u.2.1 94) R1))) (fun u => xX K r u.1 u.2.1 u.2.2 tx) 0 0 := by
  refine kIE.of (cc := cX11_nights) (maxL := 3) (ret := (some .int)) (by decide) rfl (Nat.le_of_ble_eq_true rfl) ?_
  intro p e s m below meth c A hx hb hr hml hown hts hlocks hnm hK hP hD hS hA hV ls hl
  have hE : xEk ([16, 1888, 1894, 1900, 1905, 1906, 2849, 2850], [60, 61, 62, 63, 64, 65, 66, 67, 68, 69, 70, 71, 72, 77, 78, 79, 90, 91, 94], [73]) f a g f a g := xEk_rf
  have hg : ∀ w ∈ kG, w.before _ s = true := fun w h => hts w (List.mem_cons_of_mem _ h)
  have hown : s.vm.findClass RX11 = some m.cls := hown
  have hl : lv_has ls 3 [(0, .ref (r 0)), (1, .int x), (2, .int y)] := hl
  refine lv_iload_n hx hb dX11_nights_0 rfl (lv_at hl 1 rfl) ?_
  refine lv_if_lt (tgt := 22) hx hb dX11_nights_1 (by decide) (fun c1 => ?_) (fun c1 => ?_)
  · have h2 := (kc_lt c1)
    have b3 : kb (-2147483648) x (-1) := kr_lt1 h2 (kb_any x) kc_0 (by decide)
    refine lv_aload_n hx hb dX11_nights_22 rfl (lv_at hl 0 rfl) ?_
    refine lv_iconst (v := (-1)) hx hb dX11_nights_23 (by decide) ?_
    refine kIG.callW (As := [.int (-1)]) (rest := []) ⟨hx, hb, hml, hown, hg⟩ (z_refuse l r f a g tx tt hT hI hG (-1) (kb_w kc_m1 (by decide) (by decide)) (by decide +kernel)) (cwV 1 hg (kgV wt3_7 wt3_9 wp1_0 wt1_1 wt3_10) rfl rfl rfl (by decide +kernel) ⟨by decide, by decide⟩) hV hK hP hD hS hA (0) 11 rfl rfl rfl hl.1 rfl (Nat.le_of_ble_eq_true rfl) dX11_nights_24 ⟨Nat.le_refl _, Nat.le_refl _⟩ (fun v5 u6 H locs hw4 hP hD hS => ?_)
    obtain ⟨f7, a8, g9⟩ := u6
    have hP : va_P D vwCl (xX K r f7 a8 g9 tx) H := hP
    have hD : va_D A (xX K r f7 a8 g9 tx) := hD
    have hI : xI f7 a8 := hw4.2.1
    have hG : gOK K g9.2 tt := hw4.2.2.1
    have eE10 : xEk ([16], [94], []) f a g f7 a8 g9 := hw4.2.2.2.1
    have hE : xEk ([16, 1888, 1894, 1900, 1905, 1906, 2849, 2850], [60, 61, 62, 63, 64, 65, 66, 67, 68, 69, 70, 71, 72, 77, 78, 79, 90, 91, 94], [73]) f a g f7 a8 g9 := xEk_tr hE (xEk_w (by decide +kernel) eE10)
    refine k_top (z := (-1)) hw4.2.2.2.2.1 ?_
    exact kI_ret (v := (-1)) hx hb hr hlocks rfl hK hS dX11_nights_27 (f7, a8, g9) hP hD ⟨(kb_w kc_m1 (by decide) (by decide)), hI, hG, hE, (Or.inl ⟨rfl, (fun q => by have w1 := (b3).1; have w2 := (b3).2; have w3 := ((kb_any y)).1; have w4 := ((kb_any y)).2; have q1 := q.1; have q2 := q.2; omega), hw4.2.2.2.2.2.1, fun R1 hR => hw4.2.2.2.2.2.2 R1 hR⟩)⟩
  · have h11 := (kc_nlt c1)
    have b12 : kb 0 x 2147483647 := kr_le2 h11 kc_0 (kb_any x)
    refine lv_iload_n hx hb dX11_nights_4 rfl (lv_at hl 1 rfl) ?_
    refine lv_ldcw (v := (1000000)) hx hb hown (hg _ wt5_118) dX11_nights_5 ?_
    refine lv_icmp_gt (tgt := 22) hx hb dX11_nights_8 (by decide) (fun c13 => ?_) (fun c13 => ?_)
    · have h14 := (kc_lt c13)
      have b15 : kb 1000001 x 2147483647 := kr_lt2 h14 kc_1000000 b12 (by decide)
      refine lv_aload_n hx hb dX11_nights_22 rfl (lv_at hl 0 rfl) ?_
      refine lv_iconst (v := (-1)) hx hb dX11_nights_23 (by decide) ?_
      refine kIG.callW (As := [.int (-1)]) (rest := []) ⟨hx, hb, hml, hown, hg⟩ (z_refuse l r f a g tx tt hT hI hG (-1) (kb_w kc_m1 (by decide) (by decide)) (by decide +kernel)) (cwV 1 hg (kgV wt3_7 wt3_9 wp1_0 wt1_1 wt3_10) rfl rfl rfl (by decide +kernel) ⟨by decide, by decide⟩) hV hK hP hD hS hA (0) 11 rfl rfl rfl hl.1 rfl (Nat.le_of_ble_eq_true rfl) dX11_nights_24 ⟨Nat.le_refl _, Nat.le_refl _⟩ (fun v17 u18 H locs hw16 hP hD hS => ?_)
      obtain ⟨f19, a20, g21⟩ := u18
      have hP : va_P D vwCl (xX K r f19 a20 g21 tx) H := hP
      have hD : va_D A (xX K r f19 a20 g21 tx) := hD
      have hI : xI f19 a20 := hw16.2.1
      have hG : gOK K g21.2 tt := hw16.2.2.1
      have eE22 : xEk ([16], [94], []) f a g f19 a20 g21 := hw16.2.2.2.1
      have hE : xEk ([16, 1888, 1894, 1900, 1905, 1906, 2849, 2850], [60, 61, 62, 63, 64, 65, 66, 67, 68, 69, 70, 71, 72, 77, 78, 79, 90, 91, 94], [73]) f a g f19 a20 g21 := xEk_tr hE (xEk_w (by decide +kernel) eE22)
      refine k_top (z := (-1)) hw16.2.2.2.2.1 ?_
      exact kI_ret (v := (-1)) hx hb hr hlocks rfl hK hS dX11_nights_27 (f19, a20, g21) hP hD ⟨(kb_w kc_m1 (by decide) (by decide)), hI, hG, hE, (Or.inl ⟨rfl, (fun q => by have w1 := (b15).1; have w2 := (b15).2; have w3 := ((kb_any y)).1; have w4 := ((kb_any y)).2; have q1 := q.1; have q2 := q.2; omega), hw16.2.2.2.2.2.1, fun R1 hR => hw16.2.2.2.2.2.2 R1 hR⟩)⟩
    · have h23 := (kc_nlt c13)
      have b24 : kb 0 x 1000000 := kr_le1 h23 b12 kc_1000000
      refine lv_iload_n hx hb dX11_nights_11 rfl (lv_at hl 2 rfl) ?_
      refine lv_iconst (v := 1) hx hb dX11_nights_12 (by decide) ?_
      refine lv_icmp_lt (tgt := 22) hx hb dX11_nights_13 (by decide) (fun c25 => ?_) (fun c25 => ?_)
      · have h26 := (kc_lt c25)
        have b27 : kb (-2147483648) y 0 := kr_lt1 h26 (kb_any y) kc_1 (by decide)
        refine lv_aload_n hx hb dX11_nights_22 rfl (lv_at hl 0 rfl) ?_
        refine lv_iconst (v := (-1)) hx hb dX11_nights_23 (by decide) ?_
        refine kIG.callW (As := [.int (-1)]) (rest := []) ⟨hx, hb, hml, hown, hg⟩ (z_refuse l r f a g tx tt hT hI hG (-1) (kb_w kc_m1 (by decide) (by decide)) (by decide +kernel)) (cwV 1 hg (kgV wt3_7 wt3_9 wp1_0 wt1_1 wt3_10) rfl rfl rfl (by decide +kernel) ⟨by decide, by decide⟩) hV hK hP hD hS hA (0) 11 rfl rfl rfl hl.1 rfl (Nat.le_of_ble_eq_true rfl) dX11_nights_24 ⟨Nat.le_refl _, Nat.le_refl _⟩ (fun v29 u30 H locs hw28 hP hD hS => ?_)
        obtain ⟨f31, a32, g33⟩ := u30
        have hP : va_P D vwCl (xX K r f31 a32 g33 tx) H := hP
        have hD : va_D A (xX K r f31 a32 g33 tx) := hD
        have hI : xI f31 a32 := hw28.2.1
        have hG : gOK K g33.2 tt := hw28.2.2.1
        have eE34 : xEk ([16], [94], []) f a g f31 a32 g33 := hw28.2.2.2.1
        have hE : xEk ([16, 1888, 1894, 1900, 1905, 1906, 2849, 2850], [60, 61, 62, 63, 64, 65, 66, 67, 68, 69, 70, 71, 72, 77, 78, 79, 90, 91, 94], [73]) f a g f31 a32 g33 := xEk_tr hE (xEk_w (by decide +kernel) eE34)
        refine k_top (z := (-1)) hw28.2.2.2.2.1 ?_
        exact kI_ret (v := (-1)) hx hb hr hlocks rfl hK hS dX11_nights_27 (f31, a32, g33) hP hD ⟨(kb_w kc_m1 (by decide) (by decide)), hI, hG, hE, (Or.inl ⟨rfl, (fun q => by have w1 := (b24).1; have w2 := (b24).2; have w3 := (b27).1; have w4 := (b27).2; have q1 := q.1; have q2 := q.2; omega), hw28.2.2.2.2.2.1, fun R1 hR => hw28.2.2.2.2.2.2 R1 hR⟩)⟩
      · have h35 := (kc_nlt c25)
        have b36 : kb 1 y 2147483647 := kr_le2 h35 kc_1 (kb_any y)
        refine lv_iload_n hx hb dX11_nights_16 rfl (lv_at hl 2 rfl) ?_
        refine lv_bipush (v := 20) hx hb dX11_nights_17 (by decide) ?_
        refine lv_icmp_le (tgt := 28) hx hb dX11_nights_19 (by decide) (fun c37 => ?_) (fun c37 => ?_)
        · have h38 := (kc_le c37)
          have b39 : kb 1 y 20 := kr_le1 h38 b36 kc_20
          refine lv_aload_n hx hb dX11_nights_28 rfl (lv_at hl 0 rfl) ?_
          refine lv_aload_n hx hb dX11_nights_29 rfl (lv_at hl 0 rfl) ?_
          refine va_get (D := D) (ci := 11) (v := .ref (r 89)) (C := RX11) (T := TX11) (N := 17) hx hb hg inC11 hown hK hP 0 rfl rfl 8 (by decide) (hg _ wt2_194) (fun _ h9 => h9) rfl dX11_nights_30 ?_
          refine lv_iload_n hx hb dX11_nights_33 rfl (lv_at hl 1 rfl) ?_
          refine lv_iload_n hx hb dX11_nights_34 rfl (lv_at hl 2 rfl) ?_
          refine kIG.callW (As := [.int x, .int y]) (rest := [.ref (r 0)]) ⟨hx, hb, hml, hown, hg⟩ (x_1_drawNights l r f a g tx tt hT hI hG x y b39 ) (cwV 2 hg (kgV wt5_119 wt5_120 wt5_121 wt1_13 wt5_122) rfl rfl rfl (by decide +kernel) ⟨by decide, by decide⟩) hV hK hP hD hS hA (89) 1 rfl rfl rfl hl.1 rfl (Nat.le_of_ble_eq_true rfl) dX11_nights_35 ⟨Nat.le_refl _, Nat.le_refl _⟩ (fun v41 u42 H locs hw40 hP hD hS => ?_)
          obtain ⟨f43, a44, g45⟩ := u42
          have hP : va_P D vwCl (xX K r f43 a44 g45 tx) H := hP
          have hD : va_D A (xX K r f43 a44 g45 tx) := hD
          have hI : xI f43 a44 := hw40.2.1
          have hG : gOK K g45.2 tt := hw40.2.2.1
          have eE46 : xEk ([1888, 1894, 1900, 1905, 1906, 2849, 2850], [60, 61, 62, 63, 64, 65, 66, 67, 68, 69, 70, 71, 72, 77, 78, 79, 90, 91], [73]) f a g f43 a44 g45 := hw40.2.2.2
          have hE : xEk ([16, 1888, 1894, 1900, 1905, 1906, 2849, 2850], [60, 61, 62, 63, 64, 65, 66, 67, 68, 69, 70, 71, 72, 77, 78, 79, 90, 91, 94], [73]) f a g f43 a44 g45 := xEk_tr hE (xEk_w (by decide +kernel) eE46)
          refine kIG.callW (As := [.int v41]) (rest := []) ⟨hx, hb, hml, hown, hg⟩ (z_agree l r f43 a44 g45 tx tt hT hI hG v41  ) (cwV 1 hg (kgV wt3_27 wt3_29 wp1_2 wt1_1 wt3_30) rfl rfl rfl (by decide +kernel) ⟨by decide, by decide⟩) hV hK hP hD hS hA (0) 11 rfl rfl rfl hl.1 rfl (Nat.le_of_ble_eq_true rfl) dX11_nights_38 ⟨Nat.le_refl _, Nat.le_refl _⟩ (fun v48 u49 H locs hw47 hP hD hS => ?_)
          obtain ⟨f50, a51, g52⟩ := u49
          have hP : va_P D vwCl (xX K r f50 a51 g52 tx) H := hP
          have hD : va_D A (xX K r f50 a51 g52 tx) := hD
          have hI : xI f50 a51 := hw47.2.1
          have hG : gOK K g52.2 tt := hw47.2.2.1
          have eE53 : xEk ([16], [], []) f43 a44 g45 f50 a51 g52 := hw47.2.2.2.1
          have hE : xEk ([16, 1888, 1894, 1900, 1905, 1906, 2849, 2850], [60, 61, 62, 63, 64, 65, 66, 67, 68, 69, 70, 71, 72, 77, 78, 79, 90, 91, 94], [73]) f a g f50 a51 g52 := xEk_tr hE (xEk_w (by decide +kernel) eE53)
          refine k_top (z := v41) hw47.2.2.2.2.1 ?_
          exact kI_ret (v := v41) hx hb hr hlocks rfl hK hS dX11_nights_41 (f50, a51, g52) hP hD ⟨(kb_any v41), hI, hG, hE, (Or.inr ⟨⟨⟨(b24).1, (b24).2⟩, (b39).1, (b39).2⟩, hw47.2.2.2.2.2, fun R1 hR => by show rfE (a51 94) R1; rw [show a51 94 = a 94 from ((eE53.2.1 94 rfl).trans (eE46.2.1 94 rfl))]; exact hR⟩)⟩
        · have h54 := (kc_nle c37)
          have b55 : kb 21 y 2147483647 := kr_lt2 h54 kc_20 b36 (by decide)
          refine lv_aload_n hx hb dX11_nights_22 rfl (lv_at hl 0 rfl) ?_
          refine lv_iconst (v := (-1)) hx hb dX11_nights_23 (by decide) ?_
          refine kIG.callW (As := [.int (-1)]) (rest := []) ⟨hx, hb, hml, hown, hg⟩ (z_refuse l r f a g tx tt hT hI hG (-1) (kb_w kc_m1 (by decide) (by decide)) (by decide +kernel)) (cwV 1 hg (kgV wt3_7 wt3_9 wp1_0 wt1_1 wt3_10) rfl rfl rfl (by decide +kernel) ⟨by decide, by decide⟩) hV hK hP hD hS hA (0) 11 rfl rfl rfl hl.1 rfl (Nat.le_of_ble_eq_true rfl) dX11_nights_24 ⟨Nat.le_refl _, Nat.le_refl _⟩ (fun v57 u58 H locs hw56 hP hD hS => ?_)
          obtain ⟨f59, a60, g61⟩ := u58
          have hP : va_P D vwCl (xX K r f59 a60 g61 tx) H := hP
          have hD : va_D A (xX K r f59 a60 g61 tx) := hD
          have hI : xI f59 a60 := hw56.2.1
          have hG : gOK K g61.2 tt := hw56.2.2.1
          have eE62 : xEk ([16], [94], []) f a g f59 a60 g61 := hw56.2.2.2.1
          have hE : xEk ([16, 1888, 1894, 1900, 1905, 1906, 2849, 2850], [60, 61, 62, 63, 64, 65, 66, 67, 68, 69, 70, 71, 72, 77, 78, 79, 90, 91, 94], [73]) f a g f59 a60 g61 := xEk_tr hE (xEk_w (by decide +kernel) eE62)
          refine k_top (z := (-1)) hw56.2.2.2.2.1 ?_
          exact kI_ret (v := (-1)) hx hb hr hlocks rfl hK hS dX11_nights_27 (f59, a60, g61) hP hD ⟨(kb_w kc_m1 (by decide) (by decide)), hI, hG, hE, (Or.inl ⟨rfl, (fun q => by have w1 := (b24).1; have w2 := (b24).2; have w3 := (b55).1; have w4 := (b55).2; have q1 := q.1; have q2 := q.2; omega), hw56.2.2.2.2.2.1, fun R1 hR => hw56.2.2.2.2.2.2 R1 hR⟩)⟩
