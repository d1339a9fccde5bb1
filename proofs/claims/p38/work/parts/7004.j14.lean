set_option maxHeartbeats 4000000 in
set_option maxRecDepth 100000 in
theorem z_sight  (l : Launch) {D : va_G} {K : Nat → ClassId} (r : Nat → Nat) (f : Nat → Int32) (a : Nat → Nat → Int32) (g : xG) (tx tt : va_W) (hT : ∀ c ∈ tt, c ∈ tx) (hI : xI f a) (hG : gOK K g.2 tt) (x : Int32) (y : Int32) (z : Int32)  (k : Nat → Int32) (hVw : sV 32 2 f a k) (hkk : kK k) (P : pS) (hp0 : xPs (f 704) (f 705) (a 23) P (kBn k)) : kIG l yX11_sight (Cond.code yX11_sight cX11_sight 4 (some .int) :: kG) (rmD 2 0 0) D K [.ref (r 0), .int x, .int y, .int z] (xX K r f a g tx) (fun v (u : xS) => kb (-2147483648) v 2147483647 ∧ xI u.1 u.2.1 ∧ gOK K u.2.2.2 tt ∧ xEk ([16, 44], [12, 13, 14, 94], []) f a g u.1 u.2.1 u.2.2 ∧ sgtP x y z v (f 32) (f 44) (u.1 44) ∧ xTe 32 2 v u.1 u.2.1 (a 94) k P (sgtK k (k 104).toInt.toNat x y z) P (kBn k)) (fun u => xX K r u.1 u.2.1 u.2.2 tx) 0 0 := by
  refine kIE.of (cc := cX11_sight) (maxL := 4) (ret := (some .int)) (by decide) rfl (Nat.le_of_ble_eq_true rfl) ?_
  intro p e s m below meth c A hx hb hr hml hown hts hlocks hnm hK hP hD hS hA hV ls hl
  have hE : xEk ([16, 44], [12, 13, 14, 94], []) f a g f a g := xEk_rf
  have hg : ∀ w ∈ kG, w.before _ s = true := fun w h => hts w (List.mem_cons_of_mem _ h)
  have hown : s.vm.findClass RX11 = some m.cls := hown
  have hl : lv_has ls 4 [(0, .ref (r 0)), (1, .int x), (2, .int y), (3, .int z)] := hl
  obtain ⟨c44, ec44⟩ : ∃ z : Int32, z = f 44 := ⟨_, rfl⟩
  refine lv_iload_n hx hb dX11_sight_0 rfl (lv_at hl 1 rfl) ?_
  refine lv_if_lt (tgt := 19) hx hb dX11_sight_1 (by decide) (fun c1 => ?_) (fun c1 => ?_)
  · have h2 := (kc_lt c1)
    have b3 : kb (-2147483648) x (-1) := kr_lt1 h2 (kb_any x) kc_0 (by decide)
    refine lv_aload_n hx hb dX11_sight_19 rfl (lv_at hl 0 rfl) ?_
    refine lv_iconst (v := (-1)) hx hb dX11_sight_20 (by decide) ?_
    refine kIG.callW (As := [.int (-1)]) (rest := []) ⟨hx, hb, hml, hown, hg⟩ (z_refuse l r f a g tx tt hT hI hG (-1) (kb_w kc_m1 (by decide) (by decide)) (by decide +kernel)) (cwV 1 hg (kgV wt3_7 wt3_9 wp1_0 wt1_1 wt3_10) rfl rfl rfl (by decide +kernel) ⟨by decide, by decide⟩) hV hK hP hD hS hA (0) 11 rfl rfl rfl hl.1 rfl (Nat.le_of_ble_eq_true rfl) dX11_sight_21 ⟨Nat.le_refl _, Nat.le_refl _⟩ (fun v5 u6 H locs hw4 hP hD hS => ?_)
    obtain ⟨f7, a8, g9⟩ := u6
    have hP : va_P D vwCl (xX K r f7 a8 g9 tx) H := hP
    have hD : va_D A (xX K r f7 a8 g9 tx) := hD
    have hI : xI f7 a8 := hw4.2.1
    have hG : gOK K g9.2 tt := hw4.2.2.1
    have eE10 : xEk ([16], [94], []) f a g f7 a8 g9 := hw4.2.2.2.1
    have hE : xEk ([16, 44], [12, 13, 14, 94], []) f a g f7 a8 g9 := xEk_tr hE (xEk_w (by decide +kernel) eE10)
    refine k_top (z := (-1)) hw4.2.2.2.2.1 ?_
    exact kI_ret (v := (-1)) hx hb hr hlocks rfl hK hS dX11_sight_24 (f7, a8, g9) hP hD ⟨(kb_w kc_m1 (by decide) (by decide)), hI, hG, hE, (Or.inl ⟨rfl, (fun q => by have w1 := (b3).1; have w2 := (b3).2; have w3 := ((kb_any z)).1; have w4 := ((kb_any z)).2; have q1 := q.1; have q2 := q.2; omega), ((((eE10.1 44 rfl).trans ec44.symm)).trans ec44)⟩), (Or.inl ⟨by decide +kernel, sV_E hVw eE10 (by decide +kernel) (by decide +kernel), xP_cg hp0 (eE10.1 704 rfl) (eE10.1 705 rfl) (eE10.2.1 23 rfl), hw4.2.2.2.2.2.1, fun R1 hR => hw4.2.2.2.2.2.2 R1 (by rw [show a 94 = a 94 from rfl]; exact hR)⟩)⟩
  · have h11 := (kc_nlt c1)
    have b12 : kb 0 x 2147483647 := kr_le2 h11 kc_0 (kb_any x)
    refine lv_iload_n hx hb dX11_sight_4 rfl (lv_at hl 1 rfl) ?_
    refine lv_bipush (v := 99) hx hb dX11_sight_5 (by decide) ?_
    refine lv_icmp_gt (tgt := 19) hx hb dX11_sight_7 (by decide) (fun c13 => ?_) (fun c13 => ?_)
    · have h14 := (kc_lt c13)
      have b15 : kb 100 x 2147483647 := kr_lt2 h14 kc_99 b12 (by decide)
      refine lv_aload_n hx hb dX11_sight_19 rfl (lv_at hl 0 rfl) ?_
      refine lv_iconst (v := (-1)) hx hb dX11_sight_20 (by decide) ?_
      refine kIG.callW (As := [.int (-1)]) (rest := []) ⟨hx, hb, hml, hown, hg⟩ (z_refuse l r f a g tx tt hT hI hG (-1) (kb_w kc_m1 (by decide) (by decide)) (by decide +kernel)) (cwV 1 hg (kgV wt3_7 wt3_9 wp1_0 wt1_1 wt3_10) rfl rfl rfl (by decide +kernel) ⟨by decide, by decide⟩) hV hK hP hD hS hA (0) 11 rfl rfl rfl hl.1 rfl (Nat.le_of_ble_eq_true rfl) dX11_sight_21 ⟨Nat.le_refl _, Nat.le_refl _⟩ (fun v17 u18 H locs hw16 hP hD hS => ?_)
      obtain ⟨f19, a20, g21⟩ := u18
      have hP : va_P D vwCl (xX K r f19 a20 g21 tx) H := hP
      have hD : va_D A (xX K r f19 a20 g21 tx) := hD
      have hI : xI f19 a20 := hw16.2.1
      have hG : gOK K g21.2 tt := hw16.2.2.1
      have eE22 : xEk ([16], [94], []) f a g f19 a20 g21 := hw16.2.2.2.1
      have hE : xEk ([16, 44], [12, 13, 14, 94], []) f a g f19 a20 g21 := xEk_tr hE (xEk_w (by decide +kernel) eE22)
      refine k_top (z := (-1)) hw16.2.2.2.2.1 ?_
      exact kI_ret (v := (-1)) hx hb hr hlocks rfl hK hS dX11_sight_24 (f19, a20, g21) hP hD ⟨(kb_w kc_m1 (by decide) (by decide)), hI, hG, hE, (Or.inl ⟨rfl, (fun q => by have w1 := (b15).1; have w2 := (b15).2; have w3 := ((kb_any z)).1; have w4 := ((kb_any z)).2; have q1 := q.1; have q2 := q.2; omega), ((((eE22.1 44 rfl).trans ec44.symm)).trans ec44)⟩), (Or.inl ⟨by decide +kernel, sV_E hVw eE22 (by decide +kernel) (by decide +kernel), xP_cg hp0 (eE22.1 704 rfl) (eE22.1 705 rfl) (eE22.2.1 23 rfl), hw16.2.2.2.2.2.1, fun R1 hR => hw16.2.2.2.2.2.2 R1 (by rw [show a 94 = a 94 from rfl]; exact hR)⟩)⟩
    · have h23 := (kc_nlt c13)
      have b24 : kb 0 x 99 := kr_le1 h23 b12 kc_99
      refine lv_iload_n hx hb dX11_sight_10 rfl (lv_at hl 3 rfl) ?_
      refine lv_if_lt (tgt := 19) hx hb dX11_sight_11 (by decide) (fun c25 => ?_) (fun c25 => ?_)
      · have h26 := (kc_lt c25)
        have b27 : kb (-2147483648) z (-1) := kr_lt1 h26 (kb_any z) kc_0 (by decide)
        refine lv_aload_n hx hb dX11_sight_19 rfl (lv_at hl 0 rfl) ?_
        refine lv_iconst (v := (-1)) hx hb dX11_sight_20 (by decide) ?_
        refine kIG.callW (As := [.int (-1)]) (rest := []) ⟨hx, hb, hml, hown, hg⟩ (z_refuse l r f a g tx tt hT hI hG (-1) (kb_w kc_m1 (by decide) (by decide)) (by decide +kernel)) (cwV 1 hg (kgV wt3_7 wt3_9 wp1_0 wt1_1 wt3_10) rfl rfl rfl (by decide +kernel) ⟨by decide, by decide⟩) hV hK hP hD hS hA (0) 11 rfl rfl rfl hl.1 rfl (Nat.le_of_ble_eq_true rfl) dX11_sight_21 ⟨Nat.le_refl _, Nat.le_refl _⟩ (fun v29 u30 H locs hw28 hP hD hS => ?_)
        obtain ⟨f31, a32, g33⟩ := u30
        have hP : va_P D vwCl (xX K r f31 a32 g33 tx) H := hP
        have hD : va_D A (xX K r f31 a32 g33 tx) := hD
        have hI : xI f31 a32 := hw28.2.1
        have hG : gOK K g33.2 tt := hw28.2.2.1
        have eE34 : xEk ([16], [94], []) f a g f31 a32 g33 := hw28.2.2.2.1
        have hE : xEk ([16, 44], [12, 13, 14, 94], []) f a g f31 a32 g33 := xEk_tr hE (xEk_w (by decide +kernel) eE34)
        refine k_top (z := (-1)) hw28.2.2.2.2.1 ?_
        exact kI_ret (v := (-1)) hx hb hr hlocks rfl hK hS dX11_sight_24 (f31, a32, g33) hP hD ⟨(kb_w kc_m1 (by decide) (by decide)), hI, hG, hE, (Or.inl ⟨rfl, (fun q => by have w1 := (b24).1; have w2 := (b24).2; have w3 := (b27).1; have w4 := (b27).2; have q1 := q.1; have q2 := q.2; omega), ((((eE34.1 44 rfl).trans ec44.symm)).trans ec44)⟩), (Or.inl ⟨by decide +kernel, sV_E hVw eE34 (by decide +kernel) (by decide +kernel), xP_cg hp0 (eE34.1 704 rfl) (eE34.1 705 rfl) (eE34.2.1 23 rfl), hw28.2.2.2.2.2.1, fun R1 hR => hw28.2.2.2.2.2.2 R1 (by rw [show a 94 = a 94 from rfl]; exact hR)⟩)⟩
      · have h35 := (kc_nlt c25)
        have b36 : kb 0 z 2147483647 := kr_le2 h35 kc_0 (kb_any z)
        refine lv_iload_n hx hb dX11_sight_14 rfl (lv_at hl 3 rfl) ?_
        refine lv_iconst (v := 1) hx hb dX11_sight_15 (by decide) ?_
        refine lv_icmp_le (tgt := 25) hx hb dX11_sight_16 (by decide) (fun c37 => ?_) (fun c37 => ?_)
        · have h38 := (kc_le c37)
          have b39 : kb 0 z 1 := kr_le1 h38 b36 kc_1
          refine lv_aload_n hx hb dX11_sight_25 rfl (lv_at hl 0 rfl) ?_
          refine va_get (D := D) (ci := 11) (v := .ref (r 1)) (C := RX11) (T := TX11) (N := 17) hx hb hg inC11 hown hK hP 0 rfl rfl 0 (by decide) (hg _ wt2_186) (fun _ h9 => h9) rfl dX11_sight_26 ?_
          refine lv_iload_n hx hb dX11_sight_29 rfl (lv_at hl 2 rfl) ?_
          refine kIG.callW (As := [.int y]) (rest := []) ⟨hx, hb, hml, hown, hg⟩ (x_7_hasPart l r f a g tx tt hT hI hG y  ) (cwV 1 hg (kgV wt3_35 wt3_36 wt3_37 wt1_2 wt3_38) rfl rfl rfl (by decide +kernel) ⟨by decide, by decide⟩) hV hK hP hD hS hA (1) 7 rfl rfl rfl hl.1 rfl (Nat.le_of_ble_eq_true rfl) dX11_sight_30 ⟨Nat.le_refl _, Nat.le_refl _⟩ (fun v41 u42 H locs hw40 hP hD hS => ?_)
          have hP : va_P D vwCl (xX K r f a g tx) H := hP
          have hD : va_D A (xX K r f a g tx) := hD
          refine lv_if_ne (tgt := 43) hx hb dX11_sight_33 (by decide) (fun c43 => ?_) (fun c43 => ?_)
          · have b44 : kb 1 v41 1 := kr_nel c43 hw40.1 kc_0 (by decide)
            have h45 := hw40.2.1 c43
            have b46 : kb 0 y 9 := ⟨h45.1, h45.2⟩
            refine lv_aload_n hx hb dX11_sight_43 rfl (lv_at hl 0 rfl) ?_
            refine va_get (D := D) (ci := 11) (v := .ref (r 1)) (C := RX11) (T := TX11) (N := 17) hx hb hg inC11 hown hK hP 0 rfl rfl 0 (by decide) (hg _ wt2_186) (fun _ h9 => h9) rfl dX11_sight_44 ?_
            refine va_get (D := D) (ci := 7) (v := .int (f 44)) (C := RX7) (T := TX7) (N := 20) hx hb hg inC7 hown hK hP 1 rfl rfl 12 (by decide) (hg _ wt1_137) (fun _ h9 => h9) rfl dX11_sight_47 ?_
            refine k_top (z := c44) ec44.symm ?_
            refine lv_if_lt (tgt := 65) hx hb dX11_sight_50 (by decide) (fun c47 => ?_) (fun c47 => ?_)
            · have h48 := (kc_lt c47)
              have b49 : kb (-2147483648) c44 (-1) := kr_lt1 h48 (kb_any c44) kc_0 (by decide)
              refine lv_aload_n hx hb dX11_sight_65 rfl (lv_at hl 0 rfl) ?_
              refine lv_bipush (v := (-5)) hx hb dX11_sight_66 (by decide) ?_
              refine kIG.callW (As := [.int (-5)]) (rest := []) ⟨hx, hb, hml, hown, hg⟩ (z_refuse l r f a g tx tt hT hI hG (-5) (kb_w kc_m5 (by decide) (by decide)) (by decide +kernel)) (cwV 1 hg (kgV wt3_7 wt3_9 wp1_0 wt1_1 wt3_10) rfl rfl rfl (by decide +kernel) ⟨by decide, by decide⟩) hV hK hP hD hS hA (0) 11 rfl rfl rfl hl.1 rfl (Nat.le_of_ble_eq_true rfl) dX11_sight_68 ⟨Nat.le_refl _, Nat.le_refl _⟩ (fun v51 u52 H locs hw50 hP hD hS => ?_)
              obtain ⟨f53, a54, g55⟩ := u52
              have hP : va_P D vwCl (xX K r f53 a54 g55 tx) H := hP
              have hD : va_D A (xX K r f53 a54 g55 tx) := hD
              have hI : xI f53 a54 := hw50.2.1
              have hG : gOK K g55.2 tt := hw50.2.2.1
              have eE56 : xEk ([16], [94], []) f a g f53 a54 g55 := hw50.2.2.2.1
              have hE : xEk ([16, 44], [12, 13, 14, 94], []) f a g f53 a54 g55 := xEk_tr hE (xEk_w (by decide +kernel) eE56)
              refine k_top (z := (-5)) hw50.2.2.2.2.1 ?_
              exact kI_ret (v := (-5)) hx hb hr hlocks rfl hK hS dX11_sight_71 (f53, a54, g55) hP hD ⟨(kb_w kc_m5 (by decide) (by decide)), hI, hG, hE, (Or.inr (Or.inr (Or.inl ⟨rfl, ⟨b24, b39⟩, ⟨(b46).1, hw40.2.2.2 c43⟩, (by rw [← ec44]; have w1 := (b49).1; have w2 := (b49).2; omega), ((((eE56.1 44 rfl).trans ec44.symm)).trans ec44)⟩))), (Or.inl ⟨by decide +kernel, sV_E hVw eE56 (by decide +kernel) (by decide +kernel), xP_cg hp0 (eE56.1 704 rfl) (eE56.1 705 rfl) (eE56.2.1 23 rfl), hw50.2.2.2.2.2.1, fun R1 hR => hw50.2.2.2.2.2.2 R1 (by rw [show a 94 = a 94 from rfl]; exact hR)⟩)⟩
            · have h57 := (kc_nlt c47)
              have b58 : kb 0 c44 2147483647 := kr_le2 h57 kc_0 (kb_any c44)
              refine lv_aload_n hx hb dX11_sight_53 rfl (lv_at hl 0 rfl) ?_
              refine va_get (D := D) (ci := 11) (v := .ref (r 1)) (C := RX11) (T := TX11) (N := 17) hx hb hg inC11 hown hK hP 0 rfl rfl 0 (by decide) (hg _ wt2_186) (fun _ h9 => h9) rfl dX11_sight_54 ?_
              refine va_get (D := D) (ci := 7) (v := .int (f 44)) (C := RX7) (T := TX7) (N := 20) hx hb hg inC7 hown hK hP 1 rfl rfl 12 (by decide) (hg _ wt1_137) (fun _ h9 => h9) rfl dX11_sight_57 ?_
              refine k_top (z := c44) ec44.symm ?_
              refine lv_bipush (v := 8) hx hb dX11_sight_60 (by decide) ?_
              refine lv_icmp_lt (tgt := 72) hx hb dX11_sight_62 (by decide) (fun c59 => ?_) (fun c59 => ?_)
              · have h60 := (kc_lt c59)
                have b61 : kb 0 c44 7 := kr_lt1 h60 b58 kc_8 (by decide)
                refine lv_aload_n hx hb dX11_sight_72 rfl (lv_at hl 0 rfl) ?_
                refine va_get (D := D) (ci := 11) (v := .ref (r 1)) (C := RX11) (T := TX11) (N := 17) hx hb hg inC11 hown hK hP 0 rfl rfl 0 (by decide) (hg _ wt2_186) (fun _ h9 => h9) rfl dX11_sight_73 ?_
                refine va_get (D := D) (ci := 7) (v := .ref (r 12)) (C := RX7) (T := TX7) (N := 20) hx hb hg inC7 hown hK hP 1 rfl rfl 13 (by decide) (hg _ wt1_140) (fun _ h9 => h9) rfl dX11_sight_76 ?_
                refine lv_aload_n hx hb dX11_sight_79 rfl (lv_at hl 0 rfl) ?_
                refine va_get (D := D) (ci := 11) (v := .ref (r 1)) (C := RX11) (T := TX11) (N := 17) hx hb hg inC11 hown hK hP 0 rfl rfl 0 (by decide) (hg _ wt2_186) (fun _ h9 => h9) rfl dX11_sight_80 ?_
                refine va_get (D := D) (ci := 7) (v := .int (f 44)) (C := RX7) (T := TX7) (N := 20) hx hb hg inC7 hown hK hP 1 rfl rfl 12 (by decide) (hg _ wt1_137) (fun _ h9 => h9) rfl dX11_sight_83 ?_
                refine k_top (z := c44) ec44.symm ?_
                refine lv_iload_n hx hb dX11_sight_86 rfl (lv_at hl 1 rfl) ?_
                refine va_iast hx hb hK hP hD hS 12 0 rfl rfl (kb_in b61 (by decide) (by decide)) dX11_sight_87 (fun H locs hP hD hS => ?_)
                have hP : va_P D vwCl (xX K r f (va_up a 12 (upd (a 12) c44.toNatClampNeg x)) g tx) H := hP
                have hD : va_D A (xX K r f (va_up a 12 (upd (a 12) c44.toNatClampNeg x)) g tx) := hD
                refine k_gen (P := fun z => va_P D vwCl (xX K r f z g tx) H ∧ va_D A (xX K r f z g tx) ∧ (xI f z) ∧ (gOK K g.2 tt) ∧ (xEk ([16, 44], [12, 13, 14, 94], []) f a g f z g)) (va_up a 12 (upd (a 12) c44.toNatClampNeg x)) ⟨hP, hD, (xI_a hI (by decide)), hG, (xEk_a hE rfl)⟩ (fun a_62 ea_62 hq => ?_)
                obtain ⟨hP, hD, hI, hG, hE⟩ := hq
                refine lv_aload_n hx hb dX11_sight_88 rfl (lv_at hl 0 rfl) ?_
                refine va_get (D := D) (ci := 11) (v := .ref (r 1)) (C := RX11) (T := TX11) (N := 17) hx hb hg inC11 hown hK hP 0 rfl rfl 0 (by decide) (hg _ wt2_186) (fun _ h9 => h9) rfl dX11_sight_89 ?_
                refine va_get (D := D) (ci := 7) (v := .ref (r 13)) (C := RX7) (T := TX7) (N := 20) hx hb hg inC7 hown hK hP 1 rfl rfl 14 (by decide) (hg _ wt1_143) (fun _ h9 => h9) rfl dX11_sight_92 ?_
                refine lv_aload_n hx hb dX11_sight_95 rfl (lv_at hl 0 rfl) ?_
                refine va_get (D := D) (ci := 11) (v := .ref (r 1)) (C := RX11) (T := TX11) (N := 17) hx hb hg inC11 hown hK hP 0 rfl rfl 0 (by decide) (hg _ wt2_186) (fun _ h9 => h9) rfl dX11_sight_96 ?_
                refine va_get (D := D) (ci := 7) (v := .int (f 44)) (C := RX7) (T := TX7) (N := 20) hx hb hg inC7 hown hK hP 1 rfl rfl 12 (by decide) (hg _ wt1_137) (fun _ h9 => h9) rfl dX11_sight_99 ?_
                refine k_top (z := c44) ec44.symm ?_
                refine lv_iload_n hx hb dX11_sight_102 rfl (lv_at hl 2 rfl) ?_
                refine va_iast hx hb hK hP hD hS 13 0 rfl rfl (kb_in b61 (by decide) (by decide)) dX11_sight_103 (fun H locs hP hD hS => ?_)
                have hP : va_P D vwCl (xX K r f (va_up a_62 13 (upd (a_62 13) c44.toNatClampNeg y)) g tx) H := hP
                have hD : va_D A (xX K r f (va_up a_62 13 (upd (a_62 13) c44.toNatClampNeg y)) g tx) := hD
                refine k_gen (P := fun z => va_P D vwCl (xX K r f z g tx) H ∧ va_D A (xX K r f z g tx) ∧ (xI f z) ∧ (gOK K g.2 tt) ∧ (xEk ([16, 44], [12, 13, 14, 94], []) f a g f z g)) (va_up a_62 13 (upd (a_62 13) c44.toNatClampNeg y)) ⟨hP, hD, (xI_a hI (by decide)), hG, (xEk_a hE rfl)⟩ (fun a_63 ea_63 hq => ?_)
                obtain ⟨hP, hD, hI, hG, hE⟩ := hq
                refine lv_aload_n hx hb dX11_sight_104 rfl (lv_at hl 0 rfl) ?_
                refine va_get (D := D) (ci := 11) (v := .ref (r 1)) (C := RX11) (T := TX11) (N := 17) hx hb hg inC11 hown hK hP 0 rfl rfl 0 (by decide) (hg _ wt2_186) (fun _ h9 => h9) rfl dX11_sight_105 ?_
                refine va_get (D := D) (ci := 7) (v := .ref (r 14)) (C := RX7) (T := TX7) (N := 20) hx hb hg inC7 hown hK hP 1 rfl rfl 15 (by decide) (hg _ wt1_146) (fun _ h9 => h9) rfl dX11_sight_108 ?_
                refine lv_aload_n hx hb dX11_sight_111 rfl (lv_at hl 0 rfl) ?_
                refine va_get (D := D) (ci := 11) (v := .ref (r 1)) (C := RX11) (T := TX11) (N := 17) hx hb hg inC11 hown hK hP 0 rfl rfl 0 (by decide) (hg _ wt2_186) (fun _ h9 => h9) rfl dX11_sight_112 ?_
                refine va_get (D := D) (ci := 7) (v := .int (f 44)) (C := RX7) (T := TX7) (N := 20) hx hb hg inC7 hown hK hP 1 rfl rfl 12 (by decide) (hg _ wt1_137) (fun _ h9 => h9) rfl dX11_sight_115 ?_
                refine k_top (z := c44) ec44.symm ?_
                refine lv_iload_n hx hb dX11_sight_118 rfl (lv_at hl 3 rfl) ?_
                refine va_iast hx hb hK hP hD hS 14 0 rfl rfl (kb_in b61 (by decide) (by decide)) dX11_sight_119 (fun H locs hP hD hS => ?_)
                have hP : va_P D vwCl (xX K r f (va_up a_63 14 (upd (a_63 14) c44.toNatClampNeg z)) g tx) H := hP
                have hD : va_D A (xX K r f (va_up a_63 14 (upd (a_63 14) c44.toNatClampNeg z)) g tx) := hD
                refine k_gen (P := fun z => va_P D vwCl (xX K r f z g tx) H ∧ va_D A (xX K r f z g tx) ∧ (xI f z) ∧ (gOK K g.2 tt) ∧ (xEk ([16, 44], [12, 13, 14, 94], []) f a g f z g)) (va_up a_63 14 (upd (a_63 14) c44.toNatClampNeg z)) ⟨hP, hD, (xI_a hI (by decide)), hG, (xEk_a hE rfl)⟩ (fun a_64 ea_64 hq => ?_)
                obtain ⟨hP, hD, hI, hG, hE⟩ := hq
                refine lv_aload_n hx hb dX11_sight_120 rfl (lv_at hl 0 rfl) ?_
                refine va_get (D := D) (ci := 11) (v := .ref (r 1)) (C := RX11) (T := TX11) (N := 17) hx hb hg inC11 hown hK hP 0 rfl rfl 0 (by decide) (hg _ wt2_186) (fun _ h9 => h9) rfl dX11_sight_121 ?_
                refine lv_dup hx hb dX11_sight_124 rfl ?_
                refine va_get (D := D) (ci := 7) (v := .int (f 44)) (C := RX7) (T := TX7) (N := 20) hx hb hg inC7 hown hK hP 1 rfl rfl 12 (by decide) (hg _ wt1_137) (fun _ h9 => h9) rfl dX11_sight_125 ?_
                refine k_top (z := c44) ec44.symm ?_
                refine lv_iconst (v := 1) hx hb dX11_sight_128 (by decide) ?_
                refine lv_iadd hx hb dX11_sight_129 ?_
                refine lv_topi (fun t65 et65 => ?_)
                have b66 : kb 1 t65 8 := kb_eq et65 (kb_add b61 kc_1 (by decide) (by decide))
                have qt65 : t65.toInt = c44.toInt + 1 := by rw [et65]; exact kt_addc b61 kc_1 (by decide) (by decide)
                refine va_put (D := D) (ci := 7) (v := .int t65) (ty := .int) (C := RX7) (T := TX7) (N := 20) hx hb hg inC7 tyX7 tyX7_ok nmX7 hown hK hP hD hS 1 rfl rfl 12 (by decide) (hg _ wt1_137) (fun _ h9 => h9) rfl (by decide +kernel) rfl rfl (Nat.le_of_ble_eq_true rfl) dX11_sight_130 (fun H locs hP hD hS => ?_)
                have hP : va_P D vwCl (xX K r (upd f 44 t65) a_64 g tx) H := hP
                have hD : va_D A (xX K r (upd f 44 t65) a_64 g tx) := hD
                refine k_gen (P := fun z => va_P D vwCl (xX K r z a_64 g tx) H ∧ va_D A (xX K r z a_64 g tx) ∧ (xI z a_64) ∧ (gOK K g.2 tt) ∧ (xEk ([16, 44], [12, 13, 14, 94], []) f a g z a_64 g)) (upd f 44 t65) ⟨hP, hD, (xI_f hI (fI_st hI.1 44 (kb_any _) (by decide) (by decide))), hG, (xEk_f hE rfl)⟩ (fun f_67 ef_67 hq => ?_)
                obtain ⟨hP, hD, hI, hG, hE⟩ := hq
                refine lv_aload_n hx hb dX11_sight_133 rfl (lv_at hl 0 rfl) ?_
                refine lv_aload_n hx hb dX11_sight_134 rfl (lv_at hl 0 rfl) ?_
                refine va_get (D := D) (ci := 11) (v := .ref (r 1)) (C := RX11) (T := TX11) (N := 17) hx hb hg inC11 hown hK hP 0 rfl rfl 0 (by decide) (hg _ wt2_186) (fun _ h9 => h9) rfl dX11_sight_135 ?_
                refine va_get (D := D) (ci := 7) (v := .int (f_67 44)) (C := RX7) (T := TX7) (N := 20) hx hb hg inC7 hown hK hP 1 rfl rfl 12 (by decide) (hg _ wt1_137) (fun _ h9 => h9) rfl dX11_sight_138 ?_
                refine k_top (z := t65) (show f_67 44 = t65 from by rw [← ef_67]; rfl) ?_
                refine kIG.callW (As := [.int t65]) (rest := []) ⟨hx, hb, hml, hown, hg⟩ (z_agree l r f_67 a_64 g tx tt hT hI hG t65  ) (cwV 1 hg (kgV wt3_27 wt3_29 wp1_2 wt1_1 wt3_30) rfl rfl rfl (by decide +kernel) ⟨by decide, by decide⟩) hV hK hP hD hS hA (0) 11 rfl rfl rfl hl.1 rfl (Nat.le_of_ble_eq_true rfl) dX11_sight_141 ⟨Nat.le_refl _, Nat.le_refl _⟩ (fun v69 u70 H locs hw68 hP hD hS => ?_)
                obtain ⟨f71, a72, g73⟩ := u70
                have hP : va_P D vwCl (xX K r f71 a72 g73 tx) H := hP
                have hD : va_D A (xX K r f71 a72 g73 tx) := hD
                have hI : xI f71 a72 := hw68.2.1
                have hG : gOK K g73.2 tt := hw68.2.2.1
                have eE74 : xEk ([16], [], []) f_67 a_64 g f71 a72 g73 := hw68.2.2.2.1
                have hE : xEk ([16, 44], [12, 13, 14, 94], []) f a g f71 a72 g73 := xEk_tr hE (xEk_w (by decide +kernel) eE74)
                refine k_top (z := t65) hw68.2.2.2.2.1 ?_
                exact kI_ret (v := t65) hx hb hr hlocks rfl hK hS dX11_sight_144 (f71, a72, g73) hP hD ⟨(kb_w b66 (by decide) (by decide)), hI, hG, hE, (Or.inr (Or.inr (Or.inr ⟨(by rw [← ec44]; omega), ⟨b24, b39⟩, ⟨(b46).1, hw40.2.2.2 c43⟩, (by rw [← ec44]; exact b61), (by show (f71 44).toInt = (f 44).toInt + 1; have e1 := congrArg Int32.toInt (((eE74.1 44 rfl).trans (show f_67 44 = t65 from by rw [← ef_67]; rfl))); have e2 := congrArg Int32.toInt ec44; omega)⟩))), (Or.inr ⟨(fun w9 => by have w1 := (b66).1; omega), (show sV 32 2 f71 a72 _ from sV_sgt hVw (by rw [← sv_sights hVw, ← ec44]; have w1 := (b61).2; have w2 := (b61).1; omega) (((eE74.1 44 rfl).trans (show f_67 44 = t65 from by rw [← ef_67]; rfl)).trans (et65.trans (by rw [ec44, sv_sights hVw]))) (hE.1 32 rfl) (hE.1 38 rfl) (hE.1 49 rfl) (hE.1 50 rfl) (((eE74.2.1 12 rfl).trans ((show a_64 12 = a_63 12 from by rw [← ea_64]; rfl).trans ((show a_63 12 = a_62 12 from by rw [← ea_63]; rfl).trans (show a_62 12 = upd (a 12) c44.toNatClampNeg x from by rw [← ea_62]; rfl)))).trans (by rw [(show c44.toNatClampNeg = (k 104).toInt.toNat from by rw [← sv_sights hVw, ← ec44]; rfl)])) (((eE74.2.1 13 rfl).trans ((show a_64 13 = a_63 13 from by rw [← ea_64]; rfl).trans ((show a_63 13 = upd (a_62 13) c44.toNatClampNeg y from by rw [← ea_63]; rfl).trans (congrArg (fun zz_ => upd zz_ c44.toNatClampNeg y) (show a_62 13 = a 13 from by rw [← ea_62]; rfl))))).trans (by rw [(show c44.toNatClampNeg = (k 104).toInt.toNat from by rw [← sv_sights hVw, ← ec44]; rfl)])) (((eE74.2.1 14 rfl).trans ((show a_64 14 = upd (a_63 14) c44.toNatClampNeg z from by rw [← ea_64]; rfl).trans (congrArg (fun zz_ => upd zz_ c44.toNatClampNeg z) ((show a_63 14 = a_62 14 from by rw [← ea_63]; rfl).trans (show a_62 14 = a 14 from by rw [← ea_62]; rfl))))).trans (by rw [(show c44.toNatClampNeg = (k 104).toInt.toNat from by rw [← sv_sights hVw, ← ec44]; rfl)])) (fun j hj => by rcases (show j = 0 ∨ j = 1 ∨ j = 2 ∨ j = 3 ∨ j = 4 ∨ j = 5 ∨ j = 6 ∨ j = 7 ∨ j = 8 ∨ j = 9 by omega) with e | e | e | e | e | e | e | e | e | e <;> (subst e; exact hE.2.1 _ rfl))), xP_cg hp0 ((eE74.1 704 rfl).trans (show f_67 704 = f 704 from by rw [← ef_67]; rfl)) ((eE74.1 705 rfl).trans (show f_67 705 = f 705 from by rw [← ef_67]; rfl)) ((eE74.2.1 23 rfl).trans ((show a_64 23 = a_63 23 from by rw [← ea_64]; rfl).trans ((show a_63 23 = a_62 23 from by rw [← ea_63]; rfl).trans (show a_62 23 = a 23 from by rw [← ea_62]; rfl)))), hw68.2.2.2.2.2, fun R1 hR => by show rfE (a72 94) R1; rw [show a72 94 = a 94 from ((eE74.2.1 94 rfl).trans ((show a_64 94 = a_63 94 from by rw [← ea_64]; rfl).trans ((show a_63 94 = a_62 94 from by rw [← ea_63]; rfl).trans (show a_62 94 = a 94 from by rw [← ea_62]; rfl))))]; exact hR⟩)⟩
              · have h75 := (kc_nlt c59)
                have b76 : kb 8 c44 2147483647 := kr_le2 h75 kc_8 b58
                refine lv_aload_n hx hb dX11_sight_65 rfl (lv_at hl 0 rfl) ?_
                refine lv_bipush (v := (-5)) hx hb dX11_sight_66 (by decide) ?_
                refine kIG.callW (As := [.int (-5)]) (rest := []) ⟨hx, hb, hml, hown, hg⟩ (z_refuse l r f a g tx tt hT hI hG (-5) (kb_w kc_m5 (by decide) (by decide)) (by decide +kernel)) (cwV 1 hg (kgV wt3_7 wt3_9 wp1_0 wt1_1 wt3_10) rfl rfl rfl (by decide +kernel) ⟨by decide, by decide⟩) hV hK hP hD hS hA (0) 11 rfl rfl rfl hl.1 rfl (Nat.le_of_ble_eq_true rfl) dX11_sight_68 ⟨Nat.le_refl _, Nat.le_refl _⟩ (fun v78 u79 H locs hw77 hP hD hS => ?_)
                obtain ⟨f80, a81, g82⟩ := u79
                have hP : va_P D vwCl (xX K r f80 a81 g82 tx) H := hP
                have hD : va_D A (xX K r f80 a81 g82 tx) := hD
                have hI : xI f80 a81 := hw77.2.1
                have hG : gOK K g82.2 tt := hw77.2.2.1
                have eE83 : xEk ([16], [94], []) f a g f80 a81 g82 := hw77.2.2.2.1
                have hE : xEk ([16, 44], [12, 13, 14, 94], []) f a g f80 a81 g82 := xEk_tr hE (xEk_w (by decide +kernel) eE83)
                refine k_top (z := (-5)) hw77.2.2.2.2.1 ?_
                exact kI_ret (v := (-5)) hx hb hr hlocks rfl hK hS dX11_sight_71 (f80, a81, g82) hP hD ⟨(kb_w kc_m5 (by decide) (by decide)), hI, hG, hE, (Or.inr (Or.inr (Or.inl ⟨rfl, ⟨b24, b39⟩, ⟨(b46).1, hw40.2.2.2 c43⟩, (by rw [← ec44]; have w1 := (b76).1; have w2 := (b76).2; omega), ((((eE83.1 44 rfl).trans ec44.symm)).trans ec44)⟩))), (Or.inl ⟨by decide +kernel, sV_E hVw eE83 (by decide +kernel) (by decide +kernel), xP_cg hp0 (eE83.1 704 rfl) (eE83.1 705 rfl) (eE83.2.1 23 rfl), hw77.2.2.2.2.2.1, fun R1 hR => hw77.2.2.2.2.2.2 R1 (by rw [show a 94 = a 94 from rfl]; exact hR)⟩)⟩
          · have b84 : kb 0 v41 0 := kb_eq c43 kc_0
            refine lv_aload_n hx hb dX11_sight_36 rfl (lv_at hl 0 rfl) ?_
            refine lv_bipush (v := (-2)) hx hb dX11_sight_37 (by decide) ?_
            refine kIG.callW (As := [.int (-2)]) (rest := []) ⟨hx, hb, hml, hown, hg⟩ (z_refuse l r f a g tx tt hT hI hG (-2) (kb_w kc_m2 (by decide) (by decide)) (by decide +kernel)) (cwV 1 hg (kgV wt3_7 wt3_9 wp1_0 wt1_1 wt3_10) rfl rfl rfl (by decide +kernel) ⟨by decide, by decide⟩) hV hK hP hD hS hA (0) 11 rfl rfl rfl hl.1 rfl (Nat.le_of_ble_eq_true rfl) dX11_sight_39 ⟨Nat.le_refl _, Nat.le_refl _⟩ (fun v86 u87 H locs hw85 hP hD hS => ?_)
            obtain ⟨f88, a89, g90⟩ := u87
            have hP : va_P D vwCl (xX K r f88 a89 g90 tx) H := hP
            have hD : va_D A (xX K r f88 a89 g90 tx) := hD
            have hI : xI f88 a89 := hw85.2.1
            have hG : gOK K g90.2 tt := hw85.2.2.1
            have eE91 : xEk ([16], [94], []) f a g f88 a89 g90 := hw85.2.2.2.1
            have hE : xEk ([16, 44], [12, 13, 14, 94], []) f a g f88 a89 g90 := xEk_tr hE (xEk_w (by decide +kernel) eE91)
            refine k_top (z := (-2)) hw85.2.2.2.2.1 ?_
            exact kI_ret (v := (-2)) hx hb hr hlocks rfl hK hS dX11_sight_42 (f88, a89, g90) hP hD ⟨(kb_w kc_m2 (by decide) (by decide)), hI, hG, hE, (Or.inr (Or.inl ⟨rfl, ⟨b24, b39⟩, (fun q => (hw40.2.2.1 c43) q), ((((eE91.1 44 rfl).trans ec44.symm)).trans ec44)⟩)), (Or.inl ⟨by decide +kernel, sV_E hVw eE91 (by decide +kernel) (by decide +kernel), xP_cg hp0 (eE91.1 704 rfl) (eE91.1 705 rfl) (eE91.2.1 23 rfl), hw85.2.2.2.2.2.1, fun R1 hR => hw85.2.2.2.2.2.2 R1 (by rw [show a 94 = a 94 from rfl]; exact hR)⟩)⟩
        · have h92 := (kc_nle c37)
          have b93 : kb 2 z 2147483647 := kr_lt2 h92 kc_1 b36 (by decide)
          refine lv_aload_n hx hb dX11_sight_19 rfl (lv_at hl 0 rfl) ?_
          refine lv_iconst (v := (-1)) hx hb dX11_sight_20 (by decide) ?_
          refine kIG.callW (As := [.int (-1)]) (rest := []) ⟨hx, hb, hml, hown, hg⟩ (z_refuse l r f a g tx tt hT hI hG (-1) (kb_w kc_m1 (by decide) (by decide)) (by decide +kernel)) (cwV 1 hg (kgV wt3_7 wt3_9 wp1_0 wt1_1 wt3_10) rfl rfl rfl (by decide +kernel) ⟨by decide, by decide⟩) hV hK hP hD hS hA (0) 11 rfl rfl rfl hl.1 rfl (Nat.le_of_ble_eq_true rfl) dX11_sight_21 ⟨Nat.le_refl _, Nat.le_refl _⟩ (fun v95 u96 H locs hw94 hP hD hS => ?_)
          obtain ⟨f97, a98, g99⟩ := u96
          have hP : va_P D vwCl (xX K r f97 a98 g99 tx) H := hP
          have hD : va_D A (xX K r f97 a98 g99 tx) := hD
          have hI : xI f97 a98 := hw94.2.1
          have hG : gOK K g99.2 tt := hw94.2.2.1
          have eE100 : xEk ([16], [94], []) f a g f97 a98 g99 := hw94.2.2.2.1
          have hE : xEk ([16, 44], [12, 13, 14, 94], []) f a g f97 a98 g99 := xEk_tr hE (xEk_w (by decide +kernel) eE100)
          refine k_top (z := (-1)) hw94.2.2.2.2.1 ?_
          exact kI_ret (v := (-1)) hx hb hr hlocks rfl hK hS dX11_sight_24 (f97, a98, g99) hP hD ⟨(kb_w kc_m1 (by decide) (by decide)), hI, hG, hE, (Or.inl ⟨rfl, (fun q => by have w1 := (b24).1; have w2 := (b24).2; have w3 := (b93).1; have w4 := (b93).2; have q1 := q.1; have q2 := q.2; omega), ((((eE100.1 44 rfl).trans ec44.symm)).trans ec44)⟩), (Or.inl ⟨by decide +kernel, sV_E hVw eE100 (by decide +kernel) (by decide +kernel), xP_cg hp0 (eE100.1 704 rfl) (eE100.1 705 rfl) (eE100.2.1 23 rfl), hw94.2.2.2.2.2.1, fun R1 hR => hw94.2.2.2.2.2.2 R1 (by rw [show a 94 = a 94 from rfl]; exact hR)⟩)⟩
set_option maxHeartbeats 4000000 in
set_option maxRecDepth 100000 in
theorem z_forget  (l : Launch) {D : va_G} {K : Nat → ClassId} (r : Nat → Nat) (f : Nat → Int32) (a : Nat → Nat → Int32) (g : xG) (tx tt : va_W) (hT : ∀ c ∈ tt, c ∈ tx) (hI : xI f a) (hG : gOK K g.2 tt)   (k : Nat → Int32) (hVw : sV 32 2 f a k) (hkk : kK k)   : kIG l yX11_forget (Cond.code yX11_forget cX11_forget 2 (some .int) :: kG) (rmD 1 0 0) D K [.ref (r 0)] (xX K r f a g tx) (fun v (u : xS) => kb (-2147483648) v 2147483647 ∧ xI u.1 u.2.1 ∧ gOK K u.2.2.2 tt ∧ xEk ([44], [], []) f a g u.1 u.2.1 u.2.2 ∧ v = f 44 ∧ u.1 44 = 0 ∧ sV 32 2 u.1 u.2.1 (upd k 104 0)) (fun u => xX K r u.1 u.2.1 u.2.2 tx) 0 0 := by
  refine kIE.of (cc := cX11_forget) (maxL := 2) (ret := (some .int)) (by decide) rfl (Nat.le_of_ble_eq_true rfl) ?_
  intro p e s m below meth c A hx hb hr hml hown hts hlocks hnm hK hP hD hS hA hV ls hl
  have hE : xEk ([44], [], []) f a g f a g := xEk_rf
  have hg : ∀ w ∈ kG, w.before _ s = true := fun w h => hts w (List.mem_cons_of_mem _ h)
  have hown : s.vm.findClass RX11 = some m.cls := hown
  have hl : lv_has ls 2 [(0, .ref (r 0))] := hl
  obtain ⟨c44, ec44⟩ : ∃ z : Int32, z = f 44 := ⟨_, rfl⟩
  refine lv_aload_n hx hb dX11_forget_0 rfl (lv_at hl 0 rfl) ?_
  refine va_get (D := D) (ci := 11) (v := .ref (r 1)) (C := RX11) (T := TX11) (N := 17) hx hb hg inC11 hown hK hP 0 rfl rfl 0 (by decide) (hg _ wt2_186) (fun _ h9 => h9) rfl dX11_forget_1 ?_
  refine va_get (D := D) (ci := 7) (v := .int (f 44)) (C := RX7) (T := TX7) (N := 20) hx hb hg inC7 hown hK hP 1 rfl rfl 12 (by decide) (hg _ wt1_137) (fun _ h9 => h9) rfl dX11_forget_4 ?_
  refine k_top (z := c44) ec44.symm ?_
  refine lv_istore_n (lv' := [(1, .int c44), (0, .ref (r 0))]) hx hb dX11_forget_7 rfl hl (by decide) rfl (fun ls hl => ?_)
  refine lv_aload_n hx hb dX11_forget_8 rfl (lv_at hl 1 rfl) ?_
  refine va_get (D := D) (ci := 11) (v := .ref (r 1)) (C := RX11) (T := TX11) (N := 17) hx hb hg inC11 hown hK hP 0 rfl rfl 0 (by decide) (hg _ wt2_186) (fun _ h9 => h9) rfl dX11_forget_9 ?_
  refine lv_iconst (v := 0) hx hb dX11_forget_12 (by decide) ?_
  refine va_put (D := D) (ci := 7) (v := .int 0) (ty := .int) (C := RX7) (T := TX7) (N := 20) hx hb hg inC7 tyX7 tyX7_ok nmX7 hown hK hP hD hS 1 rfl rfl 12 (by decide) (hg _ wt1_137) (fun _ h9 => h9) rfl (by decide +kernel) rfl rfl (Nat.le_of_ble_eq_true rfl) dX11_forget_13 (fun H locs hP hD hS => ?_)
  have hP : va_P D vwCl (xX K r (upd f 44 0) a g tx) H := hP
  have hD : va_D A (xX K r (upd f 44 0) a g tx) := hD
  refine k_gen (P := fun z => va_P D vwCl (xX K r z a g tx) H ∧ va_D A (xX K r z a g tx) ∧ (xI z a) ∧ (gOK K g.2 tt) ∧ (xEk ([44], [], []) f a g z a g)) (upd f 44 0) ⟨hP, hD, (xI_f hI (fI_st hI.1 44 (kb_any _) (by decide) (by decide))), hG, (xEk_f hE rfl)⟩ (fun f_1 ef_1 hq => ?_)
  obtain ⟨hP, hD, hI, hG, hE⟩ := hq
  refine lv_iload_n hx hb dX11_forget_16 rfl (lv_at hl 0 rfl) ?_
  exact kI_ret (v := c44) hx hb hr hlocks rfl hK hS dX11_forget_17 (f_1, a, g) hP hD ⟨(kb_any c44), hI, hG, hE, ec44, (show f_1 44 = 0 from by rw [← ef_1]; rfl), (show sV 32 2 f_1 a _ from sV_104 hVw (show f_1 44 = 0 from by rw [← ef_1]; rfl) (hE.1 32 rfl) (hE.1 38 rfl) (hE.1 49 rfl) (hE.1 50 rfl) (fun j hj => rfl))⟩
set_option maxHeartbeats 4000000 in
set_option maxRecDepth 100000 in
theorem z_force  (l : Launch) {D : va_G} {K : Nat → ClassId} (r : Nat → Nat) (f : Nat → Int32) (a : Nat → Nat → Int32) (g : xG) (tx tt : va_W) (hT : ∀ c ∈ tt, c ∈ tx) (hI : xI f a) (hG : gOK K g.2 tt) (x : Int32)  (k : Nat → Int32) (hVw : sV 32 2 f a k) (hkk : kK k) (P : pS) (hp0 : xPs (f 704) (f 705) (a 23) P (kBn k)) (hp1 : kb 0 (f 49) 6) : kIG l yX11_force (Cond.code yX11_force cX11_force 3 (some .int) :: kG) (rmD 3 0 0) D K [.ref (r 0), .int x] (xX K r f a g tx) (fun v (u : xS) => kb (-2147483648) v 2147483647 ∧ xI u.1 u.2.1 ∧ gOK K u.2.2.2 tt ∧ xEk ([16, 50, 2565, 2566, 2786], [81, 94], []) f a g u.1 u.2.1 u.2.2 ∧ frcP x v (f 49) (f 50) (u.1 50) ∧ ((v = -2 ∧ sV 32 2 u.1 u.2.1 k ∧ xPs (u.1 704) (u.1 705) (u.2.1 23) P (kBn k) ∧ u.1 16 = v ∧ ∀ R1, rfE (a 94) R1 → rfE (u.2.1 94) (rfS (-2 : Int32).toInt R1)) ∨ (¬ v = -2 ∧ sV 32 2 u.1 u.2.1 (upd k 106 x) ∧ xPs (u.1 704) (u.1 705) (u.2.1 23) P (kBn k) ∧ u.1 16 = 0 ∧ ∀ R1, rfE (a 94) R1 → rfE (u.2.1 94) R1))) (fun u => xX K r u.1 u.2.1 u.2.2 tx) 0 0 := by
  refine kIE.of (cc := cX11_force) (maxL := 3) (ret := (some .int)) (by decide) rfl (Nat.le_of_ble_eq_true rfl) ?_
  intro p e s m below meth c A hx hb hr hml hown hts hlocks hnm hK hP hD hS hA hV ls hl
  have hE : xEk ([16, 50, 2565, 2566, 2786], [81, 94], []) f a g f a g := xEk_rf
  have hg : ∀ w ∈ kG, w.before _ s = true := fun w h => hts w (List.mem_cons_of_mem _ h)
  have hown : s.vm.findClass RX11 = some m.cls := hown
  have hl : lv_has ls 3 [(0, .ref (r 0)), (1, .int x)] := hl
  have hpq := hp0
  have hp0 := hp1
  obtain ⟨c49, ec49⟩ : ∃ z : Int32, z = f 49 := ⟨_, rfl⟩
  obtain ⟨c50, ec50⟩ : ∃ z : Int32, z = f 50 := ⟨_, rfl⟩
  have hp0 := hpq
  have b1 : kb (-1) c50 5 := (kb_eq (ec50.trans (sv_inForce hVw)) (kK_r hkk 106 (-1) 5 (by decide) (by decide)))
  refine lv_iload_n hx hb dX11_force_0 rfl (lv_at hl 1 rfl) ?_
  refine lv_iconst (v := (-1)) hx hb dX11_force_1 (by decide) ?_
  refine lv_icmp_eq (tgt := 27) hx hb dX11_force_2 (by decide) (fun c2 => ?_) (fun c2 => ?_)
  · have b3 : kb (-1) x (-1) := kb_eq c2 kc_m1
    refine lv_aload_n hx hb dX11_force_27 rfl (lv_at hl 0 rfl) ?_
    refine va_get (D := D) (ci := 11) (v := .ref (r 1)) (C := RX11) (T := TX11) (N := 17) hx hb hg inC11 hown hK hP 0 rfl rfl 0 (by decide) (hg _ wt2_186) (fun _ h9 => h9) rfl dX11_force_28 ?_
    refine va_get (D := D) (ci := 7) (v := .int (f 50)) (C := RX7) (T := TX7) (N := 20) hx hb hg inC7 hown hK hP 1 rfl rfl 18 (by decide) (hg _ wt1_153) (fun _ h9 => h9) rfl dX11_force_31 ?_
    refine k_top (z := c50) ec50.symm ?_
    refine lv_istore_n (lv' := [(2, .int c50), (0, .ref (r 0)), (1, .int x)]) hx hb dX11_force_34 rfl hl (by decide) rfl (fun ls hl => ?_)
    refine lv_aload_n hx hb dX11_force_35 rfl (lv_at hl 1 rfl) ?_
    refine va_get (D := D) (ci := 11) (v := .ref (r 1)) (C := RX11) (T := TX11) (N := 17) hx hb hg inC11 hown hK hP 0 rfl rfl 0 (by decide) (hg _ wt2_186) (fun _ h9 => h9) rfl dX11_force_36 ?_
    refine lv_iload_n hx hb dX11_force_39 rfl (lv_at hl 2 rfl) ?_
    refine va_put (D := D) (ci := 7) (v := .int x) (ty := .int) (C := RX7) (T := TX7) (N := 20) hx hb hg inC7 tyX7 tyX7_ok nmX7 hown hK hP hD hS 1 rfl rfl 18 (by decide) (hg _ wt1_153) (fun _ h9 => h9) rfl (by decide +kernel) rfl rfl (Nat.le_of_ble_eq_true rfl) dX11_force_40 (fun H locs hP hD hS => ?_)
    have hP : va_P D vwCl (xX K r (upd f 50 x) a g tx) H := hP
    have hD : va_D A (xX K r (upd f 50 x) a g tx) := hD
    refine k_gen (P := fun z => va_P D vwCl (xX K r z a g tx) H ∧ va_D A (xX K r z a g tx) ∧ (xI z a) ∧ (gOK K g.2 tt) ∧ (xEk ([16, 50, 2565, 2566, 2786], [81, 94], []) f a g z a g)) (upd f 50 x) ⟨hP, hD, (xI_f hI (fI_st hI.1 50 (kb_any _) (by decide) (by decide))), hG, (xEk_f hE rfl)⟩ (fun f_4 ef_4 hq => ?_)
    obtain ⟨hP, hD, hI, hG, hE⟩ := hq
    refine lv_aload_n hx hb dX11_force_43 rfl (lv_at hl 1 rfl) ?_
    refine lv_iload_n hx hb dX11_force_44 rfl (lv_at hl 0 rfl) ?_
    refine kIG.callW (As := [.int c50]) (rest := []) ⟨hx, hb, hml, hown, hg⟩ (z_agreeChanged l r f_4 a g tx tt hT hI hG c50  ) (cwV 1 hg (kgV wt3_15 wt3_17 wp1_1 wt1_1 wt3_18) rfl rfl rfl (by decide +kernel) ⟨by decide, by decide⟩) hV hK hP hD hS hA (0) 11 rfl rfl rfl hl.1 rfl (Nat.le_of_ble_eq_true rfl) dX11_force_45 ⟨Nat.le_refl _, Nat.le_refl _⟩ (fun v6 u7 H locs hw5 hP hD hS => ?_)
    obtain ⟨f8, a9, g10⟩ := u7
    have hP : va_P D vwCl (xX K r f8 a9 g10 tx) H := hP
    have hD : va_D A (xX K r f8 a9 g10 tx) := hD
    have hI : xI f8 a9 := hw5.2.1
    have hG : gOK K g10.2 tt := hw5.2.2.1
    have eE11 : xEk ([16, 2565, 2566, 2786], [81], []) f_4 a g f8 a9 g10 := hw5.2.2.2.1
    have hE : xEk ([16, 50, 2565, 2566, 2786], [81, 94], []) f a g f8 a9 g10 := xEk_tr hE (xEk_w (by decide +kernel) eE11)
    refine k_top (z := c50) hw5.2.2.2.2.1 ?_
    exact kI_ret (v := c50) hx hb hr hlocks rfl hK hS dX11_force_48 (f8, a9, g10) hP hD ⟨(kb_w b1 (by decide) (by decide)), hI, hG, hE, (Or.inr ⟨ec50, ⟨by rw [c2]; decide +kernel, by rw [c2]; have w2 := hp1.1; have w3 : (-1 : Int32).toInt = -1 := (by decide +kernel); omega⟩, ((eE11.1 50 rfl).trans (show f_4 50 = x from by rw [← ef_4]; rfl))⟩), (Or.inr ⟨(fun w9 => by have w1 := (b1).1; have w2 := congrArg Int32.toInt w9; have w3 : (-2 : Int32).toInt = -2 := (by decide +kernel); omega), (show sV 32 2 f8 a9 _ from sV_106 hVw ((eE11.1 50 rfl).trans (show f_4 50 = x from by rw [← ef_4]; rfl)) (hE.1 32 rfl) (hE.1 38 rfl) (hE.1 44 rfl) (hE.1 49 rfl) (fun j hj => by rcases (show j = 0 ∨ j = 1 ∨ j = 2 ∨ j = 3 ∨ j = 4 ∨ j = 5 ∨ j = 6 ∨ j = 7 ∨ j = 8 ∨ j = 9 ∨ j = 10 ∨ j = 11 ∨ j = 12 by omega) with e | e | e | e | e | e | e | e | e | e | e | e | e <;> (subst e; exact hE.2.1 _ rfl))), xP_cg hp0 ((eE11.1 704 rfl).trans (show f_4 704 = f 704 from by rw [← ef_4]; rfl)) ((eE11.1 705 rfl).trans (show f_4 705 = f 705 from by rw [← ef_4]; rfl)) (eE11.2.1 23 rfl), hw5.2.2.2.2.2, fun R1 hR => by show rfE (a9 94) R1; rw [show a9 94 = a 94 from (eE11.2.1 94 rfl)]; exact hR⟩)⟩
  · refine lv_iload_n hx hb dX11_force_5 rfl (lv_at hl 1 rfl) ?_
    refine lv_if_lt (tgt := 20) hx hb dX11_force_6 (by decide) (fun c12 => ?_) (fun c12 => ?_)
    · have h13 := (kc_lt c12)
      have b14 : kb (-2147483648) x (-1) := kr_lt1 h13 (kb_any x) kc_0 (by decide)
      refine lv_aload_n hx hb dX11_force_20 rfl (lv_at hl 0 rfl) ?_
      refine lv_bipush (v := (-2)) hx hb dX11_force_21 (by decide) ?_
      refine kIG.callW (As := [.int (-2)]) (rest := []) ⟨hx, hb, hml, hown, hg⟩ (z_refuse l r f a g tx tt hT hI hG (-2) (kb_w kc_m2 (by decide) (by decide)) (by decide +kernel)) (cwV 1 hg (kgV wt3_7 wt3_9 wp1_0 wt1_1 wt3_10) rfl rfl rfl (by decide +kernel) ⟨by decide, by decide⟩) hV hK hP hD hS hA (0) 11 rfl rfl rfl hl.1 rfl (Nat.le_of_ble_eq_true rfl) dX11_force_23 ⟨Nat.le_refl _, Nat.le_refl _⟩ (fun v16 u17 H locs hw15 hP hD hS => ?_)
      obtain ⟨f18, a19, g20⟩ := u17
      have hP : va_P D vwCl (xX K r f18 a19 g20 tx) H := hP
      have hD : va_D A (xX K r f18 a19 g20 tx) := hD
      have hI : xI f18 a19 := hw15.2.1
      have hG : gOK K g20.2 tt := hw15.2.2.1
      have eE21 : xEk ([16], [94], []) f a g f18 a19 g20 := hw15.2.2.2.1
      have hE : xEk ([16, 50, 2565, 2566, 2786], [81, 94], []) f a g f18 a19 g20 := xEk_tr hE (xEk_w (by decide +kernel) eE21)
      refine k_top (z := (-2)) hw15.2.2.2.2.1 ?_
      exact kI_ret (v := (-2)) hx hb hr hlocks rfl hK hS dX11_force_26 (f18, a19, g20) hP hD ⟨(kb_w kc_m2 (by decide) (by decide)), hI, hG, hE, (Or.inl ⟨rfl, (fun q => by have q1 := q.1; have q2 := q.2; rw [← ec49] at q2; have w8 : ¬ x.toInt = -1 := (fun z => c2 (Int32.toInt_inj.mp (z.trans (by decide +kernel)))); first | (have w1 := (b14).2; omega) | (have w1 := kc_nlt c12; omega) | (have w1 := kc_le c12; omega)), ((((eE21.1 50 rfl).trans ec50.symm)).trans ec50)⟩), (Or.inl ⟨rfl, sV_E hVw eE21 (by decide +kernel) (by decide +kernel), xP_cg hp0 (eE21.1 704 rfl) (eE21.1 705 rfl) (eE21.2.1 23 rfl), hw15.2.2.2.2.2.1, fun R1 hR => hw15.2.2.2.2.2.2 R1 (by rw [show a 94 = a 94 from rfl]; exact hR)⟩)⟩
    · have h22 := (kc_nlt c12)
      have b23 : kb 0 x 2147483647 := kr_le2 h22 kc_0 (kb_any x)
      refine lv_iload_n hx hb dX11_force_9 rfl (lv_at hl 1 rfl) ?_
      refine lv_aload_n hx hb dX11_force_10 rfl (lv_at hl 0 rfl) ?_
      refine va_get (D := D) (ci := 11) (v := .ref (r 1)) (C := RX11) (T := TX11) (N := 17) hx hb hg inC11 hown hK hP 0 rfl rfl 0 (by decide) (hg _ wt2_186) (fun _ h9 => h9) rfl dX11_force_11 ?_
      refine va_get (D := D) (ci := 7) (v := .int (f 49)) (C := RX7) (T := TX7) (N := 20) hx hb hg inC7 hown hK hP 1 rfl rfl 17 (by decide) (hg _ wt1_150) (fun _ h9 => h9) rfl dX11_force_14 ?_
      refine k_top (z := c49) ec49.symm ?_
      refine lv_icmp_lt (tgt := 27) hx hb dX11_force_17 (by decide) (fun c24 => ?_) (fun c24 => ?_)
      · have h25 := (kc_lt c24)
        have b26 : kb 0 x 2147483646 := kr_lt1 h25 b23 (kb_any c49) (by decide)
        have b27 : kb 1 c49 2147483647 := kr_lt2 h25 b23 (kb_any c49) (by decide)
        refine lv_aload_n hx hb dX11_force_27 rfl (lv_at hl 0 rfl) ?_
        refine va_get (D := D) (ci := 11) (v := .ref (r 1)) (C := RX11) (T := TX11) (N := 17) hx hb hg inC11 hown hK hP 0 rfl rfl 0 (by decide) (hg _ wt2_186) (fun _ h9 => h9) rfl dX11_force_28 ?_
        refine va_get (D := D) (ci := 7) (v := .int (f 50)) (C := RX7) (T := TX7) (N := 20) hx hb hg inC7 hown hK hP 1 rfl rfl 18 (by decide) (hg _ wt1_153) (fun _ h9 => h9) rfl dX11_force_31 ?_
        refine k_top (z := c50) ec50.symm ?_
        refine lv_istore_n (lv' := [(2, .int c50), (0, .ref (r 0)), (1, .int x)]) hx hb dX11_force_34 rfl hl (by decide) rfl (fun ls hl => ?_)
        refine lv_aload_n hx hb dX11_force_35 rfl (lv_at hl 1 rfl) ?_
        refine va_get (D := D) (ci := 11) (v := .ref (r 1)) (C := RX11) (T := TX11) (N := 17) hx hb hg inC11 hown hK hP 0 rfl rfl 0 (by decide) (hg _ wt2_186) (fun _ h9 => h9) rfl dX11_force_36 ?_
        refine lv_iload_n hx hb dX11_force_39 rfl (lv_at hl 2 rfl) ?_
        refine va_put (D := D) (ci := 7) (v := .int x) (ty := .int) (C := RX7) (T := TX7) (N := 20) hx hb hg inC7 tyX7 tyX7_ok nmX7 hown hK hP hD hS 1 rfl rfl 18 (by decide) (hg _ wt1_153) (fun _ h9 => h9) rfl (by decide +kernel) rfl rfl (Nat.le_of_ble_eq_true rfl) dX11_force_40 (fun H locs hP hD hS => ?_)
        have hP : va_P D vwCl (xX K r (upd f 50 x) a g tx) H := hP
        have hD : va_D A (xX K r (upd f 50 x) a g tx) := hD
        refine k_gen (P := fun z => va_P D vwCl (xX K r z a g tx) H ∧ va_D A (xX K r z a g tx) ∧ (xI z a) ∧ (gOK K g.2 tt) ∧ (xEk ([16, 50, 2565, 2566, 2786], [81, 94], []) f a g z a g)) (upd f 50 x) ⟨hP, hD, (xI_f hI (fI_st hI.1 50 (kb_any _) (by decide) (by decide))), hG, (xEk_f hE rfl)⟩ (fun f_28 ef_28 hq => ?_)
        obtain ⟨hP, hD, hI, hG, hE⟩ := hq
        refine lv_aload_n hx hb dX11_force_43 rfl (lv_at hl 1 rfl) ?_
        refine lv_iload_n hx hb dX11_force_44 rfl (lv_at hl 0 rfl) ?_
        refine kIG.callW (As := [.int c50]) (rest := []) ⟨hx, hb, hml, hown, hg⟩ (z_agreeChanged l r f_28 a g tx tt hT hI hG c50  ) (cwV 1 hg (kgV wt3_15 wt3_17 wp1_1 wt1_1 wt3_18) rfl rfl rfl (by decide +kernel) ⟨by decide, by decide⟩) hV hK hP hD hS hA (0) 11 rfl rfl rfl hl.1 rfl (Nat.le_of_ble_eq_true rfl) dX11_force_45 ⟨Nat.le_refl _, Nat.le_refl _⟩ (fun v30 u31 H locs hw29 hP hD hS => ?_)
        obtain ⟨f32, a33, g34⟩ := u31
        have hP : va_P D vwCl (xX K r f32 a33 g34 tx) H := hP
        have hD : va_D A (xX K r f32 a33 g34 tx) := hD
        have hI : xI f32 a33 := hw29.2.1
        have hG : gOK K g34.2 tt := hw29.2.2.1
        have eE35 : xEk ([16, 2565, 2566, 2786], [81], []) f_28 a g f32 a33 g34 := hw29.2.2.2.1
        have hE : xEk ([16, 50, 2565, 2566, 2786], [81, 94], []) f a g f32 a33 g34 := xEk_tr hE (xEk_w (by decide +kernel) eE35)
        refine k_top (z := c50) hw29.2.2.2.2.1 ?_
        exact kI_ret (v := c50) hx hb hr hlocks rfl hK hS dX11_force_48 (f32, a33, g34) hP hD ⟨(kb_w b1 (by decide) (by decide)), hI, hG, hE, (Or.inr ⟨ec50, ⟨by have w1 := (b26).1; omega, by rw [← ec49]; first | (have w1 := kc_lt c24; omega) | (have w1 := kc_nle c24; omega)⟩, ((eE35.1 50 rfl).trans (show f_28 50 = x from by rw [← ef_28]; rfl))⟩), (Or.inr ⟨(fun w9 => by have w1 := (b1).1; have w2 := congrArg Int32.toInt w9; have w3 : (-2 : Int32).toInt = -2 := (by decide +kernel); omega), (show sV 32 2 f32 a33 _ from sV_106 hVw ((eE35.1 50 rfl).trans (show f_28 50 = x from by rw [← ef_28]; rfl)) (hE.1 32 rfl) (hE.1 38 rfl) (hE.1 44 rfl) (hE.1 49 rfl) (fun j hj => by rcases (show j = 0 ∨ j = 1 ∨ j = 2 ∨ j = 3 ∨ j = 4 ∨ j = 5 ∨ j = 6 ∨ j = 7 ∨ j = 8 ∨ j = 9 ∨ j = 10 ∨ j = 11 ∨ j = 12 by omega) with e | e | e | e | e | e | e | e | e | e | e | e | e <;> (subst e; exact hE.2.1 _ rfl))), xP_cg hp0 ((eE35.1 704 rfl).trans (show f_28 704 = f 704 from by rw [← ef_28]; rfl)) ((eE35.1 705 rfl).trans (show f_28 705 = f 705 from by rw [← ef_28]; rfl)) (eE35.2.1 23 rfl), hw29.2.2.2.2.2, fun R1 hR => by show rfE (a33 94) R1; rw [show a33 94 = a 94 from (eE35.2.1 94 rfl)]; exact hR⟩)⟩
      · have h36 := (kc_nlt c24)
        refine lv_aload_n hx hb dX11_force_20 rfl (lv_at hl 0 rfl) ?_
        refine lv_bipush (v := (-2)) hx hb dX11_force_21 (by decide) ?_
        refine kIG.callW (As := [.int (-2)]) (rest := []) ⟨hx, hb, hml, hown, hg⟩ (z_refuse l r f a g tx tt hT hI hG (-2) (kb_w kc_m2 (by decide) (by decide)) (by decide +kernel)) (cwV 1 hg (kgV wt3_7 wt3_9 wp1_0 wt1_1 wt3_10) rfl rfl rfl (by decide +kernel) ⟨by decide, by decide⟩) hV hK hP hD hS hA (0) 11 rfl rfl rfl hl.1 rfl (Nat.le_of_ble_eq_true rfl) dX11_force_23 ⟨Nat.le_refl _, Nat.le_refl _⟩ (fun v38 u39 H locs hw37 hP hD hS => ?_)
        obtain ⟨f40, a41, g42⟩ := u39
        have hP : va_P D vwCl (xX K r f40 a41 g42 tx) H := hP
        have hD : va_D A (xX K r f40 a41 g42 tx) := hD
        have hI : xI f40 a41 := hw37.2.1
        have hG : gOK K g42.2 tt := hw37.2.2.1
        have eE43 : xEk ([16], [94], []) f a g f40 a41 g42 := hw37.2.2.2.1
        have hE : xEk ([16, 50, 2565, 2566, 2786], [81, 94], []) f a g f40 a41 g42 := xEk_tr hE (xEk_w (by decide +kernel) eE43)
        refine k_top (z := (-2)) hw37.2.2.2.2.1 ?_
        exact kI_ret (v := (-2)) hx hb hr hlocks rfl hK hS dX11_force_26 (f40, a41, g42) hP hD ⟨(kb_w kc_m2 (by decide) (by decide)), hI, hG, hE, (Or.inl ⟨rfl, (fun q => by have q1 := q.1; have q2 := q.2; rw [← ec49] at q2; have w8 : ¬ x.toInt = -1 := (fun z => c2 (Int32.toInt_inj.mp (z.trans (by decide +kernel)))); first | (have w1 := (b23).2; omega) | (have w1 := kc_nlt c24; omega) | (have w1 := kc_le c24; omega)), ((((eE43.1 50 rfl).trans ec50.symm)).trans ec50)⟩), (Or.inl ⟨rfl, sV_E hVw eE43 (by decide +kernel) (by decide +kernel), xP_cg hp0 (eE43.1 704 rfl) (eE43.1 705 rfl) (eE43.2.1 23 rfl), hw37.2.2.2.2.2.1, fun R1 hR => hw37.2.2.2.2.2.2 R1 (by rw [show a 94 = a 94 from rfl]; exact hR)⟩)⟩
