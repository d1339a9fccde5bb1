set_option maxHeartbeats 4000000 in
set_option maxRecDepth 100000 in
theorem z_runOnce  (l : Launch) {D : va_G} {K : Nat → ClassId} (r : Nat → Nat) (f : Nat → Int32) (a : Nat → Nat → Int32) (g : xG) (tx tt : va_W) (hT : ∀ c ∈ tt, c ∈ tx) (hI : xI f a) (hG : gOK K g.2 tt) (cl : Int32) (bcl : kb 0 cl 11) (k : Nat → Int32) (hVw : sV 32 2 f a k) (hkk : kK k) (DD : Nat → tE) (hL : lC K tt (g.2 15) k DD) (P : pS) (Dt : tE) (dn st : Int32) (hp0 : xPs (f 704) (f 705) (a 23) P (kBn k)) (hp1 : f 806 = dn) (hp2 : f 807 = st) (hp3 : kb 0 dn 100000) (hp4 : kb (-1) st 99) (hp5 : clC true Dt cl.toInt.toNat 400 (a 52) (a 53) (a 54) (a 55)) (hp6 : 2018 ≤ (Dt.2.2.1 cl.toInt.toNat).toInt ∧ (Dt.2.2.1 cl.toInt.toNat).toInt ≤ 2021) : kIG l yX5_runOnce (Cond.code yX5_runOnce cX5_runOnce 9 (some .boolean) :: kG) (rmD 6 0 0) D K [.ref (r 25), .ref (r 51), .int cl] (xX K r f a g tx) (fun v (u : xS) => kb 0 v 1 ∧ xI u.1 u.2.1 ∧ gOK K u.2.2.2 tt ∧ xEk ([704, 705, 806, 807], [6, 9, 10, 11, 19, 20, 23], []) f a g u.1 u.2.1 u.2.2 ∧ ((v = 1 ∧ ∃ s : oSt, ordO DD Dt cl.toInt.toNat ((k, P, dn, st) : oSt) = some s ∧ sV 32 2 u.1 u.2.1 s.1 ∧ xPs (u.1 704) (u.1 705) (u.2.1 23) s.2.1 (kBn k) ∧ u.1 806 = s.2.2.1 ∧ u.1 807 = s.2.2.2) ∨ (v = 0 ∧ ordO DD Dt cl.toInt.toNat ((k, P, dn, st) : oSt) = none))) (fun u => xX K r u.1 u.2.1 u.2.2 tx) 0 0 := by
  refine kIE.of (cc := cX5_runOnce) (maxL := 9) (ret := (some .boolean)) (by decide) rfl (Nat.le_of_ble_eq_true rfl) ?_
  intro p e s m below meth c A hx hb hr hml hown hts hlocks hnm hK hP hD hS hA hV ls hl
  have hE : xEk ([704, 705, 806, 807], [6, 9, 10, 11, 19, 20, 23], []) f a g f a g := xEk_rf
  have hg : ∀ w ∈ kG, w.before _ s = true := fun w h => hts w (List.mem_cons_of_mem _ h)
  have hown : s.vm.findClass RX5 = some m.cls := hown
  have hl : lv_has ls 9 [(0, .ref (r 25)), (1, .ref (r 51)), (2, .int cl)] := hl
  have hk0 : sV 32 2 f a k := hVw
  have hk1 := hp0
  have b1 : kb 0 dn 100000 := hp3
  have b2 : kb (-1) st 99 := hp4
  obtain ⟨m0, m1, m2, m3, hm0, hm1, hm2, hm3, l01, l12, l23, l3s, hkd, htm, hq1, hq2, hq3⟩ := hp5
  refine lv_aload_n hx hb dX5_runOnce_0 rfl (lv_at hl 0 rfl) ?_
  refine kVG.callW (As := []) (rest := []) ⟨hx, hb, hml, hown, hg⟩ (z_xwords l r f a g tx tt hT hI hG   k hk0 hkk dn st hp1 hp2) (cwV 0 hg (kgV wt4_93 wt4_95 wp2_8 wt1_6 wt4_96) rfl rfl rfl (by decide +kernel) ⟨by decide, by decide⟩) hV hK hP hD hS hA (25) 5 rfl rfl rfl hl.1 rfl (Nat.le_of_ble_eq_true rfl) dX5_runOnce_1 ⟨Nat.le_refl _, Nat.le_refl _⟩ (fun u5 H locs hw3 hP hD hS => ?_)
  obtain ⟨f6, a7, g8⟩ := u5
  have hP : va_P D vwCl (xX K r f6 a7 g8 tx) H := hP
  have hD : va_D A (xX K r f6 a7 g8 tx) := hD
  have hI : xI f6 a7 := hw3.1
  have hG : gOK K g8.2 tt := hw3.2.1
  have eE9 : xEk ([], [], []) f a g f6 a7 g8 := hw3.2.2.1
  have hE : xEk ([704, 705, 806, 807], [6, 9, 10, 11, 19, 20, 23], []) f a g f6 a7 g8 := xEk_tr hE (xEk_w (by decide +kernel) eE9)
  have hk0 : sV 32 2 f6 a7 k := (sV_E hk0 eE9 (by decide +kernel) (by decide +kernel))
  have hk1 : xPs (f6 704) (f6 705) (a7 23) P (kBn k) := (xP_cg hk1 (eE9.1 704 rfl) (eE9.1 705 rfl) (eE9.2.1 23 rfl))
  have hwd : ∀ j, j < 26 → (g8.1 49 j).toInt = oW k dn st j := hw3.2.2.2
  refine lv_aload_n hx hb dX5_runOnce_4 rfl (lv_at hl 1 rfl) ?_
  refine lv_iload_n hx hb dX5_runOnce_5 rfl (lv_at hl 2 rfl) ?_
  refine lv_iconst (v := 2) hx hb dX5_runOnce_6 (by decide) ?_
  refine lv_aload_n hx hb dX5_runOnce_7 rfl (lv_at hl 0 rfl) ?_
  refine va_get (D := D) (ci := 5) (v := .ref (r 49)) (C := RX5) (T := TX5) (N := 8) hx hb hg inC5 hown hK hP 25 rfl rfl 5 (by decide) (hg _ wt2_4) (fun _ h9 => h9) rfl dX5_runOnce_8 ?_
  refine lv_aload_n hx hb dX5_runOnce_11 rfl (lv_at hl 0 rfl) ?_
  refine va_get (D := D) (ci := 5) (v := .ref (r 1)) (C := RX5) (T := TX5) (N := 8) hx hb hg inC5 hown hK hP 25 rfl rfl 0 (by decide) (hg _ wt1_239) (fun _ h9 => h9) rfl dX5_runOnce_12 ?_
  refine va_get (D := D) (ci := 7) (v := .ref (r 16)) (C := RX7) (T := TX7) (N := 20) hx hb hg inC7 hown hK hP 1 rfl rfl 19 (by decide) (hg _ wt1_155) (fun _ h9 => h9) rfl dX5_runOnce_15 ?_
  refine va_get (D := D) (ci := 8) (v := .ref (r 18)) (C := RX8) (T := TX8) (N := 5) hx hb hg inC8 hown hK hP 16 rfl rfl 1 (by decide) (hg _ wt1_56) (fun _ h9 => h9) rfl dX5_runOnce_18 ?_
  refine kLG.callW (As := [.int cl, .int 2, .ref (r 49), .ref (r 18)]) (rest := []) ⟨hx, hb, hml, hown, hg⟩ (z_reckonD l r f6 a7 g8 tx tt hT hI hG cl 2 bcl (kb_w kc_2 (by decide) (by decide)) (Dt.2.2.2.2.2.2 cl.toInt.toNat) (oW k dn st) m2 m3 (by rw [show a7 54 = a 54 from hE.2.1 54 rfl, show (2 : Int32).toInt.toNat = 2 from by decide +kernel]; exact hm2) (by rw [show a7 54 = a 54 from hE.2.1 54 rfl, show (2 : Int32).toInt.toNat = 2 from by decide +kernel]; exact hm3) ⟨l23, by omega⟩ (by rw [show a7 55 = a 55 from hE.2.1 55 rfl]; exact hq3) hwd (oW_b hkk hp3 hp4)) (cwV 4 hg (kgV wt4_107 wt3_97 wt3_98 wt1_8 wt3_99) rfl rfl rfl (by decide +kernel) ⟨by decide, by decide⟩) hV hK hP hD hS hA (51) 10 rfl rfl rfl hl.1 rfl (Nat.le_of_ble_eq_true rfl) dX5_runOnce_21 ⟨Nat.le_refl _, Nat.le_refl _⟩ (fun v11 u12 H locs hw10 hP hD hS => ?_)
  obtain ⟨f13, a14, g15⟩ := u12
  have hP : va_P D vwCl (xX K r f13 a14 g15 tx) H := hP
  have hD : va_D A (xX K r f13 a14 g15 tx) := hD
  have hI : xI f13 a14 := hw10.2.1
  have hG : gOK K g15.2 tt := hw10.2.2.1
  have eE16 : xEk ([], [], []) f6 a7 g8 f13 a14 g15 := hw10.2.2.2.1
  have hE : xEk ([704, 705, 806, 807], [6, 9, 10, 11, 19, 20, 23], []) f a g f13 a14 g15 := xEk_tr hE (xEk_w (by decide +kernel) eE16)
  have hk0 : sV 32 2 f13 a14 k := (sV_E hk0 eE16 (by decide +kernel) (by decide +kernel))
  have hk1 : xPs (f13 704) (f13 705) (a14 23) P (kBn k) := (xP_cg hk1 (eE16.1 704 rfl) (eE16.1 705 rfl) (eE16.2.1 23 rfl))
  have hrk17 := hw10.2.2.2.2.1
  have hwd : ∀ j, j < 26 → (g15.1 49 j).toInt = oW k dn st j := hw10.2.2.2.2.2.2
  refine lv_lconst (v := 1) hx hb dX5_runOnce_24 (by decide) ?_
  refine W.lcmp hx hb dX5_runOnce_25 ?_
  refine lv_topi (fun t18 et18 => ?_)
  refine lv_if_eq (tgt := 31) hx hb dX5_runOnce_26 (by decide) (fun c19 => ?_) (fun c19 => ?_)
  · have h20 := klc_eq (et18 ▸ c19)
    refine lv_aload_n hx hb dX5_runOnce_31 rfl (lv_at hl 1 rfl) ?_
    refine lv_iload_n hx hb dX5_runOnce_32 rfl (lv_at hl 2 rfl) ?_
    refine lv_iconst (v := 0) hx hb dX5_runOnce_33 (by decide) ?_
    refine lv_aload_n hx hb dX5_runOnce_34 rfl (lv_at hl 0 rfl) ?_
    refine va_get (D := D) (ci := 5) (v := .ref (r 49)) (C := RX5) (T := TX5) (N := 8) hx hb hg inC5 hown hK hP 25 rfl rfl 5 (by decide) (hg _ wt2_4) (fun _ h9 => h9) rfl dX5_runOnce_35 ?_
    refine lv_aload_n hx hb dX5_runOnce_38 rfl (lv_at hl 0 rfl) ?_
    refine va_get (D := D) (ci := 5) (v := .ref (r 1)) (C := RX5) (T := TX5) (N := 8) hx hb hg inC5 hown hK hP 25 rfl rfl 0 (by decide) (hg _ wt1_239) (fun _ h9 => h9) rfl dX5_runOnce_39 ?_
    refine va_get (D := D) (ci := 7) (v := .ref (r 16)) (C := RX7) (T := TX7) (N := 20) hx hb hg inC7 hown hK hP 1 rfl rfl 19 (by decide) (hg _ wt1_155) (fun _ h9 => h9) rfl dX5_runOnce_42 ?_
    refine va_get (D := D) (ci := 8) (v := .ref (r 18)) (C := RX8) (T := TX8) (N := 5) hx hb hg inC8 hown hK hP 16 rfl rfl 1 (by decide) (hg _ wt1_56) (fun _ h9 => h9) rfl dX5_runOnce_45 ?_
    refine kLG.callW (As := [.int cl, .int 0, .ref (r 49), .ref (r 18)]) (rest := []) ⟨hx, hb, hml, hown, hg⟩ (z_reckonD l r f13 a14 g15 tx tt hT hI hG cl 0 bcl (kb_w kc_0 (by decide) (by decide)) (Dt.2.2.2.2.1 cl.toInt.toNat) (oW k dn st) m0 m1 (by rw [show a14 54 = a 54 from hE.2.1 54 rfl, show (0 : Int32).toInt.toNat = 0 from by decide +kernel]; exact hm0) (by rw [show a14 54 = a 54 from hE.2.1 54 rfl, show (0 : Int32).toInt.toNat = 0 from by decide +kernel]; exact hm1) ⟨l01, by omega⟩ (by rw [show a14 55 = a 55 from hE.2.1 55 rfl]; exact hq1) hwd (oW_b hkk hp3 hp4)) (cwV 4 hg (kgV wt4_107 wt3_97 wt3_98 wt1_8 wt3_99) rfl rfl rfl (by decide +kernel) ⟨by decide, by decide⟩) hV hK hP hD hS hA (51) 10 rfl rfl rfl hl.1 rfl (Nat.le_of_ble_eq_true rfl) dX5_runOnce_48 ⟨Nat.le_refl _, Nat.le_refl _⟩ (fun v22 u23 H locs hw21 hP hD hS => ?_)
    obtain ⟨f24, a25, g26⟩ := u23
    have hP : va_P D vwCl (xX K r f24 a25 g26 tx) H := hP
    have hD : va_D A (xX K r f24 a25 g26 tx) := hD
    have hI : xI f24 a25 := hw21.2.1
    have hG : gOK K g26.2 tt := hw21.2.2.1
    have eE27 : xEk ([], [], []) f13 a14 g15 f24 a25 g26 := hw21.2.2.2.1
    have hE : xEk ([704, 705, 806, 807], [6, 9, 10, 11, 19, 20, 23], []) f a g f24 a25 g26 := xEk_tr hE (xEk_w (by decide +kernel) eE27)
    have hk0 : sV 32 2 f24 a25 k := (sV_E hk0 eE27 (by decide +kernel) (by decide +kernel))
    have hk1 : xPs (f24 704) (f24 705) (a25 23) P (kBn k) := (xP_cg hk1 (eE27.1 704 rfl) (eE27.1 705 rfl) (eE27.2.1 23 rfl))
    have hrk28 := hw21.2.2.2.2.1
    have hwd : ∀ j, j < 26 → (g26.1 49 j).toInt = oW k dn st j := hw21.2.2.2.2.2.2
    refine lv_lstore_n (lv' := [(3, .long v22), (0, .ref (r 25)), (1, .ref (r 51)), (2, .int cl)]) hx hb dX5_runOnce_51 rfl hl (by decide) rfl (fun ls hl => ?_)
    refine lv_aload_n hx hb dX5_runOnce_52 rfl (lv_at hl 2 rfl) ?_
    refine lv_iload_n hx hb dX5_runOnce_53 rfl (lv_at hl 3 rfl) ?_
    refine lv_iconst (v := 1) hx hb dX5_runOnce_54 (by decide) ?_
    refine lv_aload_n hx hb dX5_runOnce_55 rfl (lv_at hl 1 rfl) ?_
    refine va_get (D := D) (ci := 5) (v := .ref (r 49)) (C := RX5) (T := TX5) (N := 8) hx hb hg inC5 hown hK hP 25 rfl rfl 5 (by decide) (hg _ wt2_4) (fun _ h9 => h9) rfl dX5_runOnce_56 ?_
    refine lv_aload_n hx hb dX5_runOnce_59 rfl (lv_at hl 1 rfl) ?_
    refine va_get (D := D) (ci := 5) (v := .ref (r 1)) (C := RX5) (T := TX5) (N := 8) hx hb hg inC5 hown hK hP 25 rfl rfl 0 (by decide) (hg _ wt1_239) (fun _ h9 => h9) rfl dX5_runOnce_60 ?_
    refine va_get (D := D) (ci := 7) (v := .ref (r 16)) (C := RX7) (T := TX7) (N := 20) hx hb hg inC7 hown hK hP 1 rfl rfl 19 (by decide) (hg _ wt1_155) (fun _ h9 => h9) rfl dX5_runOnce_63 ?_
    refine va_get (D := D) (ci := 8) (v := .ref (r 18)) (C := RX8) (T := TX8) (N := 5) hx hb hg inC8 hown hK hP 16 rfl rfl 1 (by decide) (hg _ wt1_56) (fun _ h9 => h9) rfl dX5_runOnce_66 ?_
    refine kLG.callW (As := [.int cl, .int 1, .ref (r 49), .ref (r 18)]) (rest := []) ⟨hx, hb, hml, hown, hg⟩ (z_reckonD l r f24 a25 g26 tx tt hT hI hG cl 1 bcl (kb_w kc_1 (by decide) (by decide)) (Dt.2.2.2.2.2.1 cl.toInt.toNat) (oW k dn st) m1 m2 (by rw [show a25 54 = a 54 from hE.2.1 54 rfl, show (1 : Int32).toInt.toNat = 1 from by decide +kernel]; exact hm1) (by rw [show a25 54 = a 54 from hE.2.1 54 rfl, show (1 : Int32).toInt.toNat = 1 from by decide +kernel]; exact hm2) ⟨l12, by omega⟩ (by rw [show a25 55 = a 55 from hE.2.1 55 rfl]; exact hq2) hwd (oW_b hkk hp3 hp4)) (cwV 4 hg (kgV wt4_107 wt3_97 wt3_98 wt1_8 wt3_99) rfl rfl rfl (by decide +kernel) ⟨by decide, by decide⟩) hV hK hP hD hS hA (51) 10 rfl rfl rfl hl.1 rfl (Nat.le_of_ble_eq_true rfl) dX5_runOnce_69 ⟨Nat.le_refl _, Nat.le_refl _⟩ (fun v30 u31 H locs hw29 hP hD hS => ?_)
    obtain ⟨f32, a33, g34⟩ := u31
    have hP : va_P D vwCl (xX K r f32 a33 g34 tx) H := hP
    have hD : va_D A (xX K r f32 a33 g34 tx) := hD
    have hI : xI f32 a33 := hw29.2.1
    have hG : gOK K g34.2 tt := hw29.2.2.1
    have eE35 : xEk ([], [], []) f24 a25 g26 f32 a33 g34 := hw29.2.2.2.1
    have hE : xEk ([704, 705, 806, 807], [6, 9, 10, 11, 19, 20, 23], []) f a g f32 a33 g34 := xEk_tr hE (xEk_w (by decide +kernel) eE35)
    have hk0 : sV 32 2 f32 a33 k := (sV_E hk0 eE35 (by decide +kernel) (by decide +kernel))
    have hk1 : xPs (f32 704) (f32 705) (a33 23) P (kBn k) := (xP_cg hk1 (eE35.1 704 rfl) (eE35.1 705 rfl) (eE35.2.1 23 rfl))
    have hrk36 := hw29.2.2.2.2.1
    have hwd : ∀ j, j < 26 → (g34.1 49 j).toInt = oW k dn st j := hw29.2.2.2.2.2.2
    refine lv_lstore (lv' := [(5, .long v30), (3, .long v22), (0, .ref (r 25)), (1, .ref (r 51)), (2, .int cl)]) hx hb dX5_runOnce_72 hl (by decide) rfl (fun ls hl => ?_)
    refine lv_lload_n hx hb dX5_runOnce_74 rfl (lv_at hl 1 rfl) ?_
    refine lv_ldc2 (v := (-1000000000000)) hx hb hown (hg _ wt4_108) dX5_runOnce_75 ?_
    refine W.lcmp hx hb dX5_runOnce_78 ?_
    refine lv_topi (fun t37 et37 => ?_)
    refine lv_if_eq (tgt := 91) hx hb dX5_runOnce_79 (by decide) (fun c38 => ?_) (fun c38 => ?_)
    · have h39 := klc_eq (et37 ▸ c38)
      refine lv_iconst (v := 0) hx hb dX5_runOnce_91 (by decide) ?_
      exact kI_ret (v := 0) hx hb hr hlocks (by decide +kernel) hK hS dX5_runOnce_92 (f32, a33, g34) hP hD ⟨(kb_w kc_0 (by decide) (by decide)), hI, hG, hE, (Or.inr ⟨rfl, od_1 (by have w1 := congrArg Int64.toInt h20; have w2 : (1 : Int64).toInt = 1 := (by decide +kernel); rw [w2, hrk17] at w1; exact enc_i w1 (by decide)) (enc_nn (by rw [← hrk28, h39]; decide +kernel) hw21.2.2.2.2.2.1)⟩)⟩
    · have h40 := klc_ne (et37 ▸ c38)
      refine lv_lload hx hb dX5_runOnce_82 (lv_at hl 0 rfl) ?_
      refine lv_ldc2 (v := (-1000000000000)) hx hb hown (hg _ wt4_108) dX5_runOnce_84 ?_
      refine W.lcmp hx hb dX5_runOnce_87 ?_
      refine lv_topi (fun t41 et41 => ?_)
      refine lv_if_ne (tgt := 93) hx hb dX5_runOnce_88 (by decide) (fun c42 => ?_) (fun c42 => ?_)
      · have h43 := klc_ne (et41 ▸ c42)
        refine lv_aload_n hx hb dX5_runOnce_93 rfl (lv_at hl 3 rfl) ?_
        refine va_get (D := D) (ci := 10) (v := .ref (r 52)) (C := RX10) (T := TX10) (N := 6) hx hb hg inC10 hown hK hP 51 rfl rfl 1 (by decide) (hg _ wt2_44) (fun _ h9 => h9) rfl dX5_runOnce_94 ?_
        refine lv_iload_n hx hb dX5_runOnce_97 rfl (lv_at hl 4 rfl) ?_
        refine va_iald hx hb hK hP 52 0 rfl rfl (kb_in bcl (by decide) (by decide)) dX5_runOnce_98 ?_
        refine lv_topi (fun t44 et44 => ?_)
        refine lv_istore (lv' := [(7, .int t44), (5, .long v30), (3, .long v22), (0, .ref (r 25)), (1, .ref (r 51)), (2, .int cl)]) hx hb dX5_runOnce_99 hl (by decide) rfl (fun ls hl => ?_)
        refine lv_iload hx hb dX5_runOnce_101 (lv_at hl 0 rfl) ?_
        refine lv_if_ne (tgt := 123) hx hb dX5_runOnce_103 (by decide) (fun c45 => ?_) (fun c45 => ?_)
        · refine lv_iload hx hb dX5_runOnce_123 (lv_at hl 0 rfl) ?_
          refine lv_iconst (v := 1) hx hb dX5_runOnce_125 (by decide) ?_
          refine lv_icmp_ne (tgt := 143) hx hb dX5_runOnce_126 (by decide) (fun c46 => ?_) (fun c46 => ?_)
          · refine lv_iload hx hb dX5_runOnce_143 (lv_at hl 0 rfl) ?_
            refine lv_iconst (v := 2) hx hb dX5_runOnce_145 (by decide) ?_
            refine lv_icmp_ne (tgt := 163) hx hb dX5_runOnce_146 (by decide) (fun c47 => ?_) (fun c47 => ?_)
            · have hkt : t44.toInt = (Dt.2.2.1 cl.toInt.toNat).toInt - 2018 := by rw [show t44 = a 52 cl.toInt.toNat from (et44.trans ((congrFun (eE35.2.1 52 rfl) (cl.toNatClampNeg)).trans ((congrFun (eE27.2.1 52 rfl) (cl.toNatClampNeg)).trans ((congrFun (eE16.2.1 52 rfl) (cl.toNatClampNeg)).trans (congrFun (eE9.2.1 52 rfl) (cl.toNatClampNeg))))))]; exact hkd
              have hhd : Dt.2.2.1 cl.toInt.toNat = 2021 := Int32.toInt_inj.mp (by have w0 : (2021 : Int32).toInt = 2021 := (by decide +kernel); have n0 : ¬ t44.toInt = 0 := (fun z => c45 (Int32.toInt_inj.mp (z.trans (by decide +kernel)))); have n1 : ¬ t44.toInt = 1 := (fun z => c46 (Int32.toInt_inj.mp (z.trans (by decide +kernel)))); have n2 : ¬ t44.toInt = 2 := (fun z => c47 (Int32.toInt_inj.mp (z.trans (by decide +kernel)))); have w9 := hp6; omega)
              refine lv_aload_n hx hb dX5_runOnce_163 rfl (lv_at hl 3 rfl) ?_
              refine va_get (D := D) (ci := 5) (v := .ref (r 24)) (C := RX5) (T := TX5) (N := 8) hx hb hg inC5 hown hK hP 25 rfl rfl 2 (by decide) (hg _ wt2_1) (fun _ h9 => h9) rfl dX5_runOnce_164 ?_
              refine kIG.callW (As := []) (rest := []) ⟨hx, hb, hml, hown, hg⟩ (z_passTick l r f32 a33 g34 tx tt hT hI hG   k hk0 hkk DD (lC_cg hL (hE.2.2 15 rfl)) P hk1) (cwV 0 hg (kgV wt4_138 wt4_139 wt4_140 wt1_5 wt4_141) rfl rfl rfl (by decide +kernel) ⟨by decide, by decide⟩) hV hK hP hD hS hA (24) 0 rfl rfl rfl hl.1 rfl (Nat.le_of_ble_eq_true rfl) dX5_runOnce_167 ⟨Nat.le_refl _, Nat.le_refl _⟩ (fun v49 u50 H locs hw48 hP hD hS => ?_)
              obtain ⟨f51, a52, g53⟩ := u50
              have hP : va_P D vwCl (xX K r f51 a52 g53 tx) H := hP
              have hD : va_D A (xX K r f51 a52 g53 tx) := hD
              have hI : xI f51 a52 := hw48.2.1
              have hG : gOK K g53.2 tt := hw48.2.2.1
              have eE54 : xEk ([704, 705], [6, 9, 10, 11, 19, 20, 23], []) f32 a33 g34 f51 a52 g53 := hw48.2.2.2.1
              have hE : xEk ([704, 705, 806, 807], [6, 9, 10, 11, 19, 20, 23], []) f a g f51 a52 g53 := xEk_tr hE (xEk_w (by decide +kernel) eE54)
              have hk0 : sV 32 2 f51 a52 (ticF DD k P).2.1 := hw48.2.2.2.2.2.1
              have hk1 : xPs (f51 704) (f51 705) (a52 23) (ticF DD k P).2.2 (kBn k) := hw48.2.2.2.2.2.2
              refine lv_istore (lv' := [(8, .int v49), (7, .int t44), (5, .long v30), (3, .long v22), (0, .ref (r 25)), (1, .ref (r 51)), (2, .int cl)]) hx hb dX5_runOnce_170 hl (by decide) rfl (fun ls hl => ?_)
              refine lv_aload_n hx hb dX5_runOnce_172 rfl (lv_at hl 4 rfl) ?_
              refine lv_iload hx hb dX5_runOnce_173 (lv_at hl 0 rfl) ?_
              refine va_put (D := D) (ci := 5) (v := .int v49) (ty := .int) (C := RX5) (T := TX5) (N := 8) hx hb hg inC5 tyX5 tyX5_ok nmX5 hown hK hP hD hS 25 rfl rfl 7 (by decide) (hg _ wt2_7) (fun _ h9 => h9) rfl (by decide +kernel) rfl rfl (Nat.le_of_ble_eq_true rfl) dX5_runOnce_175 (fun H locs hP hD hS => ?_)
              have hP : va_P D vwCl (xX K r (upd f51 807 v49) a52 g53 tx) H := hP
              have hD : va_D A (xX K r (upd f51 807 v49) a52 g53 tx) := hD
              refine k_gen (P := fun z => va_P D vwCl (xX K r z a52 g53 tx) H ∧ va_D A (xX K r z a52 g53 tx) ∧ (xI z a52) ∧ (gOK K g53.2 tt) ∧ (xEk ([704, 705, 806, 807], [6, 9, 10, 11, 19, 20, 23], []) f a g z a52 g53) ∧ (sV 32 2 z a52 (ticF DD k P).2.1) ∧ (xPs (z 704) (z 705) (a52 23) (ticF DD k P).2.2 (kBn k))) (upd f51 807 v49) ⟨hP, hD, (xI_f hI (fI_st hI.1 807 (kb_any _) (by decide) (by decide))), hG, (xEk_f hE rfl), (sV_f hk0 (by decide) (by decide) (by decide) (by decide) (by decide)), (xP_cg hk1 (pk_un (by decide)) (pk_un (by decide)) rfl)⟩ (fun f_55 ef_55 hq => ?_)
              obtain ⟨hP, hD, hI, hG, hE, hk0, hk1⟩ := hq
              refine lv_aload_n hx hb dX5_runOnce_178 rfl (lv_at hl 4 rfl) ?_
              refine lv_dup hx hb dX5_runOnce_179 rfl ?_
              refine va_get (D := D) (ci := 5) (v := .int (f_55 806)) (C := RX5) (T := TX5) (N := 8) hx hb hg inC5 hown hK hP 25 rfl rfl 6 (by decide) (hg _ wt2_5) (fun _ h9 => h9) rfl dX5_runOnce_180 ?_
              refine k_top (z := dn) ((show f_55 806 = f51 806 from by rw [← ef_55]; rfl).trans ((eE54.1 806 rfl).trans ((eE35.1 806 rfl).trans ((eE27.1 806 rfl).trans ((eE16.1 806 rfl).trans ((eE9.1 806 rfl).trans hp1)))))) ?_
              refine lv_iconst (v := 1) hx hb dX5_runOnce_183 (by decide) ?_
              refine lv_iadd hx hb dX5_runOnce_184 ?_
              refine lv_topi (fun t56 et56 => ?_)
              have b57 : kb 1 t56 100001 := kb_eq et56 (kb_add b1 kc_1 (by decide) (by decide))
              have qt56 : t56.toInt = dn.toInt + 1 := by rw [et56]; exact kt_addc b1 kc_1 (by decide) (by decide)
              refine va_put (D := D) (ci := 5) (v := .int t56) (ty := .int) (C := RX5) (T := TX5) (N := 8) hx hb hg inC5 tyX5 tyX5_ok nmX5 hown hK hP hD hS 25 rfl rfl 6 (by decide) (hg _ wt2_5) (fun _ h9 => h9) rfl (by decide +kernel) rfl rfl (Nat.le_of_ble_eq_true rfl) dX5_runOnce_185 (fun H locs hP hD hS => ?_)
              have hP : va_P D vwCl (xX K r (upd f_55 806 t56) a52 g53 tx) H := hP
              have hD : va_D A (xX K r (upd f_55 806 t56) a52 g53 tx) := hD
              refine k_gen (P := fun z => va_P D vwCl (xX K r z a52 g53 tx) H ∧ va_D A (xX K r z a52 g53 tx) ∧ (xI z a52) ∧ (gOK K g53.2 tt) ∧ (xEk ([704, 705, 806, 807], [6, 9, 10, 11, 19, 20, 23], []) f a g z a52 g53) ∧ (sV 32 2 z a52 (ticF DD k P).2.1) ∧ (xPs (z 704) (z 705) (a52 23) (ticF DD k P).2.2 (kBn k))) (upd f_55 806 t56) ⟨hP, hD, (xI_f hI (fI_st hI.1 806 (kb_any _) (by decide) (by decide))), hG, (xEk_f hE rfl), (sV_f hk0 (by decide) (by decide) (by decide) (by decide) (by decide)), (xP_cg hk1 (pk_un (by decide)) (pk_un (by decide)) rfl)⟩ (fun f_58 ef_58 hq => ?_)
              obtain ⟨hP, hD, hI, hG, hE, hk0, hk1⟩ := hq
              refine lv_iload hx hb dX5_runOnce_188 (lv_at hl 0 rfl) ?_
              refine lv_if_lt (tgt := 197) hx hb dX5_runOnce_190 (by decide) (fun c59 => ?_) (fun c59 => ?_)
              · have h60 := (kc_lt c59)
                have b61 : kb (-2147483648) v49 (-1) := kr_lt1 h60 (kb_any v49) kc_0 (by decide)
                refine lv_iconst (v := 0) hx hb dX5_runOnce_197 (by decide) ?_
                exact kI_ret (v := 0) hx hb hr hlocks (by decide +kernel) hK hS dX5_runOnce_198 (f_58, a52, g53) hP hD ⟨(kb_w kc_0 (by decide) (by decide)), hI, hG, hE, (Or.inr ⟨rfl, (od_g (s := ((k, P, dn, st) : oSt)) (by have w1 := congrArg Int64.toInt h20; have w2 : (1 : Int64).toInt = 1 := (by decide +kernel); rw [w2, hrk17] at w1; exact enc_i w1 (by decide)) (show Dt.2.2.2.2.1 cl.toInt.toNat (oW k dn st) = some v22.toInt from enc_i hrk28.symm (fun q => h40 (Int64.toInt_inj.mp (q.trans (by decide +kernel))))) (show Dt.2.2.2.2.2.1 cl.toInt.toNat (oW k dn st) = some v30.toInt from enc_i hrk36.symm (fun q => h43 (Int64.toInt_inj.mp (q.trans (by decide +kernel)))))).trans ((congrArg (fun z => ordZ z (Dt.2.2.1 cl.toInt.toNat) ((k, P, dn, st) : oSt)) (show ordR DD (Dt.2.2.1 cl.toInt.toNat) _ _ k P = (ticF DD k P) from by unfold ordR; rw [if_neg (by rw [hhd]; decide +kernel), if_neg (by rw [hhd]; decide +kernel), if_neg (by rw [hhd]; decide +kernel)])).trans  (oz_n (fun q => by have w1 := hw48.2.2.2.2.1; have w2 := kc_lt c59; have w3 : (0 : Int32).toInt = 0 := (by decide +kernel); omega)))⟩)⟩
              · have h62 := (kc_nlt c59)
                have b63 : kb 0 v49 2147483647 := kr_le2 h62 kc_0 (kb_any v49)
                refine lv_iconst (v := 1) hx hb dX5_runOnce_193 (by decide) ?_
                refine lv_goto (tgt := 198) hx hb dX5_runOnce_194 (by decide) ?_
                exact kI_ret (v := 1) hx hb hr hlocks (by decide +kernel) hK hS dX5_runOnce_198 (f_58, a52, g53) hP hD ⟨(kb_w kc_1 (by decide) (by decide)), hI, hG, hE, (Or.inl ⟨rfl, _, (od_g (s := ((k, P, dn, st) : oSt)) (by have w1 := congrArg Int64.toInt h20; have w2 : (1 : Int64).toInt = 1 := (by decide +kernel); rw [w2, hrk17] at w1; exact enc_i w1 (by decide)) (show Dt.2.2.2.2.1 cl.toInt.toNat (oW k dn st) = some v22.toInt from enc_i hrk28.symm (fun q => h40 (Int64.toInt_inj.mp (q.trans (by decide +kernel))))) (show Dt.2.2.2.2.2.1 cl.toInt.toNat (oW k dn st) = some v30.toInt from enc_i hrk36.symm (fun q => h43 (Int64.toInt_inj.mp (q.trans (by decide +kernel)))))).trans ((congrArg (fun z => ordZ z (Dt.2.2.1 cl.toInt.toNat) ((k, P, dn, st) : oSt)) (show ordR DD (Dt.2.2.1 cl.toInt.toNat) _ _ k P = (ticF DD k P) from by unfold ordR; rw [if_neg (by rw [hhd]; decide +kernel), if_neg (by rw [hhd]; decide +kernel), if_neg (by rw [hhd]; decide +kernel)])).trans  (oz_y (by have w1 := hw48.2.2.2.2.1; have w2 := kc_nlt c59; have w3 : (0 : Int32).toInt = 0 := (by decide +kernel); omega))), hk0, hk1, ((show f_58 806 = t56 from by rw [← ef_58]; rfl)).trans et56, (by show f_58 807 = if Dt.2.2.1 cl.toInt.toNat = 2021 then _ else _; rw [if_pos hhd, ((show f_58 807 = f_55 807 from by rw [← ef_58]; rfl).trans (show f_55 807 = v49 from by rw [← ef_55]; rfl))]; exact ofI_t hw48.2.2.2.2.1)⟩)⟩
            · have b64 : kb 2 t44 2 := kb_eq c47 kc_2
              have hkt : t44.toInt = (Dt.2.2.1 cl.toInt.toNat).toInt - 2018 := by rw [show t44 = a 52 cl.toInt.toNat from (et44.trans ((congrFun (eE35.2.1 52 rfl) (cl.toNatClampNeg)).trans ((congrFun (eE27.2.1 52 rfl) (cl.toNatClampNeg)).trans ((congrFun (eE16.2.1 52 rfl) (cl.toNatClampNeg)).trans (congrFun (eE9.2.1 52 rfl) (cl.toNatClampNeg))))))]; exact hkd
              have hhd : Dt.2.2.1 cl.toInt.toNat = 2020 := Int32.toInt_inj.mp (by have w0 : (2020 : Int32).toInt = 2020 := (by decide +kernel); have w1 := congrArg Int32.toInt c47; have w2 : (2 : Int32).toInt = 2 := (by decide +kernel); omega)
              refine lv_aload_n hx hb dX5_runOnce_149 rfl (lv_at hl 3 rfl) ?_
              refine va_get (D := D) (ci := 5) (v := .ref (r 24)) (C := RX5) (T := TX5) (N := 8) hx hb hg inC5 hown hK hP 25 rfl rfl 2 (by decide) (hg _ wt2_1) (fun _ h9 => h9) rfl dX5_runOnce_150 ?_
              refine lv_lload_n hx hb dX5_runOnce_153 rfl (lv_at hl 2 rfl) ?_
              refine lv_l2i hx hb dX5_runOnce_154 rfl ?_
              refine lv_topi (fun t65 et65 => ?_)
              refine kIG.callW (As := [.int t65]) (rest := []) ⟨hx, hb, hml, hown, hg⟩ (z_razePart l r f32 a33 g34 tx tt hT hI hG t65  k hk0 hkk P hk1) (cwV 1 hg (kgV wt4_126 wt4_127 wt4_128 wt1_5 wt4_129) rfl rfl rfl (by decide +kernel) ⟨by decide, by decide⟩) hV hK hP hD hS hA (24) 0 rfl rfl rfl hl.1 rfl (Nat.le_of_ble_eq_true rfl) dX5_runOnce_155 ⟨Nat.le_refl _, Nat.le_refl _⟩ (fun v67 u68 H locs hw66 hP hD hS => ?_)
              obtain ⟨f69, a70, g71⟩ := u68
              have hP : va_P D vwCl (xX K r f69 a70 g71 tx) H := hP
              have hD : va_D A (xX K r f69 a70 g71 tx) := hD
              have hI : xI f69 a70 := hw66.2.1
              have hG : gOK K g71.2 tt := hw66.2.2.1
              have eE72 : xEk ([704, 705], [6, 23], []) f32 a33 g34 f69 a70 g71 := hw66.2.2.2.1
              have hE : xEk ([704, 705, 806, 807], [6, 9, 10, 11, 19, 20, 23], []) f a g f69 a70 g71 := xEk_tr hE (xEk_w (by decide +kernel) eE72)
              have hk0 : sV 32 2 f69 a70 (thrF k P t65).2.1 := hw66.2.2.2.2.2.1
              have hk1 : xPs (f69 704) (f69 705) (a70 23) (thrF k P t65).2.2 (kBn k) := hw66.2.2.2.2.2.2
              refine lv_istore (lv' := [(8, .int v67), (7, .int t44), (5, .long v30), (3, .long v22), (0, .ref (r 25)), (1, .ref (r 51)), (2, .int cl)]) hx hb dX5_runOnce_158 hl (by decide) rfl (fun ls hl => ?_)
              refine lv_goto (tgt := 178) hx hb dX5_runOnce_160 (by decide) ?_
              refine lv_aload_n hx hb dX5_runOnce_178 rfl (lv_at hl 4 rfl) ?_
              refine lv_dup hx hb dX5_runOnce_179 rfl ?_
              refine va_get (D := D) (ci := 5) (v := .int (f69 806)) (C := RX5) (T := TX5) (N := 8) hx hb hg inC5 hown hK hP 25 rfl rfl 6 (by decide) (hg _ wt2_5) (fun _ h9 => h9) rfl dX5_runOnce_180 ?_
              refine k_top (z := dn) ((eE72.1 806 rfl).trans ((eE35.1 806 rfl).trans ((eE27.1 806 rfl).trans ((eE16.1 806 rfl).trans ((eE9.1 806 rfl).trans hp1))))) ?_
              refine lv_iconst (v := 1) hx hb dX5_runOnce_183 (by decide) ?_
              refine lv_iadd hx hb dX5_runOnce_184 ?_
              refine lv_topi (fun t73 et73 => ?_)
              have b74 : kb 1 t73 100001 := kb_eq et73 (kb_add b1 kc_1 (by decide) (by decide))
              have qt73 : t73.toInt = dn.toInt + 1 := by rw [et73]; exact kt_addc b1 kc_1 (by decide) (by decide)
              refine va_put (D := D) (ci := 5) (v := .int t73) (ty := .int) (C := RX5) (T := TX5) (N := 8) hx hb hg inC5 tyX5 tyX5_ok nmX5 hown hK hP hD hS 25 rfl rfl 6 (by decide) (hg _ wt2_5) (fun _ h9 => h9) rfl (by decide +kernel) rfl rfl (Nat.le_of_ble_eq_true rfl) dX5_runOnce_185 (fun H locs hP hD hS => ?_)
              have hP : va_P D vwCl (xX K r (upd f69 806 t73) a70 g71 tx) H := hP
              have hD : va_D A (xX K r (upd f69 806 t73) a70 g71 tx) := hD
              refine k_gen (P := fun z => va_P D vwCl (xX K r z a70 g71 tx) H ∧ va_D A (xX K r z a70 g71 tx) ∧ (xI z a70) ∧ (gOK K g71.2 tt) ∧ (xEk ([704, 705, 806, 807], [6, 9, 10, 11, 19, 20, 23], []) f a g z a70 g71) ∧ (sV 32 2 z a70 (thrF k P t65).2.1) ∧ (xPs (z 704) (z 705) (a70 23) (thrF k P t65).2.2 (kBn k))) (upd f69 806 t73) ⟨hP, hD, (xI_f hI (fI_st hI.1 806 (kb_any _) (by decide) (by decide))), hG, (xEk_f hE rfl), (sV_f hk0 (by decide) (by decide) (by decide) (by decide) (by decide)), (xP_cg hk1 (pk_un (by decide)) (pk_un (by decide)) rfl)⟩ (fun f_75 ef_75 hq => ?_)
              obtain ⟨hP, hD, hI, hG, hE, hk0, hk1⟩ := hq
              refine lv_iload hx hb dX5_runOnce_188 (lv_at hl 0 rfl) ?_
              refine lv_if_lt (tgt := 197) hx hb dX5_runOnce_190 (by decide) (fun c76 => ?_) (fun c76 => ?_)
              · have h77 := (kc_lt c76)
                have b78 : kb (-2147483648) v67 (-1) := kr_lt1 h77 (kb_any v67) kc_0 (by decide)
                refine lv_iconst (v := 0) hx hb dX5_runOnce_197 (by decide) ?_
                exact kI_ret (v := 0) hx hb hr hlocks (by decide +kernel) hK hS dX5_runOnce_198 (f_75, a70, g71) hP hD ⟨(kb_w kc_0 (by decide) (by decide)), hI, hG, hE, (Or.inr ⟨rfl, (od_g (s := ((k, P, dn, st) : oSt)) (by have w1 := congrArg Int64.toInt h20; have w2 : (1 : Int64).toInt = 1 := (by decide +kernel); rw [w2, hrk17] at w1; exact enc_i w1 (by decide)) (show Dt.2.2.2.2.1 cl.toInt.toNat (oW k dn st) = some v22.toInt from enc_i hrk28.symm (fun q => h40 (Int64.toInt_inj.mp (q.trans (by decide +kernel))))) (show Dt.2.2.2.2.2.1 cl.toInt.toNat (oW k dn st) = some v30.toInt from enc_i hrk36.symm (fun q => h43 (Int64.toInt_inj.mp (q.trans (by decide +kernel)))))).trans ((congrArg (fun z => ordZ z (Dt.2.2.1 cl.toInt.toNat) ((k, P, dn, st) : oSt)) (show ordR DD (Dt.2.2.1 cl.toInt.toNat) _ _ k P = (thrF k P t65) from by unfold ordR; rw [if_neg (by rw [hhd]; decide +kernel), if_neg (by rw [hhd]; decide +kernel), if_pos hhd, ← l2i_o, ← et65])).trans  (oz_n (fun q => by have w1 := hw66.2.2.2.2.1; have w2 := kc_lt c76; have w3 : (0 : Int32).toInt = 0 := (by decide +kernel); omega)))⟩)⟩
              · have h79 := (kc_nlt c76)
                have b80 : kb 0 v67 2147483647 := kr_le2 h79 kc_0 (kb_any v67)
                refine lv_iconst (v := 1) hx hb dX5_runOnce_193 (by decide) ?_
                refine lv_goto (tgt := 198) hx hb dX5_runOnce_194 (by decide) ?_
                exact kI_ret (v := 1) hx hb hr hlocks (by decide +kernel) hK hS dX5_runOnce_198 (f_75, a70, g71) hP hD ⟨(kb_w kc_1 (by decide) (by decide)), hI, hG, hE, (Or.inl ⟨rfl, _, (od_g (s := ((k, P, dn, st) : oSt)) (by have w1 := congrArg Int64.toInt h20; have w2 : (1 : Int64).toInt = 1 := (by decide +kernel); rw [w2, hrk17] at w1; exact enc_i w1 (by decide)) (show Dt.2.2.2.2.1 cl.toInt.toNat (oW k dn st) = some v22.toInt from enc_i hrk28.symm (fun q => h40 (Int64.toInt_inj.mp (q.trans (by decide +kernel))))) (show Dt.2.2.2.2.2.1 cl.toInt.toNat (oW k dn st) = some v30.toInt from enc_i hrk36.symm (fun q => h43 (Int64.toInt_inj.mp (q.trans (by decide +kernel)))))).trans ((congrArg (fun z => ordZ z (Dt.2.2.1 cl.toInt.toNat) ((k, P, dn, st) : oSt)) (show ordR DD (Dt.2.2.1 cl.toInt.toNat) _ _ k P = (thrF k P t65) from by unfold ordR; rw [if_neg (by rw [hhd]; decide +kernel), if_neg (by rw [hhd]; decide +kernel), if_pos hhd, ← l2i_o, ← et65])).trans  (oz_y (by have w1 := hw66.2.2.2.2.1; have w2 := kc_nlt c76; have w3 : (0 : Int32).toInt = 0 := (by decide +kernel); omega))), hk0, hk1, ((show f_75 806 = t73 from by rw [← ef_75]; rfl)).trans et73, (by show f_75 807 = if Dt.2.2.1 cl.toInt.toNat = 2021 then _ else _; rw [if_neg (by rw [hhd]; decide +kernel)]; exact ((show f_75 807 = f69 807 from by rw [← ef_75]; rfl).trans ((eE72.1 807 rfl).trans ((eE35.1 807 rfl).trans ((eE27.1 807 rfl).trans ((eE16.1 807 rfl).trans ((eE9.1 807 rfl).trans hp2)))))))⟩)⟩
          · have b81 : kb 1 t44 1 := kb_eq c46 kc_1
            have hkt : t44.toInt = (Dt.2.2.1 cl.toInt.toNat).toInt - 2018 := by rw [show t44 = a 52 cl.toInt.toNat from (et44.trans ((congrFun (eE35.2.1 52 rfl) (cl.toNatClampNeg)).trans ((congrFun (eE27.2.1 52 rfl) (cl.toNatClampNeg)).trans ((congrFun (eE16.2.1 52 rfl) (cl.toNatClampNeg)).trans (congrFun (eE9.2.1 52 rfl) (cl.toNatClampNeg))))))]; exact hkd
            have hhd : Dt.2.2.1 cl.toInt.toNat = 2019 := Int32.toInt_inj.mp (by have w0 : (2019 : Int32).toInt = 2019 := (by decide +kernel); have w1 := congrArg Int32.toInt c46; have w2 : (1 : Int32).toInt = 1 := (by decide +kernel); omega)
            refine lv_aload_n hx hb dX5_runOnce_129 rfl (lv_at hl 3 rfl) ?_
            refine va_get (D := D) (ci := 5) (v := .ref (r 24)) (C := RX5) (T := TX5) (N := 8) hx hb hg inC5 hown hK hP 25 rfl rfl 2 (by decide) (hg _ wt2_1) (fun _ h9 => h9) rfl dX5_runOnce_130 ?_
            refine lv_lload_n hx hb dX5_runOnce_133 rfl (lv_at hl 2 rfl) ?_
            refine lv_l2i hx hb dX5_runOnce_134 rfl ?_
            refine lv_topi (fun t82 et82 => ?_)
            refine kIG.callW (As := [.int t82]) (rest := []) ⟨hx, hb, hml, hown, hg⟩ (z_restBuilder l r f32 a33 g34 tx tt hT hI hG t82  k hk0 hkk P hk1) (cwV 1 hg (kgV wt4_122 wt4_123 wt4_124 wt1_5 wt4_125) rfl rfl rfl (by decide +kernel) ⟨by decide, by decide⟩) hV hK hP hD hS hA (24) 0 rfl rfl rfl hl.1 rfl (Nat.le_of_ble_eq_true rfl) dX5_runOnce_135 ⟨Nat.le_refl _, Nat.le_refl _⟩ (fun v84 u85 H locs hw83 hP hD hS => ?_)
            obtain ⟨f86, a87, g88⟩ := u85
            have hP : va_P D vwCl (xX K r f86 a87 g88 tx) H := hP
            have hD : va_D A (xX K r f86 a87 g88 tx) := hD
            have hI : xI f86 a87 := hw83.2.1
            have hG : gOK K g88.2 tt := hw83.2.2.1
            have eE89 : xEk ([704, 705], [10, 23], []) f32 a33 g34 f86 a87 g88 := hw83.2.2.2.1
            have hE : xEk ([704, 705, 806, 807], [6, 9, 10, 11, 19, 20, 23], []) f a g f86 a87 g88 := xEk_tr hE (xEk_w (by decide +kernel) eE89)
            have hk0 : sV 32 2 f86 a87 (rstF k P t82).2.1 := hw83.2.2.2.2.2.1
            have hk1 : xPs (f86 704) (f86 705) (a87 23) (rstF k P t82).2.2 (kBn k) := hw83.2.2.2.2.2.2
            refine lv_istore (lv' := [(8, .int v84), (7, .int t44), (5, .long v30), (3, .long v22), (0, .ref (r 25)), (1, .ref (r 51)), (2, .int cl)]) hx hb dX5_runOnce_138 hl (by decide) rfl (fun ls hl => ?_)
            refine lv_goto (tgt := 178) hx hb dX5_runOnce_140 (by decide) ?_
            refine lv_aload_n hx hb dX5_runOnce_178 rfl (lv_at hl 4 rfl) ?_
            refine lv_dup hx hb dX5_runOnce_179 rfl ?_
            refine va_get (D := D) (ci := 5) (v := .int (f86 806)) (C := RX5) (T := TX5) (N := 8) hx hb hg inC5 hown hK hP 25 rfl rfl 6 (by decide) (hg _ wt2_5) (fun _ h9 => h9) rfl dX5_runOnce_180 ?_
            refine k_top (z := dn) ((eE89.1 806 rfl).trans ((eE35.1 806 rfl).trans ((eE27.1 806 rfl).trans ((eE16.1 806 rfl).trans ((eE9.1 806 rfl).trans hp1))))) ?_
            refine lv_iconst (v := 1) hx hb dX5_runOnce_183 (by decide) ?_
            refine lv_iadd hx hb dX5_runOnce_184 ?_
            refine lv_topi (fun t90 et90 => ?_)
            have b91 : kb 1 t90 100001 := kb_eq et90 (kb_add b1 kc_1 (by decide) (by decide))
            have qt90 : t90.toInt = dn.toInt + 1 := by rw [et90]; exact kt_addc b1 kc_1 (by decide) (by decide)
            refine va_put (D := D) (ci := 5) (v := .int t90) (ty := .int) (C := RX5) (T := TX5) (N := 8) hx hb hg inC5 tyX5 tyX5_ok nmX5 hown hK hP hD hS 25 rfl rfl 6 (by decide) (hg _ wt2_5) (fun _ h9 => h9) rfl (by decide +kernel) rfl rfl (Nat.le_of_ble_eq_true rfl) dX5_runOnce_185 (fun H locs hP hD hS => ?_)
            have hP : va_P D vwCl (xX K r (upd f86 806 t90) a87 g88 tx) H := hP
            have hD : va_D A (xX K r (upd f86 806 t90) a87 g88 tx) := hD
            refine k_gen (P := fun z => va_P D vwCl (xX K r z a87 g88 tx) H ∧ va_D A (xX K r z a87 g88 tx) ∧ (xI z a87) ∧ (gOK K g88.2 tt) ∧ (xEk ([704, 705, 806, 807], [6, 9, 10, 11, 19, 20, 23], []) f a g z a87 g88) ∧ (sV 32 2 z a87 (rstF k P t82).2.1) ∧ (xPs (z 704) (z 705) (a87 23) (rstF k P t82).2.2 (kBn k))) (upd f86 806 t90) ⟨hP, hD, (xI_f hI (fI_st hI.1 806 (kb_any _) (by decide) (by decide))), hG, (xEk_f hE rfl), (sV_f hk0 (by decide) (by decide) (by decide) (by decide) (by decide)), (xP_cg hk1 (pk_un (by decide)) (pk_un (by decide)) rfl)⟩ (fun f_92 ef_92 hq => ?_)
            obtain ⟨hP, hD, hI, hG, hE, hk0, hk1⟩ := hq
            refine lv_iload hx hb dX5_runOnce_188 (lv_at hl 0 rfl) ?_
            refine lv_if_lt (tgt := 197) hx hb dX5_runOnce_190 (by decide) (fun c93 => ?_) (fun c93 => ?_)
            · have h94 := (kc_lt c93)
              have b95 : kb (-2147483648) v84 (-1) := kr_lt1 h94 (kb_any v84) kc_0 (by decide)
              refine lv_iconst (v := 0) hx hb dX5_runOnce_197 (by decide) ?_
              exact kI_ret (v := 0) hx hb hr hlocks (by decide +kernel) hK hS dX5_runOnce_198 (f_92, a87, g88) hP hD ⟨(kb_w kc_0 (by decide) (by decide)), hI, hG, hE, (Or.inr ⟨rfl, (od_g (s := ((k, P, dn, st) : oSt)) (by have w1 := congrArg Int64.toInt h20; have w2 : (1 : Int64).toInt = 1 := (by decide +kernel); rw [w2, hrk17] at w1; exact enc_i w1 (by decide)) (show Dt.2.2.2.2.1 cl.toInt.toNat (oW k dn st) = some v22.toInt from enc_i hrk28.symm (fun q => h40 (Int64.toInt_inj.mp (q.trans (by decide +kernel))))) (show Dt.2.2.2.2.2.1 cl.toInt.toNat (oW k dn st) = some v30.toInt from enc_i hrk36.symm (fun q => h43 (Int64.toInt_inj.mp (q.trans (by decide +kernel)))))).trans ((congrArg (fun z => ordZ z (Dt.2.2.1 cl.toInt.toNat) ((k, P, dn, st) : oSt)) (show ordR DD (Dt.2.2.1 cl.toInt.toNat) _ _ k P = (rstF k P t82) from by unfold ordR; rw [if_neg (by rw [hhd]; decide +kernel), if_pos hhd, ← l2i_o, ← et82])).trans  (oz_n (fun q => by have w1 := hw83.2.2.2.2.1; have w2 := kc_lt c93; have w3 : (0 : Int32).toInt = 0 := (by decide +kernel); omega)))⟩)⟩
            · have h96 := (kc_nlt c93)
              have b97 : kb 0 v84 2147483647 := kr_le2 h96 kc_0 (kb_any v84)
              refine lv_iconst (v := 1) hx hb dX5_runOnce_193 (by decide) ?_
              refine lv_goto (tgt := 198) hx hb dX5_runOnce_194 (by decide) ?_
              exact kI_ret (v := 1) hx hb hr hlocks (by decide +kernel) hK hS dX5_runOnce_198 (f_92, a87, g88) hP hD ⟨(kb_w kc_1 (by decide) (by decide)), hI, hG, hE, (Or.inl ⟨rfl, _, (od_g (s := ((k, P, dn, st) : oSt)) (by have w1 := congrArg Int64.toInt h20; have w2 : (1 : Int64).toInt = 1 := (by decide +kernel); rw [w2, hrk17] at w1; exact enc_i w1 (by decide)) (show Dt.2.2.2.2.1 cl.toInt.toNat (oW k dn st) = some v22.toInt from enc_i hrk28.symm (fun q => h40 (Int64.toInt_inj.mp (q.trans (by decide +kernel))))) (show Dt.2.2.2.2.2.1 cl.toInt.toNat (oW k dn st) = some v30.toInt from enc_i hrk36.symm (fun q => h43 (Int64.toInt_inj.mp (q.trans (by decide +kernel)))))).trans ((congrArg (fun z => ordZ z (Dt.2.2.1 cl.toInt.toNat) ((k, P, dn, st) : oSt)) (show ordR DD (Dt.2.2.1 cl.toInt.toNat) _ _ k P = (rstF k P t82) from by unfold ordR; rw [if_neg (by rw [hhd]; decide +kernel), if_pos hhd, ← l2i_o, ← et82])).trans  (oz_y (by have w1 := hw83.2.2.2.2.1; have w2 := kc_nlt c93; have w3 : (0 : Int32).toInt = 0 := (by decide +kernel); omega))), hk0, hk1, ((show f_92 806 = t90 from by rw [← ef_92]; rfl)).trans et90, (by show f_92 807 = if Dt.2.2.1 cl.toInt.toNat = 2021 then _ else _; rw [if_neg (by rw [hhd]; decide +kernel)]; exact ((show f_92 807 = f86 807 from by rw [← ef_92]; rfl).trans ((eE89.1 807 rfl).trans ((eE35.1 807 rfl).trans ((eE27.1 807 rfl).trans ((eE16.1 807 rfl).trans ((eE9.1 807 rfl).trans hp2)))))))⟩)⟩
        · have b98 : kb 0 t44 0 := kb_eq c45 kc_0
          have hkt : t44.toInt = (Dt.2.2.1 cl.toInt.toNat).toInt - 2018 := by rw [show t44 = a 52 cl.toInt.toNat from (et44.trans ((congrFun (eE35.2.1 52 rfl) (cl.toNatClampNeg)).trans ((congrFun (eE27.2.1 52 rfl) (cl.toNatClampNeg)).trans ((congrFun (eE16.2.1 52 rfl) (cl.toNatClampNeg)).trans (congrFun (eE9.2.1 52 rfl) (cl.toNatClampNeg))))))]; exact hkd
          have hhd : Dt.2.2.1 cl.toInt.toNat = 2018 := Int32.toInt_inj.mp (by have w0 : (2018 : Int32).toInt = 2018 := (by decide +kernel); have w1 := congrArg Int32.toInt c45; have w2 : (0 : Int32).toInt = 0 := (by decide +kernel); omega)
          refine lv_aload_n hx hb dX5_runOnce_106 rfl (lv_at hl 3 rfl) ?_
          refine va_get (D := D) (ci := 5) (v := .ref (r 24)) (C := RX5) (T := TX5) (N := 8) hx hb hg inC5 hown hK hP 25 rfl rfl 2 (by decide) (hg _ wt2_1) (fun _ h9 => h9) rfl dX5_runOnce_107 ?_
          refine lv_lload_n hx hb dX5_runOnce_110 rfl (lv_at hl 2 rfl) ?_
          refine lv_l2i hx hb dX5_runOnce_111 rfl ?_
          refine lv_topi (fun t99 et99 => ?_)
          refine lv_lload hx hb dX5_runOnce_112 (lv_at hl 1 rfl) ?_
          refine lv_l2i hx hb dX5_runOnce_114 rfl ?_
          refine lv_topi (fun t100 et100 => ?_)
          refine kIG.callW (As := [.int t99, .int t100]) (rest := []) ⟨hx, hb, hml, hown, hg⟩ (z_sendBuilder l r f32 a33 g34 tx tt hT hI hG t99 t100  k hk0 hkk DD (lC_cg hL (hE.2.2 15 rfl)) P hk1) (cwV 2 hg (kgV wt4_109 wt4_110 wt4_111 wt1_5 wt4_112) rfl rfl rfl (by decide +kernel) ⟨by decide, by decide⟩) hV hK hP hD hS hA (24) 0 rfl rfl rfl hl.1 rfl (Nat.le_of_ble_eq_true rfl) dX5_runOnce_115 ⟨Nat.le_refl _, Nat.le_refl _⟩ (fun v102 u103 H locs hw101 hP hD hS => ?_)
          obtain ⟨f104, a105, g106⟩ := u103
          have hP : va_P D vwCl (xX K r f104 a105 g106 tx) H := hP
          have hD : va_D A (xX K r f104 a105 g106 tx) := hD
          have hI : xI f104 a105 := hw101.2.1
          have hG : gOK K g106.2 tt := hw101.2.2.1
          have eE107 : xEk ([704, 705], [10, 23], []) f32 a33 g34 f104 a105 g106 := hw101.2.2.2.1
          have hE : xEk ([704, 705, 806, 807], [6, 9, 10, 11, 19, 20, 23], []) f a g f104 a105 g106 := xEk_tr hE (xEk_w (by decide +kernel) eE107)
          have hk0 : sV 32 2 f104 a105 (sndF DD k P t99 t100).2.1 := hw101.2.2.2.2.2.1
          have hk1 : xPs (f104 704) (f104 705) (a105 23) (sndF DD k P t99 t100).2.2 (kBn k) := hw101.2.2.2.2.2.2
          refine lv_istore (lv' := [(8, .int v102), (7, .int t44), (5, .long v30), (3, .long v22), (0, .ref (r 25)), (1, .ref (r 51)), (2, .int cl)]) hx hb dX5_runOnce_118 hl (by decide) rfl (fun ls hl => ?_)
          refine lv_goto (tgt := 178) hx hb dX5_runOnce_120 (by decide) ?_
          refine lv_aload_n hx hb dX5_runOnce_178 rfl (lv_at hl 4 rfl) ?_
          refine lv_dup hx hb dX5_runOnce_179 rfl ?_
          refine va_get (D := D) (ci := 5) (v := .int (f104 806)) (C := RX5) (T := TX5) (N := 8) hx hb hg inC5 hown hK hP 25 rfl rfl 6 (by decide) (hg _ wt2_5) (fun _ h9 => h9) rfl dX5_runOnce_180 ?_
          refine k_top (z := dn) ((eE107.1 806 rfl).trans ((eE35.1 806 rfl).trans ((eE27.1 806 rfl).trans ((eE16.1 806 rfl).trans ((eE9.1 806 rfl).trans hp1))))) ?_
          refine lv_iconst (v := 1) hx hb dX5_runOnce_183 (by decide) ?_
          refine lv_iadd hx hb dX5_runOnce_184 ?_
          refine lv_topi (fun t108 et108 => ?_)
          have b109 : kb 1 t108 100001 := kb_eq et108 (kb_add b1 kc_1 (by decide) (by decide))
          have qt108 : t108.toInt = dn.toInt + 1 := by rw [et108]; exact kt_addc b1 kc_1 (by decide) (by decide)
          refine va_put (D := D) (ci := 5) (v := .int t108) (ty := .int) (C := RX5) (T := TX5) (N := 8) hx hb hg inC5 tyX5 tyX5_ok nmX5 hown hK hP hD hS 25 rfl rfl 6 (by decide) (hg _ wt2_5) (fun _ h9 => h9) rfl (by decide +kernel) rfl rfl (Nat.le_of_ble_eq_true rfl) dX5_runOnce_185 (fun H locs hP hD hS => ?_)
          have hP : va_P D vwCl (xX K r (upd f104 806 t108) a105 g106 tx) H := hP
          have hD : va_D A (xX K r (upd f104 806 t108) a105 g106 tx) := hD
          refine k_gen (P := fun z => va_P D vwCl (xX K r z a105 g106 tx) H ∧ va_D A (xX K r z a105 g106 tx) ∧ (xI z a105) ∧ (gOK K g106.2 tt) ∧ (xEk ([704, 705, 806, 807], [6, 9, 10, 11, 19, 20, 23], []) f a g z a105 g106) ∧ (sV 32 2 z a105 (sndF DD k P t99 t100).2.1) ∧ (xPs (z 704) (z 705) (a105 23) (sndF DD k P t99 t100).2.2 (kBn k))) (upd f104 806 t108) ⟨hP, hD, (xI_f hI (fI_st hI.1 806 (kb_any _) (by decide) (by decide))), hG, (xEk_f hE rfl), (sV_f hk0 (by decide) (by decide) (by decide) (by decide) (by decide)), (xP_cg hk1 (pk_un (by decide)) (pk_un (by decide)) rfl)⟩ (fun f_110 ef_110 hq => ?_)
          obtain ⟨hP, hD, hI, hG, hE, hk0, hk1⟩ := hq
          refine lv_iload hx hb dX5_runOnce_188 (lv_at hl 0 rfl) ?_
          refine lv_if_lt (tgt := 197) hx hb dX5_runOnce_190 (by decide) (fun c111 => ?_) (fun c111 => ?_)
          · have h112 := (kc_lt c111)
            have b113 : kb (-2147483648) v102 (-1) := kr_lt1 h112 (kb_any v102) kc_0 (by decide)
            refine lv_iconst (v := 0) hx hb dX5_runOnce_197 (by decide) ?_
            exact kI_ret (v := 0) hx hb hr hlocks (by decide +kernel) hK hS dX5_runOnce_198 (f_110, a105, g106) hP hD ⟨(kb_w kc_0 (by decide) (by decide)), hI, hG, hE, (Or.inr ⟨rfl, (od_g (s := ((k, P, dn, st) : oSt)) (by have w1 := congrArg Int64.toInt h20; have w2 : (1 : Int64).toInt = 1 := (by decide +kernel); rw [w2, hrk17] at w1; exact enc_i w1 (by decide)) (show Dt.2.2.2.2.1 cl.toInt.toNat (oW k dn st) = some v22.toInt from enc_i hrk28.symm (fun q => h40 (Int64.toInt_inj.mp (q.trans (by decide +kernel))))) (show Dt.2.2.2.2.2.1 cl.toInt.toNat (oW k dn st) = some v30.toInt from enc_i hrk36.symm (fun q => h43 (Int64.toInt_inj.mp (q.trans (by decide +kernel)))))).trans ((congrArg (fun z => ordZ z (Dt.2.2.1 cl.toInt.toNat) ((k, P, dn, st) : oSt)) (show ordR DD (Dt.2.2.1 cl.toInt.toNat) _ _ k P = (sndF DD k P t99 t100) from by unfold ordR; rw [if_pos hhd, ← l2i_o, ← l2i_o, ← et99, ← et100])).trans  (oz_n (fun q => by have w1 := hw101.2.2.2.2.1; have w2 := kc_lt c111; have w3 : (0 : Int32).toInt = 0 := (by decide +kernel); omega)))⟩)⟩
          · have h114 := (kc_nlt c111)
            have b115 : kb 0 v102 2147483647 := kr_le2 h114 kc_0 (kb_any v102)
            refine lv_iconst (v := 1) hx hb dX5_runOnce_193 (by decide) ?_
            refine lv_goto (tgt := 198) hx hb dX5_runOnce_194 (by decide) ?_
            exact kI_ret (v := 1) hx hb hr hlocks (by decide +kernel) hK hS dX5_runOnce_198 (f_110, a105, g106) hP hD ⟨(kb_w kc_1 (by decide) (by decide)), hI, hG, hE, (Or.inl ⟨rfl, _, (od_g (s := ((k, P, dn, st) : oSt)) (by have w1 := congrArg Int64.toInt h20; have w2 : (1 : Int64).toInt = 1 := (by decide +kernel); rw [w2, hrk17] at w1; exact enc_i w1 (by decide)) (show Dt.2.2.2.2.1 cl.toInt.toNat (oW k dn st) = some v22.toInt from enc_i hrk28.symm (fun q => h40 (Int64.toInt_inj.mp (q.trans (by decide +kernel))))) (show Dt.2.2.2.2.2.1 cl.toInt.toNat (oW k dn st) = some v30.toInt from enc_i hrk36.symm (fun q => h43 (Int64.toInt_inj.mp (q.trans (by decide +kernel)))))).trans ((congrArg (fun z => ordZ z (Dt.2.2.1 cl.toInt.toNat) ((k, P, dn, st) : oSt)) (show ordR DD (Dt.2.2.1 cl.toInt.toNat) _ _ k P = (sndF DD k P t99 t100) from by unfold ordR; rw [if_pos hhd, ← l2i_o, ← l2i_o, ← et99, ← et100])).trans  (oz_y (by have w1 := hw101.2.2.2.2.1; have w2 := kc_nlt c111; have w3 : (0 : Int32).toInt = 0 := (by decide +kernel); omega))), hk0, hk1, ((show f_110 806 = t108 from by rw [← ef_110]; rfl)).trans et108, (by show f_110 807 = if Dt.2.2.1 cl.toInt.toNat = 2021 then _ else _; rw [if_neg (by rw [hhd]; decide +kernel)]; exact ((show f_110 807 = f104 807 from by rw [← ef_110]; rfl).trans ((eE107.1 807 rfl).trans ((eE35.1 807 rfl).trans ((eE27.1 807 rfl).trans ((eE16.1 807 rfl).trans ((eE9.1 807 rfl).trans hp2)))))))⟩)⟩
      · have h116 := klc_eq (et41 ▸ c42)
        refine lv_iconst (v := 0) hx hb dX5_runOnce_91 (by decide) ?_
        exact kI_ret (v := 0) hx hb hr hlocks (by decide +kernel) hK hS dX5_runOnce_92 (f32, a33, g34) hP hD ⟨(kb_w kc_0 (by decide) (by decide)), hI, hG, hE, (Or.inr ⟨rfl, od_2 (by have w1 := congrArg Int64.toInt h20; have w2 : (1 : Int64).toInt = 1 := (by decide +kernel); rw [w2, hrk17] at w1; exact enc_i w1 (by decide)) (enc_nn (by rw [← hrk36, h116]; decide +kernel) hw29.2.2.2.2.2.1)⟩)⟩
  · have h117 := klc_ne (et18 ▸ c19)
    refine lv_iconst (v := 1) hx hb dX5_runOnce_29 (by decide) ?_
    exact kI_ret (v := 1) hx hb hr hlocks (by decide +kernel) hK hS dX5_runOnce_30 (f13, a14, g15) hP hD ⟨(kb_w kc_1 (by decide) (by decide)), hI, hG, hE, (Or.inl ⟨rfl, ((k, P, dn, st) : oSt), od_s (fun q => h117 (Int64.toInt_inj.mp (by rw [hrk17, q]; decide +kernel))), hk0, hk1, ((eE16.1 806 rfl).trans ((eE9.1 806 rfl).trans hp1)), ((eE16.1 807 rfl).trans ((eE9.1 807 rfl).trans hp2))⟩)⟩
