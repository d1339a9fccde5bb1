def ctX (k C : Nat → Int32) (u t x : Int32) : Int := if x = 0 then (k 102).toInt else if x = 1 then (pop (upM k).toInt.toNat : Int) else if x = 2 then (k 103).toInt else if x = 3 then (k 104).toInt else if x = 4 then (k 105).toInt else if x = 5 then u.toInt else if x = 6 then t.toInt else if x = 7 then (C 0).toInt else if x = 8 then (C 1).toInt else if x = 9 then (C 2).toInt else if x = 10 then (C 3).toInt else if x = 11 then (C 4).toInt else if x = 12 then (k 106).toInt else if x = 13 then (k 22).toInt else if x = 14 then (k 99).toInt else if x = 15 then (k 100).toInt else if x = 16 then (k 101).toInt else -1
theorem ct_r {k C : Nat → Int32} {u t x v : Int32} {i : Nat} (b : kb 7 x 11) (hi : i = x.toInt.toNat - 7) (hv : v.toInt = (C i).toInt) : v.toInt = ctX k C u t x := by
  have b1 := b.1
  have b2 := b.2
  have c : x.toInt = 7 ∨ x.toInt = 8 ∨ x.toInt = 9 ∨ x.toInt = 10 ∨ x.toInt = 11 := by omega
  rcases c with c | c | c | c | c
  · have e : x = 7 := Int32.toInt_inj.mp (c.trans (by decide +kernel))
    rw [hv, hi, c, e]; rfl
  · have e : x = 8 := Int32.toInt_inj.mp (c.trans (by decide +kernel))
    rw [hv, hi, c, e]; rfl
  · have e : x = 9 := Int32.toInt_inj.mp (c.trans (by decide +kernel))
    rw [hv, hi, c, e]; rfl
  · have e : x = 10 := Int32.toInt_inj.mp (c.trans (by decide +kernel))
    rw [hv, hi, c, e]; rfl
  · have e : x = 11 := Int32.toInt_inj.mp (c.trans (by decide +kernel))
    rw [hv, hi, c, e]; rfl
theorem ctx_t {o q : Nat} {f : Nat → Int32} {a : Nat → Nat → Int32} {k C : Nat → Int32} {u t x v : Int32} {i : Nat} (h : sV o q f a k) (b : kb 13 x 16) (hi : i = x.toInt.toNat - 13) (hv : v.toInt = (a (q + 9) i).toInt) : v.toInt = ctX k C u t x := by
  have b1 := b.1
  have b2 := b.2
  have c : x.toInt = 13 ∨ x.toInt = 14 ∨ x.toInt = 15 ∨ x.toInt = 16 := by omega
  rcases c with c | c | c | c
  · have e : x = 13 := Int32.toInt_inj.mp (c.trans (by decide +kernel))
    rw [hv, hi, c, show (13 : Int).toNat - 13 = 0 from rfl, sv_hour h, e]; rfl
  · have e : x = 14 := Int32.toInt_inj.mp (c.trans (by decide +kernel))
    rw [hv, hi, c, show (14 : Int).toNat - 13 = 1 from rfl, sv_night h, e]; rfl
  · have e : x = 15 := Int32.toInt_inj.mp (c.trans (by decide +kernel))
    rw [hv, hi, c, show (15 : Int).toNat - 13 = 2 from rfl, sv_rain h, e]; rfl
  · have e : x = 16 := Int32.toInt_inj.mp (c.trans (by decide +kernel))
    rw [hv, hi, c, show (16 : Int).toNat - 13 = 3 from rfl, sv_mood h, e]; rfl
theorem ct_o {k C : Nat → Int32} {u t x : Int32} (h : ¬ (0 ≤ x.toInt ∧ x.toInt ≤ 16)) : (-1 : Int32).toInt = ctX k C u t x := by
  have n : ∀ j : Int32, 0 ≤ j.toInt → j.toInt ≤ 16 → ¬ x = j := fun j h1 h2 e => h (by rw [e]; exact ⟨h1, h2⟩)
  unfold ctX
  rw [if_neg (n 0 (by decide +kernel) (by decide +kernel)), if_neg (n 1 (by decide +kernel) (by decide +kernel)), if_neg (n 2 (by decide +kernel) (by decide +kernel)), if_neg (n 3 (by decide +kernel) (by decide +kernel)), if_neg (n 4 (by decide +kernel) (by decide +kernel)), if_neg (n 5 (by decide +kernel) (by decide +kernel)), if_neg (n 6 (by decide +kernel) (by decide +kernel)), if_neg (n 7 (by decide +kernel) (by decide +kernel)), if_neg (n 8 (by decide +kernel) (by decide +kernel)), if_neg (n 9 (by decide +kernel) (by decide +kernel)), if_neg (n 10 (by decide +kernel) (by decide +kernel)), if_neg (n 11 (by decide +kernel) (by decide +kernel)), if_neg (n 12 (by decide +kernel) (by decide +kernel)), if_neg (n 13 (by decide +kernel) (by decide +kernel)), if_neg (n 14 (by decide +kernel) (by decide +kernel)), if_neg (n 15 (by decide +kernel) (by decide +kernel)), if_neg (n 16 (by decide +kernel) (by decide +kernel))]
  decide +kernel
set_option maxHeartbeats 4000000 in
set_option maxRecDepth 100000 in
theorem z_of  (l : Launch) {D : va_G} {K : Nat → ClassId} (r : Nat → Nat) (f : Nat → Int32) (a : Nat → Nat → Int32) (g : xG) (tx tt : va_W) (hT : ∀ c ∈ tt, c ∈ tx) (hI : xI f a) (hG : gOK K g.2 tt) (x : Int32) (y : Int32)  (k : Nat → Int32) (hVw : sV 32 2 f a k) (hkk : kK k)   : kIG l yX11_of (Cond.code yX11_of cX11_of 3 (some .int) :: kG) (rmD 3 0 0) D K [.ref (r 0), .int x, .int y] (xX K r f a g tx) (fun v (u : xS) => kb (-2147483648) v 2147483647 ∧ xI u.1 u.2.1 ∧ gOK K u.2.2.2 tt ∧ xEk ([], [21], []) f a g u.1 u.2.1 u.2.2 ∧ v.toInt = ofF k x y) (fun u => xX K r u.1 u.2.1 u.2.2 tx) 0 0 := by
  refine kIE.of (cc := cX11_of) (maxL := 3) (ret := (some .int)) (by decide) rfl (Nat.le_of_ble_eq_true rfl) ?_
  intro p e s m below meth c A hx hb hr hml hown hts hlocks hnm hK hP hD hS hA hV ls hl
  have hE : xEk ([], [21], []) f a g f a g := xEk_rf
  have hg : ∀ w ∈ kG, w.before _ s = true := fun w h => hts w (List.mem_cons_of_mem _ h)
  have hown : s.vm.findClass RX11 = some m.cls := hown
  have hl : lv_has ls 3 [(0, .ref (r 0)), (1, .int x), (2, .int y)] := hl
  refine lv_aload_n hx hb dX11_of_0 rfl (lv_at hl 0 rfl) ?_
  refine va_get (D := D) (ci := 11) (v := .ref (r 1)) (C := RX11) (T := TX11) (N := 17) hx hb hg inC11 hown hK hP 0 rfl rfl 0 (by decide) (hg _ wt2_186) (fun _ h9 => h9) rfl dX11_of_1 ?_
  refine lv_iload_n hx hb dX11_of_4 rfl (lv_at hl 1 rfl) ?_
  refine kIG.callW (As := [.int x]) (rest := []) ⟨hx, hb, hml, hown, hg⟩ (z_hasPartN l r f a g tx tt hT hI hG x  k hVw hkk ) (cwV 1 hg (kgV wt3_35 wt3_36 wt3_37 wt1_2 wt3_38) rfl rfl rfl (by decide +kernel) ⟨by decide, by decide⟩) hV hK hP hD hS hA (1) 7 rfl rfl rfl hl.1 rfl (Nat.le_of_ble_eq_true rfl) dX11_of_5 ⟨Nat.le_refl _, Nat.le_refl _⟩ (fun v2 u3 H locs hw1 hP hD hS => ?_)
  have hP : va_P D vwCl (xX K r f a g tx) H := hP
  have hD : va_D A (xX K r f a g tx) := hD
  by_cases hh4 : 0 ≤ x.toInt ∧ x.toInt < (k 102).toInt
  · refine k_top (z := 1) (hw1.2.trans (if_pos hh4)) ?_
    have b5 : kb 0 x 9 := ⟨hh4.1, by have w1 := hh4.2; have w2 := (kK_r hkk 102 0 10 (by decide) (by decide)).2; omega⟩
    refine lv_if_ne (tgt := 13) hx hb dX11_of_8 (by decide) (fun c6 => ?_) (fun c6 => ?_)
    · refine lv_iload_n hx hb dX11_of_13 rfl (lv_at hl 2 rfl) ?_
      by_cases q7 : y = 0
      · have b8 : kb 0 y 0 := kb_eq q7 kc_0
        refine lv_tableIn (tgt := 56) hx hb dX11_of_14 (by rw [q7]; decide +kernel) (by rw [q7]; decide +kernel) (by rw [q7]; rfl) (by decide) ?_
        refine lv_aload_n hx hb dX11_of_56 rfl (lv_at hl 0 rfl) ?_
        refine va_get (D := D) (ci := 11) (v := .ref (r 1)) (C := RX11) (T := TX11) (N := 17) hx hb hg inC11 hown hK hP 0 rfl rfl 0 (by decide) (hg _ wt2_186) (fun _ h9 => h9) rfl dX11_of_57 ?_
        refine va_get (D := D) (ci := 7) (v := .ref (r 2)) (C := RX7) (T := TX7) (N := 20) hx hb hg inC7 hown hK hP 1 rfl rfl 1 (by decide) (hg _ wt1_87) (fun _ h9 => h9) rfl dX11_of_60 ?_
        refine lv_iload_n hx hb dX11_of_63 rfl (lv_at hl 1 rfl) ?_
        refine va_iald hx hb hK hP 2 0 rfl rfl (kb_in b5 (by decide) (by decide)) dX11_of_64 ?_
        refine lv_topi (fun t9 et9 => ?_)
        have kvt9 : t9 = k (23 + x.toNatClampNeg) := et9.trans ((sv_work hVw (kb_clt b5 (by decide) (by decide))))
        have b10 : kb 0 t9 99 := kb_eq et9 (et9 ▸ kb_eq kvt9 (kK_s hkk 23 10 _ _ (by decide) (by decide) (kb_clt b5 (by decide) (by decide))))
        exact kI_ret (v := t9) hx hb hr hlocks rfl hK hS dX11_of_65 (f, a, g) hP hD ⟨(kb_w b10 (by decide) (by decide)), hI, hG, hE, (by unfold ofF; rw [if_pos (okQ_y hh4), if_pos q7]; exact congrArg Int32.toInt kvt9)⟩
      by_cases q11 : y = 1
      · have b12 : kb 1 y 1 := kb_eq q11 kc_1
        refine lv_tableIn (tgt := 66) hx hb dX11_of_14 (by rw [q11]; decide +kernel) (by rw [q11]; decide +kernel) (by rw [q11]; rfl) (by decide) ?_
        refine lv_aload_n hx hb dX11_of_66 rfl (lv_at hl 0 rfl) ?_
        refine va_get (D := D) (ci := 11) (v := .ref (r 1)) (C := RX11) (T := TX11) (N := 17) hx hb hg inC11 hown hK hP 0 rfl rfl 0 (by decide) (hg _ wt2_186) (fun _ h9 => h9) rfl dX11_of_67 ?_
        refine va_get (D := D) (ci := 7) (v := .ref (r 3)) (C := RX7) (T := TX7) (N := 20) hx hb hg inC7 hown hK hP 1 rfl rfl 2 (by decide) (hg _ wt1_90) (fun _ h9 => h9) rfl dX11_of_70 ?_
        refine lv_iload_n hx hb dX11_of_73 rfl (lv_at hl 1 rfl) ?_
        refine va_iald hx hb hK hP 3 0 rfl rfl (kb_in b5 (by decide) (by decide)) dX11_of_74 ?_
        refine lv_topi (fun t13 et13 => ?_)
        have kvt13 : t13 = k (33 + x.toNatClampNeg) := et13.trans ((sv_needs hVw (kb_clt b5 (by decide) (by decide))))
        have b14 : kb 0 t13 1023 := kb_eq et13 (et13 ▸ kb_eq kvt13 (kK_s hkk 33 10 _ _ (by decide) (by decide) (kb_clt b5 (by decide) (by decide))))
        exact kI_ret (v := t13) hx hb hr hlocks rfl hK hS dX11_of_75 (f, a, g) hP hD ⟨(kb_w b14 (by decide) (by decide)), hI, hG, hE, (by unfold ofF; rw [if_pos (okQ_y hh4), if_neg (by rw [q11]; decide +kernel), if_pos q11]; exact congrArg Int32.toInt kvt13)⟩
      by_cases q15 : y = 2
      · have b16 : kb 2 y 2 := kb_eq q15 kc_2
        refine lv_tableIn (tgt := 76) hx hb dX11_of_14 (by rw [q15]; decide +kernel) (by rw [q15]; decide +kernel) (by rw [q15]; rfl) (by decide) ?_
        refine lv_aload_n hx hb dX11_of_76 rfl (lv_at hl 0 rfl) ?_
        refine va_get (D := D) (ci := 11) (v := .ref (r 1)) (C := RX11) (T := TX11) (N := 17) hx hb hg inC11 hown hK hP 0 rfl rfl 0 (by decide) (hg _ wt2_186) (fun _ h9 => h9) rfl dX11_of_77 ?_
        refine va_get (D := D) (ci := 7) (v := .ref (r 4)) (C := RX7) (T := TX7) (N := 20) hx hb hg inC7 hown hK hP 1 rfl rfl 3 (by decide) (hg _ wt1_94) (fun _ h9 => h9) rfl dX11_of_80 ?_
        refine lv_iload_n hx hb dX11_of_83 rfl (lv_at hl 1 rfl) ?_
        refine va_iald hx hb hK hP 4 0 rfl rfl (kb_in b5 (by decide) (by decide)) dX11_of_84 ?_
        refine lv_topi (fun t17 et17 => ?_)
        have kvt17 : t17 = k (43 + x.toNatClampNeg) := et17.trans ((sv_craft hVw (kb_clt b5 (by decide) (by decide))))
        have b18 : kb 0 t17 3 := kb_eq et17 (et17 ▸ kb_eq kvt17 (kK_s hkk 43 10 _ _ (by decide) (by decide) (kb_clt b5 (by decide) (by decide))))
        exact kI_ret (v := t17) hx hb hr hlocks rfl hK hS dX11_of_85 (f, a, g) hP hD ⟨(kb_w b18 (by decide) (by decide)), hI, hG, hE, (by unfold ofF; rw [if_pos (okQ_y hh4), if_neg (by rw [q15]; decide +kernel), if_neg (by rw [q15]; decide +kernel), if_pos q15]; exact congrArg Int32.toInt kvt17)⟩
      by_cases q19 : y = 3
      · have b20 : kb 3 y 3 := kb_eq q19 kc_3
        refine lv_tableIn (tgt := 86) hx hb dX11_of_14 (by rw [q19]; decide +kernel) (by rw [q19]; decide +kernel) (by rw [q19]; rfl) (by decide) ?_
        refine lv_aload_n hx hb dX11_of_86 rfl (lv_at hl 0 rfl) ?_
        refine va_get (D := D) (ci := 11) (v := .ref (r 1)) (C := RX11) (T := TX11) (N := 17) hx hb hg inC11 hown hK hP 0 rfl rfl 0 (by decide) (hg _ wt2_186) (fun _ h9 => h9) rfl dX11_of_87 ?_
        refine va_get (D := D) (ci := 7) (v := .ref (r 5)) (C := RX7) (T := TX7) (N := 20) hx hb hg inC7 hown hK hP 1 rfl rfl 4 (by decide) (hg _ wt1_96) (fun _ h9 => h9) rfl dX11_of_90 ?_
        refine lv_iload_n hx hb dX11_of_93 rfl (lv_at hl 1 rfl) ?_
        refine va_iald hx hb hK hP 5 0 rfl rfl (kb_in b5 (by decide) (by decide)) dX11_of_94 ?_
        refine lv_topi (fun t21 et21 => ?_)
        have kvt21 : t21 = k (53 + x.toNatClampNeg) := et21.trans ((sv_heavy hVw (kb_clt b5 (by decide) (by decide))))
        have b22 : kb 0 t21 9 := kb_eq et21 (et21 ▸ kb_eq kvt21 (kK_s hkk 53 10 _ _ (by decide) (by decide) (kb_clt b5 (by decide) (by decide))))
        exact kI_ret (v := t21) hx hb hr hlocks rfl hK hS dX11_of_95 (f, a, g) hP hD ⟨(kb_w b22 (by decide) (by decide)), hI, hG, hE, (by unfold ofF; rw [if_pos (okQ_y hh4), if_neg (by rw [q19]; decide +kernel), if_neg (by rw [q19]; decide +kernel), if_neg (by rw [q19]; decide +kernel), if_pos q19]; exact congrArg Int32.toInt kvt21)⟩
      by_cases q23 : y = 4
      · have b24 : kb 4 y 4 := kb_eq q23 kc_4
        refine lv_tableIn (tgt := 96) hx hb dX11_of_14 (by rw [q23]; decide +kernel) (by rw [q23]; decide +kernel) (by rw [q23]; rfl) (by decide) ?_
        refine lv_aload_n hx hb dX11_of_96 rfl (lv_at hl 0 rfl) ?_
        refine va_get (D := D) (ci := 11) (v := .ref (r 1)) (C := RX11) (T := TX11) (N := 17) hx hb hg inC11 hown hK hP 0 rfl rfl 0 (by decide) (hg _ wt2_186) (fun _ h9 => h9) rfl dX11_of_97 ?_
        refine va_get (D := D) (ci := 7) (v := .ref (r 6)) (C := RX7) (T := TX7) (N := 20) hx hb hg inC7 hown hK hP 1 rfl rfl 5 (by decide) (hg _ wt1_100) (fun _ h9 => h9) rfl dX11_of_100 ?_
        refine lv_iload_n hx hb dX11_of_103 rfl (lv_at hl 1 rfl) ?_
        refine va_iald hx hb hK hP 6 0 rfl rfl (kb_in b5 (by decide) (by decide)) dX11_of_104 ?_
        refine lv_topi (fun t25 et25 => ?_)
        have kvt25 : t25 = k (0 + x.toNatClampNeg) := et25.trans ((sv_left hVw (kb_clt b5 (by decide) (by decide))))
        have b26 : kb 0 t25 99 := kb_eq et25 (et25 ▸ kb_eq kvt25 (kK_s hkk 0 10 _ _ (by decide) (by decide) (kb_clt b5 (by decide) (by decide))))
        exact kI_ret (v := t25) hx hb hr hlocks rfl hK hS dX11_of_105 (f, a, g) hP hD ⟨(kb_w b26 (by decide) (by decide)), hI, hG, hE, (by unfold ofF; rw [if_pos (okQ_y hh4), if_neg (by rw [q23]; decide +kernel), if_neg (by rw [q23]; decide +kernel), if_neg (by rw [q23]; decide +kernel), if_neg (by rw [q23]; decide +kernel), if_pos q23]; exact congrArg Int32.toInt kvt25)⟩
      by_cases q27 : y = 5
      · have b28 : kb 5 y 5 := kb_eq q27 kc_5
        refine lv_tableIn (tgt := 106) hx hb dX11_of_14 (by rw [q27]; decide +kernel) (by rw [q27]; decide +kernel) (by rw [q27]; rfl) (by decide) ?_
        refine lv_aload_n hx hb dX11_of_106 rfl (lv_at hl 0 rfl) ?_
        refine va_get (D := D) (ci := 11) (v := .ref (r 1)) (C := RX11) (T := TX11) (N := 17) hx hb hg inC11 hown hK hP 0 rfl rfl 0 (by decide) (hg _ wt2_186) (fun _ h9 => h9) rfl dX11_of_107 ?_
        refine kIG.callW (As := []) (rest := []) ⟨hx, hb, hml, hown, hg⟩ (z_readyMaskN l r f a g tx tt hT hI hG   k hVw hkk ) (cwV 0 hg (kgV wt3_39 wt3_40 wt3_41 wt1_2 wt3_42) rfl rfl rfl (by decide +kernel) ⟨by decide, by decide⟩) hV hK hP hD hS hA (1) 7 rfl rfl rfl hl.1 rfl (Nat.le_of_ble_eq_true rfl) dX11_of_110 ⟨Nat.le_refl _, Nat.le_refl _⟩ (fun v30 u31 H locs hw29 hP hD hS => ?_)
        have hP : va_P D vwCl (xX K r f a g tx) H := hP
        have hD : va_D A (xX K r f a g tx) := hD
        refine lv_iload_n hx hb dX11_of_113 rfl (lv_at hl 1 rfl) ?_
        refine lv_ishr hx hb dX11_of_114 ?_
        refine lv_topi (fun t32 et32 => ?_)
        refine lv_iconst (v := 1) hx hb dX11_of_115 (by decide) ?_
        refine lv_iand hx hb dX11_of_116 ?_
        refine lv_topi (fun t33 et33 => ?_)
        have b34 : kb 0 t33 1 := kb_eq et33 (kb_and 1 (by decide) (by decide))
        exact kI_ret (v := t33) hx hb hr hlocks rfl hK hS dX11_of_117 (f, a, g) hP hD ⟨(kb_w b34 (by decide) (by decide)), hI, hG, hE, (by unfold ofF; rw [if_pos (okQ_y hh4), if_neg (by rw [q27]; decide +kernel), if_neg (by rw [q27]; decide +kernel), if_neg (by rw [q27]; decide +kernel), if_neg (by rw [q27]; decide +kernel), if_neg (by rw [q27]; decide +kernel), if_pos q27, (show t33 = (if rdB k x.toNatClampNeg = true then 1 else 0) from by rw [et33, et32, hw29.2]; exact rdM_t hkk (show x.toNatClampNeg < kPn k from by have w1 := hh4; have w2 := (kPn_b hkk).2; unfold Int32.toNatClampNeg; omega) (nI_q (show x.toInt = (x.toNatClampNeg : Int) from by have w1 := hh4; unfold Int32.toNatClampNeg; omega)))]; by_cases c9 : rdB k x.toNatClampNeg = true; (rw [if_pos c9, if_pos c9]; decide +kernel); (rw [if_neg c9, if_neg c9]; decide +kernel))⟩
      by_cases q35 : y = 6
      · have b36 : kb 6 y 6 := kb_eq q35 kc_6
        refine lv_tableIn (tgt := 118) hx hb dX11_of_14 (by rw [q35]; decide +kernel) (by rw [q35]; decide +kernel) (by rw [q35]; rfl) (by decide) ?_
        refine lv_aload_n hx hb dX11_of_118 rfl (lv_at hl 0 rfl) ?_
        refine va_get (D := D) (ci := 11) (v := .ref (r 1)) (C := RX11) (T := TX11) (N := 17) hx hb hg inC11 hown hK hP 0 rfl rfl 0 (by decide) (hg _ wt2_186) (fun _ h9 => h9) rfl dX11_of_119 ?_
        refine kIG.callW (As := []) (rest := []) ⟨hx, hb, hml, hown, hg⟩ (z_reckonChains l r f a g tx tt hT hI hG   k hVw hkk ) (cwV 0 hg (kgV wt3_47 wt3_48 wt3_49 wt1_2 wt3_50) rfl rfl rfl (by decide +kernel) ⟨by decide, by decide⟩) hV hK hP hD hS hA (1) 7 rfl rfl rfl hl.1 rfl (Nat.le_of_ble_eq_true rfl) dX11_of_122 ⟨Nat.le_refl _, Nat.le_refl _⟩ (fun v38 u39 H locs hw37 hP hD hS => ?_)
        obtain ⟨f40, a41, g42⟩ := u39
        have hP : va_P D vwCl (xX K r f40 a41 g42 tx) H := hP
        have hD : va_D A (xX K r f40 a41 g42 tx) := hD
        have hI : xI f40 a41 := hw37.2.1
        have hG : gOK K g42.2 tt := hw37.2.2.1
        have eE43 : xEk ([], [21], []) f a g f40 a41 g42 := hw37.2.2.2.1
        have hE : xEk ([], [21], []) f a g f40 a41 g42 := xEk_tr hE eE43
        have hchn := hw37.2.2.2.2.2
        refine lv_pop hx hb dX11_of_125 rfl ?_
        refine lv_aload_n hx hb dX11_of_126 rfl (lv_at hl 0 rfl) ?_
        refine va_get (D := D) (ci := 11) (v := .ref (r 1)) (C := RX11) (T := TX11) (N := 17) hx hb hg inC11 hown hK hP 0 rfl rfl 0 (by decide) (hg _ wt2_186) (fun _ h9 => h9) rfl dX11_of_127 ?_
        refine va_get (D := D) (ci := 7) (v := .ref (r 16)) (C := RX7) (T := TX7) (N := 20) hx hb hg inC7 hown hK hP 1 rfl rfl 19 (by decide) (hg _ wt1_156) (fun _ h9 => h9) rfl dX11_of_130 ?_
        refine va_get (D := D) (ci := 8) (v := .ref (r 21)) (C := RX8) (T := TX8) (N := 5) hx hb hg inC8 hown hK hP 16 rfl rfl 4 (by decide) (hg _ wt1_63) (fun _ h9 => h9) rfl dX11_of_133 ?_
        refine lv_iload_n hx hb dX11_of_136 rfl (lv_at hl 1 rfl) ?_
        refine va_iald hx hb hK hP 21 0 rfl rfl (kb_in b5 (by decide) (by decide)) dX11_of_137 ?_
        refine lv_topi (fun t44 et44 => ?_)
        exact kI_ret (v := t44) hx hb hr hlocks rfl hK hS dX11_of_138 (f40, a41, g42) hP hD ⟨(kb_any t44), hI, hG, hE, (by unfold ofF; rw [if_pos (okQ_y hh4), if_neg (by rw [q35]; decide +kernel), if_neg (by rw [q35]; decide +kernel), if_neg (by rw [q35]; decide +kernel), if_neg (by rw [q35]; decide +kernel), if_neg (by rw [q35]; decide +kernel), if_neg (by rw [q35]; decide +kernel), if_pos q35]; rw [et44]; exact hchn _ (show x.toNatClampNeg < kPn k from by have w1 := hh4; have w2 := (kPn_b hkk).2; unfold Int32.toNatClampNeg; omega))⟩
      refine lv_tableOut (tgt := 139) hx hb dX11_of_14 (by have gq7 := lv_neT q7 (a := 0) (by decide +kernel); have gq11 := lv_neT q11 (a := 1) (by decide +kernel); have gq15 := lv_neT q15 (a := 2) (by decide +kernel); have gq19 := lv_neT q19 (a := 3) (by decide +kernel); have gq23 := lv_neT q23 (a := 4) (by decide +kernel); have gq27 := lv_neT q27 (a := 5) (by decide +kernel); have gq35 := lv_neT q35 (a := 6) (by decide +kernel); omega) (by decide) ?_
      refine lv_iconst (v := (-1)) hx hb dX11_of_139 (by decide) ?_
      exact kI_ret (v := (-1)) hx hb hr hlocks rfl hK hS dX11_of_140 (f, a, g) hP hD ⟨(kb_w kc_m1 (by decide) (by decide)), hI, hG, hE, (by unfold ofF; rw [if_pos (okQ_y hh4), if_neg q7, if_neg q11, if_neg q15, if_neg q19, if_neg q23, if_neg q27, if_neg q35]; decide +kernel)⟩
    · exact kb_dj c6 kc_1 kc_0 (by decide)
  · refine k_top (z := 0) (hw1.2.trans (if_neg hh4)) ?_
    refine lv_if_ne (tgt := 13) hx hb dX11_of_8 (by decide) (fun c45 => ?_) (fun c45 => ?_)
    · exact kb_nsame c45 kc_0 kc_0
    · refine lv_iconst (v := (-1)) hx hb dX11_of_11 (by decide) ?_
      exact kI_ret (v := (-1)) hx hb hr hlocks rfl hK hS dX11_of_12 (f, a, g) hP hD ⟨(kb_w kc_m1 (by decide) (by decide)), hI, hG, hE, (by unfold ofF; rw [if_neg (okQ_n hh4)]; decide +kernel)⟩
set_option maxHeartbeats 4000000 in
set_option maxRecDepth 100000 in
theorem z_count  (l : Launch) {D : va_G} {K : Nat → ClassId} (r : Nat → Nat) (f : Nat → Int32) (a : Nat → Nat → Int32) (g : xG) (tx tt : va_W) (hT : ∀ c ∈ tt, c ∈ tx) (hI : xI f a) (hG : gOK K g.2 tt) (x : Int32)  (k : Nat → Int32) (hVw : sV 32 2 f a k) (hkk : kK k)   : kIG l yX11_count (Cond.code yX11_count cX11_count 2 (some .int) :: kG) (rmD 2 0 0) D K [.ref (r 0), .int x] (xX K r f a g tx) (fun v (_ : Unit) => kb (-2147483648) v 2147483647 ∧ v.toInt = ctX k (a 94) (f 704) (f 12) x) (fun _ => xX K r f a g tx) 0 0 := by
  refine kIE.of (cc := cX11_count) (maxL := 2) (ret := (some .int)) (by decide) rfl (Nat.le_of_ble_eq_true rfl) ?_
  intro p e s m below meth c A hx hb hr hml hown hts hlocks hnm hK hP hD hS hA hV ls hl
  have hg : ∀ w ∈ kG, w.before _ s = true := fun w h => hts w (List.mem_cons_of_mem _ h)
  have hown : s.vm.findClass RX11 = some m.cls := hown
  have hl : lv_has ls 2 [(0, .ref (r 0)), (1, .int x)] := hl
  refine lv_iload_n hx hb dX11_count_0 rfl (lv_at hl 1 rfl) ?_
  refine lv_bipush (v := 7) hx hb dX11_count_1 (by decide) ?_
  refine lv_icmp_lt (tgt := 22) hx hb dX11_count_3 (by decide) (fun c1 => ?_) (fun c1 => ?_)
  · have h2 := (kc_lt c1)
    have b3 : kb (-2147483648) x 6 := kr_lt1 h2 (kb_any x) kc_7 (by decide)
    refine lv_iload_n hx hb dX11_count_22 rfl (lv_at hl 1 rfl) ?_
    refine lv_bipush (v := 13) hx hb dX11_count_23 (by decide) ?_
    refine lv_icmp_lt (tgt := 47) hx hb dX11_count_25 (by decide) (fun c4 => ?_) (fun c4 => ?_)
    · have h5 := (kc_lt c4)
      refine lv_iload_n hx hb dX11_count_47 rfl (lv_at hl 1 rfl) ?_
      by_cases q6 : x = 0
      · have b7 : kb 0 x 0 := kb_eq q6 kc_0
        refine lv_tableIn (tgt := 116) hx hb dX11_count_48 (by rw [q6]; decide +kernel) (by rw [q6]; decide +kernel) (by rw [q6]; rfl) (by decide) ?_
        refine lv_aload_n hx hb dX11_count_116 rfl (lv_at hl 0 rfl) ?_
        refine va_get (D := D) (ci := 11) (v := .ref (r 1)) (C := RX11) (T := TX11) (N := 17) hx hb hg inC11 hown hK hP 0 rfl rfl 0 (by decide) (hg _ wt2_186) (fun _ h9 => h9) rfl dX11_count_117 ?_
        refine va_get (D := D) (ci := 7) (v := .int (f 32)) (C := RX7) (T := TX7) (N := 20) hx hb hg inC7 hown hK hP 1 rfl rfl 0 (by decide) (hg _ wt1_85) (fun _ h9 => h9) rfl dX11_count_120 ?_
        refine lv_topi (fun t8 et8 => ?_)
        have b9 : kb 0 t8 10 := kb_eq et8 (fI_at hI.1 32 (by decide) (by decide))
        have kvt8 : t8 = k 102 := et8.trans ((sv_parts hVw))
        have kvit8 : t8.toInt = (k 102).toInt := congrArg Int32.toInt kvt8
        have b10 : kb 0 t8 10 := kb_eq kvt8 (kK_r hkk 102 _ _ (by decide) (by decide))
        exact kI_ret (v := t8) hx hb hr hlocks rfl hK hS dX11_count_123 () hP hD ⟨(kb_w b10 (by decide) (by decide)), (by unfold ctX; rw [if_pos q6]; exact kvit8)⟩
      by_cases q11 : x = 1
      · have b12 : kb 1 x 1 := kb_eq q11 kc_1
        refine lv_tableIn (tgt := 124) hx hb dX11_count_48 (by rw [q11]; decide +kernel) (by rw [q11]; decide +kernel) (by rw [q11]; rfl) (by decide) ?_
        refine lv_aload_n hx hb dX11_count_124 rfl (lv_at hl 0 rfl) ?_
        refine va_get (D := D) (ci := 11) (v := .ref (r 1)) (C := RX11) (T := TX11) (N := 17) hx hb hg inC11 hown hK hP 0 rfl rfl 0 (by decide) (hg _ wt2_186) (fun _ h9 => h9) rfl dX11_count_125 ?_
        refine kIG.callW (As := []) (rest := []) ⟨hx, hb, hml, hown, hg⟩ (z_upMaskN l r f a g tx tt hT hI hG   k hVw hkk ) (cwV 0 hg (kgV wt4_164 wt3_44 wt3_45 wt1_2 wt3_46) rfl rfl rfl (by decide +kernel) ⟨by decide, by decide⟩) hV hK hP hD hS hA (1) 7 rfl rfl rfl hl.1 rfl (Nat.le_of_ble_eq_true rfl) dX11_count_128 ⟨Nat.le_refl _, Nat.le_refl _⟩ (fun v14 u15 H locs hw13 hP hD hS => ?_)
        have hP : va_P D vwCl (xX K r f a g tx) H := hP
        have hD : va_D A (xX K r f a g tx) := hD
        refine kN.callS (As := [.int v14]) (rest := []) ⟨hx, hb, hml, hown, hg⟩ (z_bitCount l v14 hw13.1) (va_cwS 1 hg (kgS wt5_42 wt4_99 wt1_21 wt4_100) rfl rfl rfl (by decide +kernel) ⟨by decide, by decide⟩) hP hS rfl hl.1 rfl (Nat.le_of_ble_eq_true rfl) dX11_count_131 ⟨Nat.le_refl _, Nat.le_refl _⟩ (fun v17 H locs hw16 hP hS => ?_)
        have hP : va_P D vwCl (xX K r f a g tx) H := hP
        exact kI_ret (v := v17) hx hb hr hlocks rfl hK hS dX11_count_134 () hP hD ⟨(kb_w hw16.1 (by decide) (by decide)), (by unfold ctX; rw [if_neg (by rw [q11]; decide +kernel), if_pos q11]; have w9 := hw16.2; rw [hw13.2] at w9; exact w9)⟩
      by_cases q18 : x = 2
      · have b19 : kb 2 x 2 := kb_eq q18 kc_2
        refine lv_tableIn (tgt := 135) hx hb dX11_count_48 (by rw [q18]; decide +kernel) (by rw [q18]; decide +kernel) (by rw [q18]; rfl) (by decide) ?_
        refine lv_aload_n hx hb dX11_count_135 rfl (lv_at hl 0 rfl) ?_
        refine va_get (D := D) (ci := 11) (v := .ref (r 1)) (C := RX11) (T := TX11) (N := 17) hx hb hg inC11 hown hK hP 0 rfl rfl 0 (by decide) (hg _ wt2_186) (fun _ h9 => h9) rfl dX11_count_136 ?_
        refine va_get (D := D) (ci := 7) (v := .int (f 38)) (C := RX7) (T := TX7) (N := 20) hx hb hg inC7 hown hK hP 1 rfl rfl 6 (by decide) (hg _ wt1_109) (fun _ h9 => h9) rfl dX11_count_139 ?_
        refine lv_topi (fun t20 et20 => ?_)
        have kvt20 : t20 = k 103 := et20.trans ((sv_builders hVw))
        have kvit20 : t20.toInt = (k 103).toInt := congrArg Int32.toInt kvt20
        have b21 : kb 0 t20 6 := kb_eq kvt20 (kK_r hkk 103 _ _ (by decide) (by decide))
        exact kI_ret (v := t20) hx hb hr hlocks rfl hK hS dX11_count_142 () hP hD ⟨(kb_w b21 (by decide) (by decide)), (by unfold ctX; rw [if_neg (by rw [q18]; decide +kernel), if_neg (by rw [q18]; decide +kernel), if_pos q18]; exact kvit20)⟩
      by_cases q22 : x = 3
      · have b23 : kb 3 x 3 := kb_eq q22 kc_3
        refine lv_tableIn (tgt := 143) hx hb dX11_count_48 (by rw [q22]; decide +kernel) (by rw [q22]; decide +kernel) (by rw [q22]; rfl) (by decide) ?_
        refine lv_aload_n hx hb dX11_count_143 rfl (lv_at hl 0 rfl) ?_
        refine va_get (D := D) (ci := 11) (v := .ref (r 1)) (C := RX11) (T := TX11) (N := 17) hx hb hg inC11 hown hK hP 0 rfl rfl 0 (by decide) (hg _ wt2_186) (fun _ h9 => h9) rfl dX11_count_144 ?_
        refine va_get (D := D) (ci := 7) (v := .int (f 44)) (C := RX7) (T := TX7) (N := 20) hx hb hg inC7 hown hK hP 1 rfl rfl 12 (by decide) (hg _ wt1_137) (fun _ h9 => h9) rfl dX11_count_147 ?_
        refine lv_topi (fun t24 et24 => ?_)
        have kvt24 : t24 = k 104 := et24.trans ((sv_sights hVw))
        have kvit24 : t24.toInt = (k 104).toInt := congrArg Int32.toInt kvt24
        have b25 : kb 0 t24 8 := kb_eq kvt24 (kK_r hkk 104 _ _ (by decide) (by decide))
        exact kI_ret (v := t24) hx hb hr hlocks rfl hK hS dX11_count_150 () hP hD ⟨(kb_w b25 (by decide) (by decide)), (by unfold ctX; rw [if_neg (by rw [q22]; decide +kernel), if_neg (by rw [q22]; decide +kernel), if_neg (by rw [q22]; decide +kernel), if_pos q22]; exact kvit24)⟩
      by_cases q26 : x = 4
      · have b27 : kb 4 x 4 := kb_eq q26 kc_4
        refine lv_tableIn (tgt := 151) hx hb dX11_count_48 (by rw [q26]; decide +kernel) (by rw [q26]; decide +kernel) (by rw [q26]; rfl) (by decide) ?_
        refine lv_aload_n hx hb dX11_count_151 rfl (lv_at hl 0 rfl) ?_
        refine va_get (D := D) (ci := 11) (v := .ref (r 1)) (C := RX11) (T := TX11) (N := 17) hx hb hg inC11 hown hK hP 0 rfl rfl 0 (by decide) (hg _ wt2_186) (fun _ h9 => h9) rfl dX11_count_152 ?_
        refine va_get (D := D) (ci := 7) (v := .int (f 49)) (C := RX7) (T := TX7) (N := 20) hx hb hg inC7 hown hK hP 1 rfl rfl 17 (by decide) (hg _ wt1_150) (fun _ h9 => h9) rfl dX11_count_155 ?_
        refine lv_topi (fun t28 et28 => ?_)
        have kvt28 : t28 = k 105 := et28.trans ((sv_lawCount hVw))
        have kvit28 : t28.toInt = (k 105).toInt := congrArg Int32.toInt kvt28
        have b29 : kb 0 t28 6 := kb_eq kvt28 (kK_r hkk 105 _ _ (by decide) (by decide))
        exact kI_ret (v := t28) hx hb hr hlocks rfl hK hS dX11_count_158 () hP hD ⟨(kb_w b29 (by decide) (by decide)), (by unfold ctX; rw [if_neg (by rw [q26]; decide +kernel), if_neg (by rw [q26]; decide +kernel), if_neg (by rw [q26]; decide +kernel), if_neg (by rw [q26]; decide +kernel), if_pos q26]; exact kvit28)⟩
      by_cases q30 : x = 5
      · have b31 : kb 5 x 5 := kb_eq q30 kc_5
        refine lv_tableIn (tgt := 159) hx hb dX11_count_48 (by rw [q30]; decide +kernel) (by rw [q30]; decide +kernel) (by rw [q30]; rfl) (by decide) ?_
        refine lv_aload_n hx hb dX11_count_159 rfl (lv_at hl 0 rfl) ?_
        refine va_get (D := D) (ci := 11) (v := .ref (r 22)) (C := RX11) (T := TX11) (N := 17) hx hb hg inC11 hown hK hP 0 rfl rfl 1 (by decide) (hg _ wt2_187) (fun _ h9 => h9) rfl dX11_count_160 ?_
        refine va_get (D := D) (ci := 2) (v := .int (f 704)) (C := RX2) (T := TX2) (N := 3) hx hb hg inC2 hown hK hP 22 rfl rfl 0 (by decide) (hg _ wt1_206) (fun _ h9 => h9) rfl dX11_count_163 ?_
        refine lv_topi (fun t32 et32 => ?_)
        exact kI_ret (v := t32) hx hb hr hlocks rfl hK hS dX11_count_166 () hP hD ⟨(kb_any t32), (by unfold ctX; rw [if_neg (by rw [q30]; decide +kernel), if_neg (by rw [q30]; decide +kernel), if_neg (by rw [q30]; decide +kernel), if_neg (by rw [q30]; decide +kernel), if_neg (by rw [q30]; decide +kernel), if_pos q30]; exact congrArg Int32.toInt et32)⟩
      by_cases q33 : x = 6
      · have b34 : kb 6 x 6 := kb_eq q33 kc_6
        refine lv_tableIn (tgt := 167) hx hb dX11_count_48 (by rw [q33]; decide +kernel) (by rw [q33]; decide +kernel) (by rw [q33]; rfl) (by decide) ?_
        refine lv_aload_n hx hb dX11_count_167 rfl (lv_at hl 0 rfl) ?_
        refine va_get (D := D) (ci := 11) (v := .int (f 12)) (C := RX11) (T := TX11) (N := 17) hx hb hg inC11 hown hK hP 0 rfl rfl 12 (by decide) (hg _ wt2_198) (fun _ h9 => h9) rfl dX11_count_168 ?_
        refine lv_topi (fun t35 et35 => ?_)
        have b36 : kb 0 t35 400 := kb_eq et35 (fI_at hI.1 12 (by decide) (by decide))
        exact kI_ret (v := t35) hx hb hr hlocks rfl hK hS dX11_count_171 () hP hD ⟨(kb_w b36 (by decide) (by decide)), (by unfold ctX; rw [if_neg (by rw [q33]; decide +kernel), if_neg (by rw [q33]; decide +kernel), if_neg (by rw [q33]; decide +kernel), if_neg (by rw [q33]; decide +kernel), if_neg (by rw [q33]; decide +kernel), if_neg (by rw [q33]; decide +kernel), if_pos q33]; exact congrArg Int32.toInt et35)⟩
      by_cases q37 : x = 7
      · exact kb_dj q37 b3 kc_7 (by decide)
      by_cases q38 : x = 8
      · exact kb_dj q38 b3 kc_8 (by decide)
      by_cases q39 : x = 9
      · exact kb_dj q39 b3 kc_9 (by decide)
      by_cases q40 : x = 10
      · exact kb_dj q40 b3 kc_10 (by decide)
      by_cases q41 : x = 11
      · exact kb_dj q41 b3 kc_11 (by decide)
      by_cases q42 : x = 12
      · exact kb_dj q42 b3 kc_12 (by decide)
      refine lv_tableOut (tgt := 180) hx hb dX11_count_48 (by have gq6 := lv_neT q6 (a := 0) (by decide +kernel); have gq11 := lv_neT q11 (a := 1) (by decide +kernel); have gq18 := lv_neT q18 (a := 2) (by decide +kernel); have gq22 := lv_neT q22 (a := 3) (by decide +kernel); have gq26 := lv_neT q26 (a := 4) (by decide +kernel); have gq30 := lv_neT q30 (a := 5) (by decide +kernel); have gq33 := lv_neT q33 (a := 6) (by decide +kernel); have gq37 := lv_neT q37 (a := 7) (by decide +kernel); have gq38 := lv_neT q38 (a := 8) (by decide +kernel); have gq39 := lv_neT q39 (a := 9) (by decide +kernel); have gq40 := lv_neT q40 (a := 10) (by decide +kernel); have gq41 := lv_neT q41 (a := 11) (by decide +kernel); have gq42 := lv_neT q42 (a := 12) (by decide +kernel); omega) (by decide) ?_
      refine lv_iconst (v := (-1)) hx hb dX11_count_180 (by decide) ?_
      exact kI_ret (v := (-1)) hx hb hr hlocks rfl hK hS dX11_count_181 () hP hD ⟨(kb_w kc_m1 (by decide) (by decide)), (ct_o (fun hq => by have w0 := kc_lt c1; have v0 : (7 : Int32).toInt = 7 := (by decide +kernel); have w1 := kc_lt c4; have v1 : (13 : Int32).toInt = 13 := (by decide +kernel); have w2 : ¬ x.toInt = 0 := (fun z => q6 (Int32.toInt_inj.mp (z.trans (by decide +kernel)))); have w3 : ¬ x.toInt = 1 := (fun z => q11 (Int32.toInt_inj.mp (z.trans (by decide +kernel)))); have w4 : ¬ x.toInt = 2 := (fun z => q18 (Int32.toInt_inj.mp (z.trans (by decide +kernel)))); have w5 : ¬ x.toInt = 3 := (fun z => q22 (Int32.toInt_inj.mp (z.trans (by decide +kernel)))); have w6 : ¬ x.toInt = 4 := (fun z => q26 (Int32.toInt_inj.mp (z.trans (by decide +kernel)))); have w7 : ¬ x.toInt = 5 := (fun z => q30 (Int32.toInt_inj.mp (z.trans (by decide +kernel)))); have w8 : ¬ x.toInt = 6 := (fun z => q33 (Int32.toInt_inj.mp (z.trans (by decide +kernel)))); have w9 : ¬ x.toInt = 7 := (fun z => q37 (Int32.toInt_inj.mp (z.trans (by decide +kernel)))); have w10 : ¬ x.toInt = 8 := (fun z => q38 (Int32.toInt_inj.mp (z.trans (by decide +kernel)))); have w11 : ¬ x.toInt = 9 := (fun z => q39 (Int32.toInt_inj.mp (z.trans (by decide +kernel)))); have w12 : ¬ x.toInt = 10 := (fun z => q40 (Int32.toInt_inj.mp (z.trans (by decide +kernel)))); have w13 : ¬ x.toInt = 11 := (fun z => q41 (Int32.toInt_inj.mp (z.trans (by decide +kernel)))); have w14 : ¬ x.toInt = 12 := (fun z => q42 (Int32.toInt_inj.mp (z.trans (by decide +kernel)))); have w98 := hq.1; have w99 := hq.2; omega))⟩
    · have h43 := (kc_nlt c4)
      exact kb_no (kr_le1 h43 kc_13 b3) (by decide)
  · have h44 := (kc_nlt c1)
    have b45 : kb 7 x 2147483647 := kr_le2 h44 kc_7 (kb_any x)
    refine lv_iload_n hx hb dX11_count_6 rfl (lv_at hl 1 rfl) ?_
    refine lv_bipush (v := 11) hx hb dX11_count_7 (by decide) ?_
    refine lv_icmp_gt (tgt := 22) hx hb dX11_count_9 (by decide) (fun c46 => ?_) (fun c46 => ?_)
    · have h47 := (kc_lt c46)
      have b48 : kb 12 x 2147483647 := kr_lt2 h47 kc_11 b45 (by decide)
      refine lv_iload_n hx hb dX11_count_22 rfl (lv_at hl 1 rfl) ?_
      refine lv_bipush (v := 13) hx hb dX11_count_23 (by decide) ?_
      refine lv_icmp_lt (tgt := 47) hx hb dX11_count_25 (by decide) (fun c49 => ?_) (fun c49 => ?_)
      · have h50 := (kc_lt c49)
        have b51 : kb 12 x 12 := kr_lt1 h50 b48 kc_13 (by decide)
        refine lv_iload_n hx hb dX11_count_47 rfl (lv_at hl 1 rfl) ?_
        by_cases q52 : x = 0
        · exact kb_dj q52 b51 kc_0 (by decide)
        by_cases q53 : x = 1
        · exact kb_dj q53 b51 kc_1 (by decide)
        by_cases q54 : x = 2
        · exact kb_dj q54 b51 kc_2 (by decide)
        by_cases q55 : x = 3
        · exact kb_dj q55 b51 kc_3 (by decide)
        by_cases q56 : x = 4
        · exact kb_dj q56 b51 kc_4 (by decide)
        by_cases q57 : x = 5
        · exact kb_dj q57 b51 kc_5 (by decide)
        by_cases q58 : x = 6
        · exact kb_dj q58 b51 kc_6 (by decide)
        by_cases q59 : x = 7
        · exact kb_dj q59 b51 kc_7 (by decide)
        by_cases q60 : x = 8
        · exact kb_dj q60 b51 kc_8 (by decide)
        by_cases q61 : x = 9
        · exact kb_dj q61 b51 kc_9 (by decide)
        by_cases q62 : x = 10
        · exact kb_dj q62 b51 kc_10 (by decide)
        by_cases q63 : x = 11
        · exact kb_dj q63 b51 kc_11 (by decide)
        by_cases q64 : x = 12
        · refine lv_tableIn (tgt := 172) hx hb dX11_count_48 (by rw [q64]; decide +kernel) (by rw [q64]; decide +kernel) (by rw [q64]; rfl) (by decide) ?_
          refine lv_aload_n hx hb dX11_count_172 rfl (lv_at hl 0 rfl) ?_
          refine va_get (D := D) (ci := 11) (v := .ref (r 1)) (C := RX11) (T := TX11) (N := 17) hx hb hg inC11 hown hK hP 0 rfl rfl 0 (by decide) (hg _ wt2_186) (fun _ h9 => h9) rfl dX11_count_173 ?_
          refine va_get (D := D) (ci := 7) (v := .int (f 50)) (C := RX7) (T := TX7) (N := 20) hx hb hg inC7 hown hK hP 1 rfl rfl 18 (by decide) (hg _ wt1_153) (fun _ h9 => h9) rfl dX11_count_176 ?_
          refine lv_topi (fun t65 et65 => ?_)
          have kvt65 : t65 = k 106 := et65.trans ((sv_inForce hVw))
          have kvit65 : t65.toInt = (k 106).toInt := congrArg Int32.toInt kvt65
          have b66 : kb (-1) t65 5 := kb_eq kvt65 (kK_r hkk 106 _ _ (by decide) (by decide))
          exact kI_ret (v := t65) hx hb hr hlocks rfl hK hS dX11_count_179 () hP hD ⟨(kb_w b66 (by decide) (by decide)), (by unfold ctX; rw [if_neg (by rw [q64]; decide +kernel), if_neg (by rw [q64]; decide +kernel), if_neg (by rw [q64]; decide +kernel), if_neg (by rw [q64]; decide +kernel), if_neg (by rw [q64]; decide +kernel), if_neg (by rw [q64]; decide +kernel), if_neg (by rw [q64]; decide +kernel), if_neg (by rw [q64]; decide +kernel), if_neg (by rw [q64]; decide +kernel), if_neg (by rw [q64]; decide +kernel), if_neg (by rw [q64]; decide +kernel), if_neg (by rw [q64]; decide +kernel), if_pos q64]; exact kvit65)⟩
        refine lv_tableOut (tgt := 180) hx hb dX11_count_48 (by have gq52 := lv_neT q52 (a := 0) (by decide +kernel); have gq53 := lv_neT q53 (a := 1) (by decide +kernel); have gq54 := lv_neT q54 (a := 2) (by decide +kernel); have gq55 := lv_neT q55 (a := 3) (by decide +kernel); have gq56 := lv_neT q56 (a := 4) (by decide +kernel); have gq57 := lv_neT q57 (a := 5) (by decide +kernel); have gq58 := lv_neT q58 (a := 6) (by decide +kernel); have gq59 := lv_neT q59 (a := 7) (by decide +kernel); have gq60 := lv_neT q60 (a := 8) (by decide +kernel); have gq61 := lv_neT q61 (a := 9) (by decide +kernel); have gq62 := lv_neT q62 (a := 10) (by decide +kernel); have gq63 := lv_neT q63 (a := 11) (by decide +kernel); have gq64 := lv_neT q64 (a := 12) (by decide +kernel); omega) (by decide) ?_
        refine lv_iconst (v := (-1)) hx hb dX11_count_180 (by decide) ?_
        exact kI_ret (v := (-1)) hx hb hr hlocks rfl hK hS dX11_count_181 () hP hD ⟨(kb_w kc_m1 (by decide) (by decide)), (ct_o (fun hq => by have w0 := kc_nlt c1; have v0 : (7 : Int32).toInt = 7 := (by decide +kernel); have w1 := kc_lt c46; have v1 : (11 : Int32).toInt = 11 := (by decide +kernel); have w2 := kc_lt c49; have v2 : (13 : Int32).toInt = 13 := (by decide +kernel); have w3 : ¬ x.toInt = 0 := (fun z => q52 (Int32.toInt_inj.mp (z.trans (by decide +kernel)))); have w4 : ¬ x.toInt = 1 := (fun z => q53 (Int32.toInt_inj.mp (z.trans (by decide +kernel)))); have w5 : ¬ x.toInt = 2 := (fun z => q54 (Int32.toInt_inj.mp (z.trans (by decide +kernel)))); have w6 : ¬ x.toInt = 3 := (fun z => q55 (Int32.toInt_inj.mp (z.trans (by decide +kernel)))); have w7 : ¬ x.toInt = 4 := (fun z => q56 (Int32.toInt_inj.mp (z.trans (by decide +kernel)))); have w8 : ¬ x.toInt = 5 := (fun z => q57 (Int32.toInt_inj.mp (z.trans (by decide +kernel)))); have w9 : ¬ x.toInt = 6 := (fun z => q58 (Int32.toInt_inj.mp (z.trans (by decide +kernel)))); have w10 : ¬ x.toInt = 7 := (fun z => q59 (Int32.toInt_inj.mp (z.trans (by decide +kernel)))); have w11 : ¬ x.toInt = 8 := (fun z => q60 (Int32.toInt_inj.mp (z.trans (by decide +kernel)))); have w12 : ¬ x.toInt = 9 := (fun z => q61 (Int32.toInt_inj.mp (z.trans (by decide +kernel)))); have w13 : ¬ x.toInt = 10 := (fun z => q62 (Int32.toInt_inj.mp (z.trans (by decide +kernel)))); have w14 : ¬ x.toInt = 11 := (fun z => q63 (Int32.toInt_inj.mp (z.trans (by decide +kernel)))); have w15 : ¬ x.toInt = 12 := (fun z => q64 (Int32.toInt_inj.mp (z.trans (by decide +kernel)))); have w98 := hq.1; have w99 := hq.2; omega))⟩
      · have h67 := (kc_nlt c49)
        have b68 : kb 13 x 2147483647 := kr_le2 h67 kc_13 b48
        refine lv_iload_n hx hb dX11_count_28 rfl (lv_at hl 1 rfl) ?_
        refine lv_bipush (v := 16) hx hb dX11_count_29 (by decide) ?_
        refine lv_icmp_gt (tgt := 47) hx hb dX11_count_31 (by decide) (fun c69 => ?_) (fun c69 => ?_)
        · have h70 := (kc_lt c69)
          have b71 : kb 17 x 2147483647 := kr_lt2 h70 kc_16 b68 (by decide)
          refine lv_iload_n hx hb dX11_count_47 rfl (lv_at hl 1 rfl) ?_
          by_cases q72 : x = 0
          · exact kb_dj q72 b71 kc_0 (by decide)
          by_cases q73 : x = 1
          · exact kb_dj q73 b71 kc_1 (by decide)
          by_cases q74 : x = 2
          · exact kb_dj q74 b71 kc_2 (by decide)
          by_cases q75 : x = 3
          · exact kb_dj q75 b71 kc_3 (by decide)
          by_cases q76 : x = 4
          · exact kb_dj q76 b71 kc_4 (by decide)
          by_cases q77 : x = 5
          · exact kb_dj q77 b71 kc_5 (by decide)
          by_cases q78 : x = 6
          · exact kb_dj q78 b71 kc_6 (by decide)
          by_cases q79 : x = 7
          · exact kb_dj q79 b71 kc_7 (by decide)
          by_cases q80 : x = 8
          · exact kb_dj q80 b71 kc_8 (by decide)
          by_cases q81 : x = 9
          · exact kb_dj q81 b71 kc_9 (by decide)
          by_cases q82 : x = 10
          · exact kb_dj q82 b71 kc_10 (by decide)
          by_cases q83 : x = 11
          · exact kb_dj q83 b71 kc_11 (by decide)
          by_cases q84 : x = 12
          · exact kb_dj q84 b71 kc_12 (by decide)
          refine lv_tableOut (tgt := 180) hx hb dX11_count_48 (by have gq72 := lv_neT q72 (a := 0) (by decide +kernel); have gq73 := lv_neT q73 (a := 1) (by decide +kernel); have gq74 := lv_neT q74 (a := 2) (by decide +kernel); have gq75 := lv_neT q75 (a := 3) (by decide +kernel); have gq76 := lv_neT q76 (a := 4) (by decide +kernel); have gq77 := lv_neT q77 (a := 5) (by decide +kernel); have gq78 := lv_neT q78 (a := 6) (by decide +kernel); have gq79 := lv_neT q79 (a := 7) (by decide +kernel); have gq80 := lv_neT q80 (a := 8) (by decide +kernel); have gq81 := lv_neT q81 (a := 9) (by decide +kernel); have gq82 := lv_neT q82 (a := 10) (by decide +kernel); have gq83 := lv_neT q83 (a := 11) (by decide +kernel); have gq84 := lv_neT q84 (a := 12) (by decide +kernel); omega) (by decide) ?_
          refine lv_iconst (v := (-1)) hx hb dX11_count_180 (by decide) ?_
          exact kI_ret (v := (-1)) hx hb hr hlocks rfl hK hS dX11_count_181 () hP hD ⟨(kb_w kc_m1 (by decide) (by decide)), (ct_o (fun hq => by have w0 := kc_nlt c1; have v0 : (7 : Int32).toInt = 7 := (by decide +kernel); have w1 := kc_lt c46; have v1 : (11 : Int32).toInt = 11 := (by decide +kernel); have w2 := kc_nlt c49; have v2 : (13 : Int32).toInt = 13 := (by decide +kernel); have w3 := kc_lt c69; have v3 : (16 : Int32).toInt = 16 := (by decide +kernel); have w4 : ¬ x.toInt = 0 := (fun z => q72 (Int32.toInt_inj.mp (z.trans (by decide +kernel)))); have w5 : ¬ x.toInt = 1 := (fun z => q73 (Int32.toInt_inj.mp (z.trans (by decide +kernel)))); have w6 : ¬ x.toInt = 2 := (fun z => q74 (Int32.toInt_inj.mp (z.trans (by decide +kernel)))); have w7 : ¬ x.toInt = 3 := (fun z => q75 (Int32.toInt_inj.mp (z.trans (by decide +kernel)))); have w8 : ¬ x.toInt = 4 := (fun z => q76 (Int32.toInt_inj.mp (z.trans (by decide +kernel)))); have w9 : ¬ x.toInt = 5 := (fun z => q77 (Int32.toInt_inj.mp (z.trans (by decide +kernel)))); have w10 : ¬ x.toInt = 6 := (fun z => q78 (Int32.toInt_inj.mp (z.trans (by decide +kernel)))); have w11 : ¬ x.toInt = 7 := (fun z => q79 (Int32.toInt_inj.mp (z.trans (by decide +kernel)))); have w12 : ¬ x.toInt = 8 := (fun z => q80 (Int32.toInt_inj.mp (z.trans (by decide +kernel)))); have w13 : ¬ x.toInt = 9 := (fun z => q81 (Int32.toInt_inj.mp (z.trans (by decide +kernel)))); have w14 : ¬ x.toInt = 10 := (fun z => q82 (Int32.toInt_inj.mp (z.trans (by decide +kernel)))); have w15 : ¬ x.toInt = 11 := (fun z => q83 (Int32.toInt_inj.mp (z.trans (by decide +kernel)))); have w16 : ¬ x.toInt = 12 := (fun z => q84 (Int32.toInt_inj.mp (z.trans (by decide +kernel)))); have w98 := hq.1; have w99 := hq.2; omega))⟩
        · have h85 := (kc_nlt c69)
          have b86 : kb 13 x 16 := kr_le1 h85 b68 kc_16
          refine lv_aload_n hx hb dX11_count_34 rfl (lv_at hl 0 rfl) ?_
          refine va_get (D := D) (ci := 11) (v := .ref (r 1)) (C := RX11) (T := TX11) (N := 17) hx hb hg inC11 hown hK hP 0 rfl rfl 0 (by decide) (hg _ wt2_186) (fun _ h9 => h9) rfl dX11_count_35 ?_
          refine va_get (D := D) (ci := 7) (v := .ref (r 11)) (C := RX7) (T := TX7) (N := 20) hx hb hg inC7 hown hK hP 1 rfl rfl 11 (by decide) (hg _ wt1_134) (fun _ h9 => h9) rfl dX11_count_38 ?_
          refine lv_iload_n hx hb dX11_count_41 rfl (lv_at hl 1 rfl) ?_
          refine lv_bipush (v := 13) hx hb dX11_count_42 (by decide) ?_
          refine lv_isub hx hb dX11_count_44 ?_
          refine lv_topi (fun t87 et87 => ?_)
          have b88 : kb 0 t87 3 := kb_eq et87 (kb_sub b86 kc_13 (by decide) (by decide))
          have qt87 : t87.toInt = x.toInt - 13 := by rw [et87]; exact kt_subc b86 kc_13 (by decide) (by decide)
          refine va_iald hx hb hK hP 11 0 rfl rfl (kb_in b88 (by decide) (by decide)) dX11_count_45 ?_
          refine lv_topi (fun t89 et89 => ?_)
          exact kI_ret (v := t89) hx hb hr hlocks rfl hK hS dX11_count_46 () hP hD ⟨(kb_any t89), (ctx_t hVw b86 (show t87.toNatClampNeg = x.toInt.toNat - 13 from by have w1 := qt87; have w2 := (b86).1; unfold Int32.toNatClampNeg; omega) (congrArg Int32.toInt et89))⟩
    · have h90 := (kc_nlt c46)
      have b91 : kb 7 x 11 := kr_le1 h90 b45 kc_11
      refine lv_aload_n hx hb dX11_count_12 rfl (lv_at hl 0 rfl) ?_
      refine va_get (D := D) (ci := 11) (v := .ref (r 94)) (C := RX11) (T := TX11) (N := 17) hx hb hg inC11 hown hK hP 0 rfl rfl 11 (by decide) (hg _ wt2_197) (fun _ h9 => h9) rfl dX11_count_13 ?_
      refine lv_iload_n hx hb dX11_count_16 rfl (lv_at hl 1 rfl) ?_
      refine lv_bipush (v := 7) hx hb dX11_count_17 (by decide) ?_
      refine lv_isub hx hb dX11_count_19 ?_
      refine lv_topi (fun t92 et92 => ?_)
      have b93 : kb 0 t92 4 := kb_eq et92 (kb_sub b91 kc_7 (by decide) (by decide))
      have qt92 : t92.toInt = x.toInt - 7 := by rw [et92]; exact kt_subc b91 kc_7 (by decide) (by decide)
      refine va_iald hx hb hK hP 94 0 rfl rfl (kb_in b93 (by decide) (by decide)) dX11_count_20 ?_
      refine lv_topi (fun t94 et94 => ?_)
      exact kI_ret (v := t94) hx hb hr hlocks rfl hK hS dX11_count_21 () hP hD ⟨(kb_any t94), (ct_r b91 (show t92.toNatClampNeg = x.toInt.toNat - 7 from by have w1 := qt92; have w2 := (b91).1; unfold Int32.toNatClampNeg; omega) (congrArg Int32.toInt et94))⟩
