section ST
variable {o q n t : Nat} {f f' : Nat → Int32} {a a' : Nat → Nat → Int32} {k : Nat → Int32} {y : Int32}
theorem sV_trm (h : sV o q f a k) (ht : (n = 0 ∧ t = 22) ∨ (n = 1 ∧ t = 99) ∨ (n = 2 ∧ t = 100) ∨ (n = 3 ∧ t = 101)) (f0 : f' o = f o) (f2 : f' (o + 6) = f (o + 6)) (f3 : f' (o + 12) = f (o + 12)) (f4 : f' (o + 17) = f (o + 17)) (f5 : f' (o + 18) = f (o + 18)) (e9 : a' (q + 9) = upd (a (q + 9)) n y) (hr : ∀ j, j < 13 → ¬ j = 9 → a' (q + j) = a (q + j)) : sV o q f' a' (upd k t y) := by
  have r0 : a' q = a q := hr 0 (by decide) (by decide)
  refine ⟨⟨?_, ?_, ?_, ?_, ?_⟩, fun i hi => ⟨?_, ?_, ?_, ?_, ?_⟩, fun i hi => ⟨?_, ?_, ?_, fun hb => ?_⟩, ⟨?_, ?_, ?_, ?_⟩, fun i hi => ⟨?_, ?_, ?_⟩⟩
  · rw [f0, pk_un (by omega)]; exact sv_parts h
  · rw [f2, pk_un (by omega)]; exact sv_builders h
  · rw [f3, pk_un (by omega)]; exact sv_sights h
  · rw [f4, pk_un (by omega)]; exact sv_lawCount h
  · rw [f5, pk_un (by omega)]; exact sv_inForce h
  · rw [r0, pk_un (by omega)]; exact sv_work h hi
  · rw [hr 1 (by decide) (by decide), pk_un (by omega)]; exact sv_needs h hi
  · rw [hr 2 (by decide) (by decide), pk_un (by omega)]; exact sv_craft h hi
  · rw [hr 3 (by decide) (by decide), pk_un (by omega)]; exact sv_heavy h hi
  · rw [hr 4 (by decide) (by decide), pk_un (by omega)]; exact sv_left h hi
  · rw [hr 5 (by decide) (by decide), pk_un (by omega)]; exact sv_crafts h hi
  · rw [hr 6 (by decide) (by decide), pk_un (by omega)]; exact sv_pace h hi
  · rw [hr 7 (by decide) (by decide), pk_un (by omega)]; exact sv_tired h hi
  · rw [pk_un (by omega)] at hb
    rw [hr 8 (by decide) (by decide), pk_un (by omega)]; exact sv_place h hi hb
  · rw [e9]
    rcases ht with ⟨c, d⟩ | ⟨c, d⟩ | ⟨c, d⟩ | ⟨c, d⟩
    · rw [c, d, pk_us, pk_us]
    · rw [c, d, pk_un (by decide), pk_un (by decide)]; exact sv_hour h
    · rw [c, d, pk_un (by decide), pk_un (by decide)]; exact sv_hour h
    · rw [c, d, pk_un (by decide), pk_un (by decide)]; exact sv_hour h
  · rw [e9]
    rcases ht with ⟨c, d⟩ | ⟨c, d⟩ | ⟨c, d⟩ | ⟨c, d⟩
    · rw [c, d, pk_un (by decide), pk_un (by decide)]; exact sv_night h
    · rw [c, d, pk_us, pk_us]
    · rw [c, d, pk_un (by decide), pk_un (by decide)]; exact sv_night h
    · rw [c, d, pk_un (by decide), pk_un (by decide)]; exact sv_night h
  · rw [e9]
    rcases ht with ⟨c, d⟩ | ⟨c, d⟩ | ⟨c, d⟩ | ⟨c, d⟩
    · rw [c, d, pk_un (by decide), pk_un (by decide)]; exact sv_rain h
    · rw [c, d, pk_un (by decide), pk_un (by decide)]; exact sv_rain h
    · rw [c, d, pk_us, pk_us]
    · rw [c, d, pk_un (by decide), pk_un (by decide)]; exact sv_rain h
  · rw [e9]
    rcases ht with ⟨c, d⟩ | ⟨c, d⟩ | ⟨c, d⟩ | ⟨c, d⟩
    · rw [c, d, pk_un (by decide), pk_un (by decide)]; exact sv_mood h
    · rw [c, d, pk_un (by decide), pk_un (by decide)]; exact sv_mood h
    · rw [c, d, pk_un (by decide), pk_un (by decide)]; exact sv_mood h
    · rw [c, d, pk_us, pk_us]
  · rw [hr 10 (by decide) (by decide), pk_un (by omega)]; exact sv_sTick h hi
  · rw [hr 11 (by decide) (by decide), pk_un (by omega)]; exact sv_sPart h hi
  · rw [hr 12 (by decide) (by decide), pk_un (by omega)]; exact sv_sStood h hi
end ST
/-- which term -/
theorem tr_ix {x : Int32} (h : kb 0 x 3) : (x = 0 ∧ x.toNatClampNeg = 0 ∧ trI x = 22) ∨ (x = 1 ∧ x.toNatClampNeg = 1 ∧ trI x = 99) ∨ (x = 2 ∧ x.toNatClampNeg = 2 ∧ trI x = 100) ∨ (x = 3 ∧ x.toNatClampNeg = 3 ∧ trI x = 101) := by
  have h1 := h.1
  have h2 := h.2
  have z0 : (0 : Int32).toInt = 0 := by decide +kernel
  have z1 : (1 : Int32).toInt = 1 := by decide +kernel
  have z2 : (2 : Int32).toInt = 2 := by decide +kernel
  have z3 : (3 : Int32).toInt = 3 := by decide +kernel
  have c : x.toInt = 0 ∨ x.toInt = 1 ∨ x.toInt = 2 ∨ x.toInt = 3 := by omega
  rcases c with c | c | c | c
  · have e : x = 0 := Int32.toInt_inj.mp (c.trans z0.symm)
    exact Or.inl ⟨e, by rw [e]; decide +kernel, by rw [e]; decide +kernel⟩
  · have e : x = 1 := Int32.toInt_inj.mp (c.trans z1.symm)
    exact Or.inr (Or.inl ⟨e, by rw [e]; decide +kernel, by rw [e]; decide +kernel⟩)
  · have e : x = 2 := Int32.toInt_inj.mp (c.trans z2.symm)
    exact Or.inr (Or.inr (Or.inl ⟨e, by rw [e]; decide +kernel, by rw [e]; decide +kernel⟩))
  · have e : x = 3 := Int32.toInt_inj.mp (c.trans z3.symm)
    exact Or.inr (Or.inr (Or.inr ⟨e, by rw [e]; decide +kernel, by rw [e]; decide +kernel⟩))
theorem tr_nt {x : Int32} (h : kb 0 x 3) : (x.toNatClampNeg = 0 ∧ trI x = 22) ∨ (x.toNatClampNeg = 1 ∧ trI x = 99) ∨ (x.toNatClampNeg = 2 ∧ trI x = 100) ∨ (x.toNatClampNeg = 3 ∧ trI x = 101) := by
  rcases tr_ix h with h | h | h | h
  · exact Or.inl h.2
  · exact Or.inr (Or.inl h.2)
  · exact Or.inr (Or.inr (Or.inl h.2))
  · exact Or.inr (Or.inr (Or.inr h.2))
/-- the class's bounds of terms -/
theorem tr_b {x y : Int32} (h : kb 0 x 3) : trO x y ↔ ((tl0 x.toNatClampNeg).toInt ≤ y.toInt ∧ y.toInt ≤ (tm0 x.toNatClampNeg).toInt) := by
  rcases tr_ix h with ⟨e, n, _⟩ | ⟨e, n, _⟩ | ⟨e, n, _⟩ | ⟨e, n, _⟩
  · rw [n, show (tl0 0).toInt = 0 from by decide +kernel, show (tm0 0).toInt = 999 from by decide +kernel]
    exact ⟨fun z => tr_0 z e, fun z => Or.inl ⟨e, z⟩⟩
  · rw [n, show (tl0 1).toInt = 1 from by decide +kernel, show (tm0 1).toInt = 99 from by decide +kernel]
    exact ⟨fun z => tr_1 z e, fun z => Or.inr (Or.inl ⟨e, z⟩)⟩
  · rw [n, show (tl0 2).toInt = 0 from by decide +kernel, show (tm0 2).toInt = 10 from by decide +kernel]
    exact ⟨fun z => tr_2 z e, fun z => Or.inr (Or.inr (Or.inl ⟨e, z⟩))⟩
  · rw [n, show (tl0 3).toInt = 0 from by decide +kernel, show (tm0 3).toInt = 9 from by decide +kernel]
    exact ⟨fun z => tr_3 z e, fun z => Or.inr (Or.inr (Or.inr ⟨e, z⟩))⟩
theorem tr_x {x y : Int32} (h : ¬ (0 ≤ x.toInt ∧ x.toInt ≤ 3)) : ¬ trO x y := by
  rintro (⟨e, _⟩ | ⟨e, _⟩ | ⟨e, _⟩ | ⟨e, _⟩) <;> exact h (by rw [e]; decide +kernel)
theorem sv_term {o q n t : Nat} {f : Nat → Int32} {a : Nat → Nat → Int32} {k : Nat → Int32} (h : sV o q f a k) (ht : (n = 0 ∧ t = 22) ∨ (n = 1 ∧ t = 99) ∨ (n = 2 ∧ t = 100) ∨ (n = 3 ∧ t = 101)) : a (q + 9) n = k t := by
  rcases ht with ⟨c, d⟩ | ⟨c, d⟩ | ⟨c, d⟩ | ⟨c, d⟩
  · rw [c, d]; exact sv_hour h
  · rw [c, d]; exact sv_night h
  · rw [c, d]; exact sv_rain h
  · rw [c, d]; exact sv_mood h
set_option maxHeartbeats 4000000 in
set_option maxRecDepth 100000 in
theorem z_terms  (l : Launch) {D : va_G} {K : Nat → ClassId} (r : Nat → Nat) (f : Nat → Int32) (a : Nat → Nat → Int32) (g : xG) (tx tt : va_W) (hT : ∀ c ∈ tt, c ∈ tx) (hI : xI f a) (hG : gOK K g.2 tt) (x : Int32) (y : Int32)  (k : Nat → Int32) (hVw : sV 32 2 f a k) (hkk : kK k) (P : pS) (hp0 : xPs (f 704) (f 705) (a 23) P (kBn k)) : kIG l yX11_terms (Cond.code yX11_terms cX11_terms 4 (some .int) :: kG) (rmD 3 0 0) D K [.ref (r 0), .int x, .int y] (xX K r f a g tx) (fun v (u : xS) => kb (-2147483648) v 2147483647 ∧ xI u.1 u.2.1 ∧ gOK K u.2.2.2 tt ∧ xEk ([16, 704, 705, 2565, 2566, 2786], [11, 81, 94], []) f a g u.1 u.2.1 u.2.2 ∧ trM x y v k ∧ xTe 32 2 v u.1 u.2.1 (a 94) k P (upd k (trI x) y) (noP P) (kBn k)) (fun u => xX K r u.1 u.2.1 u.2.2 tx) 0 0 := by
  refine kIE.of (cc := cX11_terms) (maxL := 4) (ret := (some .int)) (by decide) rfl (Nat.le_of_ble_eq_true rfl) ?_
  intro p e s m below meth c A hx hb hr hml hown hts hlocks hnm hK hP hD hS hA hV ls hl
  have hE : xEk ([16, 704, 705, 2565, 2566, 2786], [11, 81, 94], []) f a g f a g := xEk_rf
  have hg : ∀ w ∈ kG, w.before _ s = true := fun w h => hts w (List.mem_cons_of_mem _ h)
  have hown : s.vm.findClass RX11 = some m.cls := hown
  have hl : lv_has ls 4 [(0, .ref (r 0)), (1, .int x), (2, .int y)] := hl
  refine lv_iload_n hx hb dX11_terms_0 rfl (lv_at hl 1 rfl) ?_
  refine lv_if_lt (tgt := 27) hx hb dX11_terms_1 (by decide) (fun c1 => ?_) (fun c1 => ?_)
  · have h2 := (kc_lt c1)
    have b3 : kb (-2147483648) x (-1) := kr_lt1 h2 (kb_any x) kc_0 (by decide)
    refine lv_aload_n hx hb dX11_terms_27 rfl (lv_at hl 0 rfl) ?_
    refine lv_iconst (v := (-1)) hx hb dX11_terms_28 (by decide) ?_
    refine kIG.callW (As := [.int (-1)]) (rest := []) ⟨hx, hb, hml, hown, hg⟩ (z_refuse l r f a g tx tt hT hI hG (-1) (kb_w kc_m1 (by decide) (by decide)) (by decide +kernel)) (cwV 1 hg (kgV wt3_7 wt3_9 wp1_0 wt1_1 wt3_10) rfl rfl rfl (by decide +kernel) ⟨by decide, by decide⟩) hV hK hP hD hS hA (0) 11 rfl rfl rfl hl.1 rfl (Nat.le_of_ble_eq_true rfl) dX11_terms_29 ⟨Nat.le_refl _, Nat.le_refl _⟩ (fun v5 u6 H locs hw4 hP hD hS => ?_)
    obtain ⟨f7, a8, g9⟩ := u6
    have hP : va_P D vwCl (xX K r f7 a8 g9 tx) H := hP
    have hD : va_D A (xX K r f7 a8 g9 tx) := hD
    have hI : xI f7 a8 := hw4.2.1
    have hG : gOK K g9.2 tt := hw4.2.2.1
    have eE10 : xEk ([16], [94], []) f a g f7 a8 g9 := hw4.2.2.2.1
    have hE : xEk ([16, 704, 705, 2565, 2566, 2786], [11, 81, 94], []) f a g f7 a8 g9 := xEk_tr hE (xEk_w (by decide +kernel) eE10)
    refine k_top (z := (-1)) hw4.2.2.2.2.1 ?_
    exact kI_ret (v := (-1)) hx hb hr hlocks rfl hK hS dX11_terms_32 (f7, a8, g9) hP hD ⟨(kb_w kc_m1 (by decide) (by decide)), hI, hG, hE, (Or.inl ⟨rfl, tr_x (fun q => by have w3 : (0 : Int32).toInt = 0 := (by decide +kernel); have w2 := kc_lt c1; omega)⟩), (Or.inl ⟨by decide +kernel, sV_E hVw eE10 (by decide +kernel) (by decide +kernel), xP_cg hp0 (eE10.1 704 rfl) (eE10.1 705 rfl) (eE10.2.1 23 rfl), hw4.2.2.2.2.2.1, fun R1 hR => hw4.2.2.2.2.2.2 R1 (by rw [show a 94 = a 94 from rfl]; exact hR)⟩)⟩
  · have h11 := (kc_nlt c1)
    have b12 : kb 0 x 2147483647 := kr_le2 h11 kc_0 (kb_any x)
    refine lv_iload_n hx hb dX11_terms_4 rfl (lv_at hl 1 rfl) ?_
    refine lv_iconst (v := 4) hx hb dX11_terms_5 (by decide) ?_
    refine lv_icmp_ge (tgt := 27) hx hb dX11_terms_6 (by decide) (fun c13 => ?_) (fun c13 => ?_)
    · have h14 := (kc_le c13)
      have b15 : kb 4 x 2147483647 := kr_le2 h14 kc_4 b12
      refine lv_aload_n hx hb dX11_terms_27 rfl (lv_at hl 0 rfl) ?_
      refine lv_iconst (v := (-1)) hx hb dX11_terms_28 (by decide) ?_
      refine kIG.callW (As := [.int (-1)]) (rest := []) ⟨hx, hb, hml, hown, hg⟩ (z_refuse l r f a g tx tt hT hI hG (-1) (kb_w kc_m1 (by decide) (by decide)) (by decide +kernel)) (cwV 1 hg (kgV wt3_7 wt3_9 wp1_0 wt1_1 wt3_10) rfl rfl rfl (by decide +kernel) ⟨by decide, by decide⟩) hV hK hP hD hS hA (0) 11 rfl rfl rfl hl.1 rfl (Nat.le_of_ble_eq_true rfl) dX11_terms_29 ⟨Nat.le_refl _, Nat.le_refl _⟩ (fun v17 u18 H locs hw16 hP hD hS => ?_)
      obtain ⟨f19, a20, g21⟩ := u18
      have hP : va_P D vwCl (xX K r f19 a20 g21 tx) H := hP
      have hD : va_D A (xX K r f19 a20 g21 tx) := hD
      have hI : xI f19 a20 := hw16.2.1
      have hG : gOK K g21.2 tt := hw16.2.2.1
      have eE22 : xEk ([16], [94], []) f a g f19 a20 g21 := hw16.2.2.2.1
      have hE : xEk ([16, 704, 705, 2565, 2566, 2786], [11, 81, 94], []) f a g f19 a20 g21 := xEk_tr hE (xEk_w (by decide +kernel) eE22)
      refine k_top (z := (-1)) hw16.2.2.2.2.1 ?_
      exact kI_ret (v := (-1)) hx hb hr hlocks rfl hK hS dX11_terms_32 (f19, a20, g21) hP hD ⟨(kb_w kc_m1 (by decide) (by decide)), hI, hG, hE, (Or.inl ⟨rfl, tr_x (fun q => by have w3 : (4 : Int32).toInt = 4 := (by decide +kernel); have w2 := kc_le c13; omega)⟩), (Or.inl ⟨by decide +kernel, sV_E hVw eE22 (by decide +kernel) (by decide +kernel), xP_cg hp0 (eE22.1 704 rfl) (eE22.1 705 rfl) (eE22.2.1 23 rfl), hw16.2.2.2.2.2.1, fun R1 hR => hw16.2.2.2.2.2.2 R1 (by rw [show a 94 = a 94 from rfl]; exact hR)⟩)⟩
    · have h23 := (kc_nle c13)
      have b24 : kb 0 x 3 := kr_lt1 h23 b12 kc_4 (by decide)
      refine lv_iload_n hx hb dX11_terms_9 rfl (lv_at hl 2 rfl) ?_
      obtain ⟨tt1, tt2, hz1, hT1, hz2, hT2⟩ := hV.2.1
      obtain ⟨tt3, hz3, hT3, hN3⟩ := hV.2.2.1
      refine va_gets hx hb hz1 hS hown (hg _ wt3_117) (fun _ h => h) dX11_terms_10 ?_
      refine lv_iload_n hx hb dX11_terms_13 rfl (lv_at hl 1 rfl) ?_
      refine va_ti (v := .int (tl0 x.toNatClampNeg)) hx hb hT1 hS (kb_in b24 (by decide) (by decide)) rfl dX11_terms_14 ?_
      refine lv_topi (fun t25 et25 => ?_)
      refine lv_icmp_lt (tgt := 27) hx hb dX11_terms_15 (by decide) (fun c26 => ?_) (fun c26 => ?_)
      · have h27 := (kc_lt c26)
        have b28 : kb (-2147483648) y 2147483646 := kr_lt1 h27 (kb_any y) (kb_any t25) (by decide)
        have b29 : kb (-2147483647) t25 2147483647 := kr_lt2 h27 (kb_any y) (kb_any t25) (by decide)
        refine lv_aload_n hx hb dX11_terms_27 rfl (lv_at hl 0 rfl) ?_
        refine lv_iconst (v := (-1)) hx hb dX11_terms_28 (by decide) ?_
        refine kIG.callW (As := [.int (-1)]) (rest := []) ⟨hx, hb, hml, hown, hg⟩ (z_refuse l r f a g tx tt hT hI hG (-1) (kb_w kc_m1 (by decide) (by decide)) (by decide +kernel)) (cwV 1 hg (kgV wt3_7 wt3_9 wp1_0 wt1_1 wt3_10) rfl rfl rfl (by decide +kernel) ⟨by decide, by decide⟩) hV hK hP hD hS hA (0) 11 rfl rfl rfl hl.1 rfl (Nat.le_of_ble_eq_true rfl) dX11_terms_29 ⟨Nat.le_refl _, Nat.le_refl _⟩ (fun v31 u32 H locs hw30 hP hD hS => ?_)
        obtain ⟨f33, a34, g35⟩ := u32
        have hP : va_P D vwCl (xX K r f33 a34 g35 tx) H := hP
        have hD : va_D A (xX K r f33 a34 g35 tx) := hD
        have hI : xI f33 a34 := hw30.2.1
        have hG : gOK K g35.2 tt := hw30.2.2.1
        have eE36 : xEk ([16], [94], []) f a g f33 a34 g35 := hw30.2.2.2.1
        have hE : xEk ([16, 704, 705, 2565, 2566, 2786], [11, 81, 94], []) f a g f33 a34 g35 := xEk_tr hE (xEk_w (by decide +kernel) eE36)
        refine k_top (z := (-1)) hw30.2.2.2.2.1 ?_
        exact kI_ret (v := (-1)) hx hb hr hlocks rfl hK hS dX11_terms_32 (f33, a34, g35) hP hD ⟨(kb_w kc_m1 (by decide) (by decide)), hI, hG, hE, (Or.inl ⟨rfl, fun q => by have w1 := (tr_b b24).mp q; have w2 := kc_lt c26; rw [et25] at w2; omega⟩), (Or.inl ⟨by decide +kernel, sV_E hVw eE36 (by decide +kernel) (by decide +kernel), xP_cg hp0 (eE36.1 704 rfl) (eE36.1 705 rfl) (eE36.2.1 23 rfl), hw30.2.2.2.2.2.1, fun R1 hR => hw30.2.2.2.2.2.2 R1 (by rw [show a 94 = a 94 from rfl]; exact hR)⟩)⟩
      · have h37 := (kc_nlt c26)
        refine lv_iload_n hx hb dX11_terms_18 rfl (lv_at hl 2 rfl) ?_
        refine va_gets hx hb hz2 hS hown (hg _ wt3_119) (fun _ h => h) dX11_terms_19 ?_
        refine lv_iload_n hx hb dX11_terms_22 rfl (lv_at hl 1 rfl) ?_
        refine va_ti (v := .int (tm0 x.toNatClampNeg)) hx hb hT2 hS (kb_in b24 (by decide) (by decide)) rfl dX11_terms_23 ?_
        refine lv_topi (fun t38 et38 => ?_)
        refine lv_icmp_le (tgt := 33) hx hb dX11_terms_24 (by decide) (fun c39 => ?_) (fun c39 => ?_)
        · have h40 := (kc_le c39)
          refine lv_aload_n hx hb dX11_terms_33 rfl (lv_at hl 0 rfl) ?_
          refine va_get (D := D) (ci := 11) (v := .ref (r 1)) (C := RX11) (T := TX11) (N := 17) hx hb hg inC11 hown hK hP 0 rfl rfl 0 (by decide) (hg _ wt2_186) (fun _ h9 => h9) rfl dX11_terms_34 ?_
          refine va_get (D := D) (ci := 7) (v := .ref (r 11)) (C := RX7) (T := TX7) (N := 20) hx hb hg inC7 hown hK hP 1 rfl rfl 11 (by decide) (hg _ wt1_134) (fun _ h9 => h9) rfl dX11_terms_37 ?_
          refine lv_iload_n hx hb dX11_terms_40 rfl (lv_at hl 1 rfl) ?_
          refine va_iald hx hb hK hP 11 0 rfl rfl (kb_in b24 (by decide) (by decide)) dX11_terms_41 ?_
          refine lv_topi (fun t41 et41 => ?_)
          refine lv_istore_n (lv' := [(3, .int t41), (0, .ref (r 0)), (1, .int x), (2, .int y)]) hx hb dX11_terms_42 rfl hl (by decide) rfl (fun ls hl => ?_)
          refine lv_aload_n hx hb dX11_terms_43 rfl (lv_at hl 1 rfl) ?_
          refine va_get (D := D) (ci := 11) (v := .ref (r 1)) (C := RX11) (T := TX11) (N := 17) hx hb hg inC11 hown hK hP 0 rfl rfl 0 (by decide) (hg _ wt2_186) (fun _ h9 => h9) rfl dX11_terms_44 ?_
          refine va_get (D := D) (ci := 7) (v := .ref (r 11)) (C := RX7) (T := TX7) (N := 20) hx hb hg inC7 hown hK hP 1 rfl rfl 11 (by decide) (hg _ wt1_134) (fun _ h9 => h9) rfl dX11_terms_47 ?_
          refine lv_iload_n hx hb dX11_terms_50 rfl (lv_at hl 2 rfl) ?_
          refine lv_iload_n hx hb dX11_terms_51 rfl (lv_at hl 3 rfl) ?_
          refine va_iast hx hb hK hP hD hS 11 0 rfl rfl (kb_in b24 (by decide) (by decide)) dX11_terms_52 (fun H locs hP hD hS => ?_)
          have hP : va_P D vwCl (xX K r f (va_up a 11 (upd (a 11) x.toNatClampNeg y)) g tx) H := hP
          have hD : va_D A (xX K r f (va_up a 11 (upd (a 11) x.toNatClampNeg y)) g tx) := hD
          refine k_gen (P := fun z => va_P D vwCl (xX K r f z g tx) H ∧ va_D A (xX K r f z g tx) ∧ (xI f z) ∧ (gOK K g.2 tt) ∧ (xEk ([16, 704, 705, 2565, 2566, 2786], [11, 81, 94], []) f a g f z g)) (va_up a 11 (upd (a 11) x.toNatClampNeg y)) ⟨hP, hD, (xI_a hI (by decide)), hG, (xEk_a hE rfl)⟩ (fun a_42 ea_42 hq => ?_)
          obtain ⟨hP, hD, hI, hG, hE⟩ := hq
          refine lv_aload_n hx hb dX11_terms_53 rfl (lv_at hl 1 rfl) ?_
          refine va_get (D := D) (ci := 11) (v := .ref (r 22)) (C := RX11) (T := TX11) (N := 17) hx hb hg inC11 hown hK hP 0 rfl rfl 1 (by decide) (hg _ wt2_187) (fun _ h9 => h9) rfl dX11_terms_54 ?_
          refine kVG.callW (As := []) (rest := []) ⟨hx, hb, hml, hown, hg⟩ (z_pclear l r f a_42 g tx tt hT hI hG   ) (cwV 0 hg (kgV wt3_11 wt3_12 wt3_13 wt1_4 wt3_14) rfl rfl rfl (by decide +kernel) ⟨by decide, by decide⟩) hV hK hP hD hS hA (22) 2 rfl rfl rfl hl.1 rfl (Nat.le_of_ble_eq_true rfl) dX11_terms_57 ⟨Nat.le_refl _, Nat.le_refl _⟩ (fun u45 H locs hw43 hP hD hS => ?_)
          obtain ⟨f46, a47, g48⟩ := u45
          have hP : va_P D vwCl (xX K r f46 a47 g48 tx) H := hP
          have hD : va_D A (xX K r f46 a47 g48 tx) := hD
          have hI : xI f46 a47 := hw43.1
          have hG : gOK K g48.2 tt := hw43.2.1
          have eE49 : xEk ([704, 705], [], []) f a_42 g f46 a47 g48 := hw43.2.2.1
          have hE : xEk ([16, 704, 705, 2565, 2566, 2786], [11, 81, 94], []) f a g f46 a47 g48 := xEk_tr hE (xEk_w (by decide +kernel) eE49)
          refine lv_aload_n hx hb dX11_terms_60 rfl (lv_at hl 1 rfl) ?_
          refine lv_iload_n hx hb dX11_terms_61 rfl (lv_at hl 0 rfl) ?_
          refine kIG.callW (As := [.int t41]) (rest := []) ⟨hx, hb, hml, hown, hg⟩ (z_agreeChanged l r f46 a47 g48 tx tt hT hI hG t41  ) (cwV 1 hg (kgV wt3_15 wt3_17 wp1_1 wt1_1 wt3_18) rfl rfl rfl (by decide +kernel) ⟨by decide, by decide⟩) hV hK hP hD hS hA (0) 11 rfl rfl rfl hl.1 rfl (Nat.le_of_ble_eq_true rfl) dX11_terms_62 ⟨Nat.le_refl _, Nat.le_refl _⟩ (fun v51 u52 H locs hw50 hP hD hS => ?_)
          obtain ⟨f53, a54, g55⟩ := u52
          have hP : va_P D vwCl (xX K r f53 a54 g55 tx) H := hP
          have hD : va_D A (xX K r f53 a54 g55 tx) := hD
          have hI : xI f53 a54 := hw50.2.1
          have hG : gOK K g55.2 tt := hw50.2.2.1
          have eE56 : xEk ([16, 2565, 2566, 2786], [81], []) f46 a47 g48 f53 a54 g55 := hw50.2.2.2.1
          have hE : xEk ([16, 704, 705, 2565, 2566, 2786], [11, 81, 94], []) f a g f53 a54 g55 := xEk_tr hE (xEk_w (by decide +kernel) eE56)
          refine k_top (z := t41) hw50.2.2.2.2.1 ?_
          exact kI_ret (v := t41) hx hb hr hlocks rfl hK hS dX11_terms_65 (f53, a54, g55) hP hD ⟨(kb_any t41), hI, hG, hE, (Or.inr ⟨(et41.trans (sv_term hVw (tr_nt b24))), ((tr_b b24).mpr ⟨by have w2 := kc_nlt c26; rw [et25] at w2; omega, by have w2 := kc_le c39; rw [et38] at w2; omega⟩), fun w9 => by have w1 := ((kb_eq (et41.trans (sv_term hVw (tr_nt b24))) (tr_kb hkk ((tr_b b24).mpr ⟨by have w2 := kc_nlt c26; rw [et25] at w2; omega, by have w2 := kc_le c39; rw [et38] at w2; omega⟩)))).1; rw [w9] at w1; exact absurd w1 (by decide +kernel)⟩), (Or.inr ⟨(fun w9 => by have w1 := ((kb_eq (et41.trans (sv_term hVw (tr_nt b24))) (tr_kb hkk ((tr_b b24).mpr ⟨by have w2 := kc_nlt c26; rw [et25] at w2; omega, by have w2 := kc_le c39; rw [et38] at w2; omega⟩)))).1; omega), (show sV 32 2 f53 a54 _ from sV_trm hVw (tr_nt b24) (hE.1 32 rfl) (hE.1 38 rfl) (hE.1 44 rfl) (hE.1 49 rfl) (hE.1 50 rfl) ((eE56.2.1 11 rfl).trans ((eE49.2.1 11 rfl).trans (show a_42 11 = upd (a 11) x.toNatClampNeg y from by rw [← ea_42]; rfl))) (fun j hj hn => by rcases (show j = 0 ∨ j = 1 ∨ j = 2 ∨ j = 3 ∨ j = 4 ∨ j = 5 ∨ j = 6 ∨ j = 7 ∨ j = 8 ∨ j = 10 ∨ j = 11 ∨ j = 12 by omega) with e | e | e | e | e | e | e | e | e | e | e | e <;> (subst e; exact hE.2.1 _ rfl))), xP_no ((eE56.1 704 rfl).trans hw43.2.2.2.1) ((eE56.1 705 rfl).trans hw43.2.2.2.2), hw50.2.2.2.2.2, fun R1 hR => by show rfE (a54 94) R1; rw [show a54 94 = a 94 from ((eE56.2.1 94 rfl).trans ((eE49.2.1 94 rfl).trans (show a_42 94 = a 94 from by rw [← ea_42]; rfl)))]; exact hR⟩)⟩
        · have h57 := (kc_nle c39)
          have b58 : kb (-2147483648) t38 2147483646 := kr_lt1 h57 (kb_any t38) (kb_any y) (by decide)
          have b59 : kb (-2147483647) y 2147483647 := kr_lt2 h57 (kb_any t38) (kb_any y) (by decide)
          refine lv_aload_n hx hb dX11_terms_27 rfl (lv_at hl 0 rfl) ?_
          refine lv_iconst (v := (-1)) hx hb dX11_terms_28 (by decide) ?_
          refine kIG.callW (As := [.int (-1)]) (rest := []) ⟨hx, hb, hml, hown, hg⟩ (z_refuse l r f a g tx tt hT hI hG (-1) (kb_w kc_m1 (by decide) (by decide)) (by decide +kernel)) (cwV 1 hg (kgV wt3_7 wt3_9 wp1_0 wt1_1 wt3_10) rfl rfl rfl (by decide +kernel) ⟨by decide, by decide⟩) hV hK hP hD hS hA (0) 11 rfl rfl rfl hl.1 rfl (Nat.le_of_ble_eq_true rfl) dX11_terms_29 ⟨Nat.le_refl _, Nat.le_refl _⟩ (fun v61 u62 H locs hw60 hP hD hS => ?_)
          obtain ⟨f63, a64, g65⟩ := u62
          have hP : va_P D vwCl (xX K r f63 a64 g65 tx) H := hP
          have hD : va_D A (xX K r f63 a64 g65 tx) := hD
          have hI : xI f63 a64 := hw60.2.1
          have hG : gOK K g65.2 tt := hw60.2.2.1
          have eE66 : xEk ([16], [94], []) f a g f63 a64 g65 := hw60.2.2.2.1
          have hE : xEk ([16, 704, 705, 2565, 2566, 2786], [11, 81, 94], []) f a g f63 a64 g65 := xEk_tr hE (xEk_w (by decide +kernel) eE66)
          refine k_top (z := (-1)) hw60.2.2.2.2.1 ?_
          exact kI_ret (v := (-1)) hx hb hr hlocks rfl hK hS dX11_terms_32 (f63, a64, g65) hP hD ⟨(kb_w kc_m1 (by decide) (by decide)), hI, hG, hE, (Or.inl ⟨rfl, fun q => by have w1 := (tr_b b24).mp q; have w2 := kc_nle c39; rw [et38] at w2; omega⟩), (Or.inl ⟨by decide +kernel, sV_E hVw eE66 (by decide +kernel) (by decide +kernel), xP_cg hp0 (eE66.1 704 rfl) (eE66.1 705 rfl) (eE66.2.1 23 rfl), hw60.2.2.2.2.2.1, fun R1 hR => hw60.2.2.2.2.2.2 R1 (by rw [show a 94 = a 94 from rfl]; exact hR)⟩)⟩
