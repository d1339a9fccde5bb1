/-! the class's answers: the status, the refusals -/
def rfE (C R : Nat → Int32) : Prop := C 0 = R 1 ∧ C 1 = R 2 ∧ C 2 = R 3 ∧ C 3 = R 5 ∧ C 4 = R 6
def rIx (x : Int32) (i : Nat) : Prop := (x = -1 ∧ i = 0) ∨ (x = -2 ∧ i = 1) ∨ (x = -3 ∧ i = 2) ∨ (x = -5 ∧ i = 3) ∨ (x = -6 ∧ i = 4)
theorem rIx_v {x : Int32} {i : Nat} (b : kb (-6) x (-1)) (n4 : ¬ x = -4) (n5 : ¬ x = -5) (n6 : ¬ x = -6) (h : (i : Int) = -x.toInt - 1) : rIx x i := by
  have m1 : (-1 : Int32).toInt = -1 := by decide +kernel
  have m2 : (-2 : Int32).toInt = -2 := by decide +kernel
  have m3 : (-3 : Int32).toInt = -3 := by decide +kernel
  have m4 : (-4 : Int32).toInt = -4 := by decide +kernel
  have m5 : (-5 : Int32).toInt = -5 := by decide +kernel
  have m6 : (-6 : Int32).toInt = -6 := by decide +kernel
  have b1 := b.1
  have b2 := b.2
  have c4 : ¬ x.toInt = -4 := fun e => n4 (Int32.toInt_inj.mp (e.trans m4.symm))
  have c5 : ¬ x.toInt = -5 := fun e => n5 (Int32.toInt_inj.mp (e.trans m5.symm))
  have c6 : ¬ x.toInt = -6 := fun e => n6 (Int32.toInt_inj.mp (e.trans m6.symm))
  have c : x.toInt = -1 ∨ x.toInt = -2 ∨ x.toInt = -3 := by omega
  rcases c with c | c | c
  · exact Or.inl ⟨Int32.toInt_inj.mp (c.trans m1.symm), by omega⟩
  · exact Or.inr (Or.inl ⟨Int32.toInt_inj.mp (c.trans m2.symm), by omega⟩)
  · exact Or.inr (Or.inr (Or.inl ⟨Int32.toInt_inj.mp (c.trans m3.symm), by omega⟩))
theorem rf_u {C C' R : Nat → Int32} {x v : Int32} {i : Nat} (hi : rIx x i) (e : C' = upd C i v) (ev : v = C i + 1) (h : rfE C R) : rfE C' (rfS x.toInt R) := by
  obtain ⟨h0, h1, h2, h3, h4⟩ := h
  rw [e, ev]
  unfold rfS
  rcases hi with ⟨hx, hi⟩ | ⟨hx, hi⟩ | ⟨hx, hi⟩ | ⟨hx, hi⟩ | ⟨hx, hi⟩
  · rw [hx, hi, show (-(-1 : Int32).toInt).toNat = 1 from by decide +kernel]
    exact ⟨by rw [pk_us, pk_us, h0], by rw [pk_un (by decide), pk_un (by decide)]; exact h1, by rw [pk_un (by decide), pk_un (by decide)]; exact h2, by rw [pk_un (by decide), pk_un (by decide)]; exact h3, by rw [pk_un (by decide), pk_un (by decide)]; exact h4⟩
  · rw [hx, hi, show (-(-2 : Int32).toInt).toNat = 2 from by decide +kernel]
    exact ⟨by rw [pk_un (by decide), pk_un (by decide)]; exact h0, by rw [pk_us, pk_us, h1], by rw [pk_un (by decide), pk_un (by decide)]; exact h2, by rw [pk_un (by decide), pk_un (by decide)]; exact h3, by rw [pk_un (by decide), pk_un (by decide)]; exact h4⟩
  · rw [hx, hi, show (-(-3 : Int32).toInt).toNat = 3 from by decide +kernel]
    exact ⟨by rw [pk_un (by decide), pk_un (by decide)]; exact h0, by rw [pk_un (by decide), pk_un (by decide)]; exact h1, by rw [pk_us, pk_us, h2], by rw [pk_un (by decide), pk_un (by decide)]; exact h3, by rw [pk_un (by decide), pk_un (by decide)]; exact h4⟩
  · rw [hx, hi, show (-(-5 : Int32).toInt).toNat = 5 from by decide +kernel]
    exact ⟨by rw [pk_un (by decide), pk_un (by decide)]; exact h0, by rw [pk_un (by decide), pk_un (by decide)]; exact h1, by rw [pk_un (by decide), pk_un (by decide)]; exact h2, by rw [pk_us, pk_us, h3], by rw [pk_un (by decide), pk_un (by decide)]; exact h4⟩
  · rw [hx, hi, show (-(-6 : Int32).toInt).toNat = 6 from by decide +kernel]
    exact ⟨by rw [pk_un (by decide), pk_un (by decide)]; exact h0, by rw [pk_un (by decide), pk_un (by decide)]; exact h1, by rw [pk_un (by decide), pk_un (by decide)]; exact h2, by rw [pk_un (by decide), pk_un (by decide)]; exact h3, by rw [pk_us, pk_us, h4]⟩
def xTp (o q : Nat) (v : Int32) (f : Nat → Int32) (a : Nat → Nat → Int32) (C0 : Nat → Int32) (R : dR) (nb : Nat) (b : Bool) : Prop := xDd o q v f a R nb ∧ f 16 = (if b = true then v else 0) ∧ ∀ R1, rfE C0 R1 → rfE (a 94) (if b = true then rfS R.1 R1 else R1)
def dNg (x : Int) : Prop := x = -2 ∨ x = -3 ∨ 0 ≤ x
theorem dN {v : Int32} {x : Int} (h : dNg x) (e : v.toInt = x) (n : v.toInt < 0) : v = -2 ∨ v = -3 := by
  have m2 : (-2 : Int32).toInt = -2 := by decide +kernel
  have m3 : (-3 : Int32).toInt = -3 := by decide +kernel
  rcases h with h | h | h
  · exact Or.inl (Int32.toInt_inj.mp (by omega))
  · exact Or.inr (Int32.toInt_inj.mp (by omega))
  · omega
section DR
variable {DD : Nat → tE} {k : Nat → Int32} {P : pS} {x y : Int32}
theorem sndF_r (hk : kK k) : dNg (sndF DD k P x y).1 := by
  unfold sndF
  split
  · split
    · rename_i h2
      split
      · split
        · exact Or.inr (Or.inl rfl)
        · have b := (okQ_i hk h2).1
          have hb := cl_lt b (n := 10) (by decide)
          exact Or.inr (Or.inr (kK_s hk 0 10 0 99 (by decide) (by decide) hb).1)
      · exact Or.inr (Or.inl rfl)
    · exact Or.inl rfl
  · exact Or.inl rfl
theorem rstF_r (hk : kK k) : dNg (rstF k P x).1 := by
  unfold rstF
  split
  · rename_i h1
    split
    · exact Or.inr (Or.inl rfl)
    · rename_i h2
      have b := (okB_i hk h1).1
      have hb := cl_lt b (n := 6) (by decide)
      have w := (kK_s hk 16 6 (-1) 9 (by decide) (by decide) hb).1
      have m1 : (-1 : Int32).toInt = -1 := by decide +kernel
      have n : ¬ (k (16 + x.toNatClampNeg)).toInt = -1 := fun e => h2 (Int32.toInt_inj.mp (e.trans m1.symm))
      exact Or.inr (Or.inr (by show 0 ≤ (k (16 + x.toNatClampNeg)).toInt; omega))
  · exact Or.inl rfl
theorem thrF_r (hk : kK k) : dNg (thrF k P x).1 := by
  unfold thrF
  split
  · rename_i h1
    split
    · have b := (okQ_i hk h1).1
      have hb := cl_lt b (n := 10) (by decide)
      exact Or.inr (Or.inr (kK_s hk 23 10 0 99 (by decide) (by decide) hb).1)
    · exact Or.inr (Or.inl rfl)
  · exact Or.inl rfl
theorem ticF_n : dNg (ticF DD k P).1 := by
  unfold ticF
  split
  · exact Or.inr (Or.inl rfl)
  · exact Or.inr (Or.inr (Int.natCast_nonneg _))
theorem udF_r (h : ∀ j, j < P.1 → 0 ≤ (P.2.1 j).toInt) : dNg (udF k P).1 := by
  unfold udF
  split
  · exact Or.inr (Or.inl rfl)
  · exact Or.inr (Or.inr (h _ (by omega)))
theorem xTp_i {o q nb : Nat} {v : Int32} {f f1 : Nat → Int32} {a a1 : Nat → Nat → Int32} {C0 : Nat → Int32} {R : dR} (h : xDd o q v f a R nb) (hs : sV o q f a R.2.1 → sV o q f1 a1 R.2.1) (hp : xPs (f 704) (f 705) (a 23) R.2.2 nb → xPs (f1 704) (f1 705) (a1 23) R.2.2 nb) (h16 : f1 16 = (if v.toInt < 0 then v else 0)) (h94 : ∀ R1, rfE C0 R1 → rfE (a1 94) (if v.toInt < 0 then rfS v.toInt R1 else R1)) : xTp o q v f1 a1 C0 R nb (decide (R.1 < 0)) := by
  refine ⟨⟨h.1, hs h.2.1, hp h.2.2⟩, ?_, fun R1 hR => ?_⟩
  · rw [← h.1]
    by_cases c : v.toInt < 0
    · rw [if_pos c] at h16; rw [if_pos (decide_eq_true c)]; exact h16
    · rw [if_neg c] at h16; rw [if_neg (fun z => c (of_decide_eq_true z))]; exact h16
  · have w := h94 R1 hR
    rw [← h.1]
    by_cases c : v.toInt < 0
    · rw [if_pos c] at w; rw [if_pos (decide_eq_true c)]; exact w
    · rw [if_neg c] at w; rw [if_neg (fun z => c (of_decide_eq_true z))]; exact w
end DR
set_option maxHeartbeats 4000000 in
set_option maxRecDepth 100000 in
theorem z_refuse  (l : Launch) {D : va_G} {K : Nat → ClassId} (r : Nat → Nat) (f : Nat → Int32) (a : Nat → Nat → Int32) (g : xG) (tx tt : va_W) (hT : ∀ c ∈ tt, c ∈ tx) (hI : xI f a) (hG : gOK K g.2 tt) (x : Int32) (bx : kb (-6) x (-1))  (hp0 : ¬ x = -4) : kIG l yX11_refuse (Cond.code yX11_refuse cX11_refuse 3 (some .int) :: kG) (rmD 1 0 0) D K [.ref (r 0), .int x] (xX K r f a g tx) (fun v (u : xS) => kb (-6) v (-1) ∧ xI u.1 u.2.1 ∧ gOK K u.2.2.2 tt ∧ xEk ([16], [94], []) f a g u.1 u.2.1 u.2.2 ∧ v = x ∧ u.1 16 = x ∧ (∀ R, rfE (a 94) R → rfE (u.2.1 94) (rfS x.toInt R))) (fun u => xX K r u.1 u.2.1 u.2.2 tx) 0 0 := by
  refine kIE.of (cc := cX11_refuse) (maxL := 3) (ret := (some .int)) (by decide) rfl (Nat.le_of_ble_eq_true rfl) ?_
  intro p e s m below meth c A hx hb hr hml hown hts hlocks hnm hK hP hD hS hA hV ls hl
  have hE : xEk ([16], [94], []) f a g f a g := xEk_rf
  have hg : ∀ w ∈ kG, w.before _ s = true := fun w h => hts w (List.mem_cons_of_mem _ h)
  have hown : s.vm.findClass RX11 = some m.cls := hown
  have hl : lv_has ls 3 [(0, .ref (r 0)), (1, .int x)] := hl
  refine lv_iload_n hx hb dX11_refuse_0 rfl (lv_at hl 1 rfl) ?_
  refine lv_bipush (v := (-5)) hx hb dX11_refuse_1 (by decide) ?_
  refine lv_icmp_ne (tgt := 10) hx hb dX11_refuse_3 (by decide) (fun c1 => ?_) (fun c1 => ?_)
  · refine lv_iload_n hx hb dX11_refuse_10 rfl (lv_at hl 1 rfl) ?_
    refine lv_bipush (v := (-6)) hx hb dX11_refuse_11 (by decide) ?_
    refine lv_icmp_ne (tgt := 20) hx hb dX11_refuse_13 (by decide) (fun c2 => ?_) (fun c2 => ?_)
    · have b3 : kb (-5) x (-1) := kr_nel c2 bx kc_m6 (by decide)
      refine lv_iload_n hx hb dX11_refuse_20 rfl (lv_at hl 1 rfl) ?_
      refine lv_ineg hx hb dX11_refuse_21 ?_
      refine lv_topi (fun t4 et4 => ?_)
      have b5 : kb 1 t4 5 := kb_eq et4 (kb_neg b3 (by decide))
      refine lv_iconst (v := 1) hx hb dX11_refuse_22 (by decide) ?_
      refine lv_isub hx hb dX11_refuse_23 ?_
      refine lv_topi (fun t6 et6 => ?_)
      have b7 : kb 0 t6 4 := kb_eq et6 (kb_sub b5 kc_1 (by decide) (by decide))
      have qt6 : t6.toInt = t4.toInt - 1 := by rw [et6]; exact kt_subc b5 kc_1 (by decide) (by decide)
      refine lv_istore_n (lv' := [(2, .int t6), (0, .ref (r 0)), (1, .int x)]) hx hb dX11_refuse_24 rfl hl (by decide) rfl (fun ls hl => ?_)
      refine lv_iload_n hx hb dX11_refuse_25 rfl (lv_at hl 0 rfl) ?_
      refine lv_if_lt (tgt := 48) hx hb dX11_refuse_26 (by decide) (fun c8 => ?_) (fun c8 => ?_)
      · have h9 := (kc_lt c8)
        exact kb_no (kr_lt1 h9 b7 kc_0 (H := (-1)) (by decide)) (by decide)
      · have h10 := (kc_nlt c8)
        refine lv_iload_n hx hb dX11_refuse_29 rfl (lv_at hl 0 rfl) ?_
        refine lv_aload_n hx hb dX11_refuse_30 rfl (lv_at hl 1 rfl) ?_
        refine va_get (D := D) (ci := 11) (v := .ref (r 94)) (C := RX11) (T := TX11) (N := 17) hx hb hg inC11 hown hK hP 0 rfl rfl 11 (by decide) (hg _ wt2_197) (fun _ h9 => h9) rfl dX11_refuse_31 ?_
        refine va_alen (v := 5) hx hb hK hP 94 0 rfl rfl rfl dX11_refuse_34 ?_
        refine lv_icmp_ge (tgt := 48) hx hb dX11_refuse_35 (by decide) (fun c11 => ?_) (fun c11 => ?_)
        · have h12 := (kc_le c11)
          exact kb_no (kr_le1 h12 kc_5 b7) (by decide)
        · have h13 := (kc_nle c11)
          refine lv_aload_n hx hb dX11_refuse_38 rfl (lv_at hl 1 rfl) ?_
          refine va_get (D := D) (ci := 11) (v := .ref (r 94)) (C := RX11) (T := TX11) (N := 17) hx hb hg inC11 hown hK hP 0 rfl rfl 11 (by decide) (hg _ wt2_197) (fun _ h9 => h9) rfl dX11_refuse_39 ?_
          refine lv_iload_n hx hb dX11_refuse_42 rfl (lv_at hl 0 rfl) ?_
          refine lv_dup2_11 hx hb dX11_refuse_43 rfl rfl ?_
          refine va_iald hx hb hK hP 94 0 rfl rfl (kb_in b7 (by decide) (by decide)) dX11_refuse_44 ?_
          refine lv_topi (fun t14 et14 => ?_)
          refine lv_iconst (v := 1) hx hb dX11_refuse_45 (by decide) ?_
          refine lv_iadd hx hb dX11_refuse_46 ?_
          refine lv_topi (fun t15 et15 => ?_)
          refine va_iast hx hb hK hP hD hS 94 0 rfl rfl (kb_in b7 (by decide) (by decide)) dX11_refuse_47 (fun H locs hP hD hS => ?_)
          have hP : va_P D vwCl (xX K r f (va_up a 94 (upd (a 94) t6.toNatClampNeg t15)) g tx) H := hP
          have hD : va_D A (xX K r f (va_up a 94 (upd (a 94) t6.toNatClampNeg t15)) g tx) := hD
          refine k_gen (P := fun z => va_P D vwCl (xX K r f z g tx) H ∧ va_D A (xX K r f z g tx) ∧ (xI f z) ∧ (gOK K g.2 tt) ∧ (xEk ([16], [94], []) f a g f z g)) (va_up a 94 (upd (a 94) t6.toNatClampNeg t15)) ⟨hP, hD, (xI_a hI (by decide)), hG, (xEk_a hE rfl)⟩ (fun a_16 ea_16 hq => ?_)
          obtain ⟨hP, hD, hI, hG, hE⟩ := hq
          refine lv_aload_n hx hb dX11_refuse_48 rfl (lv_at hl 1 rfl) ?_
          refine lv_iload_n hx hb dX11_refuse_49 rfl (lv_at hl 2 rfl) ?_
          refine va_put (D := D) (ci := 11) (v := .int x) (ty := .int) (C := RX11) (T := TX11) (N := 17) hx hb hg inC11 tyX11 tyX11_ok nmX11 hown hK hP hD hS 0 rfl rfl 16 (by decide) (hg _ wt2_202) (fun _ h9 => h9) rfl (by decide +kernel) rfl rfl (Nat.le_of_ble_eq_true rfl) dX11_refuse_50 (fun H locs hP hD hS => ?_)
          have hP : va_P D vwCl (xX K r (upd f 16 x) a_16 g tx) H := hP
          have hD : va_D A (xX K r (upd f 16 x) a_16 g tx) := hD
          refine k_gen (P := fun z => va_P D vwCl (xX K r z a_16 g tx) H ∧ va_D A (xX K r z a_16 g tx) ∧ (xI z a_16) ∧ (gOK K g.2 tt) ∧ (xEk ([16], [94], []) f a g z a_16 g)) (upd f 16 x) ⟨hP, hD, (xI_f hI (fI_st hI.1 16 (kb_any _) (by decide) (by decide))), hG, (xEk_f hE rfl)⟩ (fun f_17 ef_17 hq => ?_)
          obtain ⟨hP, hD, hI, hG, hE⟩ := hq
          refine lv_iload_n hx hb dX11_refuse_53 rfl (lv_at hl 2 rfl) ?_
          exact kI_ret (v := x) hx hb hr hlocks rfl hK hS dX11_refuse_54 (f_17, a_16, g) hP hD ⟨(kb_w b3 (by decide) (by decide)), hI, hG, hE, rfl, (show f_17 16 = x from by rw [← ef_17]; rfl), (fun R hR => rf_u (rIx_v bx hp0 c1 c2 (by have w7 := kt_neg bx (by decide); have w8 := congrArg Int32.toInt et4; have wt6 := qt6; have w9 := bx.2; unfold Int32.toNatClampNeg; omega)) (show a_16 94 = upd (a 94) t6.toNatClampNeg t15 from by rw [← ea_16]; rfl) (et15.trans (by rw [et14])) hR)⟩
    · have b18 : kb (-6) x (-6) := kb_eq c2 kc_m6
      refine lv_iconst (v := 4) hx hb dX11_refuse_16 (by decide) ?_
      refine lv_goto (tgt := 24) hx hb dX11_refuse_17 (by decide) ?_
      refine lv_istore_n (lv' := [(2, .int 4), (0, .ref (r 0)), (1, .int x)]) hx hb dX11_refuse_24 rfl hl (by decide) rfl (fun ls hl => ?_)
      refine lv_iload_n hx hb dX11_refuse_25 rfl (lv_at hl 0 rfl) ?_
      refine lv_if_lt (tgt := 48) hx hb dX11_refuse_26 (by decide) (fun c19 => ?_) (fun c19 => ?_)
      · have h20 := (kc_lt c19)
        exact kb_no (kr_lt1 h20 kc_4 kc_0 (H := (-1)) (by decide)) (by decide)
      · have h21 := (kc_nlt c19)
        refine lv_iload_n hx hb dX11_refuse_29 rfl (lv_at hl 0 rfl) ?_
        refine lv_aload_n hx hb dX11_refuse_30 rfl (lv_at hl 1 rfl) ?_
        refine va_get (D := D) (ci := 11) (v := .ref (r 94)) (C := RX11) (T := TX11) (N := 17) hx hb hg inC11 hown hK hP 0 rfl rfl 11 (by decide) (hg _ wt2_197) (fun _ h9 => h9) rfl dX11_refuse_31 ?_
        refine va_alen (v := 5) hx hb hK hP 94 0 rfl rfl rfl dX11_refuse_34 ?_
        refine lv_icmp_ge (tgt := 48) hx hb dX11_refuse_35 (by decide) (fun c22 => ?_) (fun c22 => ?_)
        · have h23 := (kc_le c22)
          exact kb_no (kr_le1 h23 kc_5 kc_4) (by decide)
        · have h24 := (kc_nle c22)
          refine lv_aload_n hx hb dX11_refuse_38 rfl (lv_at hl 1 rfl) ?_
          refine va_get (D := D) (ci := 11) (v := .ref (r 94)) (C := RX11) (T := TX11) (N := 17) hx hb hg inC11 hown hK hP 0 rfl rfl 11 (by decide) (hg _ wt2_197) (fun _ h9 => h9) rfl dX11_refuse_39 ?_
          refine lv_iload_n hx hb dX11_refuse_42 rfl (lv_at hl 0 rfl) ?_
          refine lv_dup2_11 hx hb dX11_refuse_43 rfl rfl ?_
          refine va_iald hx hb hK hP 94 0 rfl rfl (kb_in kc_4 (by decide) (by decide)) dX11_refuse_44 ?_
          refine lv_topi (fun t25 et25 => ?_)
          rw [cl_4] at et25
          refine lv_iconst (v := 1) hx hb dX11_refuse_45 (by decide) ?_
          refine lv_iadd hx hb dX11_refuse_46 ?_
          refine lv_topi (fun t26 et26 => ?_)
          refine va_iast hx hb hK hP hD hS 94 0 rfl rfl (kb_in kc_4 (by decide) (by decide)) dX11_refuse_47 (fun H locs hP hD hS => ?_)
          rw [cl_4] at hP hD
          have hP : va_P D vwCl (xX K r f (va_up a 94 (upd (a 94) 4 t26)) g tx) H := hP
          have hD : va_D A (xX K r f (va_up a 94 (upd (a 94) 4 t26)) g tx) := hD
          refine k_gen (P := fun z => va_P D vwCl (xX K r f z g tx) H ∧ va_D A (xX K r f z g tx) ∧ (xI f z) ∧ (gOK K g.2 tt) ∧ (xEk ([16], [94], []) f a g f z g)) (va_up a 94 (upd (a 94) 4 t26)) ⟨hP, hD, (xI_a hI (by decide)), hG, (xEk_a hE rfl)⟩ (fun a_27 ea_27 hq => ?_)
          obtain ⟨hP, hD, hI, hG, hE⟩ := hq
          refine lv_aload_n hx hb dX11_refuse_48 rfl (lv_at hl 1 rfl) ?_
          refine lv_iload_n hx hb dX11_refuse_49 rfl (lv_at hl 2 rfl) ?_
          refine va_put (D := D) (ci := 11) (v := .int x) (ty := .int) (C := RX11) (T := TX11) (N := 17) hx hb hg inC11 tyX11 tyX11_ok nmX11 hown hK hP hD hS 0 rfl rfl 16 (by decide) (hg _ wt2_202) (fun _ h9 => h9) rfl (by decide +kernel) rfl rfl (Nat.le_of_ble_eq_true rfl) dX11_refuse_50 (fun H locs hP hD hS => ?_)
          have hP : va_P D vwCl (xX K r (upd f 16 x) a_27 g tx) H := hP
          have hD : va_D A (xX K r (upd f 16 x) a_27 g tx) := hD
          refine k_gen (P := fun z => va_P D vwCl (xX K r z a_27 g tx) H ∧ va_D A (xX K r z a_27 g tx) ∧ (xI z a_27) ∧ (gOK K g.2 tt) ∧ (xEk ([16], [94], []) f a g z a_27 g)) (upd f 16 x) ⟨hP, hD, (xI_f hI (fI_st hI.1 16 (kb_any _) (by decide) (by decide))), hG, (xEk_f hE rfl)⟩ (fun f_28 ef_28 hq => ?_)
          obtain ⟨hP, hD, hI, hG, hE⟩ := hq
          refine lv_iload_n hx hb dX11_refuse_53 rfl (lv_at hl 2 rfl) ?_
          exact kI_ret (v := x) hx hb hr hlocks rfl hK hS dX11_refuse_54 (f_28, a_27, g) hP hD ⟨(kb_w b18 (by decide) (by decide)), hI, hG, hE, rfl, (show f_28 16 = x from by rw [← ef_28]; rfl), (fun R hR => rf_u (Or.inr (Or.inr (Or.inr (Or.inr ⟨c2, rfl⟩)))) (show a_27 94 = upd (a 94) 4 t26 from by rw [← ea_27]; rfl) (et26.trans (by rw [et25])) hR)⟩
  · have b29 : kb (-5) x (-5) := kb_eq c1 kc_m5
    refine lv_iconst (v := 3) hx hb dX11_refuse_6 (by decide) ?_
    refine lv_goto (tgt := 24) hx hb dX11_refuse_7 (by decide) ?_
    refine lv_istore_n (lv' := [(2, .int 3), (0, .ref (r 0)), (1, .int x)]) hx hb dX11_refuse_24 rfl hl (by decide) rfl (fun ls hl => ?_)
    refine lv_iload_n hx hb dX11_refuse_25 rfl (lv_at hl 0 rfl) ?_
    refine lv_if_lt (tgt := 48) hx hb dX11_refuse_26 (by decide) (fun c30 => ?_) (fun c30 => ?_)
    · have h31 := (kc_lt c30)
      exact kb_no (kr_lt1 h31 kc_3 kc_0 (H := (-1)) (by decide)) (by decide)
    · have h32 := (kc_nlt c30)
      refine lv_iload_n hx hb dX11_refuse_29 rfl (lv_at hl 0 rfl) ?_
      refine lv_aload_n hx hb dX11_refuse_30 rfl (lv_at hl 1 rfl) ?_
      refine va_get (D := D) (ci := 11) (v := .ref (r 94)) (C := RX11) (T := TX11) (N := 17) hx hb hg inC11 hown hK hP 0 rfl rfl 11 (by decide) (hg _ wt2_197) (fun _ h9 => h9) rfl dX11_refuse_31 ?_
      refine va_alen (v := 5) hx hb hK hP 94 0 rfl rfl rfl dX11_refuse_34 ?_
      refine lv_icmp_ge (tgt := 48) hx hb dX11_refuse_35 (by decide) (fun c33 => ?_) (fun c33 => ?_)
      · have h34 := (kc_le c33)
        exact kb_no (kr_le1 h34 kc_5 kc_3) (by decide)
      · have h35 := (kc_nle c33)
        refine lv_aload_n hx hb dX11_refuse_38 rfl (lv_at hl 1 rfl) ?_
        refine va_get (D := D) (ci := 11) (v := .ref (r 94)) (C := RX11) (T := TX11) (N := 17) hx hb hg inC11 hown hK hP 0 rfl rfl 11 (by decide) (hg _ wt2_197) (fun _ h9 => h9) rfl dX11_refuse_39 ?_
        refine lv_iload_n hx hb dX11_refuse_42 rfl (lv_at hl 0 rfl) ?_
        refine lv_dup2_11 hx hb dX11_refuse_43 rfl rfl ?_
        refine va_iald hx hb hK hP 94 0 rfl rfl (kb_in kc_3 (by decide) (by decide)) dX11_refuse_44 ?_
        refine lv_topi (fun t36 et36 => ?_)
        rw [cl_3] at et36
        refine lv_iconst (v := 1) hx hb dX11_refuse_45 (by decide) ?_
        refine lv_iadd hx hb dX11_refuse_46 ?_
        refine lv_topi (fun t37 et37 => ?_)
        refine va_iast hx hb hK hP hD hS 94 0 rfl rfl (kb_in kc_3 (by decide) (by decide)) dX11_refuse_47 (fun H locs hP hD hS => ?_)
        rw [cl_3] at hP hD
        have hP : va_P D vwCl (xX K r f (va_up a 94 (upd (a 94) 3 t37)) g tx) H := hP
        have hD : va_D A (xX K r f (va_up a 94 (upd (a 94) 3 t37)) g tx) := hD
        refine k_gen (P := fun z => va_P D vwCl (xX K r f z g tx) H ∧ va_D A (xX K r f z g tx) ∧ (xI f z) ∧ (gOK K g.2 tt) ∧ (xEk ([16], [94], []) f a g f z g)) (va_up a 94 (upd (a 94) 3 t37)) ⟨hP, hD, (xI_a hI (by decide)), hG, (xEk_a hE rfl)⟩ (fun a_38 ea_38 hq => ?_)
        obtain ⟨hP, hD, hI, hG, hE⟩ := hq
        refine lv_aload_n hx hb dX11_refuse_48 rfl (lv_at hl 1 rfl) ?_
        refine lv_iload_n hx hb dX11_refuse_49 rfl (lv_at hl 2 rfl) ?_
        refine va_put (D := D) (ci := 11) (v := .int x) (ty := .int) (C := RX11) (T := TX11) (N := 17) hx hb hg inC11 tyX11 tyX11_ok nmX11 hown hK hP hD hS 0 rfl rfl 16 (by decide) (hg _ wt2_202) (fun _ h9 => h9) rfl (by decide +kernel) rfl rfl (Nat.le_of_ble_eq_true rfl) dX11_refuse_50 (fun H locs hP hD hS => ?_)
        have hP : va_P D vwCl (xX K r (upd f 16 x) a_38 g tx) H := hP
        have hD : va_D A (xX K r (upd f 16 x) a_38 g tx) := hD
        refine k_gen (P := fun z => va_P D vwCl (xX K r z a_38 g tx) H ∧ va_D A (xX K r z a_38 g tx) ∧ (xI z a_38) ∧ (gOK K g.2 tt) ∧ (xEk ([16], [94], []) f a g z a_38 g)) (upd f 16 x) ⟨hP, hD, (xI_f hI (fI_st hI.1 16 (kb_any _) (by decide) (by decide))), hG, (xEk_f hE rfl)⟩ (fun f_39 ef_39 hq => ?_)
        obtain ⟨hP, hD, hI, hG, hE⟩ := hq
        refine lv_iload_n hx hb dX11_refuse_53 rfl (lv_at hl 2 rfl) ?_
        exact kI_ret (v := x) hx hb hr hlocks rfl hK hS dX11_refuse_54 (f_39, a_38, g) hP hD ⟨(kb_w b29 (by decide) (by decide)), hI, hG, hE, rfl, (show f_39 16 = x from by rw [← ef_39]; rfl), (fun R hR => rf_u (Or.inr (Or.inr (Or.inr (Or.inl ⟨c1, rfl⟩)))) (show a_38 94 = upd (a 94) 3 t37 from by rw [← ea_38]; rfl) (et37.trans (by rw [et36])) hR)⟩
set_option maxHeartbeats 4000000 in
set_option maxRecDepth 100000 in
theorem z_agree  (l : Launch) {D : va_G} {K : Nat → ClassId} (r : Nat → Nat) (f : Nat → Int32) (a : Nat → Nat → Int32) (g : xG) (tx tt : va_W) (hT : ∀ c ∈ tt, c ∈ tx) (hI : xI f a) (hG : gOK K g.2 tt) (x : Int32)    : kIG l yX11_agree (Cond.code yX11_agree cX11_agree 2 (some .int) :: kG) (rmD 1 0 0) D K [.ref (r 0), .int x] (xX K r f a g tx) (fun v (u : xS) => kb (-2147483648) v 2147483647 ∧ xI u.1 u.2.1 ∧ gOK K u.2.2.2 tt ∧ xEk ([16], [], []) f a g u.1 u.2.1 u.2.2 ∧ v = x ∧ u.1 16 = 0) (fun u => xX K r u.1 u.2.1 u.2.2 tx) 0 0 := by
  refine kIE.of (cc := cX11_agree) (maxL := 2) (ret := (some .int)) (by decide) rfl (Nat.le_of_ble_eq_true rfl) ?_
  intro p e s m below meth c A hx hb hr hml hown hts hlocks hnm hK hP hD hS hA hV ls hl
  have hE : xEk ([16], [], []) f a g f a g := xEk_rf
  have hg : ∀ w ∈ kG, w.before _ s = true := fun w h => hts w (List.mem_cons_of_mem _ h)
  have hown : s.vm.findClass RX11 = some m.cls := hown
  have hl : lv_has ls 2 [(0, .ref (r 0)), (1, .int x)] := hl
  refine lv_aload_n hx hb dX11_agree_0 rfl (lv_at hl 0 rfl) ?_
  refine lv_iconst (v := 0) hx hb dX11_agree_1 (by decide) ?_
  refine va_put (D := D) (ci := 11) (v := .int 0) (ty := .int) (C := RX11) (T := TX11) (N := 17) hx hb hg inC11 tyX11 tyX11_ok nmX11 hown hK hP hD hS 0 rfl rfl 16 (by decide) (hg _ wt2_202) (fun _ h9 => h9) rfl (by decide +kernel) rfl rfl (Nat.le_of_ble_eq_true rfl) dX11_agree_2 (fun H locs hP hD hS => ?_)
  have hP : va_P D vwCl (xX K r (upd f 16 0) a g tx) H := hP
  have hD : va_D A (xX K r (upd f 16 0) a g tx) := hD
  refine k_gen (P := fun z => va_P D vwCl (xX K r z a g tx) H ∧ va_D A (xX K r z a g tx) ∧ (xI z a) ∧ (gOK K g.2 tt) ∧ (xEk ([16], [], []) f a g z a g)) (upd f 16 0) ⟨hP, hD, (xI_f hI (fI_st hI.1 16 (kb_any _) (by decide) (by decide))), hG, (xEk_f hE rfl)⟩ (fun f_1 ef_1 hq => ?_)
  obtain ⟨hP, hD, hI, hG, hE⟩ := hq
  refine lv_iload_n hx hb dX11_agree_5 rfl (lv_at hl 1 rfl) ?_
  exact kI_ret (v := x) hx hb hr hlocks rfl hK hS dX11_agree_6 (f_1, a, g) hP hD ⟨(kb_any x), hI, hG, hE, rfl, (show f_1 16 = 0 from by rw [← ef_1]; rfl)⟩
set_option maxHeartbeats 4000000 in
set_option maxRecDepth 100000 in
theorem z_agreeChanged  (l : Launch) {D : va_G} {K : Nat → ClassId} (r : Nat → Nat) (f : Nat → Int32) (a : Nat → Nat → Int32) (g : xG) (tx tt : va_W) (hT : ∀ c ∈ tt, c ∈ tx) (hI : xI f a) (hG : gOK K g.2 tt) (x : Int32)    : kIG l yX11_agreeChanged (Cond.code yX11_agreeChanged cX11_agreeChanged 2 (some .int) :: kG) (rmD 2 0 0) D K [.ref (r 0), .int x] (xX K r f a g tx) (fun v (u : xS) => kb (-2147483648) v 2147483647 ∧ xI u.1 u.2.1 ∧ gOK K u.2.2.2 tt ∧ xEk ([16, 2565, 2566, 2786], [81], []) f a g u.1 u.2.1 u.2.2 ∧ v = x ∧ u.1 16 = 0) (fun u => xX K r u.1 u.2.1 u.2.2 tx) 0 0 := by
  refine kIE.of (cc := cX11_agreeChanged) (maxL := 2) (ret := (some .int)) (by decide) rfl (Nat.le_of_ble_eq_true rfl) ?_
  intro p e s m below meth c A hx hb hr hml hown hts hlocks hnm hK hP hD hS hA hV ls hl
  have hE : xEk ([16, 2565, 2566, 2786], [81], []) f a g f a g := xEk_rf
  have hg : ∀ w ∈ kG, w.before _ s = true := fun w h => hts w (List.mem_cons_of_mem _ h)
  have hown : s.vm.findClass RX11 = some m.cls := hown
  have hl : lv_has ls 2 [(0, .ref (r 0)), (1, .int x)] := hl
  refine lv_aload_n hx hb dX11_agreeChanged_0 rfl (lv_at hl 0 rfl) ?_
  refine va_get (D := D) (ci := 11) (v := .ref (r 80)) (C := RX11) (T := TX11) (N := 17) hx hb hg inC11 hown hK hP 0 rfl rfl 6 (by decide) (hg _ wt2_192) (fun _ h9 => h9) rfl dX11_agreeChanged_1 ?_
  refine kVG.callW (As := []) (rest := []) ⟨hx, hb, hml, hown, hg⟩ (x_9_clear l r f a g tx tt hT hI hG   ) (cwV 0 hg (kgV wt3_19 wt3_20 wt3_21 wt1_11 wt3_22) rfl rfl rfl (by decide +kernel) ⟨by decide, by decide⟩) hV hK hP hD hS hA (80) 9 rfl rfl rfl hl.1 rfl (Nat.le_of_ble_eq_true rfl) dX11_agreeChanged_4 ⟨Nat.le_refl _, Nat.le_refl _⟩ (fun u3 H locs hw1 hP hD hS => ?_)
  obtain ⟨f4, a5, g6⟩ := u3
  have hP : va_P D vwCl (xX K r f4 a5 g6 tx) H := hP
  have hD : va_D A (xX K r f4 a5 g6 tx) := hD
  have hI : xI f4 a5 := hw1.1
  have hG : gOK K g6.2 tt := hw1.2.1
  have eE7 : xEk ([2565, 2566], [81], []) f a g f4 a5 g6 := hw1.2.2
  have hE : xEk ([16, 2565, 2566, 2786], [81], []) f a g f4 a5 g6 := xEk_tr hE (xEk_w (by decide +kernel) eE7)
  refine lv_aload_n hx hb dX11_agreeChanged_7 rfl (lv_at hl 0 rfl) ?_
  refine va_get (D := D) (ci := 11) (v := .ref (r 87)) (C := RX11) (T := TX11) (N := 17) hx hb hg inC11 hown hK hP 0 rfl rfl 7 (by decide) (hg _ wt2_193) (fun _ h9 => h9) rfl dX11_agreeChanged_8 ?_
  refine kVG.callW (As := []) (rest := []) ⟨hx, hb, hml, hown, hg⟩ (x_6_clear l r f4 a5 g6 tx tt hT hI hG   ) (cwV 0 hg (kgV wt3_23 wt3_24 wt3_25 wt1_12 wt3_26) rfl rfl rfl (by decide +kernel) ⟨by decide, by decide⟩) hV hK hP hD hS hA (87) 6 rfl rfl rfl hl.1 rfl (Nat.le_of_ble_eq_true rfl) dX11_agreeChanged_11 ⟨Nat.le_refl _, Nat.le_refl _⟩ (fun u10 H locs hw8 hP hD hS => ?_)
  obtain ⟨f11, a12, g13⟩ := u10
  have hP : va_P D vwCl (xX K r f11 a12 g13 tx) H := hP
  have hD : va_D A (xX K r f11 a12 g13 tx) := hD
  have hI : xI f11 a12 := hw8.1
  have hG : gOK K g13.2 tt := hw8.2.1
  have eE14 : xEk ([2786], [], []) f4 a5 g6 f11 a12 g13 := hw8.2.2
  have hE : xEk ([16, 2565, 2566, 2786], [81], []) f a g f11 a12 g13 := xEk_tr hE (xEk_w (by decide +kernel) eE14)
  refine lv_aload_n hx hb dX11_agreeChanged_14 rfl (lv_at hl 0 rfl) ?_
  refine lv_iload_n hx hb dX11_agreeChanged_15 rfl (lv_at hl 1 rfl) ?_
  refine kIG.callW (As := [.int x]) (rest := []) ⟨hx, hb, hml, hown, hg⟩ (z_agree l r f11 a12 g13 tx tt hT hI hG x  ) (cwV 1 hg (kgV wt3_27 wt3_29 wp1_2 wt1_1 wt3_30) rfl rfl rfl (by decide +kernel) ⟨by decide, by decide⟩) hV hK hP hD hS hA (0) 11 rfl rfl rfl hl.1 rfl (Nat.le_of_ble_eq_true rfl) dX11_agreeChanged_16 ⟨Nat.le_refl _, Nat.le_refl _⟩ (fun v16 u17 H locs hw15 hP hD hS => ?_)
  obtain ⟨f18, a19, g20⟩ := u17
  have hP : va_P D vwCl (xX K r f18 a19 g20 tx) H := hP
  have hD : va_D A (xX K r f18 a19 g20 tx) := hD
  have hI : xI f18 a19 := hw15.2.1
  have hG : gOK K g20.2 tt := hw15.2.2.1
  have eE21 : xEk ([16], [], []) f11 a12 g13 f18 a19 g20 := hw15.2.2.2.1
  have hE : xEk ([16, 2565, 2566, 2786], [81], []) f a g f18 a19 g20 := xEk_tr hE (xEk_w (by decide +kernel) eE21)
  refine k_top (z := x) hw15.2.2.2.2.1 ?_
  exact kI_ret (v := x) hx hb hr hlocks rfl hK hS dX11_agreeChanged_19 (f18, a19, g20) hP hD ⟨(kb_any x), hI, hG, hE, rfl, hw15.2.2.2.2.2⟩
set_option maxHeartbeats 4000000 in
set_option maxRecDepth 100000 in
theorem z_settle  (l : Launch) {D : va_G} {K : Nat → ClassId} (r : Nat → Nat) (f : Nat → Int32) (a : Nat → Nat → Int32) (g : xG) (tx tt : va_W) (hT : ∀ c ∈ tt, c ∈ tx) (hI : xI f a) (hG : gOK K g.2 tt) (x : Int32)   (hp0 : x.toInt < 0 → x = -2 ∨ x = -3) : kIG l yX11_settle (Cond.code yX11_settle cX11_settle 2 (some .int) :: kG) (rmD 3 0 0) D K [.ref (r 0), .int x] (xX K r f a g tx) (fun v (u : xS) => kb (-2147483648) v 2147483647 ∧ xI u.1 u.2.1 ∧ gOK K u.2.2.2 tt ∧ xEk ([16, 2565, 2566, 2786], [81, 94], []) f a g u.1 u.2.1 u.2.2 ∧ v = x ∧ u.1 16 = (if x.toInt < 0 then x else 0) ∧ (∀ R, rfE (a 94) R → rfE (u.2.1 94) (if x.toInt < 0 then rfS x.toInt R else R))) (fun u => xX K r u.1 u.2.1 u.2.2 tx) 0 0 := by
  refine kIE.of (cc := cX11_settle) (maxL := 2) (ret := (some .int)) (by decide) rfl (Nat.le_of_ble_eq_true rfl) ?_
  intro p e s m below meth c A hx hb hr hml hown hts hlocks hnm hK hP hD hS hA hV ls hl
  have hE : xEk ([16, 2565, 2566, 2786], [81, 94], []) f a g f a g := xEk_rf
  have hg : ∀ w ∈ kG, w.before _ s = true := fun w h => hts w (List.mem_cons_of_mem _ h)
  have hown : s.vm.findClass RX11 = some m.cls := hown
  have hl : lv_has ls 2 [(0, .ref (r 0)), (1, .int x)] := hl
  refine lv_iload_n hx hb dX11_settle_0 rfl (lv_at hl 1 rfl) ?_
  refine lv_if_ge (tgt := 12) hx hb dX11_settle_1 (by decide) (fun c1 => ?_) (fun c1 => ?_)
  · have h2 := (kc_le c1)
    have b3 : kb 0 x 2147483647 := kr_le2 h2 kc_0 (kb_any x)
    refine lv_aload_n hx hb dX11_settle_12 rfl (lv_at hl 0 rfl) ?_
    refine lv_iload_n hx hb dX11_settle_13 rfl (lv_at hl 1 rfl) ?_
    refine kIG.callW (As := [.int x]) (rest := []) ⟨hx, hb, hml, hown, hg⟩ (z_agreeChanged l r f a g tx tt hT hI hG x  ) (cwV 1 hg (kgV wt3_15 wt3_17 wp1_1 wt1_1 wt3_18) rfl rfl rfl (by decide +kernel) ⟨by decide, by decide⟩) hV hK hP hD hS hA (0) 11 rfl rfl rfl hl.1 rfl (Nat.le_of_ble_eq_true rfl) dX11_settle_14 ⟨Nat.le_refl _, Nat.le_refl _⟩ (fun v5 u6 H locs hw4 hP hD hS => ?_)
    obtain ⟨f7, a8, g9⟩ := u6
    have hP : va_P D vwCl (xX K r f7 a8 g9 tx) H := hP
    have hD : va_D A (xX K r f7 a8 g9 tx) := hD
    have hI : xI f7 a8 := hw4.2.1
    have hG : gOK K g9.2 tt := hw4.2.2.1
    have eE10 : xEk ([16, 2565, 2566, 2786], [81], []) f a g f7 a8 g9 := hw4.2.2.2.1
    have hE : xEk ([16, 2565, 2566, 2786], [81, 94], []) f a g f7 a8 g9 := xEk_tr hE (xEk_w (by decide +kernel) eE10)
    refine k_top (z := x) hw4.2.2.2.2.1 ?_
    exact kI_ret (v := x) hx hb hr hlocks rfl hK hS dX11_settle_17 (f7, a8, g9) hP hD ⟨(kb_w b3 (by decide) (by decide)), hI, hG, hE, rfl, (by rw [if_neg (by have w3 : (0 : Int32).toInt = 0 := (by decide +kernel); have w2 := kc_le c1; omega)]; exact hw4.2.2.2.2.2), (fun R hR => (by rw [if_neg (by have w3 : (0 : Int32).toInt = 0 := (by decide +kernel); have w2 := kc_le c1; omega)]; exact (show rfE (a8 94) R from by rw [show a8 94 = a 94 from (eE10.2.1 94 rfl)]; exact hR)))⟩
  · have h11 := (kc_nle c1)
    have b12 : kb (-2147483648) x (-1) := kr_lt1 h11 (kb_any x) kc_0 (by decide)
    have b13 : kb (-6) x (-1) := (by rcases hp0 (by have w3 : (0 : Int32).toInt = 0 := (by decide +kernel); have w2 := kc_nle c1; omega) with h9 | h9 <;> (rw [h9]; exact ⟨by decide +kernel, by decide +kernel⟩))
    refine lv_aload_n hx hb dX11_settle_4 rfl (lv_at hl 0 rfl) ?_
    refine lv_iload_n hx hb dX11_settle_5 rfl (lv_at hl 1 rfl) ?_
    refine kIG.callW (As := [.int x]) (rest := []) ⟨hx, hb, hml, hown, hg⟩ (z_refuse l r f a g tx tt hT hI hG x b13 (fun e => by rcases hp0 (by have w3 : (0 : Int32).toInt = 0 := (by decide +kernel); have w2 := kc_nle c1; omega) with h9 | h9 <;> exact absurd (h9.symm.trans e) (by decide +kernel))) (cwV 1 hg (kgV wt3_7 wt3_9 wp1_0 wt1_1 wt3_10) rfl rfl rfl (by decide +kernel) ⟨by decide, by decide⟩) hV hK hP hD hS hA (0) 11 rfl rfl rfl hl.1 rfl (Nat.le_of_ble_eq_true rfl) dX11_settle_6 ⟨Nat.le_refl _, Nat.le_refl _⟩ (fun v15 u16 H locs hw14 hP hD hS => ?_)
    obtain ⟨f17, a18, g19⟩ := u16
    have hP : va_P D vwCl (xX K r f17 a18 g19 tx) H := hP
    have hD : va_D A (xX K r f17 a18 g19 tx) := hD
    have hI : xI f17 a18 := hw14.2.1
    have hG : gOK K g19.2 tt := hw14.2.2.1
    have eE20 : xEk ([16], [94], []) f a g f17 a18 g19 := hw14.2.2.2.1
    have hE : xEk ([16, 2565, 2566, 2786], [81, 94], []) f a g f17 a18 g19 := xEk_tr hE (xEk_w (by decide +kernel) eE20)
    refine k_top (z := x) hw14.2.2.2.2.1 ?_
    refine lv_goto (tgt := 17) hx hb dX11_settle_9 (by decide) ?_
    exact kI_ret (v := x) hx hb hr hlocks rfl hK hS dX11_settle_17 (f17, a18, g19) hP hD ⟨(kb_w b13 (by decide) (by decide)), hI, hG, hE, rfl, (by rw [if_pos (by have w3 : (0 : Int32).toInt = 0 := (by decide +kernel); have w2 := kc_nle c1; omega)]; exact hw14.2.2.2.2.2.1), (fun R hR => (by rw [if_pos (by have w3 : (0 : Int32).toInt = 0 := (by decide +kernel); have w2 := kc_nle c1; omega)]; exact hw14.2.2.2.2.2.2 R hR))⟩
set_option maxHeartbeats 4000000 in
set_option maxRecDepth 100000 in
theorem z_send  (l : Launch) {D : va_G} {K : Nat → ClassId} (r : Nat → Nat) (f : Nat → Int32) (a : Nat → Nat → Int32) (g : xG) (tx tt : va_W) (hT : ∀ c ∈ tt, c ∈ tx) (hI : xI f a) (hG : gOK K g.2 tt) (x : Int32) (y : Int32)  (k : Nat → Int32) (hVw : sV 32 2 f a k) (hkk : kK k) (DD : Nat → tE) (hL : lC K tt (g.2 15) k DD) (P : pS) (hp0 : xPs (f 704) (f 705) (a 23) P (kBn k)) : kIG l yX11_send (Cond.code yX11_send cX11_send 3 (some .int) :: kG) (rmD 5 0 0) D K [.ref (r 0), .int x, .int y] (xX K r f a g tx) (fun v (u : xS) => kb (-2147483648) v 2147483647 ∧ xI u.1 u.2.1 ∧ gOK K u.2.2.2 tt ∧ xEk ([16, 704, 705, 2565, 2566, 2786], [10, 23, 81, 94], []) f a g u.1 u.2.1 u.2.2 ∧ xTp 32 2 v u.1 u.2.1 (a 94) (sndF DD k P x y) (kBn k) (decide ((sndF DD k P x y).1 < 0))) (fun u => xX K r u.1 u.2.1 u.2.2 tx) 0 0 := by
  refine kIE.of (cc := cX11_send) (maxL := 3) (ret := (some .int)) (by decide) rfl (Nat.le_of_ble_eq_true rfl) ?_
  intro p e s m below meth c A hx hb hr hml hown hts hlocks hnm hK hP hD hS hA hV ls hl
  have hE : xEk ([16, 704, 705, 2565, 2566, 2786], [10, 23, 81, 94], []) f a g f a g := xEk_rf
  have hg : ∀ w ∈ kG, w.before _ s = true := fun w h => hts w (List.mem_cons_of_mem _ h)
  have hown : s.vm.findClass RX11 = some m.cls := hown
  have hl : lv_has ls 3 [(0, .ref (r 0)), (1, .int x), (2, .int y)] := hl
  refine lv_aload_n hx hb dX11_send_0 rfl (lv_at hl 0 rfl) ?_
  refine lv_aload_n hx hb dX11_send_1 rfl (lv_at hl 0 rfl) ?_
  refine va_get (D := D) (ci := 11) (v := .ref (r 24)) (C := RX11) (T := TX11) (N := 17) hx hb hg inC11 hown hK hP 0 rfl rfl 2 (by decide) (hg _ wt2_188) (fun _ h9 => h9) rfl dX11_send_2 ?_
  refine lv_iload_n hx hb dX11_send_5 rfl (lv_at hl 1 rfl) ?_
  refine lv_iload_n hx hb dX11_send_6 rfl (lv_at hl 2 rfl) ?_
  refine kIG.callW (As := [.int x, .int y]) (rest := [.ref (r 0)]) ⟨hx, hb, hml, hown, hg⟩ (z_sendBuilder l r f a g tx tt hT hI hG x y  k hVw hkk DD hL P hp0) (cwV 2 hg (kgV wt4_169 wt4_110 wt4_111 wt1_5 wt4_112) rfl rfl rfl (by decide +kernel) ⟨by decide, by decide⟩) hV hK hP hD hS hA (24) 0 rfl rfl rfl hl.1 rfl (Nat.le_of_ble_eq_true rfl) dX11_send_7 ⟨Nat.le_refl _, Nat.le_refl _⟩ (fun v2 u3 H locs hw1 hP hD hS => ?_)
  obtain ⟨f4, a5, g6⟩ := u3
  have hP : va_P D vwCl (xX K r f4 a5 g6 tx) H := hP
  have hD : va_D A (xX K r f4 a5 g6 tx) := hD
  have hI : xI f4 a5 := hw1.2.1
  have hG : gOK K g6.2 tt := hw1.2.2.1
  have eE7 : xEk ([704, 705], [10, 23], []) f a g f4 a5 g6 := hw1.2.2.2.1
  have hE : xEk ([16, 704, 705, 2565, 2566, 2786], [10, 23, 81, 94], []) f a g f4 a5 g6 := xEk_tr hE (xEk_w (by decide +kernel) eE7)
  refine kIG.callW (As := [.int v2]) (rest := []) ⟨hx, hb, hml, hown, hg⟩ (z_settle l r f4 a5 g6 tx tt hT hI hG v2  (fun h => dN (sndF_r hkk) (hw1.2.2.2.2).1 h)) (cwV 1 hg (kgV wt4_170 wt4_172 wp2_11 wt1_1 wt4_173) rfl rfl rfl (by decide +kernel) ⟨by decide, by decide⟩) hV hK hP hD hS hA (0) 11 rfl rfl rfl hl.1 rfl (Nat.le_of_ble_eq_true rfl) dX11_send_10 ⟨Nat.le_refl _, Nat.le_refl _⟩ (fun v9 u10 H locs hw8 hP hD hS => ?_)
  obtain ⟨f11, a12, g13⟩ := u10
  have hP : va_P D vwCl (xX K r f11 a12 g13 tx) H := hP
  have hD : va_D A (xX K r f11 a12 g13 tx) := hD
  have hI : xI f11 a12 := hw8.2.1
  have hG : gOK K g13.2 tt := hw8.2.2.1
  have eE14 : xEk ([16, 2565, 2566, 2786], [81, 94], []) f4 a5 g6 f11 a12 g13 := hw8.2.2.2.1
  have hE : xEk ([16, 704, 705, 2565, 2566, 2786], [10, 23, 81, 94], []) f a g f11 a12 g13 := xEk_tr hE (xEk_w (by decide +kernel) eE14)
  refine k_top (z := v2) hw8.2.2.2.2.1 ?_
  exact kI_ret (v := v2) hx hb hr hlocks rfl hK hS dX11_send_13 (f11, a12, g13) hP hD ⟨(kb_any v2), hI, hG, hE, (xTp_i hw1.2.2.2.2 (fun h => sV_E h eE14 (by decide +kernel) (by decide +kernel)) (fun h => xP_cg h (eE14.1 704 rfl) (eE14.1 705 rfl) (eE14.2.1 23 rfl)) hw8.2.2.2.2.2.1 (fun R1 hR => hw8.2.2.2.2.2.2 R1 (by rw [show a5 94 = a 94 from (eE7.2.1 94 rfl)]; exact hR)))⟩
set_option maxHeartbeats 4000000 in
set_option maxRecDepth 100000 in
theorem z_rest  (l : Launch) {D : va_G} {K : Nat → ClassId} (r : Nat → Nat) (f : Nat → Int32) (a : Nat → Nat → Int32) (g : xG) (tx tt : va_W) (hT : ∀ c ∈ tt, c ∈ tx) (hI : xI f a) (hG : gOK K g.2 tt) (x : Int32)  (k : Nat → Int32) (hVw : sV 32 2 f a k) (hkk : kK k) (P : pS) (hp0 : xPs (f 704) (f 705) (a 23) P (kBn k)) : kIG l yX11_rest (Cond.code yX11_rest cX11_rest 2 (some .int) :: kG) (rmD 4 0 0) D K [.ref (r 0), .int x] (xX K r f a g tx) (fun v (u : xS) => kb (-2147483648) v 2147483647 ∧ xI u.1 u.2.1 ∧ gOK K u.2.2.2 tt ∧ xEk ([16, 704, 705, 2565, 2566, 2786], [10, 23, 81, 94], []) f a g u.1 u.2.1 u.2.2 ∧ xTp 32 2 v u.1 u.2.1 (a 94) (rstF k P x) (kBn k) (decide ((rstF k P x).1 < 0))) (fun u => xX K r u.1 u.2.1 u.2.2 tx) 0 0 := by
  refine kIE.of (cc := cX11_rest) (maxL := 2) (ret := (some .int)) (by decide) rfl (Nat.le_of_ble_eq_true rfl) ?_
  intro p e s m below meth c A hx hb hr hml hown hts hlocks hnm hK hP hD hS hA hV ls hl
  have hE : xEk ([16, 704, 705, 2565, 2566, 2786], [10, 23, 81, 94], []) f a g f a g := xEk_rf
  have hg : ∀ w ∈ kG, w.before _ s = true := fun w h => hts w (List.mem_cons_of_mem _ h)
  have hown : s.vm.findClass RX11 = some m.cls := hown
  have hl : lv_has ls 2 [(0, .ref (r 0)), (1, .int x)] := hl
  refine lv_aload_n hx hb dX11_rest_0 rfl (lv_at hl 0 rfl) ?_
  refine lv_aload_n hx hb dX11_rest_1 rfl (lv_at hl 0 rfl) ?_
  refine va_get (D := D) (ci := 11) (v := .ref (r 24)) (C := RX11) (T := TX11) (N := 17) hx hb hg inC11 hown hK hP 0 rfl rfl 2 (by decide) (hg _ wt2_188) (fun _ h9 => h9) rfl dX11_rest_2 ?_
  refine lv_iload_n hx hb dX11_rest_5 rfl (lv_at hl 1 rfl) ?_
  refine kIG.callW (As := [.int x]) (rest := [.ref (r 0)]) ⟨hx, hb, hml, hown, hg⟩ (z_restBuilder l r f a g tx tt hT hI hG x  k hVw hkk P hp0) (cwV 1 hg (kgV wt4_178 wt4_123 wt4_124 wt1_5 wt4_125) rfl rfl rfl (by decide +kernel) ⟨by decide, by decide⟩) hV hK hP hD hS hA (24) 0 rfl rfl rfl hl.1 rfl (Nat.le_of_ble_eq_true rfl) dX11_rest_6 ⟨Nat.le_refl _, Nat.le_refl _⟩ (fun v2 u3 H locs hw1 hP hD hS => ?_)
  obtain ⟨f4, a5, g6⟩ := u3
  have hP : va_P D vwCl (xX K r f4 a5 g6 tx) H := hP
  have hD : va_D A (xX K r f4 a5 g6 tx) := hD
  have hI : xI f4 a5 := hw1.2.1
  have hG : gOK K g6.2 tt := hw1.2.2.1
  have eE7 : xEk ([704, 705], [10, 23], []) f a g f4 a5 g6 := hw1.2.2.2.1
  have hE : xEk ([16, 704, 705, 2565, 2566, 2786], [10, 23, 81, 94], []) f a g f4 a5 g6 := xEk_tr hE (xEk_w (by decide +kernel) eE7)
  refine kIG.callW (As := [.int v2]) (rest := []) ⟨hx, hb, hml, hown, hg⟩ (z_settle l r f4 a5 g6 tx tt hT hI hG v2  (fun h => dN (rstF_r hkk) (hw1.2.2.2.2).1 h)) (cwV 1 hg (kgV wt4_170 wt4_172 wp2_11 wt1_1 wt4_173) rfl rfl rfl (by decide +kernel) ⟨by decide, by decide⟩) hV hK hP hD hS hA (0) 11 rfl rfl rfl hl.1 rfl (Nat.le_of_ble_eq_true rfl) dX11_rest_9 ⟨Nat.le_refl _, Nat.le_refl _⟩ (fun v9 u10 H locs hw8 hP hD hS => ?_)
  obtain ⟨f11, a12, g13⟩ := u10
  have hP : va_P D vwCl (xX K r f11 a12 g13 tx) H := hP
  have hD : va_D A (xX K r f11 a12 g13 tx) := hD
  have hI : xI f11 a12 := hw8.2.1
  have hG : gOK K g13.2 tt := hw8.2.2.1
  have eE14 : xEk ([16, 2565, 2566, 2786], [81, 94], []) f4 a5 g6 f11 a12 g13 := hw8.2.2.2.1
  have hE : xEk ([16, 704, 705, 2565, 2566, 2786], [10, 23, 81, 94], []) f a g f11 a12 g13 := xEk_tr hE (xEk_w (by decide +kernel) eE14)
  refine k_top (z := v2) hw8.2.2.2.2.1 ?_
  exact kI_ret (v := v2) hx hb hr hlocks rfl hK hS dX11_rest_12 (f11, a12, g13) hP hD ⟨(kb_any v2), hI, hG, hE, (xTp_i hw1.2.2.2.2 (fun h => sV_E h eE14 (by decide +kernel) (by decide +kernel)) (fun h => xP_cg h (eE14.1 704 rfl) (eE14.1 705 rfl) (eE14.2.1 23 rfl)) hw8.2.2.2.2.2.1 (fun R1 hR => hw8.2.2.2.2.2.2 R1 (by rw [show a5 94 = a 94 from (eE7.2.1 94 rfl)]; exact hR)))⟩
set_option maxHeartbeats 4000000 in
set_option maxRecDepth 100000 in
theorem z_throwDown  (l : Launch) {D : va_G} {K : Nat → ClassId} (r : Nat → Nat) (f : Nat → Int32) (a : Nat → Nat → Int32) (g : xG) (tx tt : va_W) (hT : ∀ c ∈ tt, c ∈ tx) (hI : xI f a) (hG : gOK K g.2 tt) (x : Int32)  (k : Nat → Int32) (hVw : sV 32 2 f a k) (hkk : kK k) (P : pS) (hp0 : xPs (f 704) (f 705) (a 23) P (kBn k)) : kIG l yX11_throwDown (Cond.code yX11_throwDown cX11_throwDown 2 (some .int) :: kG) (rmD 4 0 0) D K [.ref (r 0), .int x] (xX K r f a g tx) (fun v (u : xS) => kb (-2147483648) v 2147483647 ∧ xI u.1 u.2.1 ∧ gOK K u.2.2.2 tt ∧ xEk ([16, 704, 705, 2565, 2566, 2786], [6, 23, 81, 94], []) f a g u.1 u.2.1 u.2.2 ∧ xTp 32 2 v u.1 u.2.1 (a 94) (thrF k P x) (kBn k) (decide ((thrF k P x).1 < 0))) (fun u => xX K r u.1 u.2.1 u.2.2 tx) 0 0 := by
  refine kIE.of (cc := cX11_throwDown) (maxL := 2) (ret := (some .int)) (by decide) rfl (Nat.le_of_ble_eq_true rfl) ?_
  intro p e s m below meth c A hx hb hr hml hown hts hlocks hnm hK hP hD hS hA hV ls hl
  have hE : xEk ([16, 704, 705, 2565, 2566, 2786], [6, 23, 81, 94], []) f a g f a g := xEk_rf
  have hg : ∀ w ∈ kG, w.before _ s = true := fun w h => hts w (List.mem_cons_of_mem _ h)
  have hown : s.vm.findClass RX11 = some m.cls := hown
  have hl : lv_has ls 2 [(0, .ref (r 0)), (1, .int x)] := hl
  refine lv_aload_n hx hb dX11_throwDown_0 rfl (lv_at hl 0 rfl) ?_
  refine lv_aload_n hx hb dX11_throwDown_1 rfl (lv_at hl 0 rfl) ?_
  refine va_get (D := D) (ci := 11) (v := .ref (r 24)) (C := RX11) (T := TX11) (N := 17) hx hb hg inC11 hown hK hP 0 rfl rfl 2 (by decide) (hg _ wt2_188) (fun _ h9 => h9) rfl dX11_throwDown_2 ?_
  refine lv_iload_n hx hb dX11_throwDown_5 rfl (lv_at hl 1 rfl) ?_
  refine kIG.callW (As := [.int x]) (rest := [.ref (r 0)]) ⟨hx, hb, hml, hown, hg⟩ (z_razePart l r f a g tx tt hT hI hG x  k hVw hkk P hp0) (cwV 1 hg (kgV wt4_183 wt4_127 wt4_128 wt1_5 wt4_129) rfl rfl rfl (by decide +kernel) ⟨by decide, by decide⟩) hV hK hP hD hS hA (24) 0 rfl rfl rfl hl.1 rfl (Nat.le_of_ble_eq_true rfl) dX11_throwDown_6 ⟨Nat.le_refl _, Nat.le_refl _⟩ (fun v2 u3 H locs hw1 hP hD hS => ?_)
  obtain ⟨f4, a5, g6⟩ := u3
  have hP : va_P D vwCl (xX K r f4 a5 g6 tx) H := hP
  have hD : va_D A (xX K r f4 a5 g6 tx) := hD
  have hI : xI f4 a5 := hw1.2.1
  have hG : gOK K g6.2 tt := hw1.2.2.1
  have eE7 : xEk ([704, 705], [6, 23], []) f a g f4 a5 g6 := hw1.2.2.2.1
  have hE : xEk ([16, 704, 705, 2565, 2566, 2786], [6, 23, 81, 94], []) f a g f4 a5 g6 := xEk_tr hE (xEk_w (by decide +kernel) eE7)
  refine kIG.callW (As := [.int v2]) (rest := []) ⟨hx, hb, hml, hown, hg⟩ (z_settle l r f4 a5 g6 tx tt hT hI hG v2  (fun h => dN (thrF_r hkk) (hw1.2.2.2.2).1 h)) (cwV 1 hg (kgV wt4_170 wt4_172 wp2_11 wt1_1 wt4_173) rfl rfl rfl (by decide +kernel) ⟨by decide, by decide⟩) hV hK hP hD hS hA (0) 11 rfl rfl rfl hl.1 rfl (Nat.le_of_ble_eq_true rfl) dX11_throwDown_9 ⟨Nat.le_refl _, Nat.le_refl _⟩ (fun v9 u10 H locs hw8 hP hD hS => ?_)
  obtain ⟨f11, a12, g13⟩ := u10
  have hP : va_P D vwCl (xX K r f11 a12 g13 tx) H := hP
  have hD : va_D A (xX K r f11 a12 g13 tx) := hD
  have hI : xI f11 a12 := hw8.2.1
  have hG : gOK K g13.2 tt := hw8.2.2.1
  have eE14 : xEk ([16, 2565, 2566, 2786], [81, 94], []) f4 a5 g6 f11 a12 g13 := hw8.2.2.2.1
  have hE : xEk ([16, 704, 705, 2565, 2566, 2786], [6, 23, 81, 94], []) f a g f11 a12 g13 := xEk_tr hE (xEk_w (by decide +kernel) eE14)
  refine k_top (z := v2) hw8.2.2.2.2.1 ?_
  exact kI_ret (v := v2) hx hb hr hlocks rfl hK hS dX11_throwDown_12 (f11, a12, g13) hP hD ⟨(kb_any v2), hI, hG, hE, (xTp_i hw1.2.2.2.2 (fun h => sV_E h eE14 (by decide +kernel) (by decide +kernel)) (fun h => xP_cg h (eE14.1 704 rfl) (eE14.1 705 rfl) (eE14.2.1 23 rfl)) hw8.2.2.2.2.2.1 (fun R1 hR => hw8.2.2.2.2.2.2 R1 (by rw [show a5 94 = a 94 from (eE7.2.1 94 rfl)]; exact hR)))⟩
set_option maxHeartbeats 4000000 in
set_option maxRecDepth 100000 in
theorem z_tick  (l : Launch) {D : va_G} {K : Nat → ClassId} (r : Nat → Nat) (f : Nat → Int32) (a : Nat → Nat → Int32) (g : xG) (tx tt : va_W) (hT : ∀ c ∈ tt, c ∈ tx) (hI : xI f a) (hG : gOK K g.2 tt)   (k : Nat → Int32) (hVw : sV 32 2 f a k) (hkk : kK k) (DD : Nat → tE) (hL : lC K tt (g.2 15) k DD) (P : pS) (hp0 : xPs (f 704) (f 705) (a 23) P (kBn k)) : kIG l yX11_tick (Cond.code yX11_tick cX11_tick 1 (some .int) :: kG) (rmD 6 0 0) D K [.ref (r 0)] (xX K r f a g tx) (fun v (u : xS) => kb (-2147483648) v 2147483647 ∧ xI u.1 u.2.1 ∧ gOK K u.2.2.2 tt ∧ xEk ([16, 704, 705, 2565, 2566, 2786], [6, 9, 10, 11, 19, 20, 23, 81, 94], []) f a g u.1 u.2.1 u.2.2 ∧ xTp 32 2 v u.1 u.2.1 (a 94) (ticF DD k P) (kBn k) (decide ((ticF DD k P).1 < 0))) (fun u => xX K r u.1 u.2.1 u.2.2 tx) 0 0 := by
  refine kIE.of (cc := cX11_tick) (maxL := 1) (ret := (some .int)) (by decide) rfl (Nat.le_of_ble_eq_true rfl) ?_
  intro p e s m below meth c A hx hb hr hml hown hts hlocks hnm hK hP hD hS hA hV ls hl
  have hE : xEk ([16, 704, 705, 2565, 2566, 2786], [6, 9, 10, 11, 19, 20, 23, 81, 94], []) f a g f a g := xEk_rf
  have hg : ∀ w ∈ kG, w.before _ s = true := fun w h => hts w (List.mem_cons_of_mem _ h)
  have hown : s.vm.findClass RX11 = some m.cls := hown
  have hl : lv_has ls 1 [(0, .ref (r 0))] := hl
  refine lv_aload_n hx hb dX11_tick_0 rfl (lv_at hl 0 rfl) ?_
  refine lv_aload_n hx hb dX11_tick_1 rfl (lv_at hl 0 rfl) ?_
  refine va_get (D := D) (ci := 11) (v := .ref (r 24)) (C := RX11) (T := TX11) (N := 17) hx hb hg inC11 hown hK hP 0 rfl rfl 2 (by decide) (hg _ wt2_188) (fun _ h9 => h9) rfl dX11_tick_2 ?_
  refine kIG.callW (As := []) (rest := [.ref (r 0)]) ⟨hx, hb, hml, hown, hg⟩ (z_passTick l r f a g tx tt hT hI hG   k hVw hkk DD hL P hp0) (cwV 0 hg (kgV wt4_188 wt4_139 wt4_140 wt1_5 wt4_141) rfl rfl rfl (by decide +kernel) ⟨by decide, by decide⟩) hV hK hP hD hS hA (24) 0 rfl rfl rfl hl.1 rfl (Nat.le_of_ble_eq_true rfl) dX11_tick_5 ⟨Nat.le_refl _, Nat.le_refl _⟩ (fun v2 u3 H locs hw1 hP hD hS => ?_)
  obtain ⟨f4, a5, g6⟩ := u3
  have hP : va_P D vwCl (xX K r f4 a5 g6 tx) H := hP
  have hD : va_D A (xX K r f4 a5 g6 tx) := hD
  have hI : xI f4 a5 := hw1.2.1
  have hG : gOK K g6.2 tt := hw1.2.2.1
  have eE7 : xEk ([704, 705], [6, 9, 10, 11, 19, 20, 23], []) f a g f4 a5 g6 := hw1.2.2.2.1
  have hE : xEk ([16, 704, 705, 2565, 2566, 2786], [6, 9, 10, 11, 19, 20, 23, 81, 94], []) f a g f4 a5 g6 := xEk_tr hE (xEk_w (by decide +kernel) eE7)
  refine kIG.callW (As := [.int v2]) (rest := []) ⟨hx, hb, hml, hown, hg⟩ (z_settle l r f4 a5 g6 tx tt hT hI hG v2  (fun h => dN (ticF_n) (hw1.2.2.2.2).1 h)) (cwV 1 hg (kgV wt4_170 wt4_172 wp2_11 wt1_1 wt4_173) rfl rfl rfl (by decide +kernel) ⟨by decide, by decide⟩) hV hK hP hD hS hA (0) 11 rfl rfl rfl hl.1 rfl (Nat.le_of_ble_eq_true rfl) dX11_tick_8 ⟨Nat.le_refl _, Nat.le_refl _⟩ (fun v9 u10 H locs hw8 hP hD hS => ?_)
  obtain ⟨f11, a12, g13⟩ := u10
  have hP : va_P D vwCl (xX K r f11 a12 g13 tx) H := hP
  have hD : va_D A (xX K r f11 a12 g13 tx) := hD
  have hI : xI f11 a12 := hw8.2.1
  have hG : gOK K g13.2 tt := hw8.2.2.1
  have eE14 : xEk ([16, 2565, 2566, 2786], [81, 94], []) f4 a5 g6 f11 a12 g13 := hw8.2.2.2.1
  have hE : xEk ([16, 704, 705, 2565, 2566, 2786], [6, 9, 10, 11, 19, 20, 23, 81, 94], []) f a g f11 a12 g13 := xEk_tr hE (xEk_w (by decide +kernel) eE14)
  refine k_top (z := v2) hw8.2.2.2.2.1 ?_
  exact kI_ret (v := v2) hx hb hr hlocks rfl hK hS dX11_tick_11 (f11, a12, g13) hP hD ⟨(kb_any v2), hI, hG, hE, (xTp_i hw1.2.2.2.2 (fun h => sV_E h eE14 (by decide +kernel) (by decide +kernel)) (fun h => xP_cg h (eE14.1 704 rfl) (eE14.1 705 rfl) (eE14.2.1 23 rfl)) hw8.2.2.2.2.2.1 (fun R1 hR => hw8.2.2.2.2.2.2 R1 (by rw [show a5 94 = a 94 from (eE7.2.1 94 rfl)]; exact hR)))⟩
