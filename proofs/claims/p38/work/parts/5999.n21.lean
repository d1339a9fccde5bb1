theorem lM_add {k0 : Nat → Int32} {A : Nat → Nat → Int32} {N t : Nat} {tok v : Int32} {DD : Nat → tE} {D : tE} {T : Nat → Int32} (h : lM k0 DD) (hN : N ≤ 400) (hs : ∀ t', t' < 7 → (k0 (107 + t')).toInt ≤ 400) (hq : rQ A N T) (e : tok.toInt = (N : Int)) (hx : txE false T N D) (ht : (t : Int) = (k0 105).toInt) (h6 : t < 6) (hv : v.toInt = (k0 105).toInt + 1) : lM (upd (mLay k0 (A 15) (A 16) t N tok) 105 v) (fun i => if i = t then D else DD i) := by
  intro s hs1
  rw [pk_us] at hs1
  have up : ∀ i, 107 ≤ i → upd (mLay k0 (A 15) (A 16) t N tok) 105 v i = mLay k0 (A 15) (A 16) t N tok i := fun i hi => pk_un (by omega)
  by_cases c : s = t
  · rw [c]
    refine ⟨T, tQ_k up (tQ_lay hq (by omega) hN e), ?_⟩
    have e0 : mLay k0 (A 15) (A 16) t N tok (107 + t) = tok := by unfold mLay; rw [if_pos rfl]
    show txE false T _ (if t = t then D else DD t)
    rw [if_pos rfl, up _ (by omega), e0, show tok.toInt.toNat = N by omega]
    exact hx
  · obtain ⟨T', h1, h2⟩ := h s (by omega)
    have e0 : mLay k0 (A 15) (A 16) t N tok (107 + s) = k0 (107 + s) := by unfold mLay; rw [if_neg (by omega), if_neg (by omega), if_neg (by omega)]
    refine ⟨T', tQ_k up (tQ_lay2 h1 (by omega) (by omega) hN (by omega) (hs s (by omega))), ?_⟩
    show txE false T' _ (if s = t then D else DD s)
    rw [if_neg c, up _ (by omega), e0]
    exact h2
def lwK (DD : Nat → tE) (D : tE) (k k' : Nat → Int32) : Prop := (∀ i, i < 107 → k' i = upd k 105 (k 105 + 1) i) ∧ lM k' (fun i => if i = (k 105).toInt.toNat then D else DD i)
set_option maxHeartbeats 4000000 in
set_option maxRecDepth 100000 in
theorem n_law  (l : Launch) {D : va_G} {K : Nat → ClassId} (o : Nat) (r : Nat → Nat) (f : Nat → Int32) (a : Nat → Nat → Int32) (g : Nat → Int64) (hI : mI f a)   (DD : Nat → tE) (P : pS) (Dt : tE) (hp0 : kK (a 2)) (hp1 : lM (a 2) DD) (hp2 : mPs (f 33) (a 31) P) (hp3 : ¬ a 2 105 = 6 → rdD false (a 11) (f 13).toInt.toNat Dt) : kI l yX12_law (Cond.code yX12_law cX12_law 1 (some .int) :: kG) (rmD 52 0 0) D (tysK K) [.ref o] (mW K o r f a g) (fun v (u : mS) => kb (-2147483648) v 2147483647 ∧ mI u.1 u.2.1 ∧ mF (XR [(105, 106), (107, 6000)]) f a u.1 u.2.1 ∧ u.1 13 = 0 ∧ lawP (a 11) (f 13) v (a 2 105) (u.2.1 2 105) (f 14) (u.1 14) ∧ (((v = -5 ∨ v = -6) ∧ u.1 0 = v ∧ u.2.1 1 = rfS v.toInt (a 1) ∧ u.2.1 2 = a 2 ∧ mPs (u.1 33) (u.2.1 31) P) ∨ ((∃ p, txR false (a 11) (f 13).toInt.toNat true p) ∧ u.1 0 = 0 ∧ u.2.1 1 = a 1 ∧ lwK DD Dt (a 2) (u.2.1 2) ∧ mPs (u.1 33) (u.2.1 31) P)) ∧ mZ [0, 8, 9, 10, 13, 14, 18, 19, 20, 21] [1, 2, 15, 16, 17] f a u.1 u.2.1) (fun u => mW K o r u.1 u.2.1 u.2.2) 0 0 := by
  refine kI.of (cc := cX12_law) (maxL := 1) (ret := (some .int)) (by decide) rfl (Nat.le_of_ble_eq_true rfl) ?_
  intro p e s m below meth c A hx hb hr hml hown hts hlocks hnm hK hP hD hS hA ls hl
  have hE : mF (XR [(105, 106), (107, 6000)]) f a f a := mF_rf
  have hZ : mZ [0, 8, 9, 10, 13, 14, 18, 19, 20, 21] [1, 2, 15, 16, 17] f a f a := mZ_rf
  have hg : ∀ w ∈ kG, w.before _ s = true := fun w h => hts w (List.mem_cons_of_mem _ h)
  have hown : s.vm.findClass RX12 = some m.cls := hown
  have hl : lv_has ls 1 [(0, .ref o)] := hl
  have hI0 := hI
  obtain ⟨c2_105, ec2_105⟩ : ∃ z : Int32, z = a 2 105 := ⟨_, rfl⟩
  have b1 : kb 0 c2_105 6 := kb_eq ec2_105 (aI_at hI.2.1 2 105 (by decide) (by decide))
  obtain ⟨c14_f, ec14_f⟩ : ∃ z : Int32, z = f 14 := ⟨_, rfl⟩
  refine lv_aload_n hx hb dX12_law_0 rfl (lv_at hl 0 rfl) ?_
  refine va_get (D := D) (ci := 12) (v := .ref (r 2)) (C := RX12) (T := TX12) (N := 48) hx hb hg inC12 hown hK hP 0 rfl rfl 2 (by decide) (hg _ wt5_162) (fun _ h9 => h9) rfl dX12_law_1 ?_
  refine lv_bipush (v := 105) hx hb dX12_law_4 (by decide) ?_
  refine va_iald hx hb hK hP 2 0 rfl rfl (kb_in kc_105 (by decide) (by decide)) dX12_law_6 ?_
  refine k_top (z := c2_105) (by rw [cl_105]; exact ec2_105.symm) ?_
  refine lv_bipush (v := 6) hx hb dX12_law_7 (by decide) ?_
  refine lv_icmp_ne (tgt := 24) hx hb dX12_law_9 (by decide) (fun c2 => ?_) (fun c2 => ?_)
  · have b3 : kb 0 c2_105 5 := kr_neh c2 b1 kc_6 (by decide)
    refine lv_aload_n hx hb dX12_law_24 rfl (lv_at hl 0 rfl) ?_
    refine lv_iconst (v := 0) hx hb dX12_law_25 (by decide) ?_
    refine kI.callV (As := [.int 0]) (rest := []) ⟨hx, hb, hml, hown, hg⟩ (q_readsAs l o r f a g hI 0 (kb_w kc_0 (by decide) (by decide)) ) (cwV 1 hg (kgV wt6_169 wt6_171 wp4_0 wt1_14 wt6_172) rfl rfl rfl (by decide +kernel) ⟨by decide, by decide⟩) hK hP hD hS hA mIs [] rfl (wr := []) rfl rfl rfl (fun i h => by cases h) 0 12 rfl rfl rfl hl.1 rfl (Nat.le_of_ble_eq_true rfl) dX12_law_26 ⟨Nat.le_refl _, Nat.le_refl _⟩ (fun v5 u6 H locs hw4 hP hD hS => ?_)
    obtain ⟨f7, a8, g9⟩ := u6
    have hP : va_P D vwCl (mW K o r f7 a8 g9) H := hP
    have hD : va_D A (mW K o r f7 a8 g9) := hD
    have hI : mI f7 a8 := hw4.2.1
    have hE : mF (XR [(105, 106), (107, 6000)]) f a f7 a8 := mF_tr hE (mF_w (XR_w (by decide)) hw4.2.2.1)
    have eE10 : mF (XR []) f a f7 a8 := hw4.2.2.1
    have eZ11 : mZ [8, 9, 10, 13, 14, 18, 19, 20, 21] [15, 16, 17] f a f7 a8 := hw4.2.2.2.2.2.2.2.2.2
    have hZ : mZ [0, 8, 9, 10, 13, 14, 18, 19, 20, 21] [1, 2, 15, 16, 17] f a f7 a8 := mZ_tr hZ (mZ_w (by decide) (by decide) eZ11)
    obtain ⟨N, hN1, hN2, hN3⟩ := hw4.2.2.2.2.1
    obtain ⟨b7, htx7, hv7⟩ := hw4.2.2.2.2.2.2.2.1 false (if_neg (by decide)).symm
    have hrq := hw4.2.2.2.2.2.2.2.2.1 N hN1
    have hrq : rqP a8 (a 11) (f 13).toInt.toNat N := hrq
    obtain ⟨z14, ez14⟩ : ∃ z : Int32, z = f7 14 := ⟨_, rfl⟩
    have htx7 : txR false (a 11) (f 13).toInt.toNat b7 (f7 14) := htx7
    rw [← ez14] at htx7
    refine lv_if_ne (tgt := 39) hx hb dX12_law_29 (by decide) (fun c12 => ?_) (fun c12 => ?_)
    · have b13 : kb 1 v5 1 := kr_nel c12 hw4.1 kc_0 (by decide)
      have hb7 : b7 = true := bv_1 hv7 (kb_one b13)
      have htx8 : txR false (a 11) (f 13).toInt.toNat true z14 := by have w9 := htx7; rw [hb7] at w9; exact w9
      have htx := rd_tx (hp3 (fun z9 => c2 (ec2_105.trans z9))) htx8 hrq
      refine lv_aload_n hx hb dX12_law_39 rfl (lv_at hl 0 rfl) ?_
      refine lv_aload_n hx hb dX12_law_40 rfl (lv_at hl 0 rfl) ?_
      refine va_get (D := D) (ci := 12) (v := .ref (r 2)) (C := RX12) (T := TX12) (N := 48) hx hb hg inC12 hown hK hP 0 rfl rfl 2 (by decide) (hg _ wt5_162) (fun _ h9 => h9) rfl dX12_law_41 ?_
      refine lv_bipush (v := 105) hx hb dX12_law_44 (by decide) ?_
      refine va_iald hx hb hK hP 2 0 rfl rfl (kb_in kc_105 (by decide) (by decide)) dX12_law_46 ?_
      refine k_top (z := c2_105) (by rw [cl_105]; exact ((congrFun (eZ11.2 2 rfl) 105).trans ec2_105.symm)) ?_
      refine kV.callV (As := [.int c2_105]) (rest := []) ⟨hx, hb, hml, hown, hg⟩ (m_lays l o r f7 a8 g9 hI c2_105 (kb_w b3 (by decide) (by decide)) N trivial (by rw [show f7 18 = f7 18 from rfl]; exact hN1) hN2 (fun _ => hN3 false rfl (kb_one b13))) (cwV 1 hg (kgV wt7_15 wt7_17 wp5_3 wt1_14 wt7_18) rfl rfl rfl (by decide +kernel) ⟨by decide, by decide⟩) hK hP hD hS hA mIs [] rfl (wr := []) rfl rfl rfl (fun i h => by cases h) 0 12 rfl rfl rfl hl.1 rfl (Nat.le_of_ble_eq_true rfl) dX12_law_47 ⟨Nat.le_refl _, Nat.le_refl _⟩ (fun u16 H locs hw14 hP hD hS => ?_)
      obtain ⟨f17, a18, g19⟩ := u16
      have hP : va_P D vwCl (mW K o r f17 a18 g19) H := hP
      have hD : va_D A (mW K o r f17 a18 g19) := hD
      have hI : mI f17 a18 := hw14.1
      have hE : mF (XR [(105, 106), (107, 6000)]) f a f17 a18 := mF_tr hE (mF_w (XR_w (by decide)) (mF_of hw14.2.1))
      have eE20 : mE (XR [(107, 6000)]) f7 a8 f17 a18 := hw14.2.1
      have eZ21 : mZ [] [2] f7 a8 f17 a18 := hw14.2.2.2.2
      have hZ : mZ [0, 8, 9, 10, 13, 14, 18, 19, 20, 21] [1, 2, 15, 16, 17] f a f17 a18 := mZ_tr hZ (mZ_w (by decide) (by decide) eZ21)
      obtain ⟨t6, ht6, ht66, hlay⟩ := hw14.2.2.1
      have hlay : a18 2 = mLay (a 2) (a8 15) (a8 16) t6 N (f7 18) := by rw [show a18 2 = mLay (a8 2) (a8 15) (a8 16) t6 N (f7 18) from hlay, show a8 2 = a 2 from (eZ11.2 2 rfl)]
      have hn18 : (f7 18).toInt = (N : Int) := by rw [show f7 18 = f7 18 from rfl]; exact hN1
      have ht5 : (t6 : Int) = (a 2 105).toInt := by rw [← ec2_105]; exact ht6
      refine lv_aload_n hx hb dX12_law_50 rfl (lv_at hl 0 rfl) ?_
      refine va_get (D := D) (ci := 12) (v := .ref (r 2)) (C := RX12) (T := TX12) (N := 48) hx hb hg inC12 hown hK hP 0 rfl rfl 2 (by decide) (hg _ wt5_162) (fun _ h9 => h9) rfl dX12_law_51 ?_
      refine lv_bipush (v := 105) hx hb dX12_law_54 (by decide) ?_
      refine lv_dup2_11 hx hb dX12_law_56 rfl rfl ?_
      refine va_iald hx hb hK hP 2 0 rfl rfl (kb_in kc_105 (by decide) (by decide)) dX12_law_57 ?_
      refine k_top (z := c2_105) (by rw [cl_105]; exact ((eE20.2.2.1 105 (by decide)).trans ((congrFun (eZ11.2 2 rfl) 105).trans ec2_105.symm))) ?_
      refine lv_iconst (v := 1) hx hb dX12_law_58 (by decide) ?_
      refine lv_iadd hx hb dX12_law_59 ?_
      refine lv_topi (fun t22 et22 => ?_)
      have b23 : kb 1 t22 6 := kb_eq et22 (kb_add b3 kc_1 (by decide) (by decide))
      have qt22 : t22.toInt = c2_105.toInt + 1 := by rw [et22]; exact kt_addc b3 kc_1 (by decide) (by decide)
      refine va_iast hx hb hK hP hD hS 2 0 rfl rfl (kb_in kc_105 (by decide) (by decide)) dX12_law_60 (fun H locs hP hD hS => ?_)
      rw [cl_105] at hP hD
      have hP : va_P D vwCl (mW K o r f17 (va_up a18 2 (upd (a18 2) 105 t22)) g19) H := hP
      have hD : va_D A (mW K o r f17 (va_up a18 2 (upd (a18 2) 105 t22)) g19) := hD
      refine k_gen (P := fun z => va_P D vwCl (mW K o r f17 z g19) H ∧ va_D A (mW K o r f17 z g19) ∧ (mI f17 z) ∧ (mF (XR [(105, 106), (107, 6000)]) f a f17 z) ∧ (mZ [0, 8, 9, 10, 13, 14, 18, 19, 20, 21] [1, 2, 15, 16, 17] f a f17 z)) (va_up a18 2 (upd (a18 2) 105 t22)) ⟨hP, hD, (mI_2 hI (aI_st hI.2.1 2 105 b23 (by decide) (by decide)) (by decide)), (mF_2 hE (by decide)), (mZ_a hZ rfl)⟩ (fun a_24 ea_24 hq => ?_)
      obtain ⟨hP, hD, hI, hE, hZ⟩ := hq
      refine lv_aload_n hx hb dX12_law_61 rfl (lv_at hl 0 rfl) ?_
      refine lv_aload_n hx hb dX12_law_62 rfl (lv_at hl 0 rfl) ?_
      refine va_get (D := D) (ci := 12) (v := .ref (r 2)) (C := RX12) (T := TX12) (N := 48) hx hb hg inC12 hown hK hP 0 rfl rfl 2 (by decide) (hg _ wt5_162) (fun _ h9 => h9) rfl dX12_law_63 ?_
      refine lv_bipush (v := 105) hx hb dX12_law_66 (by decide) ?_
      refine va_iald hx hb hK hP 2 0 rfl rfl (kb_in kc_105 (by decide) (by decide)) dX12_law_68 ?_
      refine k_top (z := t22) (by rw [cl_105]; exact (show a_24 2 105 = t22 from by rw [← ea_24]; exact (pk_us (f := a18 2) (k := 105) (x := t22)))) ?_
      refine lv_iconst (v := 1) hx hb dX12_law_69 (by decide) ?_
      refine lv_isub hx hb dX12_law_70 ?_
      refine lv_topi (fun t25 et25 => ?_)
      have b26 : kb 0 t25 5 := kb_eq et25 (kb_sub b23 kc_1 (by decide) (by decide))
      have qt25 : t25.toInt = t22.toInt - 1 := by rw [et25]; exact kt_subc b23 kc_1 (by decide) (by decide)
      refine kI.callV (As := [.int t25]) (rest := []) ⟨hx, hb, hml, hown, hg⟩ (n_good l o r f17 a_24 g19 hI t25  ) (cwV 1 hg (kgV wt6_76 wt6_78 wp3_6 wt1_14 wt6_79) rfl rfl rfl (by decide +kernel) ⟨by decide, by decide⟩) hK hP hD hS hA mIs [] rfl (wr := []) rfl rfl rfl (fun i h => by cases h) 0 12 rfl rfl rfl hl.1 rfl (Nat.le_of_ble_eq_true rfl) dX12_law_71 ⟨Nat.le_refl _, Nat.le_refl _⟩ (fun v28 u29 H locs hw27 hP hD hS => ?_)
      obtain ⟨f30, a31, g32⟩ := u29
      have hP : va_P D vwCl (mW K o r f30 a31 g32) H := hP
      have hD : va_D A (mW K o r f30 a31 g32) := hD
      have hI : mI f30 a31 := hw27.2.1
      have hE : mF (XR [(105, 106), (107, 6000)]) f a f30 a31 := mF_tr hE (mF_w (XR_w (by decide)) (mF_of hw27.2.2.1))
      have eE33 : mE (XR []) f17 a_24 f30 a31 := hw27.2.2.1
      have eZ34 : mZ [0] [] f17 a_24 f30 a31 := hw27.2.2.2.2.2
      have hZ : mZ [0, 8, 9, 10, 13, 14, 18, 19, 20, 21] [1, 2, 15, 16, 17] f a f30 a31 := mZ_tr hZ (mZ_w (by decide) (by decide) eZ34)
      refine k_top (z := t25) hw27.2.2.2.1 ?_
      exact kI_ret (v := t25) hx hb hr hlocks rfl hK hS dX12_law_74 (f30, a31, g32) hP hD ⟨(kb_w b26 (by decide) (by decide)), hI, hE, ((eZ34.1 13 rfl).trans ((congrFun hw14.2.2.2.1 13).trans hw4.2.2.2.1)), (show lawP (a 11) (f 13) t25 (a 2 105) (a31 2 105) (f 14) (f30 14) from Or.inr ⟨(fun q => c2 (ec2_105.trans q)), b7, (by rw [((eZ34.1 14 rfl).trans ((congrFun hw14.2.2.2.1 14).trans ez14.symm))]; exact htx7), Or.inr ⟨bv_1 hv7 (kb_one b13), (by rw [← ec2_105]; exact Int32.toInt_inj.mp (by have w1 := qt25; have w2 := qt22; omega)), (by rw [((congrFun (eZ34.2 2 rfl) 105).trans (show a_24 2 105 = t22 from by rw [← ea_24]; exact (pk_us (f := a18 2) (k := 105) (x := t22)))), ← ec2_105]; have w1 := qt22; omega)⟩⟩), (Or.inr ⟨⟨z14, htx8⟩, hw27.2.2.2.2.1, ((eZ34.2 1 rfl).trans ((show a_24 1 = a18 1 from by rw [← ea_24]; rfl).trans ((eZ21.2 1 rfl).trans (eZ11.2 1 rfl)))), (show lwK DD Dt (a 2) (a31 2) from ⟨(fun i hi => by rw [show a31 2 = upd (mLay (a 2) (a8 15) (a8 16) t6 N (f7 18)) 105 t22 from ((((eZ34.2 2 rfl).trans (show a_24 2 = upd (a18 2) 105 t22 from by rw [← ea_24]; rfl))).trans (by rw [hlay]))]; by_cases c9 : i = 105; (rw [c9, pk_us, pk_us]; exact (show t22 = a 2 105 + 1 from by rw [et22, ec2_105])); (rw [pk_un c9, pk_un c9]; exact mLay_lo hi)), (by have w9 := lM_add (v := t22) hp1 hN2 (szB hI0.2.1) hrq.1 hn18 htx ht5 (by have w1 := (b3).2; have w2 := ht6; omega) (show t22.toInt = (a 2 105).toInt + 1 from by rw [← ec2_105]; have w1 := qt22; omega); rw [show a31 2 = upd (mLay (a 2) (a8 15) (a8 16) t6 N (f7 18)) 105 t22 from ((((eZ34.2 2 rfl).trans (show a_24 2 = upd (a18 2) 105 t22 from by rw [← ea_24]; rfl))).trans (by rw [hlay])), show (a 2 105).toInt.toNat = t6 by omega]; exact w9)⟩), (by (try dsimp only); rw [show f30 33 = f 33 from ((eZ34.1 33 rfl).trans ((eZ21.1 33 rfl).trans (eZ11.1 33 rfl))), show a31 31 = a 31 from ((eZ34.2 31 rfl).trans ((show a_24 31 = a18 31 from by rw [← ea_24]; rfl).trans ((eZ21.2 31 rfl).trans (eZ11.2 31 rfl))))]; exact hp2)⟩), hZ⟩
    · have b35 : kb 0 v5 0 := kb_eq c12 kc_0
      refine lv_aload_n hx hb dX12_law_32 rfl (lv_at hl 0 rfl) ?_
      refine lv_bipush (v := (-6)) hx hb dX12_law_33 (by decide) ?_
      refine kI.callV (As := [.int (-6)]) (rest := []) ⟨hx, hb, hml, hown, hg⟩ (n_refuses l o r f7 a8 g9 hI (-6) (kb_w kc_m6 (by decide) (by decide)) ) (cwV 1 hg (kgV wt6_72 wt6_74 wp3_5 wt1_14 wt6_75) rfl rfl rfl (by decide +kernel) ⟨by decide, by decide⟩) hK hP hD hS hA mIs [] rfl (wr := []) rfl rfl rfl (fun i h => by cases h) 0 12 rfl rfl rfl hl.1 rfl (Nat.le_of_ble_eq_true rfl) dX12_law_35 ⟨Nat.le_refl _, Nat.le_refl _⟩ (fun v37 u38 H locs hw36 hP hD hS => ?_)
      obtain ⟨f39, a40, g41⟩ := u38
      have hP : va_P D vwCl (mW K o r f39 a40 g41) H := hP
      have hD : va_D A (mW K o r f39 a40 g41) := hD
      have hI : mI f39 a40 := hw36.2.1
      have hE : mF (XR [(105, 106), (107, 6000)]) f a f39 a40 := mF_tr hE (mF_w (XR_w (by decide)) (mF_of hw36.2.2.1))
      have eE42 : mE (XR []) f7 a8 f39 a40 := hw36.2.2.1
      have eZ43 : mZ [0] [1] f7 a8 f39 a40 := hw36.2.2.2.2.2.2
      have hZ : mZ [0, 8, 9, 10, 13, 14, 18, 19, 20, 21] [1, 2, 15, 16, 17] f a f39 a40 := mZ_tr hZ (mZ_w (by decide) (by decide) eZ43)
      refine k_top (z := (-6)) hw36.2.2.2.1 ?_
      exact kI_ret (v := (-6)) hx hb hr hlocks rfl hK hS dX12_law_38 (f39, a40, g41) hP hD ⟨(kb_w kc_m6 (by decide) (by decide)), hI, hE, ((eZ43.1 13 rfl).trans hw4.2.2.2.1), (show lawP (a 11) (f 13) (-6) (a 2 105) (a40 2 105) (f 14) (f39 14) from Or.inr ⟨(fun q => c2 (ec2_105.trans q)), b7, (by rw [((eZ43.1 14 rfl).trans ez14.symm)]; exact htx7), Or.inl ⟨bv_0 hv7 (fun z => absurd (c12.symm.trans z) (by decide +kernel)), rfl, ((((congrFun (eZ43.2 2 rfl) 105).trans ((congrFun (eZ11.2 2 rfl) 105).trans ec2_105.symm))).trans ec2_105)⟩⟩), (Or.inl ⟨Or.inr rfl, hw36.2.2.2.2.1, hw36.2.2.2.2.2.1.trans (by rw [show a8 1 = a 1 from (eZ11.2 1 rfl)]), ((eZ43.2 2 rfl).trans (eZ11.2 2 rfl)), (by (try dsimp only); rw [show f39 33 = f 33 from ((eZ43.1 33 rfl).trans (eZ11.1 33 rfl)), show a40 31 = a 31 from ((eZ43.2 31 rfl).trans (eZ11.2 31 rfl))]; exact hp2)⟩), hZ⟩
  · have b44 : kb 6 c2_105 6 := kb_eq c2 kc_6
    refine lv_aload_n hx hb dX12_law_12 rfl (lv_at hl 0 rfl) ?_
    refine lv_iconst (v := 0) hx hb dX12_law_13 (by decide) ?_
    refine va_put (D := D) (ci := 12) (v := .int 0) (ty := .int) (C := RX12) (T := TX12) (N := 48) hx hb hg inC12 tyX12 tyX12_ok nmX12 hown hK hP hD hS 0 rfl rfl 13 (by decide) (hg _ wt5_173) (fun _ h9 => h9) rfl (by decide +kernel) rfl rfl (Nat.le_of_ble_eq_true rfl) dX12_law_14 (fun H locs hP hD hS => ?_)
    have hP : va_P D vwCl (mW K o r (upd f 13 0) a g) H := hP
    have hD : va_D A (mW K o r (upd f 13 0) a g) := hD
    refine k_gen (P := fun z => va_P D vwCl (mW K o r z a g) H ∧ va_D A (mW K o r z a g) ∧ (mI z a) ∧ (mF (XR [(105, 106), (107, 6000)]) f a z a) ∧ (mZ [0, 8, 9, 10, 13, 14, 18, 19, 20, 21] [1, 2, 15, 16, 17] f a z a)) (upd f 13 0) ⟨hP, hD, (mI_f hI (fI_st hI.1 13 kc_0 (by decide) (by decide))), (mF_f hE), (mZ_f hZ rfl)⟩ (fun f_45 ef_45 hq => ?_)
    obtain ⟨hP, hD, hI, hE, hZ⟩ := hq
    refine lv_aload_n hx hb dX12_law_17 rfl (lv_at hl 0 rfl) ?_
    refine lv_bipush (v := (-5)) hx hb dX12_law_18 (by decide) ?_
    refine kI.callV (As := [.int (-5)]) (rest := []) ⟨hx, hb, hml, hown, hg⟩ (n_refuses l o r f_45 a g hI (-5) (kb_w kc_m5 (by decide) (by decide)) ) (cwV 1 hg (kgV wt6_72 wt6_74 wp3_5 wt1_14 wt6_75) rfl rfl rfl (by decide +kernel) ⟨by decide, by decide⟩) hK hP hD hS hA mIs [] rfl (wr := []) rfl rfl rfl (fun i h => by cases h) 0 12 rfl rfl rfl hl.1 rfl (Nat.le_of_ble_eq_true rfl) dX12_law_20 ⟨Nat.le_refl _, Nat.le_refl _⟩ (fun v47 u48 H locs hw46 hP hD hS => ?_)
    obtain ⟨f49, a50, g51⟩ := u48
    have hP : va_P D vwCl (mW K o r f49 a50 g51) H := hP
    have hD : va_D A (mW K o r f49 a50 g51) := hD
    have hI : mI f49 a50 := hw46.2.1
    have hE : mF (XR [(105, 106), (107, 6000)]) f a f49 a50 := mF_tr hE (mF_w (XR_w (by decide)) (mF_of hw46.2.2.1))
    have eE52 : mE (XR []) f_45 a f49 a50 := hw46.2.2.1
    have eZ53 : mZ [0] [1] f_45 a f49 a50 := hw46.2.2.2.2.2.2
    have hZ : mZ [0, 8, 9, 10, 13, 14, 18, 19, 20, 21] [1, 2, 15, 16, 17] f a f49 a50 := mZ_tr hZ (mZ_w (by decide) (by decide) eZ53)
    refine k_top (z := (-5)) hw46.2.2.2.1 ?_
    exact kI_ret (v := (-5)) hx hb hr hlocks rfl hK hS dX12_law_23 (f49, a50, g51) hP hD ⟨(kb_w kc_m5 (by decide) (by decide)), hI, hE, ((eZ53.1 13 rfl).trans (show f_45 13 = 0 from by rw [← ef_45]; rfl)), (show lawP (a 11) (f 13) (-5) (a 2 105) (a50 2 105) (f 14) (f49 14) from Or.inl ⟨(ec2_105.symm.trans c2), rfl, ((((congrFun (eZ53.2 2 rfl) 105).trans ec2_105.symm)).trans ec2_105), ((((eZ53.1 14 rfl).trans ((show f_45 14 = f 14 from by rw [← ef_45]; rfl).trans ec14_f.symm))).trans ec14_f)⟩), (Or.inl ⟨Or.inl rfl, hw46.2.2.2.2.1, hw46.2.2.2.2.2.1.trans (by rw [show a 1 = a 1 from rfl]), (eZ53.2 2 rfl), (by (try dsimp only); rw [show f49 33 = f 33 from ((eZ53.1 33 rfl).trans (show f_45 33 = f 33 from by rw [← ef_45]; rfl)), show a50 31 = a 31 from (eZ53.2 31 rfl)]; exact hp2)⟩), hZ⟩
