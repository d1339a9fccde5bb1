set_option maxHeartbeats 4000000 in
set_option maxRecDepth 100000 in
theorem n_sendsKept  (l : Launch) {D : va_G} {K : Nat → ClassId} (o : Nat) (r : Nat → Nat) (f : Nat → Int32) (a : Nat → Nat → Int32) (g : Nat → Int64) (hI : mI f a) (x : Int32) (y : Int32)  (DD : Nat → tE) (P : pS) (hp0 : kK (a 2)) (hp1 : lM (a 2) DD) (hp2 : mPs (f 33) (a 31) P) : kI l yX12_sendsKept (Cond.code yX12_sendsKept cX12_sendsKept 3 (some .int) :: kG) (rmD 50 0 0) D (tysK K) [.ref o, .int x, .int y] (mW K o r f a g) (fun v (u : mS) => kb (-3) v 99 ∧ mI u.1 u.2.1 ∧ mE (XR [(0, 23)]) f a u.1 u.2.1 ∧ mDd v u.1 u.2.1 (sndF DD (a 2) P x y) ∧ mZ [22, 23, 24, 25, 33] [2, 26, 31] f a u.1 u.2.1) (fun u => mW K o r u.1 u.2.1 u.2.2) 0 0 := by
  refine kI.of (cc := cX12_sendsKept) (maxL := 3) (ret := (some .int)) (by decide) rfl (Nat.le_of_ble_eq_true rfl) ?_
  intro p e s m below meth c A hx hb hr hml hown hts hlocks hnm hK hP hD hS hA ls hl
  have hE : mE (XR [(0, 23)]) f a f a := mE_rf
  have hZ : mZ [22, 23, 24, 25, 33] [2, 26, 31] f a f a := mZ_rf
  have hg : ∀ w ∈ kG, w.before _ s = true := fun w h => hts w (List.mem_cons_of_mem _ h)
  have hown : s.vm.findClass RX12 = some m.cls := hown
  have hl : lv_has ls 3 [(0, .ref o), (1, .int x), (2, .int y)] := hl
  refine lv_aload_n hx hb dX12_sendsKept_0 rfl (lv_at hl 0 rfl) ?_
  refine lv_iload_n hx hb dX12_sendsKept_1 rfl (lv_at hl 1 rfl) ?_
  refine kI.callV (As := [.int x]) (rest := []) ⟨hx, hb, hml, hown, hg⟩ (m_isBuilder l o r f a g hI x  ) (cwV 1 hg (kgV wt6_138 wt6_140 wp3_15 wt1_14 wt6_141) rfl rfl rfl (by decide +kernel) ⟨by decide, by decide⟩) hK hP hD hS hA mIs [] rfl (wr := []) rfl rfl rfl (fun i h => by cases h) 0 12 rfl rfl rfl hl.1 rfl (Nat.le_of_ble_eq_true rfl) dX12_sendsKept_2 ⟨Nat.le_refl _, Nat.le_refl _⟩ (fun v2 u3 H locs hw1 hP hD hS => ?_)
  have hP : va_P D vwCl (mW K o r f a g) H := hP
  have hD : va_D A (mW K o r f a g) := hD
  refine lv_if_eq (tgt := 16) hx hb dX12_sendsKept_5 (by decide) (fun c4 => ?_) (fun c4 => ?_)
  · have b5 : kb 0 v2 0 := kb_eq c4 kc_0
    refine lv_bipush (v := (-2)) hx hb dX12_sendsKept_16 (by decide) ?_
    exact kI_ret (v := (-2)) hx hb hr hlocks rfl hK hS dX12_sendsKept_18 (f, a, g) hP hD ⟨(kb_w kc_m2 (by decide) (by decide)), hI, hE, (mDd_e (x := -2) (k := a 2) (P := P) (by unfold sndF; rw [if_neg (okB_n (fun q => (hw1.2.2 c4) ⟨q.1, by have w1 := q.2; omega⟩))]) (by decide +kernel) rfl (by (try dsimp only); rw [show f 33 = f 33 from rfl, show a 31 = a 31 from rfl]; exact hp2)), hZ⟩
  · have b6 : kb 1 v2 1 := kr_nel c4 hw1.1 kc_0 (by decide)
    have h7 := hw1.2.1 c4
    have b8 : kb 0 x 5 := ⟨by have h1 := h7.1; omega, (by have h1 := h7.2; have h2 := (aI_at hI.2.1 2 103 (by decide) (by decide) : kb 0 (a 2 103) 6).2; omega)⟩
    refine lv_aload_n hx hb dX12_sendsKept_8 rfl (lv_at hl 0 rfl) ?_
    refine lv_iload_n hx hb dX12_sendsKept_9 rfl (lv_at hl 2 rfl) ?_
    refine kI.callV (As := [.int y]) (rest := []) ⟨hx, hb, hml, hown, hg⟩ (m_isPart l o r f a g hI y  ) (cwV 1 hg (kgV wt6_104 wt6_106 wp3_10 wt1_14 wt6_107) rfl rfl rfl (by decide +kernel) ⟨by decide, by decide⟩) hK hP hD hS hA mIs [] rfl (wr := []) rfl rfl rfl (fun i h => by cases h) 0 12 rfl rfl rfl hl.1 rfl (Nat.le_of_ble_eq_true rfl) dX12_sendsKept_10 ⟨Nat.le_refl _, Nat.le_refl _⟩ (fun v10 u11 H locs hw9 hP hD hS => ?_)
    have hP : va_P D vwCl (mW K o r f a g) H := hP
    have hD : va_D A (mW K o r f a g) := hD
    refine lv_if_ne (tgt := 19) hx hb dX12_sendsKept_13 (by decide) (fun c12 => ?_) (fun c12 => ?_)
    · have b13 : kb 1 v10 1 := kr_nel c12 hw9.1 kc_0 (by decide)
      have h14 := hw9.2.1 c12
      have b15 : kb 0 y 9 := ⟨by have h1 := h14.1; omega, (by have h1 := h14.2; have h2 := (aI_at hI.2.1 2 102 (by decide) (by decide) : kb 0 (a 2 102) 10).2; omega)⟩
      refine lv_aload_n hx hb dX12_sendsKept_19 rfl (lv_at hl 0 rfl) ?_
      refine lv_iload_n hx hb dX12_sendsKept_20 rfl (lv_at hl 2 rfl) ?_
      refine kI.callV (As := [.int y]) (rest := []) ⟨hx, hb, hml, hown, hg⟩ (n_isReady l o r f a g hI y b15 hp0) (cwV 1 hg (kgV wt6_108 wt6_110 wp3_11 wt1_14 wt6_111) rfl rfl rfl (by decide +kernel) ⟨by decide, by decide⟩) hK hP hD hS hA mIs [] rfl (wr := []) rfl rfl rfl (fun i h => by cases h) 0 12 rfl rfl rfl hl.1 rfl (Nat.le_of_ble_eq_true rfl) dX12_sendsKept_21 ⟨Nat.le_refl _, Nat.le_refl _⟩ (fun v17 u18 H locs hw16 hP hD hS => ?_)
      have hP : va_P D vwCl (mW K o r f a g) H := hP
      have hD : va_D A (mW K o r f a g) := hD
      refine lv_if_eq (tgt := 36) hx hb dX12_sendsKept_24 (by decide) (fun c19 => ?_) (fun c19 => ?_)
      · have b20 : kb 0 v17 0 := kb_eq c19 kc_0
        refine lv_bipush (v := (-3)) hx hb dX12_sendsKept_36 (by decide) ?_
        exact kI_ret (v := (-3)) hx hb hr hlocks rfl hK hS dX12_sendsKept_38 (f, a, g) hP hD ⟨(kb_w kc_m3 (by decide) (by decide)), hI, hE, (mDd_e (x := -3) (k := a 2) (P := P) (by unfold sndF; rw [if_pos (okB_y ⟨h7.1, by have w1 := h7.2; omega⟩), if_pos (okQ_y ⟨h14.1, by have w1 := h14.2; omega⟩), if_neg (bit1_n hw16.2 c19)]) (by decide +kernel) rfl (by (try dsimp only); rw [show f 33 = f 33 from rfl, show a 31 = a 31 from rfl]; exact hp2)), hZ⟩
      · have b21 : kb 1 v17 1 := kr_nel c19 hw16.1 kc_0 (by decide)
        refine lv_aload_n hx hb dX12_sendsKept_27 rfl (lv_at hl 0 rfl) ?_
        refine lv_iload_n hx hb dX12_sendsKept_28 rfl (lv_at hl 1 rfl) ?_
        refine lv_iload_n hx hb dX12_sendsKept_29 rfl (lv_at hl 2 rfl) ?_
        refine kI.callV (As := [.int x, .int y]) (rest := []) ⟨hx, hb, hml, hown, hg⟩ (n_isBarred l o r f a g hI x y b8 b15 DD hp0 hp1) (cwV 2 hg (kgV wt7_104 wt7_106 wp6_5 wt1_14 wt7_107) rfl rfl rfl (by decide +kernel) ⟨by decide, by decide⟩) hK hP hD hS hA mIs [] rfl (wr := []) rfl rfl rfl (fun i h => by cases h) 0 12 rfl rfl rfl hl.1 rfl (Nat.le_of_ble_eq_true rfl) dX12_sendsKept_30 ⟨Nat.le_refl _, Nat.le_refl _⟩ (fun v23 u24 H locs hw22 hP hD hS => ?_)
        obtain ⟨f25, a26, g27⟩ := u24
        have hP : va_P D vwCl (mW K o r f25 a26 g27) H := hP
        have hD : va_D A (mW K o r f25 a26 g27) := hD
        have hI : mI f25 a26 := hw22.2.1
        have hE : mE (XR [(0, 23)]) f a f25 a26 := mE_tr hE (mE_w (XR_w (by decide)) hw22.2.2.1)
        have eE28 : mE (XR []) f a f25 a26 := hw22.2.2.1
        have eZ29 : mZ [22, 23, 24, 25] [26] f a f25 a26 := hw22.2.2.2.2
        have hZ : mZ [22, 23, 24, 25, 33] [2, 26, 31] f a f25 a26 := mZ_tr hZ (mZ_w (by decide) (by decide) eZ29)
        refine lv_if_eq (tgt := 39) hx hb dX12_sendsKept_33 (by decide) (fun c30 => ?_) (fun c30 => ?_)
        · have b31 : kb 0 v23 0 := kb_eq c30 kc_0
          refine lv_aload_n hx hb dX12_sendsKept_39 rfl (lv_at hl 0 rfl) ?_
          refine lv_iconst (v := 0) hx hb dX12_sendsKept_40 (by decide) ?_
          refine kV.callV (As := [.int 0]) (rest := []) ⟨hx, hb, hml, hown, hg⟩ (n_keeps l o r f25 a26 g27 hI 0 (kb_w kc_0 (by decide) (by decide)) P (by (try dsimp only); rw [show f25 33 = f 33 from (eZ29.1 33 rfl), show a26 31 = a 31 from (eZ29.2 31 rfl)]; exact hp2)) (cwV 1 hg (kgV wt7_124 wt7_126 wp6_7 wt1_14 wt7_127) rfl rfl rfl (by decide +kernel) ⟨by decide, by decide⟩) hK hP hD hS hA mIs [] rfl (wr := []) rfl rfl rfl (fun i h => by cases h) 0 12 rfl rfl rfl hl.1 rfl (Nat.le_of_ble_eq_true rfl) dX12_sendsKept_41 ⟨Nat.le_refl _, Nat.le_refl _⟩ (fun u34 H locs hw32 hP hD hS => ?_)
          obtain ⟨f35, a36, g37⟩ := u34
          have hP : va_P D vwCl (mW K o r f35 a36 g37) H := hP
          have hD : va_D A (mW K o r f35 a36 g37) := hD
          have hI : mI f35 a36 := hw32.1
          have hE : mE (XR [(0, 23)]) f a f35 a36 := mE_tr hE (mE_w (XR_w (by decide)) hw32.2.1)
          have eE38 : mE (XR []) f25 a26 f35 a36 := hw32.2.1
          have eZ39 : mZ [33] [31] f25 a26 f35 a36 := hw32.2.2.2
          have hZ : mZ [22, 23, 24, 25, 33] [2, 26, 31] f a f35 a36 := mZ_tr hZ (mZ_w (by decide) (by decide) eZ39)
          have hkp : mPs (f35 33) (a36 31) (kpP P 0 (a 2)) := by have w1 := hw32.2.2.1; rw [show a26 2 = a 2 from (eZ29.2 2 rfl)] at w1; exact w1
          refine lv_aload_n hx hb dX12_sendsKept_44 rfl (lv_at hl 0 rfl) ?_
          refine va_get (D := D) (ci := 12) (v := .ref (r 2)) (C := RX12) (T := TX12) (N := 48) hx hb hg inC12 hown hK hP 0 rfl rfl 2 (by decide) (hg _ wt5_162) (fun _ h9 => h9) rfl dX12_sendsKept_45 ?_
          refine lv_bipush (v := 16) hx hb dX12_sendsKept_48 (by decide) ?_
          refine lv_iload_n hx hb dX12_sendsKept_50 rfl (lv_at hl 1 rfl) ?_
          refine lv_iadd hx hb dX12_sendsKept_51 ?_
          refine lv_topi (fun t40 et40 => ?_)
          have b41 : kb 16 t40 21 := kb_eq et40 (kb_add kc_16 b8 (by decide) (by decide))
          have qt40 : t40.toInt = 16 + x.toInt := by rw [et40]; exact kt_cadd kc_16 b8 (by decide) (by decide)
          refine lv_iload_n hx hb dX12_sendsKept_52 rfl (lv_at hl 2 rfl) ?_
          refine va_iast hx hb hK hP hD hS 2 0 rfl rfl (kb_in b41 (by decide) (by decide)) dX12_sendsKept_53 (fun H locs hP hD hS => ?_)
          have hP : va_P D vwCl (mW K o r f35 (va_up a36 2 (upd (a36 2) t40.toNatClampNeg y)) g37) H := hP
          have hD : va_D A (mW K o r f35 (va_up a36 2 (upd (a36 2) t40.toNatClampNeg y)) g37) := hD
          refine k_gen (P := fun z => va_P D vwCl (mW K o r f35 z g37) H ∧ va_D A (mW K o r f35 z g37) ∧ (mI f35 z) ∧ (mE (XR [(0, 23)]) f a f35 z) ∧ (mZ [22, 23, 24, 25, 33] [2, 26, 31] f a f35 z)) (va_up a36 2 (upd (a36 2) t40.toNatClampNeg y)) ⟨hP, hD, (mI_2 hI (aI_sx hI.2.1 2 16 6 b41 (by decide) (by decide) b15 (by decide +kernel)) (kb_clt b41 (by decide) (by decide))), (mE_2 hE (bX_at 16 6 b41 (by decide) (by decide) (by decide))), (mZ_a hZ rfl)⟩ (fun a_42 ea_42 hq => ?_)
          obtain ⟨hP, hD, hI, hE, hZ⟩ := hq
          refine lv_aload_n hx hb dX12_sendsKept_54 rfl (lv_at hl 0 rfl) ?_
          refine va_get (D := D) (ci := 12) (v := .ref (r 2)) (C := RX12) (T := TX12) (N := 48) hx hb hg inC12 hown hK hP 0 rfl rfl 2 (by decide) (hg _ wt5_162) (fun _ h9 => h9) rfl dX12_sendsKept_55 ?_
          refine lv_iconst (v := 0) hx hb dX12_sendsKept_58 (by decide) ?_
          refine lv_iload_n hx hb dX12_sendsKept_59 rfl (lv_at hl 2 rfl) ?_
          refine lv_iadd hx hb dX12_sendsKept_60 ?_
          refine k_top (z := y) (Int32.zero_add _) ?_
          refine va_iald hx hb hK hP 2 0 rfl rfl (kb_in b15 (by decide) (by decide)) dX12_sendsKept_61 ?_
          refine lv_topi (fun t43 et43 => ?_)
          have b44 : kb 0 t43 99 := kb_eq et43 (aI_ld hI.2.1 2 0 10 b15 (by decide) (by decide) (by decide +kernel))
          exact kI_ret (v := t43) hx hb hr hlocks rfl hK hS dX12_sendsKept_62 (f35, a_42, g37) hP hD ⟨(kb_w b44 (by decide) (by decide)), hI, hE, (mDd_e (by unfold sndF; rw [if_pos (okB_y ⟨h7.1, by have w1 := h7.2; omega⟩), if_pos (okQ_y ⟨h14.1, by have w1 := h14.2; omega⟩), if_pos (bit1_y hw16.2 c19), if_neg (bit_n1 hw22.2.2.2.1 c30)]) (congrArg Int32.toInt ((et43.trans ((show a_42 2 (y.toNatClampNeg) = a36 2 (y.toNatClampNeg) from by rw [← ea_42]; exact pk_un (kb_nd b15 b41 (by decide) (by decide) (by decide))).trans ((congrFun (eZ39.2 2 rfl) (y.toNatClampNeg)).trans (congrFun (eZ29.2 2 rfl) (y.toNatClampNeg))))).trans (congrArg (a 2) (Nat.zero_add _).symm))) (((show a_42 2 = upd (a36 2) t40.toNatClampNeg y from by rw [← ea_42]; rfl).trans (congrArg (fun zz_ => upd zz_ t40.toNatClampNeg y) ((eZ39.2 2 rfl).trans (eZ29.2 2 rfl)))).trans (by rw [(show t40.toNatClampNeg = 16 + x.toNatClampNeg from by have w2 := qt40; have w1 := (b8).1; unfold Int32.toNatClampNeg; omega)])) (by (try dsimp only); rw [show f35 33 = f35 33 from rfl, show a_42 31 = a36 31 from (show a_42 31 = a36 31 from by rw [← ea_42]; rfl)]; exact hkp)), hZ⟩
        · have b45 : kb 1 v23 1 := kr_nel c30 hw22.1 kc_0 (by decide)
          refine lv_bipush (v := (-3)) hx hb dX12_sendsKept_36 (by decide) ?_
          exact kI_ret (v := (-3)) hx hb hr hlocks rfl hK hS dX12_sendsKept_38 (f25, a26, g27) hP hD ⟨(kb_w kc_m3 (by decide) (by decide)), hI, hE, (mDd_e (x := -3) (k := a 2) (P := P) (by unfold sndF; rw [if_pos (okB_y ⟨h7.1, by have w1 := h7.2; omega⟩), if_pos (okQ_y ⟨h14.1, by have w1 := h14.2; omega⟩), if_pos (bit1_y hw16.2 c19), if_pos (bit_y1 hw22.2.2.2.1 c30)]) (by decide +kernel) (eZ29.2 2 rfl) (by (try dsimp only); rw [show f25 33 = f 33 from (eZ29.1 33 rfl), show a26 31 = a 31 from (eZ29.2 31 rfl)]; exact hp2)), hZ⟩
    · have b46 : kb 0 v10 0 := kb_eq c12 kc_0
      refine lv_bipush (v := (-2)) hx hb dX12_sendsKept_16 (by decide) ?_
      exact kI_ret (v := (-2)) hx hb hr hlocks rfl hK hS dX12_sendsKept_18 (f, a, g) hP hD ⟨(kb_w kc_m2 (by decide) (by decide)), hI, hE, (mDd_e (x := -2) (k := a 2) (P := P) (by unfold sndF; rw [if_pos (okB_y ⟨h7.1, by have w1 := h7.2; omega⟩), if_neg (okQ_n (fun q => (hw9.2.2 c12) ⟨q.1, by have w1 := q.2; omega⟩))]) (by decide +kernel) rfl (by (try dsimp only); rw [show f 33 = f 33 from rfl, show a 31 = a 31 from rfl]; exact hp2)), hZ⟩
set_option maxHeartbeats 4000000 in
set_option maxRecDepth 100000 in
theorem n_restsKept  (l : Launch) {D : va_G} {K : Nat → ClassId} (o : Nat) (r : Nat → Nat) (f : Nat → Int32) (a : Nat → Nat → Int32) (g : Nat → Int64) (hI : mI f a) (x : Int32)  (P : pS) (hp0 : mPs (f 33) (a 31) P) : kI l yX12_restsKept (Cond.code yX12_restsKept cX12_restsKept 3 (some .int) :: kG) (rmD 3 0 0) D (tysK K) [.ref o, .int x] (mW K o r f a g) (fun v (u : mS) => kb (-3) v 9 ∧ mI u.1 u.2.1 ∧ mE (XR [(0, 23)]) f a u.1 u.2.1 ∧ mDd v u.1 u.2.1 (rstF (a 2) P x) ∧ mZ [33] [2, 31] f a u.1 u.2.1) (fun u => mW K o r u.1 u.2.1 u.2.2) 0 0 := by
  refine kI.of (cc := cX12_restsKept) (maxL := 3) (ret := (some .int)) (by decide) rfl (Nat.le_of_ble_eq_true rfl) ?_
  intro p e s m below meth c A hx hb hr hml hown hts hlocks hnm hK hP hD hS hA ls hl
  have hE : mE (XR [(0, 23)]) f a f a := mE_rf
  have hZ : mZ [33] [2, 31] f a f a := mZ_rf
  have hg : ∀ w ∈ kG, w.before _ s = true := fun w h => hts w (List.mem_cons_of_mem _ h)
  have hown : s.vm.findClass RX12 = some m.cls := hown
  have hl : lv_has ls 3 [(0, .ref o), (1, .int x)] := hl
  refine lv_aload_n hx hb dX12_restsKept_0 rfl (lv_at hl 0 rfl) ?_
  refine lv_iload_n hx hb dX12_restsKept_1 rfl (lv_at hl 1 rfl) ?_
  refine kI.callV (As := [.int x]) (rest := []) ⟨hx, hb, hml, hown, hg⟩ (m_isBuilder l o r f a g hI x  ) (cwV 1 hg (kgV wt6_138 wt6_140 wp3_15 wt1_14 wt6_141) rfl rfl rfl (by decide +kernel) ⟨by decide, by decide⟩) hK hP hD hS hA mIs [] rfl (wr := []) rfl rfl rfl (fun i h => by cases h) 0 12 rfl rfl rfl hl.1 rfl (Nat.le_of_ble_eq_true rfl) dX12_restsKept_2 ⟨Nat.le_refl _, Nat.le_refl _⟩ (fun v2 u3 H locs hw1 hP hD hS => ?_)
  have hP : va_P D vwCl (mW K o r f a g) H := hP
  have hD : va_D A (mW K o r f a g) := hD
  refine lv_if_ne (tgt := 11) hx hb dX12_restsKept_5 (by decide) (fun c4 => ?_) (fun c4 => ?_)
  · have b5 : kb 1 v2 1 := kr_nel c4 hw1.1 kc_0 (by decide)
    have h6 := hw1.2.1 c4
    have b7 : kb 0 x 5 := ⟨by have h1 := h6.1; omega, (by have h1 := h6.2; have h2 := (aI_at hI.2.1 2 103 (by decide) (by decide) : kb 0 (a 2 103) 6).2; omega)⟩
    refine lv_aload_n hx hb dX12_restsKept_11 rfl (lv_at hl 0 rfl) ?_
    refine va_get (D := D) (ci := 12) (v := .ref (r 2)) (C := RX12) (T := TX12) (N := 48) hx hb hg inC12 hown hK hP 0 rfl rfl 2 (by decide) (hg _ wt5_162) (fun _ h9 => h9) rfl dX12_restsKept_12 ?_
    refine lv_bipush (v := 16) hx hb dX12_restsKept_15 (by decide) ?_
    refine lv_iload_n hx hb dX12_restsKept_17 rfl (lv_at hl 1 rfl) ?_
    refine lv_iadd hx hb dX12_restsKept_18 ?_
    refine lv_topi (fun t8 et8 => ?_)
    have b9 : kb 16 t8 21 := kb_eq et8 (kb_add kc_16 b7 (by decide) (by decide))
    have qt8 : t8.toInt = 16 + x.toInt := by rw [et8]; exact kt_cadd kc_16 b7 (by decide) (by decide)
    refine va_iald hx hb hK hP 2 0 rfl rfl (kb_in b9 (by decide) (by decide)) dX12_restsKept_19 ?_
    refine lv_topi (fun t10 et10 => ?_)
    have b11 : kb (-1) t10 9 := kb_eq et10 (aI_ld hI.2.1 2 16 6 b9 (by decide) (by decide) (by decide +kernel))
    refine lv_istore_n (lv' := [(2, .int t10), (0, .ref o), (1, .int x)]) hx hb dX12_restsKept_20 rfl hl (by decide) rfl (fun ls hl => ?_)
    refine lv_iload_n hx hb dX12_restsKept_21 rfl (lv_at hl 0 rfl) ?_
    refine lv_iconst (v := (-1)) hx hb dX12_restsKept_22 (by decide) ?_
    refine lv_icmp_ne (tgt := 29) hx hb dX12_restsKept_23 (by decide) (fun c12 => ?_) (fun c12 => ?_)
    · have b13 : kb 0 t10 9 := kr_nel c12 b11 kc_m1 (by decide)
      refine lv_aload_n hx hb dX12_restsKept_29 rfl (lv_at hl 1 rfl) ?_
      refine lv_iconst (v := 1) hx hb dX12_restsKept_30 (by decide) ?_
      refine kV.callV (As := [.int 1]) (rest := []) ⟨hx, hb, hml, hown, hg⟩ (n_keeps l o r f a g hI 1 (kb_w kc_1 (by decide) (by decide)) P (by (try dsimp only); rw [show f 33 = f 33 from rfl, show a 31 = a 31 from rfl]; exact hp0)) (cwV 1 hg (kgV wt7_124 wt7_126 wp6_7 wt1_14 wt7_127) rfl rfl rfl (by decide +kernel) ⟨by decide, by decide⟩) hK hP hD hS hA mIs [] rfl (wr := []) rfl rfl rfl (fun i h => by cases h) 0 12 rfl rfl rfl hl.1 rfl (Nat.le_of_ble_eq_true rfl) dX12_restsKept_31 ⟨Nat.le_refl _, Nat.le_refl _⟩ (fun u16 H locs hw14 hP hD hS => ?_)
      obtain ⟨f17, a18, g19⟩ := u16
      have hP : va_P D vwCl (mW K o r f17 a18 g19) H := hP
      have hD : va_D A (mW K o r f17 a18 g19) := hD
      have hI : mI f17 a18 := hw14.1
      have hE : mE (XR [(0, 23)]) f a f17 a18 := mE_tr hE (mE_w (XR_w (by decide)) hw14.2.1)
      have eE20 : mE (XR []) f a f17 a18 := hw14.2.1
      have eZ21 : mZ [33] [31] f a f17 a18 := hw14.2.2.2
      have hZ : mZ [33] [2, 31] f a f17 a18 := mZ_tr hZ (mZ_w (by decide) (by decide) eZ21)
      have hkp : mPs (f17 33) (a18 31) (kpP P 1 (a 2)) := by have w1 := hw14.2.2.1; rw [show a 2 = a 2 from rfl] at w1; exact w1
      refine lv_aload_n hx hb dX12_restsKept_34 rfl (lv_at hl 1 rfl) ?_
      refine va_get (D := D) (ci := 12) (v := .ref (r 2)) (C := RX12) (T := TX12) (N := 48) hx hb hg inC12 hown hK hP 0 rfl rfl 2 (by decide) (hg _ wt5_162) (fun _ h9 => h9) rfl dX12_restsKept_35 ?_
      refine lv_bipush (v := 16) hx hb dX12_restsKept_38 (by decide) ?_
      refine lv_iload_n hx hb dX12_restsKept_40 rfl (lv_at hl 2 rfl) ?_
      refine lv_iadd hx hb dX12_restsKept_41 ?_
      refine k_top (z := t8) et8.symm ?_
      refine lv_iconst (v := (-1)) hx hb dX12_restsKept_42 (by decide) ?_
      refine va_iast hx hb hK hP hD hS 2 0 rfl rfl (kb_in b9 (by decide) (by decide)) dX12_restsKept_43 (fun H locs hP hD hS => ?_)
      have hP : va_P D vwCl (mW K o r f17 (va_up a18 2 (upd (a18 2) t8.toNatClampNeg (-1))) g19) H := hP
      have hD : va_D A (mW K o r f17 (va_up a18 2 (upd (a18 2) t8.toNatClampNeg (-1))) g19) := hD
      refine k_gen (P := fun z => va_P D vwCl (mW K o r f17 z g19) H ∧ va_D A (mW K o r f17 z g19) ∧ (mI f17 z) ∧ (mE (XR [(0, 23)]) f a f17 z) ∧ (mZ [33] [2, 31] f a f17 z)) (va_up a18 2 (upd (a18 2) t8.toNatClampNeg (-1))) ⟨hP, hD, (mI_2 hI (aI_sx hI.2.1 2 16 6 b9 (by decide) (by decide) kc_m1 (by decide +kernel)) (kb_clt b9 (by decide) (by decide))), (mE_2 hE (bX_at 16 6 b9 (by decide) (by decide) (by decide))), (mZ_a hZ rfl)⟩ (fun a_22 ea_22 hq => ?_)
      obtain ⟨hP, hD, hI, hE, hZ⟩ := hq
      refine lv_iload_n hx hb dX12_restsKept_44 rfl (lv_at hl 0 rfl) ?_
      exact kI_ret (v := t10) hx hb hr hlocks rfl hK hS dX12_restsKept_45 (f17, a_22, g19) hP hD ⟨(kb_w b13 (by decide) (by decide)), hI, hE, (mDd_e (by unfold rstF; rw [if_pos (okB_y ⟨h6.1, by have w1 := h6.2; omega⟩), if_neg (fun q => c12 ((et10.trans (congrArg (a 2) (show t8.toNatClampNeg = 16 + x.toNatClampNeg from by have w2 := qt8; have w1 := (b7).1; unfold Int32.toNatClampNeg; omega))).trans q))]) (congrArg Int32.toInt (et10.trans (congrArg (a 2) (show t8.toNatClampNeg = 16 + x.toNatClampNeg from by have w2 := qt8; have w1 := (b7).1; unfold Int32.toNatClampNeg; omega)))) (((show a_22 2 = upd (a18 2) t8.toNatClampNeg (-1) from by rw [← ea_22]; rfl).trans (congrArg (fun zz_ => upd zz_ t8.toNatClampNeg (-1)) (eZ21.2 2 rfl))).trans (by rw [(show t8.toNatClampNeg = 16 + x.toNatClampNeg from by have w2 := qt8; have w1 := (b7).1; unfold Int32.toNatClampNeg; omega)])) (by (try dsimp only); rw [show f17 33 = f17 33 from rfl, show a_22 31 = a18 31 from (show a_22 31 = a18 31 from by rw [← ea_22]; rfl)]; exact hkp)), hZ⟩
    · have b23 : kb (-1) t10 (-1) := kb_eq c12 kc_m1
      refine lv_bipush (v := (-3)) hx hb dX12_restsKept_26 (by decide) ?_
      exact kI_ret (v := (-3)) hx hb hr hlocks rfl hK hS dX12_restsKept_28 (f, a, g) hP hD ⟨(kb_w kc_m3 (by decide) (by decide)), hI, hE, (mDd_e (x := -3) (k := a 2) (P := P) (by unfold rstF; rw [if_pos (okB_y ⟨h6.1, by have w1 := h6.2; omega⟩), if_pos ((et10.trans (congrArg (a 2) (show t8.toNatClampNeg = 16 + x.toNatClampNeg from by have w2 := qt8; have w1 := (b7).1; unfold Int32.toNatClampNeg; omega))).symm.trans c12)]) (by decide +kernel) rfl (by (try dsimp only); rw [show f 33 = f 33 from rfl, show a 31 = a 31 from rfl]; exact hp0)), hZ⟩
  · have b24 : kb 0 v2 0 := kb_eq c4 kc_0
    refine lv_bipush (v := (-2)) hx hb dX12_restsKept_8 (by decide) ?_
    exact kI_ret (v := (-2)) hx hb hr hlocks rfl hK hS dX12_restsKept_10 (f, a, g) hP hD ⟨(kb_w kc_m2 (by decide) (by decide)), hI, hE, (mDd_e (x := -2) (k := a 2) (P := P) (by unfold rstF; rw [if_neg (okB_n (fun q => (hw1.2.2 c4) ⟨q.1, by have w1 := q.2; omega⟩))]) (by decide +kernel) rfl (by (try dsimp only); rw [show f 33 = f 33 from rfl, show a 31 = a 31 from rfl]; exact hp0)), hZ⟩
set_option maxHeartbeats 4000000 in
set_option maxRecDepth 100000 in
theorem n_isTouched  (l : Launch) {D : va_G} {K : Nat → ClassId} (o : Nat) (r : Nat → Nat) (f : Nat → Int32) (a : Nat → Nat → Int32) (g : Nat → Int64) (hI : mI f a) (pt : Int32) (bpt : kb 0 pt 9)   : kI l yX12_isTouched (Cond.code yX12_isTouched cX12_isTouched 2 (some .boolean) :: kG) (rmD 2 0 0) D (tysK K) [.ref o, .int pt] (mW K o r f a g) (fun v (_ : Unit) => kb 0 v 1 ∧ v = (if tcB (a 2) pt.toNatClampNeg = true then 1 else 0)) (fun _ => mW K o r f a g) 0 0 := by
  refine kI.of (cc := cX12_isTouched) (maxL := 2) (ret := (some .boolean)) (by decide) rfl (Nat.le_of_ble_eq_true rfl) ?_
  intro p e s m below meth c A hx hb hr hml hown hts hlocks hnm hK hP hD hS hA ls hl
  have hg : ∀ w ∈ kG, w.before _ s = true := fun w h => hts w (List.mem_cons_of_mem _ h)
  have hown : s.vm.findClass RX12 = some m.cls := hown
  have hl : lv_has ls 2 [(0, .ref o), (1, .int pt)] := hl
  refine lv_aload_n hx hb dX12_isTouched_0 rfl (lv_at hl 0 rfl) ?_
  refine va_get (D := D) (ci := 12) (v := .ref (r 2)) (C := RX12) (T := TX12) (N := 48) hx hb hg inC12 hown hK hP 0 rfl rfl 2 (by decide) (hg _ wt5_162) (fun _ h9 => h9) rfl dX12_isTouched_1 ?_
  refine lv_iconst (v := 0) hx hb dX12_isTouched_4 (by decide) ?_
  refine lv_iload_n hx hb dX12_isTouched_5 rfl (lv_at hl 1 rfl) ?_
  refine lv_iadd hx hb dX12_isTouched_6 ?_
  refine k_top (z := pt) (Int32.zero_add _) ?_
  refine va_iald hx hb hK hP 2 0 rfl rfl (kb_in bpt (by decide) (by decide)) dX12_isTouched_7 ?_
  refine lv_topi (fun t1 et1 => ?_)
  have b2 : kb 0 t1 99 := kb_eq et1 (aI_ld hI.2.1 2 0 10 bpt (by decide) (by decide) (by decide +kernel))
  refine lv_aload_n hx hb dX12_isTouched_8 rfl (lv_at hl 0 rfl) ?_
  refine va_get (D := D) (ci := 12) (v := .ref (r 2)) (C := RX12) (T := TX12) (N := 48) hx hb hg inC12 hown hK hP 0 rfl rfl 2 (by decide) (hg _ wt5_162) (fun _ h9 => h9) rfl dX12_isTouched_9 ?_
  refine lv_bipush (v := 23) hx hb dX12_isTouched_12 (by decide) ?_
  refine lv_iload_n hx hb dX12_isTouched_14 rfl (lv_at hl 1 rfl) ?_
  refine lv_iadd hx hb dX12_isTouched_15 ?_
  refine lv_topi (fun t3 et3 => ?_)
  have b4 : kb 23 t3 32 := kb_eq et3 (kb_add kc_23 bpt (by decide) (by decide))
  have qt3 : t3.toInt = 23 + pt.toInt := by rw [et3]; exact kt_cadd kc_23 bpt (by decide) (by decide)
  refine va_iald hx hb hK hP 2 0 rfl rfl (kb_in b4 (by decide) (by decide)) dX12_isTouched_16 ?_
  refine lv_topi (fun t5 et5 => ?_)
  have b6 : kb 0 t5 99 := kb_eq et5 (aI_ld hI.2.1 2 23 10 b4 (by decide) (by decide) (by decide +kernel))
  refine lv_icmp_lt (tgt := 29) hx hb dX12_isTouched_17 (by decide) (fun c7 => ?_) (fun c7 => ?_)
  · have h8 := (kc_lt c7)
    have b9 : kb 0 t1 98 := kr_lt1 h8 b2 b6 (by decide)
    have b10 : kb 1 t5 99 := kr_lt2 h8 b2 b6 (by decide)
    refine lv_iconst (v := 1) hx hb dX12_isTouched_29 (by decide) ?_
    refine lv_goto (tgt := 34) hx hb dX12_isTouched_30 (by decide) ?_
    exact kI_ret (v := 1) hx hb hr hlocks (by decide +kernel) hK hS dX12_isTouched_34 () hP hD ⟨(kb_w kc_1 (by decide) (by decide)), (by rw [if_pos]; unfold tcB; rw [← (show t1 = a 2 (0 + pt.toNatClampNeg) from et1.trans (congrArg (a 2) (Nat.zero_add _).symm)), ← (show t5 = a 2 (23 + pt.toNatClampNeg) from et5.trans (congrArg (a 2) (show t3.toNatClampNeg = _ from by have w1 := qt3; have w2 := (bpt).1; unfold Int32.toNatClampNeg; omega))), decide_eq_true (Int32.lt_iff_toInt_lt.mp c7)]; rfl)⟩
  · have h11 := (kc_nlt c7)
    refine lv_aload_n hx hb dX12_isTouched_20 rfl (lv_at hl 0 rfl) ?_
    refine lv_iconst (v := (-1)) hx hb dX12_isTouched_21 (by decide) ?_
    refine lv_iload_n hx hb dX12_isTouched_22 rfl (lv_at hl 1 rfl) ?_
    refine kI.callV (As := [.int (-1), .int pt]) (rest := []) ⟨hx, hb, hml, hown, hg⟩ (n_others l o r f a g hI (-1) pt (kb_w kc_m1 (by decide) (by decide)) ) (cwV 2 hg (kgV wt7_43 wt7_45 wp5_7 wt1_14 wt7_46) rfl rfl rfl (by decide +kernel) ⟨by decide, by decide⟩) hK hP hD hS hA mIs [] rfl (wr := []) rfl rfl rfl (fun i h => by cases h) 0 12 rfl rfl rfl hl.1 rfl (Nat.le_of_ble_eq_true rfl) dX12_isTouched_23 ⟨Nat.le_refl _, Nat.le_refl _⟩ (fun v13 u14 H locs hw12 hP hD hS => ?_)
    have hP : va_P D vwCl (mW K o r f a g) H := hP
    have hD : va_D A (mW K o r f a g) := hD
    refine lv_if_le (tgt := 33) hx hb dX12_isTouched_26 (by decide) (fun c15 => ?_) (fun c15 => ?_)
    · have h16 := (kc_le c15)
      have b17 : kb 0 v13 0 := kr_le1 h16 hw12.1 kc_0
      refine lv_iconst (v := 0) hx hb dX12_isTouched_33 (by decide) ?_
      exact kI_ret (v := 0) hx hb hr hlocks (by decide +kernel) hK hS dX12_isTouched_34 () hP hD ⟨(kb_w kc_0 (by decide) (by decide)), (by rw [if_neg]; intro w8; unfold tcB at w8; rw [← (show t1 = a 2 (0 + pt.toNatClampNeg) from et1.trans (congrArg (a 2) (Nat.zero_add _).symm)), ← (show t5 = a 2 (23 + pt.toNatClampNeg) from et5.trans (congrArg (a 2) (show t3.toNatClampNeg = _ from by have w1 := qt3; have w2 := (bpt).1; unfold Int32.toNatClampNeg; omega))), decide_eq_false (fun w9 => c7 (Int32.lt_iff_toInt_lt.mpr w9)), decide_eq_false (show ¬ 0 < oth (a 2) (-1) (nI pt.toNatClampNeg) (a 2 103).toInt.toNat from by rw [← (nI_q (show pt.toInt = (pt.toNatClampNeg : Int) from by have w1 := bpt.1; unfold Int32.toNatClampNeg; omega))]; have w1 := hw12.2; have w2 := kc_le c15; have w3 : (0 : Int32).toInt = 0 := (by decide +kernel); omega)] at w8; cases w8)⟩
    · have h18 := (kc_nle c15)
      have b19 : kb 1 v13 6 := kr_lt2 h18 kc_0 hw12.1 (by decide)
      refine lv_iconst (v := 1) hx hb dX12_isTouched_29 (by decide) ?_
      refine lv_goto (tgt := 34) hx hb dX12_isTouched_30 (by decide) ?_
      exact kI_ret (v := 1) hx hb hr hlocks (by decide +kernel) hK hS dX12_isTouched_34 () hP hD ⟨(kb_w kc_1 (by decide) (by decide)), (by rw [if_pos]; unfold tcB; rw [← (show t1 = a 2 (0 + pt.toNatClampNeg) from et1.trans (congrArg (a 2) (Nat.zero_add _).symm)), ← (show t5 = a 2 (23 + pt.toNatClampNeg) from et5.trans (congrArg (a 2) (show t3.toNatClampNeg = _ from by have w1 := qt3; have w2 := (bpt).1; unfold Int32.toNatClampNeg; omega))), decide_eq_true (show 0 < oth (a 2) (-1) (nI pt.toNatClampNeg) (a 2 103).toInt.toNat from by rw [← (nI_q (show pt.toInt = (pt.toNatClampNeg : Int) from by have w1 := bpt.1; unfold Int32.toNatClampNeg; omega))]; have w1 := hw12.2; have w2 := kc_nle c15; have w3 : (0 : Int32).toInt = 0 := (by decide +kernel); omega), Bool.or_true])⟩
set_option maxHeartbeats 4000000 in
set_option maxRecDepth 100000 in
theorem n_canThrow  (l : Launch) {D : va_G} {K : Nat → ClassId} (o : Nat) (r : Nat → Nat) (f : Nat → Int32) (a : Nat → Nat → Int32) (g : Nat → Int64) (hI : mI f a) (pt : Int32) (bpt : kb 0 pt 9)  (hp0 : kK (a 2)) : kI l yX12_canThrow (Cond.code yX12_canThrow cX12_canThrow 4 (some .boolean) :: kG) (rmD 3 0 0) D (tysK K) [.ref o, .int pt] (mW K o r f a g) (fun v (_ : Unit) => kb 0 v 1 ∧ v = (if thB (a 2) pt (kPn (a 2)) = true then 1 else 0)) (fun _ => mW K o r f a g) 0 0 := by
  refine kI.of (cc := cX12_canThrow) (maxL := 4) (ret := (some .boolean)) (by decide) rfl (Nat.le_of_ble_eq_true rfl) ?_
  intro p e s m below meth c A hx hb hr hml hown hts hlocks hnm hK hP hD hS hA ls hl
  have hg : ∀ w ∈ kG, w.before _ s = true := fun w h => hts w (List.mem_cons_of_mem _ h)
  have hown : s.vm.findClass RX12 = some m.cls := hown
  have hl : lv_has ls 4 [(0, .ref o), (1, .int pt)] := hl
  refine lv_aload_n hx hb dX12_canThrow_0 rfl (lv_at hl 0 rfl) ?_
  refine lv_iload_n hx hb dX12_canThrow_1 rfl (lv_at hl 1 rfl) ?_
  refine kI.callV (As := [.int pt]) (rest := []) ⟨hx, hb, hml, hown, hg⟩ (n_stands0 l o r f a g hI pt bpt ) (cwV 1 hg (kgV wt6_112 wt6_114 wp3_12 wt1_14 wt6_115) rfl rfl rfl (by decide +kernel) ⟨by decide, by decide⟩) hK hP hD hS hA mIs [] rfl (wr := []) rfl rfl rfl (fun i h => by cases h) 0 12 rfl rfl rfl hl.1 rfl (Nat.le_of_ble_eq_true rfl) dX12_canThrow_2 ⟨Nat.le_refl _, Nat.le_refl _⟩ (fun v2 u3 H locs hw1 hP hD hS => ?_)
  have hP : va_P D vwCl (mW K o r f a g) H := hP
  have hD : va_D A (mW K o r f a g) := hD
  refine lv_istore_n (lv' := [(2, .int v2), (0, .ref o), (1, .int pt)]) hx hb dX12_canThrow_5 rfl hl (by decide) rfl (fun ls hl => ?_)
  refine lv_iconst (v := 0) hx hb dX12_canThrow_6 (by decide) ?_
  refine lv_istore_n (lv' := [(3, .int 0), (2, .int v2), (0, .ref o), (1, .int pt)]) hx hb dX12_canThrow_7 rfl hl (by decide) rfl (fun ls hl => ?_)
  have lp6 : ∀ (n7 : Nat) (nn : Nat) (H : Heap) (locs : List Loc) (ls : Array Slot) (y4 : Int32) (y5 : Int32), (10 < y4.toInt + (n7 : Int)) → (kb 0 y4 10) → (kb 0 y5 1) → (y4.toInt = (nn : Int)) → (y5 = (if thB (a 2) pt nn = true then 1 else 0)) → (nn ≤ kPn (a 2)) → va_P D vwCl (mW K o r f a g) H → va_D A (mW K o r f a g) → va_S A s.heap H locs → lv_has ls 4 [(3, .int y4), (2, .int y5), (0, .ref o), (1, .int pt)] → W p l e (rmD 3 0 0) s m ([.ref o, .int pt] : List Value).toArray below meth c H locs 0 0 (kQi D (tysK K) (fun v (_ : Unit) => kb 0 v 1 ∧ v = (if thB (a 2) pt (kPn (a 2)) = true then 1 else 0)) (fun _ => mW K o r f a g) A below ([.ref o, .int pt] : List Value).toArray s 0 0) (F0 m 8 ls []) := by
    intro n7
    induction n7 with
    | zero =>
      intro nn  H locs ls y4 y5 hmlp6 b8 b9 hvlp6_0 hvlp6_1 hvlp6_2 hP hD hS hl
      exact (by have h1 := b8.2; have h2 := hmlp6; omega : False).elim
    | succ n7 ihlp6 =>
      intro nn  H locs ls y4 y5 hmlp6 b8 b9 hvlp6_0 hvlp6_1 hvlp6_2 hP hD hS hl
      have hnn : y4 = nI nn := nI_q hvlp6_0
      refine lv_iload_n hx hb dX12_canThrow_8 rfl (lv_at hl 0 rfl) ?_
      refine lv_aload_n hx hb dX12_canThrow_9 rfl (lv_at hl 2 rfl) ?_
      refine va_get (D := D) (ci := 12) (v := .ref (r 2)) (C := RX12) (T := TX12) (N := 48) hx hb hg inC12 hown hK hP 0 rfl rfl 2 (by decide) (hg _ wt5_162) (fun _ h9 => h9) rfl dX12_canThrow_10 ?_
      refine lv_bipush (v := 102) hx hb dX12_canThrow_13 (by decide) ?_
      refine va_iald hx hb hK hP 2 0 rfl rfl (kb_in kc_102 (by decide) (by decide)) dX12_canThrow_15 ?_
      refine lv_topi (fun t10 et10 => ?_)
      rw [cl_102] at et10
      have b11 : kb 0 t10 10 := kb_eq et10 (aI_at hI.2.1 2 102 (by decide) (by decide))
      refine lv_icmp_ge (tgt := 59) hx hb dX12_canThrow_16 (by decide) (fun c12 => ?_) (fun c12 => ?_)
      · have h13 := (kc_le c12)
        refine lv_iload_n hx hb dX12_canThrow_59 rfl (lv_at hl 1 rfl) ?_
        exact kI_ret (v := y5) hx hb hr hlocks (kb_bo b9) hK hS dX12_canThrow_60 () hP hD ⟨b9, (by rw [← (show nn = kPn (a 2) by have w1 := hvlp6_0; have w3 := (kPn_b hp0).1; have w4 := (kPn_b hp0).2; have w5 := hvlp6_2; have w2 := kc_le c12; have w6 := congrArg Int32.toInt et10; omega)]; exact hvlp6_1)⟩
      · have h14 := (kc_nle c12)
        have b15 : kb 0 y4 9 := kr_lt1 h14 b8 b11 (by decide)
        have b16 : kb 1 t10 10 := kr_lt2 h14 b8 b11 (by decide)
        refine lv_iload_n hx hb dX12_canThrow_19 rfl (lv_at hl 1 rfl) ?_
        refine lv_if_eq (tgt := 51) hx hb dX12_canThrow_20 (by decide) (fun c17 => ?_) (fun c17 => ?_)
        · have b18 : kb 0 y5 0 := kb_eq c17 kc_0
          refine lv_iconst (v := 0) hx hb dX12_canThrow_51 (by decide) ?_
          refine lv_istore_n (lv' := [(2, .int 0), (3, .int y4), (0, .ref o), (1, .int pt)]) hx hb dX12_canThrow_52 rfl hl (by decide) rfl (fun ls hl => ?_)
          obtain ⟨t19, et19⟩ : ∃ z : Int32, z = y4 + Int32.ofInt 1 := ⟨_, rfl⟩
          have qt19 : t19.toInt = y4.toInt + 1 := by rw [et19]; exact km_inc b15 (by decide) (by decide)
          have b20 : kb 1 t19 10 := kb_inc (k := 1) qt19 b15
          refine lv_iinc (v := t19) (lv' := [(3, .int t19), (2, .int 0), (0, .ref o), (1, .int pt)]) hx hb dX12_canThrow_53 hl (k := 1) rfl et19.symm (by decide) rfl (fun ls hl => ?_)
          refine lv_goto (tgt := 8) hx hb dX12_canThrow_56 (by decide) ?_
          exact ihlp6 (nn + 1) _ _ _ t19 0 (km_up hmlp6 qt19) (kb_w b20 (by decide) (by decide)) (kb_w kc_0 (by decide) (by decide)) (by have w1 := hvlp6_0; have w2 := qt19; omega) (th_0 hvlp6_1 c17) (by have w1 := hvlp6_0; have w2 := kc_nle c12; have w3 := congrArg Int32.toInt et10; have w4 := (kPn_b hp0).2; omega) hP hD hS (lv_sub hl [0, 1, 2, 3] rfl)
        · have b21 : kb 1 y5 1 := kr_nel c17 b9 kc_0 (by decide)
          refine lv_aload_n hx hb dX12_canThrow_23 rfl (lv_at hl 2 rfl) ?_
          refine va_get (D := D) (ci := 12) (v := .ref (r 2)) (C := RX12) (T := TX12) (N := 48) hx hb hg inC12 hown hK hP 0 rfl rfl 2 (by decide) (hg _ wt5_162) (fun _ h9 => h9) rfl dX12_canThrow_24 ?_
          refine lv_bipush (v := 33) hx hb dX12_canThrow_27 (by decide) ?_
          refine lv_iload_n hx hb dX12_canThrow_29 rfl (lv_at hl 0 rfl) ?_
          refine lv_iadd hx hb dX12_canThrow_30 ?_
          refine lv_topi (fun t22 et22 => ?_)
          have b23 : kb 33 t22 42 := kb_eq et22 (kb_add kc_33 b15 (by decide) (by decide))
          have qt22 : t22.toInt = 33 + y4.toInt := by rw [et22]; exact kt_cadd kc_33 b15 (by decide) (by decide)
          refine va_iald hx hb hK hP 2 0 rfl rfl (kb_in b23 (by decide) (by decide)) dX12_canThrow_31 ?_
          refine lv_topi (fun t24 et24 => ?_)
          refine lv_iload_n hx hb dX12_canThrow_32 rfl (lv_at hl 3 rfl) ?_
          refine kN.callS (As := [.int t24, .int pt]) (rest := []) ⟨hx, hb, hml, hown, hg⟩ (n_isIn l t24 pt ) (va_cwS 2 hg (kgS wt6_124 wt6_125 wt1_14 wt6_126) rfl rfl rfl (by decide +kernel) ⟨by decide, by decide⟩) hP hS rfl hl.1 rfl (Nat.le_of_ble_eq_true rfl) dX12_canThrow_33 ⟨Nat.le_refl _, Nat.le_refl _⟩ (fun v26 H locs hw25 hP hS => ?_)
          refine lv_if_eq (tgt := 47) hx hb dX12_canThrow_36 (by decide) (fun c28 => ?_) (fun c28 => ?_)
          · have b29 : kb 0 v26 0 := kb_eq c28 kc_0
            refine lv_iconst (v := 1) hx hb dX12_canThrow_47 (by decide) ?_
            refine lv_goto (tgt := 52) hx hb dX12_canThrow_48 (by decide) ?_
            refine lv_istore_n (lv' := [(2, .int 1), (3, .int y4), (0, .ref o), (1, .int pt)]) hx hb dX12_canThrow_52 rfl hl (by decide) rfl (fun ls hl => ?_)
            obtain ⟨t30, et30⟩ : ∃ z : Int32, z = y4 + Int32.ofInt 1 := ⟨_, rfl⟩
            have qt30 : t30.toInt = y4.toInt + 1 := by rw [et30]; exact km_inc b15 (by decide) (by decide)
            have b31 : kb 1 t30 10 := kb_inc (k := 1) qt30 b15
            refine lv_iinc (v := t30) (lv' := [(3, .int t30), (2, .int 1), (0, .ref o), (1, .int pt)]) hx hb dX12_canThrow_53 hl (k := 1) rfl et30.symm (by decide) rfl (fun ls hl => ?_)
            refine lv_goto (tgt := 8) hx hb dX12_canThrow_56 (by decide) ?_
            exact ihlp6 (nn + 1) _ _ _ t30 1 (km_up hmlp6 qt30) (kb_w b31 (by decide) (by decide)) (kb_w kc_1 (by decide) (by decide)) (by have w1 := hvlp6_0; have w2 := qt30; omega) (th_n hvlp6_1 c17 (fun w9 => bit_n hw25.2 c28 (by rw [(show t24 = a 2 (33 + nn) from ((show t24 = a 2 (33 + y4.toNatClampNeg) from et24.trans (congrArg (a 2) (show t22.toNatClampNeg = _ from by have w1 := qt22; have w2 := (b15).1; unfold Int32.toNatClampNeg; omega)))).trans (by rw [cl_nat hvlp6_0]))]; exact w9))) (by have w1 := hvlp6_0; have w2 := kc_nle c12; have w3 := congrArg Int32.toInt et10; have w4 := (kPn_b hp0).2; omega) hP hD hS (lv_sub hl [0, 1, 2, 3] rfl)
          · have b32 : kb 1 v26 1 := kr_nel c28 hw25.1 kc_0 (by decide)
            refine lv_aload_n hx hb dX12_canThrow_39 rfl (lv_at hl 2 rfl) ?_
            refine lv_iload_n hx hb dX12_canThrow_40 rfl (lv_at hl 0 rfl) ?_
            refine kI.callV (As := [.int y4]) (rest := []) ⟨hx, hb, hml, hown, hg⟩ (n_isTouched l o r f a g hI y4 b15 ) (cwV 1 hg (kgV wt7_152 wt7_154 wp6_12 wt1_14 wt7_155) rfl rfl rfl (by decide +kernel) ⟨by decide, by decide⟩) hK hP hD hS hA mIs [] rfl (wr := []) rfl rfl rfl (fun i h => by cases h) 0 12 rfl rfl rfl hl.1 rfl (Nat.le_of_ble_eq_true rfl) dX12_canThrow_41 ⟨Nat.le_refl _, Nat.le_refl _⟩ (fun v34 u35 H locs hw33 hP hD hS => ?_)
            have hP : va_P D vwCl (mW K o r f a g) H := hP
            have hD : va_D A (mW K o r f a g) := hD
            refine lv_if_ne (tgt := 51) hx hb dX12_canThrow_44 (by decide) (fun c36 => ?_) (fun c36 => ?_)
            · have b37 : kb 1 v34 1 := kr_nel c36 hw33.1 kc_0 (by decide)
              refine lv_iconst (v := 0) hx hb dX12_canThrow_51 (by decide) ?_
              refine lv_istore_n (lv' := [(2, .int 0), (3, .int y4), (0, .ref o), (1, .int pt)]) hx hb dX12_canThrow_52 rfl hl (by decide) rfl (fun ls hl => ?_)
              obtain ⟨t38, et38⟩ : ∃ z : Int32, z = y4 + Int32.ofInt 1 := ⟨_, rfl⟩
              have qt38 : t38.toInt = y4.toInt + 1 := by rw [et38]; exact km_inc b15 (by decide) (by decide)
              have b39 : kb 1 t38 10 := kb_inc (k := 1) qt38 b15
              refine lv_iinc (v := t38) (lv' := [(3, .int t38), (2, .int 0), (0, .ref o), (1, .int pt)]) hx hb dX12_canThrow_53 hl (k := 1) rfl et38.symm (by decide) rfl (fun ls hl => ?_)
              refine lv_goto (tgt := 8) hx hb dX12_canThrow_56 (by decide) ?_
              exact ihlp6 (nn + 1) _ _ _ t38 0 (km_up hmlp6 qt38) (kb_w b39 (by decide) (by decide)) (kb_w kc_0 (by decide) (by decide)) (by have w1 := hvlp6_0; have w2 := qt38; omega) (th_t hvlp6_1 (by have w9 := bit_y hw25.2 c28; rw [(show t24 = a 2 (33 + nn) from ((show t24 = a 2 (33 + y4.toNatClampNeg) from et24.trans (congrArg (a 2) (show t22.toNatClampNeg = _ from by have w1 := qt22; have w2 := (b15).1; unfold Int32.toNatClampNeg; omega)))).trans (by rw [cl_nat hvlp6_0]))] at w9; exact w9) (bit1_y (by have w9 := hw33.2; rw [cl_nat hvlp6_0] at w9; exact w9) c36)) (by have w1 := hvlp6_0; have w2 := kc_nle c12; have w3 := congrArg Int32.toInt et10; have w4 := (kPn_b hp0).2; omega) hP hD hS (lv_sub hl [0, 1, 2, 3] rfl)
            · have b40 : kb 0 v34 0 := kb_eq c36 kc_0
              refine lv_iconst (v := 1) hx hb dX12_canThrow_47 (by decide) ?_
              refine lv_goto (tgt := 52) hx hb dX12_canThrow_48 (by decide) ?_
              refine lv_istore_n (lv' := [(2, .int 1), (3, .int y4), (0, .ref o), (1, .int pt)]) hx hb dX12_canThrow_52 rfl hl (by decide) rfl (fun ls hl => ?_)
              obtain ⟨t41, et41⟩ : ∃ z : Int32, z = y4 + Int32.ofInt 1 := ⟨_, rfl⟩
              have qt41 : t41.toInt = y4.toInt + 1 := by rw [et41]; exact km_inc b15 (by decide) (by decide)
              have b42 : kb 1 t41 10 := kb_inc (k := 1) qt41 b15
              refine lv_iinc (v := t41) (lv' := [(3, .int t41), (2, .int 1), (0, .ref o), (1, .int pt)]) hx hb dX12_canThrow_53 hl (k := 1) rfl et41.symm (by decide) rfl (fun ls hl => ?_)
              refine lv_goto (tgt := 8) hx hb dX12_canThrow_56 (by decide) ?_
              exact ihlp6 (nn + 1) _ _ _ t41 1 (km_up hmlp6 qt41) (kb_w b42 (by decide) (by decide)) (kb_w kc_1 (by decide) (by decide)) (by have w1 := hvlp6_0; have w2 := qt41; omega) (th_f hvlp6_1 c17 (by have w9 := bit_y hw25.2 c28; rw [(show t24 = a 2 (33 + nn) from ((show t24 = a 2 (33 + y4.toNatClampNeg) from et24.trans (congrArg (a 2) (show t22.toNatClampNeg = _ from by have w1 := qt22; have w2 := (b15).1; unfold Int32.toNatClampNeg; omega)))).trans (by rw [cl_nat hvlp6_0]))] at w9; exact w9) (bit1_n (by have w9 := hw33.2; rw [cl_nat hvlp6_0] at w9; exact w9) c36)) (by have w1 := hvlp6_0; have w2 := kc_nle c12; have w3 := congrArg Int32.toInt et10; have w4 := (kPn_b hp0).2; omega) hP hD hS (lv_sub hl [0, 1, 2, 3] rfl)
  exact lp6 (11) 0 _ _ _ 0 v2 (by have h1 := (kc_0); unfold kb at h1; omega) (kb_w kc_0 (by decide) (by decide)) hw1.1 (by decide +kernel) ((hw1.2.trans (by show _ = if upB (a 2) pt.toNatClampNeg = true then 1 else 0; unfold upB; by_cases w9 : a 2 (0 + pt.toNatClampNeg) = 0; (rw [if_pos w9, decide_eq_true w9]; rfl); (rw [if_neg w9, decide_eq_false w9]; rfl)))) (Nat.zero_le _) hP hD hS (lv_sub hl [0, 1, 2, 3] rfl)
set_option maxHeartbeats 4000000 in
set_option maxRecDepth 100000 in
theorem n_throwsKept  (l : Launch) {D : va_G} {K : Nat → ClassId} (o : Nat) (r : Nat → Nat) (f : Nat → Int32) (a : Nat → Nat → Int32) (g : Nat → Int64) (hI : mI f a) (x : Int32)  (P : pS) (hp0 : kK (a 2)) (hp1 : mPs (f 33) (a 31) P) : kI l yX12_throwsKept (Cond.code yX12_throwsKept cX12_throwsKept 2 (some .int) :: kG) (rmD 4 0 0) D (tysK K) [.ref o, .int x] (mW K o r f a g) (fun v (u : mS) => kb (-3) v 99 ∧ mI u.1 u.2.1 ∧ mE (XR [(0, 23)]) f a u.1 u.2.1 ∧ mDd v u.1 u.2.1 (thrF (a 2) P x) ∧ mZ [33] [2, 31] f a u.1 u.2.1) (fun u => mW K o r u.1 u.2.1 u.2.2) 0 0 := by
  refine kI.of (cc := cX12_throwsKept) (maxL := 2) (ret := (some .int)) (by decide) rfl (Nat.le_of_ble_eq_true rfl) ?_
  intro p e s m below meth c A hx hb hr hml hown hts hlocks hnm hK hP hD hS hA ls hl
  have hE : mE (XR [(0, 23)]) f a f a := mE_rf
  have hZ : mZ [33] [2, 31] f a f a := mZ_rf
  have hg : ∀ w ∈ kG, w.before _ s = true := fun w h => hts w (List.mem_cons_of_mem _ h)
  have hown : s.vm.findClass RX12 = some m.cls := hown
  have hl : lv_has ls 2 [(0, .ref o), (1, .int x)] := hl
  refine lv_aload_n hx hb dX12_throwsKept_0 rfl (lv_at hl 0 rfl) ?_
  refine lv_iload_n hx hb dX12_throwsKept_1 rfl (lv_at hl 1 rfl) ?_
  refine kI.callV (As := [.int x]) (rest := []) ⟨hx, hb, hml, hown, hg⟩ (m_isPart l o r f a g hI x  ) (cwV 1 hg (kgV wt6_104 wt6_106 wp3_10 wt1_14 wt6_107) rfl rfl rfl (by decide +kernel) ⟨by decide, by decide⟩) hK hP hD hS hA mIs [] rfl (wr := []) rfl rfl rfl (fun i h => by cases h) 0 12 rfl rfl rfl hl.1 rfl (Nat.le_of_ble_eq_true rfl) dX12_throwsKept_2 ⟨Nat.le_refl _, Nat.le_refl _⟩ (fun v2 u3 H locs hw1 hP hD hS => ?_)
  have hP : va_P D vwCl (mW K o r f a g) H := hP
  have hD : va_D A (mW K o r f a g) := hD
  refine lv_if_ne (tgt := 11) hx hb dX12_throwsKept_5 (by decide) (fun c4 => ?_) (fun c4 => ?_)
  · have b5 : kb 1 v2 1 := kr_nel c4 hw1.1 kc_0 (by decide)
    have h6 := hw1.2.1 c4
    have b7 : kb 0 x 9 := ⟨by have h1 := h6.1; omega, (by have h1 := h6.2; have h2 := (aI_at hI.2.1 2 102 (by decide) (by decide) : kb 0 (a 2 102) 10).2; omega)⟩
    refine lv_aload_n hx hb dX12_throwsKept_11 rfl (lv_at hl 0 rfl) ?_
    refine lv_iload_n hx hb dX12_throwsKept_12 rfl (lv_at hl 1 rfl) ?_
    refine kI.callV (As := [.int x]) (rest := []) ⟨hx, hb, hml, hown, hg⟩ (n_canThrow l o r f a g hI x b7 hp0) (cwV 1 hg (kgV wt7_148 wt7_150 wp6_11 wt1_14 wt7_151) rfl rfl rfl (by decide +kernel) ⟨by decide, by decide⟩) hK hP hD hS hA mIs [] rfl (wr := []) rfl rfl rfl (fun i h => by cases h) 0 12 rfl rfl rfl hl.1 rfl (Nat.le_of_ble_eq_true rfl) dX12_throwsKept_13 ⟨Nat.le_refl _, Nat.le_refl _⟩ (fun v9 u10 H locs hw8 hP hD hS => ?_)
    have hP : va_P D vwCl (mW K o r f a g) H := hP
    have hD : va_D A (mW K o r f a g) := hD
    refine lv_if_ne (tgt := 22) hx hb dX12_throwsKept_16 (by decide) (fun c11 => ?_) (fun c11 => ?_)
    · have b12 : kb 1 v9 1 := kr_nel c11 hw8.1 kc_0 (by decide)
      refine lv_aload_n hx hb dX12_throwsKept_22 rfl (lv_at hl 0 rfl) ?_
      refine lv_iconst (v := 2) hx hb dX12_throwsKept_23 (by decide) ?_
      refine kV.callV (As := [.int 2]) (rest := []) ⟨hx, hb, hml, hown, hg⟩ (n_keeps l o r f a g hI 2 (kb_w kc_2 (by decide) (by decide)) P (by (try dsimp only); rw [show f 33 = f 33 from rfl, show a 31 = a 31 from rfl]; exact hp1)) (cwV 1 hg (kgV wt7_124 wt7_126 wp6_7 wt1_14 wt7_127) rfl rfl rfl (by decide +kernel) ⟨by decide, by decide⟩) hK hP hD hS hA mIs [] rfl (wr := []) rfl rfl rfl (fun i h => by cases h) 0 12 rfl rfl rfl hl.1 rfl (Nat.le_of_ble_eq_true rfl) dX12_throwsKept_24 ⟨Nat.le_refl _, Nat.le_refl _⟩ (fun u15 H locs hw13 hP hD hS => ?_)
      obtain ⟨f16, a17, g18⟩ := u15
      have hP : va_P D vwCl (mW K o r f16 a17 g18) H := hP
      have hD : va_D A (mW K o r f16 a17 g18) := hD
      have hI : mI f16 a17 := hw13.1
      have hE : mE (XR [(0, 23)]) f a f16 a17 := mE_tr hE (mE_w (XR_w (by decide)) hw13.2.1)
      have eE19 : mE (XR []) f a f16 a17 := hw13.2.1
      have eZ20 : mZ [33] [31] f a f16 a17 := hw13.2.2.2
      have hZ : mZ [33] [2, 31] f a f16 a17 := mZ_tr hZ (mZ_w (by decide) (by decide) eZ20)
      have hkp : mPs (f16 33) (a17 31) (kpP P 2 (a 2)) := by have w1 := hw13.2.2.1; rw [show a 2 = a 2 from rfl] at w1; exact w1
      refine lv_aload_n hx hb dX12_throwsKept_27 rfl (lv_at hl 0 rfl) ?_
      refine va_get (D := D) (ci := 12) (v := .ref (r 2)) (C := RX12) (T := TX12) (N := 48) hx hb hg inC12 hown hK hP 0 rfl rfl 2 (by decide) (hg _ wt5_162) (fun _ h9 => h9) rfl dX12_throwsKept_28 ?_
      refine lv_iconst (v := 0) hx hb dX12_throwsKept_31 (by decide) ?_
      refine lv_iload_n hx hb dX12_throwsKept_32 rfl (lv_at hl 1 rfl) ?_
      refine lv_iadd hx hb dX12_throwsKept_33 ?_
      refine k_top (z := x) (Int32.zero_add _) ?_
      refine lv_aload_n hx hb dX12_throwsKept_34 rfl (lv_at hl 0 rfl) ?_
      refine va_get (D := D) (ci := 12) (v := .ref (r 2)) (C := RX12) (T := TX12) (N := 48) hx hb hg inC12 hown hK hP 0 rfl rfl 2 (by decide) (hg _ wt5_162) (fun _ h9 => h9) rfl dX12_throwsKept_35 ?_
      refine lv_bipush (v := 23) hx hb dX12_throwsKept_38 (by decide) ?_
      refine lv_iload_n hx hb dX12_throwsKept_40 rfl (lv_at hl 1 rfl) ?_
      refine lv_iadd hx hb dX12_throwsKept_41 ?_
      refine lv_topi (fun t21 et21 => ?_)
      have b22 : kb 23 t21 32 := kb_eq et21 (kb_add kc_23 b7 (by decide) (by decide))
      have qt21 : t21.toInt = 23 + x.toInt := by rw [et21]; exact kt_cadd kc_23 b7 (by decide) (by decide)
      refine va_iald hx hb hK hP 2 0 rfl rfl (kb_in b22 (by decide) (by decide)) dX12_throwsKept_42 ?_
      refine lv_topi (fun t23 et23 => ?_)
      have b24 : kb 0 t23 99 := kb_eq et23 (aI_ld hI.2.1 2 23 10 b22 (by decide) (by decide) (by decide +kernel))
      refine va_iast hx hb hK hP hD hS 2 0 rfl rfl (kb_in b7 (by decide) (by decide)) dX12_throwsKept_43 (fun H locs hP hD hS => ?_)
      have hP : va_P D vwCl (mW K o r f16 (va_up a17 2 (upd (a17 2) x.toNatClampNeg t23)) g18) H := hP
      have hD : va_D A (mW K o r f16 (va_up a17 2 (upd (a17 2) x.toNatClampNeg t23)) g18) := hD
      refine k_gen (P := fun z => va_P D vwCl (mW K o r f16 z g18) H ∧ va_D A (mW K o r f16 z g18) ∧ (mI f16 z) ∧ (mE (XR [(0, 23)]) f a f16 z) ∧ (mZ [33] [2, 31] f a f16 z)) (va_up a17 2 (upd (a17 2) x.toNatClampNeg t23)) ⟨hP, hD, (mI_2 hI (aI_sx hI.2.1 2 0 10 b7 (by decide) (by decide) b24 (by decide +kernel)) (kb_clt b7 (by decide) (by decide))), (mE_2 hE (bX_at 0 10 b7 (by decide) (by decide) (by decide))), (mZ_a hZ rfl)⟩ (fun a_25 ea_25 hq => ?_)
      obtain ⟨hP, hD, hI, hE, hZ⟩ := hq
      refine lv_aload_n hx hb dX12_throwsKept_44 rfl (lv_at hl 0 rfl) ?_
      refine va_get (D := D) (ci := 12) (v := .ref (r 2)) (C := RX12) (T := TX12) (N := 48) hx hb hg inC12 hown hK hP 0 rfl rfl 2 (by decide) (hg _ wt5_162) (fun _ h9 => h9) rfl dX12_throwsKept_45 ?_
      refine lv_bipush (v := 23) hx hb dX12_throwsKept_48 (by decide) ?_
      refine lv_iload_n hx hb dX12_throwsKept_50 rfl (lv_at hl 1 rfl) ?_
      refine lv_iadd hx hb dX12_throwsKept_51 ?_
      refine k_top (z := t21) et21.symm ?_
      refine va_iald hx hb hK hP 2 0 rfl rfl (kb_in b22 (by decide) (by decide)) dX12_throwsKept_52 ?_
      refine k_top (z := t23) ((show a_25 2 t21.toNatClampNeg = a17 2 t21.toNatClampNeg from by rw [← ea_25]; exact (pk_un (f := a17 2) (j := t21.toNatClampNeg) (kb_nd b22 b7 (by decide) (by decide) (by decide)))).trans et23.symm) ?_
      exact kI_ret (v := t23) hx hb hr hlocks rfl hK hS dX12_throwsKept_53 (f16, a_25, g18) hP hD ⟨(kb_w b24 (by decide) (by decide)), hI, hE, (mDd_e (by unfold thrF; rw [if_pos (okQ_y ⟨h6.1, by have w1 := h6.2; omega⟩), if_pos (bit1_y hw8.2 c11)]) (congrArg Int32.toInt ((et23.trans (congrFun (eZ20.2 2 rfl) (t21.toNatClampNeg))).trans (by rw [(show t21.toNatClampNeg = 23 + x.toNatClampNeg from by have w2 := qt21; have w1 := (b7).1; unfold Int32.toNatClampNeg; omega)]))) (((show a_25 2 = upd (a17 2) x.toNatClampNeg t23 from by rw [← ea_25]; rfl).trans (congrArg (fun zz_ => upd zz_ x.toNatClampNeg t23) (eZ20.2 2 rfl))).trans (by rw [show t23 = a 2 (23 + x.toNatClampNeg) from (et23.trans (congrFun (eZ20.2 2 rfl) (t21.toNatClampNeg))).trans (by rw [(show t21.toNatClampNeg = 23 + x.toNatClampNeg from by have w2 := qt21; have w1 := (b7).1; unfold Int32.toNatClampNeg; omega)]), Nat.zero_add])) (by (try dsimp only); rw [show f16 33 = f16 33 from rfl, show a_25 31 = a17 31 from (show a_25 31 = a17 31 from by rw [← ea_25]; rfl)]; exact hkp)), hZ⟩
    · have b26 : kb 0 v9 0 := kb_eq c11 kc_0
      refine lv_bipush (v := (-3)) hx hb dX12_throwsKept_19 (by decide) ?_
      exact kI_ret (v := (-3)) hx hb hr hlocks rfl hK hS dX12_throwsKept_21 (f, a, g) hP hD ⟨(kb_w kc_m3 (by decide) (by decide)), hI, hE, (mDd_e (x := -3) (k := a 2) (P := P) (by unfold thrF; rw [if_pos (okQ_y ⟨h6.1, by have w1 := h6.2; omega⟩), if_neg (bit1_n hw8.2 c11)]) (by decide +kernel) rfl (by (try dsimp only); rw [show f 33 = f 33 from rfl, show a 31 = a 31 from rfl]; exact hp1)), hZ⟩
  · have b27 : kb 0 v2 0 := kb_eq c4 kc_0
    refine lv_bipush (v := (-2)) hx hb dX12_throwsKept_8 (by decide) ?_
    exact kI_ret (v := (-2)) hx hb hr hlocks rfl hK hS dX12_throwsKept_10 (f, a, g) hP hD ⟨(kb_w kc_m2 (by decide) (by decide)), hI, hE, (mDd_e (x := -2) (k := a 2) (P := P) (by unfold thrF; rw [if_neg (okQ_n (fun q => (hw1.2.2 c4) ⟨q.1, by have w1 := q.2; omega⟩))]) (by decide +kernel) rfl (by (try dsimp only); rw [show f 33 = f 33 from rfl, show a 31 = a 31 from rfl]; exact hp1)), hZ⟩
set_option maxHeartbeats 4000000 in
set_option maxRecDepth 100000 in
theorem n_ticksKept  (l : Launch) {D : va_G} {K : Nat → ClassId} (o : Nat) (r : Nat → Nat) (f : Nat → Int32) (a : Nat → Nat → Int32) (g : Nat → Int64) (hI : mI f a)   (DD : Nat → tE) (P : pS) (hp0 : kK (a 2)) (hp1 : lM (a 2) DD) (hp2 : mPs (f 33) (a 31) P) (hp3 : (a 2 22).toInt ≤ 999) : kI l yX12_ticksKept (Cond.code yX12_ticksKept cX12_ticksKept 1 (some .int) :: kG) (rmD 51 0 0) D (tysK K) [.ref o] (mW K o r f a g) (fun v (u : mS) => kb (-3) v 10 ∧ mI u.1 u.2.1 ∧ mE (XR [(0, 23)]) f a u.1 u.2.1 ∧ mDd v u.1 u.2.1 (ticF DD (a 2) P) ∧ mZ [22, 23, 24, 25, 33] [2, 26, 29, 30, 31] f a u.1 u.2.1) (fun u => mW K o r u.1 u.2.1 u.2.2) 0 0 := by
  refine kI.of (cc := cX12_ticksKept) (maxL := 1) (ret := (some .int)) (by decide) rfl (Nat.le_of_ble_eq_true rfl) ?_
  intro p e s m below meth c A hx hb hr hml hown hts hlocks hnm hK hP hD hS hA ls hl
  have hE : mE (XR [(0, 23)]) f a f a := mE_rf
  have hZ : mZ [22, 23, 24, 25, 33] [2, 26, 29, 30, 31] f a f a := mZ_rf
  have hg : ∀ w ∈ kG, w.before _ s = true := fun w h => hts w (List.mem_cons_of_mem _ h)
  have hown : s.vm.findClass RX12 = some m.cls := hown
  have hl : lv_has ls 1 [(0, .ref o)] := hl
  refine lv_aload_n hx hb dX12_ticksKept_0 rfl (lv_at hl 0 rfl) ?_
  refine va_get (D := D) (ci := 12) (v := .ref (r 2)) (C := RX12) (T := TX12) (N := 48) hx hb hg inC12 hown hK hP 0 rfl rfl 2 (by decide) (hg _ wt5_162) (fun _ h9 => h9) rfl dX12_ticksKept_1 ?_
  refine lv_bipush (v := 22) hx hb dX12_ticksKept_4 (by decide) ?_
  refine va_iald hx hb hK hP 2 0 rfl rfl (kb_in kc_22 (by decide) (by decide)) dX12_ticksKept_6 ?_
  refine lv_topi (fun t1 et1 => ?_)
  rw [cl_22] at et1
  refine lv_sipush (v := 999) hx hb dX12_ticksKept_7 (by decide) ?_
  refine lv_icmp_ne (tgt := 16) hx hb dX12_ticksKept_10 (by decide) (fun c2 => ?_) (fun c2 => ?_)
  · refine lv_aload_n hx hb dX12_ticksKept_16 rfl (lv_at hl 0 rfl) ?_
    refine lv_iconst (v := 3) hx hb dX12_ticksKept_17 (by decide) ?_
    refine kV.callV (As := [.int 3]) (rest := []) ⟨hx, hb, hml, hown, hg⟩ (n_keeps l o r f a g hI 3 (kb_w kc_3 (by decide) (by decide)) P (by (try dsimp only); rw [show f 33 = f 33 from rfl, show a 31 = a 31 from rfl]; exact hp2)) (cwV 1 hg (kgV wt7_124 wt7_126 wp6_7 wt1_14 wt7_127) rfl rfl rfl (by decide +kernel) ⟨by decide, by decide⟩) hK hP hD hS hA mIs [] rfl (wr := []) rfl rfl rfl (fun i h => by cases h) 0 12 rfl rfl rfl hl.1 rfl (Nat.le_of_ble_eq_true rfl) dX12_ticksKept_18 ⟨Nat.le_refl _, Nat.le_refl _⟩ (fun u5 H locs hw3 hP hD hS => ?_)
    obtain ⟨f6, a7, g8⟩ := u5
    have hP : va_P D vwCl (mW K o r f6 a7 g8) H := hP
    have hD : va_D A (mW K o r f6 a7 g8) := hD
    have hI : mI f6 a7 := hw3.1
    have hE : mE (XR [(0, 23)]) f a f6 a7 := mE_tr hE (mE_w (XR_w (by decide)) hw3.2.1)
    have eE9 : mE (XR []) f a f6 a7 := hw3.2.1
    have eZ10 : mZ [33] [31] f a f6 a7 := hw3.2.2.2
    have hZ : mZ [22, 23, 24, 25, 33] [2, 26, 29, 30, 31] f a f6 a7 := mZ_tr hZ (mZ_w (by decide) (by decide) eZ10)
    have hkp : mPs (f6 33) (a7 31) (kpP P 3 (a 2)) := by have w1 := hw3.2.2.1; rw [show a 2 = a 2 from rfl] at w1; exact w1
    refine lv_aload_n hx hb dX12_ticksKept_21 rfl (lv_at hl 0 rfl) ?_
    refine lv_aload_n hx hb dX12_ticksKept_22 rfl (lv_at hl 0 rfl) ?_
    refine kI.callV (As := []) (rest := [.ref o]) ⟨hx, hb, hml, hown, hg⟩ (n_allBuilders l o r f6 a7 g8 hI   (by rw [show a7 2 = a 2 from (eZ10.2 2 rfl)]; exact hp0)) (cwV 0 hg (kgV wt7_164 wt7_166 wp6_14 wt1_14 wt7_167) rfl rfl rfl (by decide +kernel) ⟨by decide, by decide⟩) hK hP hD hS hA mIs [] rfl (wr := []) rfl rfl rfl (fun i h => by cases h) 0 12 rfl rfl rfl hl.1 rfl (Nat.le_of_ble_eq_true rfl) dX12_ticksKept_23 ⟨Nat.le_refl _, Nat.le_refl _⟩ (fun v12 u13 H locs hw11 hP hD hS => ?_)
    have hP : va_P D vwCl (mW K o r f6 a7 g8) H := hP
    have hD : va_D A (mW K o r f6 a7 g8) := hD
    refine kI.callV (As := [.int v12]) (rest := []) ⟨hx, hb, hml, hown, hg⟩ (n_ticks l o r f6 a7 g8 hI v12  DD (by rw [show a7 2 = a 2 from (eZ10.2 2 rfl)]; exact hp0) (by rw [show a7 2 = a 2 from (eZ10.2 2 rfl)]; exact hp1) hw11.2 (by rw [show a7 2 = a 2 from (eZ10.2 2 rfl)]; have w1 := hp3; omega)) (cwV 1 hg (kgV wt7_168 wt7_170 wp6_15 wt1_14 wt7_171) rfl rfl rfl (by decide +kernel) ⟨by decide, by decide⟩) hK hP hD hS hA mIs [] rfl (wr := []) rfl rfl rfl (fun i h => by cases h) 0 12 rfl rfl rfl hl.1 rfl (Nat.le_of_ble_eq_true rfl) dX12_ticksKept_26 ⟨Nat.le_refl _, Nat.le_refl _⟩ (fun v15 u16 H locs hw14 hP hD hS => ?_)
    obtain ⟨f17, a18, g19⟩ := u16
    have hP : va_P D vwCl (mW K o r f17 a18 g19) H := hP
    have hD : va_D A (mW K o r f17 a18 g19) := hD
    have hI : mI f17 a18 := hw14.2.1
    have hE : mE (XR [(0, 23)]) f a f17 a18 := mE_tr hE hw14.2.2.1
    have eE20 : mE (XR [(0, 23)]) f6 a7 f17 a18 := hw14.2.2.1
    have eZ21 : mZ [22, 23, 24, 25] [2, 26, 29, 30] f6 a7 f17 a18 := hw14.2.2.2.2.2
    have hZ : mZ [22, 23, 24, 25, 33] [2, 26, 29, 30, 31] f a f17 a18 := mZ_tr hZ (mZ_w (by decide) (by decide) eZ21)
    have htk : a18 2 = tkF DD (a 2) ∧ v15.toInt = tkR (a 2) (tkF DD (a 2)) := by have w1 := hw14.2.2.2.1; have w2 := hw14.2.2.2.2.1; rw [show a7 2 = a 2 from (eZ10.2 2 rfl)] at w1 w2; exact ⟨w1, w2⟩
    exact kI_ret (v := v15) hx hb hr hlocks rfl hK hS dX12_ticksKept_29 (f17, a18, g19) hP hD ⟨(kb_w hw14.1 (by decide) (by decide)), hI, hE, (mDd_e (by unfold ticF; rw [if_neg (fun q => c2 (Int32.toInt_inj.mp (by have w3 : (999 : Int32).toInt = 999 := (by decide +kernel); have w1 := congrArg Int32.toInt et1; have w4 := hp3; omega)))]) htk.2 htk.1 (by (try dsimp only); rw [show f17 33 = f6 33 from (eZ21.1 33 rfl), show a18 31 = a7 31 from (eZ21.2 31 rfl)]; exact hkp)), hZ⟩
  · have b22 : kb 999 t1 999 := kb_eq c2 kc_999
    refine lv_bipush (v := (-3)) hx hb dX12_ticksKept_13 (by decide) ?_
    exact kI_ret (v := (-3)) hx hb hr hlocks rfl hK hS dX12_ticksKept_15 (f, a, g) hP hD ⟨(kb_w kc_m3 (by decide) (by decide)), hI, hE, (mDd_e (x := -3) (k := a 2) (P := P) (by unfold ticF; rw [if_pos (by have w1 := congrArg Int32.toInt et1; have w2 := congrArg Int32.toInt c2; have w3 : (999 : Int32).toInt = 999 := (by decide +kernel); omega)]) (by decide +kernel) rfl (by (try dsimp only); rw [show f 33 = f 33 from rfl, show a 31 = a 31 from rfl]; exact hp2)), hZ⟩
set_option maxHeartbeats 4000000 in
set_option maxRecDepth 100000 in
theorem n_good  (l : Launch) {D : va_G} {K : Nat → ClassId} (o : Nat) (r : Nat → Nat) (f : Nat → Int32) (a : Nat → Nat → Int32) (g : Nat → Int64) (hI : mI f a) (x : Int32)    : kI l yX12_good (Cond.code yX12_good cX12_good 2 (some .int) :: kG) (rmD 1 0 0) D (tysK K) [.ref o, .int x] (mW K o r f a g) (fun v (u : mS) => kb (-2147483648) v 2147483647 ∧ mI u.1 u.2.1 ∧ mE (XR []) f a u.1 u.2.1 ∧ v = x ∧ u.1 0 = 0 ∧ mZ [0] [] f a u.1 u.2.1) (fun u => mW K o r u.1 u.2.1 u.2.2) 0 0 := by
  refine kI.of (cc := cX12_good) (maxL := 2) (ret := (some .int)) (by decide) rfl (Nat.le_of_ble_eq_true rfl) ?_
  intro p e s m below meth c A hx hb hr hml hown hts hlocks hnm hK hP hD hS hA ls hl
  have hE : mE (XR []) f a f a := mE_rf
  have hZ : mZ [0] [] f a f a := mZ_rf
  have hg : ∀ w ∈ kG, w.before _ s = true := fun w h => hts w (List.mem_cons_of_mem _ h)
  have hown : s.vm.findClass RX12 = some m.cls := hown
  have hl : lv_has ls 2 [(0, .ref o), (1, .int x)] := hl
  refine lv_aload_n hx hb dX12_good_0 rfl (lv_at hl 0 rfl) ?_
  refine lv_iconst (v := 0) hx hb dX12_good_1 (by decide) ?_
  refine va_put (D := D) (ci := 12) (v := .int 0) (ty := .int) (C := RX12) (T := TX12) (N := 48) hx hb hg inC12 tyX12 tyX12_ok nmX12 hown hK hP hD hS 0 rfl rfl 0 (by decide) (hg _ wt5_160) (fun _ h9 => h9) rfl (by decide +kernel) rfl rfl (Nat.le_of_ble_eq_true rfl) dX12_good_2 (fun H locs hP hD hS => ?_)
  have hP : va_P D vwCl (mW K o r (upd f 0 0) a g) H := hP
  have hD : va_D A (mW K o r (upd f 0 0) a g) := hD
  refine k_gen (P := fun z => va_P D vwCl (mW K o r z a g) H ∧ va_D A (mW K o r z a g) ∧ (mI z a) ∧ (mE (XR []) f a z a) ∧ (mZ [0] [] f a z a)) (upd f 0 0) ⟨hP, hD, (mI_f hI (fI_st hI.1 0 (kb_any _) (by decide) (by decide))), (mE_f hE (by decide)), (mZ_f hZ rfl)⟩ (fun f_1 ef_1 hq => ?_)
  obtain ⟨hP, hD, hI, hE, hZ⟩ := hq
  refine lv_iload_n hx hb dX12_good_5 rfl (lv_at hl 1 rfl) ?_
  exact kI_ret (v := x) hx hb hr hlocks rfl hK hS dX12_good_6 (f_1, a, g) hP hD ⟨(kb_any x), hI, hE, rfl, (show f_1 0 = 0 from by rw [← ef_1]; rfl), hZ⟩
set_option maxHeartbeats 4000000 in
set_option maxRecDepth 100000 in
theorem n_refuses  (l : Launch) {D : va_G} {K : Nat → ClassId} (o : Nat) (r : Nat → Nat) (f : Nat → Int32) (a : Nat → Nat → Int32) (g : Nat → Int64) (hI : mI f a) (x : Int32) (bx : kb (-6) x (-1))   : kI l yX12_refuses (Cond.code yX12_refuses cX12_refuses 2 (some .int) :: kG) (rmD 1 0 0) D (tysK K) [.ref o, .int x] (mW K o r f a g) (fun v (u : mS) => kb (-6) v (-1) ∧ mI u.1 u.2.1 ∧ mE (XR []) f a u.1 u.2.1 ∧ v = x ∧ u.1 0 = x ∧ u.2.1 1 = rfS x.toInt (a 1) ∧ mZ [0] [1] f a u.1 u.2.1) (fun u => mW K o r u.1 u.2.1 u.2.2) 0 0 := by
  refine kI.of (cc := cX12_refuses) (maxL := 2) (ret := (some .int)) (by decide) rfl (Nat.le_of_ble_eq_true rfl) ?_
  intro p e s m below meth c A hx hb hr hml hown hts hlocks hnm hK hP hD hS hA ls hl
  have hE : mE (XR []) f a f a := mE_rf
  have hZ : mZ [0] [1] f a f a := mZ_rf
  have hg : ∀ w ∈ kG, w.before _ s = true := fun w h => hts w (List.mem_cons_of_mem _ h)
  have hown : s.vm.findClass RX12 = some m.cls := hown
  have hl : lv_has ls 2 [(0, .ref o), (1, .int x)] := hl
  refine lv_aload_n hx hb dX12_refuses_0 rfl (lv_at hl 0 rfl) ?_
  refine lv_iload_n hx hb dX12_refuses_1 rfl (lv_at hl 1 rfl) ?_
  refine va_put (D := D) (ci := 12) (v := .int x) (ty := .int) (C := RX12) (T := TX12) (N := 48) hx hb hg inC12 tyX12 tyX12_ok nmX12 hown hK hP hD hS 0 rfl rfl 0 (by decide) (hg _ wt5_160) (fun _ h9 => h9) rfl (by decide +kernel) rfl rfl (Nat.le_of_ble_eq_true rfl) dX12_refuses_2 (fun H locs hP hD hS => ?_)
  have hP : va_P D vwCl (mW K o r (upd f 0 x) a g) H := hP
  have hD : va_D A (mW K o r (upd f 0 x) a g) := hD
  refine k_gen (P := fun z => va_P D vwCl (mW K o r z a g) H ∧ va_D A (mW K o r z a g) ∧ (mI z a) ∧ (mE (XR []) f a z a) ∧ (mZ [0] [1] f a z a)) (upd f 0 x) ⟨hP, hD, (mI_f hI (fI_st hI.1 0 (kb_any _) (by decide) (by decide))), (mE_f hE (by decide)), (mZ_f hZ rfl)⟩ (fun f_1 ef_1 hq => ?_)
  obtain ⟨hP, hD, hI, hE, hZ⟩ := hq
  refine lv_aload_n hx hb dX12_refuses_5 rfl (lv_at hl 0 rfl) ?_
  refine va_get (D := D) (ci := 12) (v := .ref (r 1)) (C := RX12) (T := TX12) (N := 48) hx hb hg inC12 hown hK hP 0 rfl rfl 1 (by decide) (hg _ wt5_161) (fun _ h9 => h9) rfl dX12_refuses_6 ?_
  refine lv_iload_n hx hb dX12_refuses_9 rfl (lv_at hl 1 rfl) ?_
  refine lv_ineg hx hb dX12_refuses_10 ?_
  refine lv_topi (fun t2 et2 => ?_)
  have b3 : kb 1 t2 6 := kb_eq et2 (kb_neg bx (by decide))
  refine lv_dup2_11 hx hb dX12_refuses_11 rfl rfl ?_
  refine va_iald hx hb hK hP 1 0 rfl rfl (kb_in b3 (by decide) (by decide)) dX12_refuses_12 ?_
  refine lv_topi (fun t4 et4 => ?_)
  refine lv_iconst (v := 1) hx hb dX12_refuses_13 (by decide) ?_
  refine lv_iadd hx hb dX12_refuses_14 ?_
  refine lv_topi (fun t5 et5 => ?_)
  refine va_iast hx hb hK hP hD hS 1 0 rfl rfl (kb_in b3 (by decide) (by decide)) dX12_refuses_15 (fun H locs hP hD hS => ?_)
  have hP : va_P D vwCl (mW K o r f_1 (va_up a 1 (upd (a 1) t2.toNatClampNeg t5)) g) H := hP
  have hD : va_D A (mW K o r f_1 (va_up a 1 (upd (a 1) t2.toNatClampNeg t5)) g) := hD
  refine k_gen (P := fun z => va_P D vwCl (mW K o r f_1 z g) H ∧ va_D A (mW K o r f_1 z g) ∧ (mI f_1 z) ∧ (mE (XR []) f a f_1 z) ∧ (mZ [0] [1] f a f_1 z)) (va_up a 1 (upd (a 1) t2.toNatClampNeg t5)) ⟨hP, hD, (mI_s hI (aI_free hI.2.1 1 _ (fun j => ⟨by show (mBa 1 j).1 ≤ _; exact Int.le_refl _, by show _ ≤ (mBa 1 j).2; exact Int.le_refl _⟩)) (by decide) (by decide)), (mE_s hE (by decide) (by decide) (by decide) (by decide)), (mZ_a hZ rfl)⟩ (fun a_6 ea_6 hq => ?_)
  obtain ⟨hP, hD, hI, hE, hZ⟩ := hq
  refine lv_iload_n hx hb dX12_refuses_16 rfl (lv_at hl 1 rfl) ?_
  exact kI_ret (v := x) hx hb hr hlocks rfl hK hS dX12_refuses_17 (f_1, a_6, g) hP hD ⟨bx, hI, hE, rfl, (show f_1 0 = x from by rw [← ef_1]; rfl), ((show a_6 1 = upd (a 1) t2.toNatClampNeg t5 from by rw [← ea_6]; rfl).trans (by unfold rfS; rw [et5, et4, show t2.toNatClampNeg = (-x.toInt).toNat from by have w1 := bx.1; have w2 := bx.2; have w3 := kt_neg bx (by decide); have w4 := congrArg Int32.toInt et2; unfold Int32.toNatClampNeg; omega])), hZ⟩
