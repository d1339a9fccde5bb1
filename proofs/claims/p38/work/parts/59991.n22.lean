set_option maxHeartbeats 4000000 in
set_option maxRecDepth 100000 in
theorem n_image  (l : Launch) {D : va_G} {K : Nat → ClassId} (o : Nat) (r : Nat → Nat) (f : Nat → Int32) (a : Nat → Nat → Int32) (g : Nat → Int64) (hI : mI f a) (x : Int32)  (P : pS) (hp0 : mPs (f 33) (a 31) P) : kI l yX12_image (Cond.code yX12_image cX12_image 3 (some .int) :: kG) (rmD 2 0 0) D (tysK K) [.ref o, .int x] (mW K o r f a g) (fun v (u : mS) => kb (-2147483648) v 2147483647 ∧ mI u.1 u.2.1 ∧ (u.1 13 = f 13 ∧ u.2.1 11 = a 11 ∧ u.2.1 2 = a 2 ∧ ((v = -1 ∧ ¬ (0 ≤ x.toInt ∧ x.toInt ≤ 1) ∧ u.2.1 3 = a 3 ∧ u.2.1 4 = a 4) ∨ (v = 0 ∧ ∃ kx : Nat, (kx : Int) = x.toInt ∧ kx < 2 ∧ u.2.1 3 = mCp (a 2) (a 3) 0 (5714 * kx) 5714 ∧ u.2.1 4 = upd (a 4) kx 1))) ∧ u.1 6 = f 6 ∧ u.1 14 = f 14 ∧ (u.1 0 = v ∧ ((v.toInt < 0 ∧ u.2.1 1 = rfS v.toInt (a 1) ∧ mPs (u.1 33) (u.2.1 31) P) ∨ (v = 0 ∧ u.2.1 1 = a 1 ∧ mPs (u.1 33) (u.2.1 31) (P)))) ∧ mZ [0] [1, 3, 4] f a u.1 u.2.1) (fun u => mW K o r u.1 u.2.1 u.2.2) 0 0 := by
  refine kI.of (cc := cX12_image) (maxL := 3) (ret := (some .int)) (by decide) rfl (Nat.le_of_ble_eq_true rfl) ?_
  intro p e s m below meth c A hx hb hr hml hown hts hlocks hnm hK hP hD hS hA ls hl
  have hZ : mZ [0] [1, 3, 4] f a f a := mZ_rf
  have hg : ∀ w ∈ kG, w.before _ s = true := fun w h => hts w (List.mem_cons_of_mem _ h)
  have hown : s.vm.findClass RX12 = some m.cls := hown
  have hl : lv_has ls 3 [(0, .ref o), (1, .int x)] := hl
  have hI0 := hI
  have e57 : (5714 : Int32).toInt = 5714 := by decide +kernel
  refine lv_iload_n hx hb dX12_image_0 rfl (lv_at hl 1 rfl) ?_
  refine lv_iconst (v := 0) hx hb dX12_image_1 (by decide) ?_
  refine lv_iconst (v := 1) hx hb dX12_image_2 (by decide) ?_
  refine kN.callS (As := [.int x, .int 0, .int 1]) (rest := []) ⟨hx, hb, hml, hown, hg⟩ (m_lies l x 0 1 ) (va_cwS 3 hg (kgS wt6_69 wt6_70 wt1_14 wt6_71) rfl rfl rfl (by decide +kernel) ⟨by decide, by decide⟩) hP hS rfl hl.1 rfl (Nat.le_of_ble_eq_true rfl) dX12_image_3 ⟨Nat.le_refl _, Nat.le_refl _⟩ (fun v2 H locs hw1 hP hS => ?_)
  refine lv_if_ne (tgt := 15) hx hb dX12_image_6 (by decide) (fun c4 => ?_) (fun c4 => ?_)
  · have b5 : kb 1 v2 1 := kr_nel c4 hw1.1 kc_0 (by decide)
    have h6 := mLies_ne (hw1.2 ▸ c4)
    have b7 : kb 0 x 2147483647 := kr_le2 h6.1 kc_0 (kb_any x)
    have b8 : kb 0 x 1 := kr_le1 h6.2 b7 kc_1
    obtain ⟨kx, hkx⟩ : ∃ kx : Nat, (kx : Int) = x.toInt := ⟨x.toInt.toNat, by have w1 := (b8).1; omega⟩
    have hk2 : kx < 2 := by have w1 := (b8).2; omega
    have hI : mH f a := mH_of hI
    refine lv_iconst (v := 0) hx hb dX12_image_15 (by decide) ?_
    refine lv_istore_n (lv' := [(2, .int 0), (0, .ref o), (1, .int x)]) hx hb dX12_image_16 rfl hl (by decide) rfl (fun ls hl => ?_)
    have lp11 : ∀ (n12 : Nat) (k : Nat) (B10 : Nat → Nat → Int32) (H : Heap) (locs : List Loc) (ls : Array Slot) (y9 : Int32), ((5714 : Int) < (k : Int) + (n12 : Int)) → (mH f B10) → (mZ [0] [1, 3, 4] f a f B10) → (kb 0 y9 5714) → (B10 3 = mCp (a 2) (a 3) (0) (5714 * kx) k) → (B10 2 = a 2 ∧ B10 4 = a 4 ∧ B10 11 = a 11) → (y9.toInt = (k : Int)) → (k ≤ 5714) → (B10 1 = a 1) → va_P D vwCl (mW K o r f B10 g) H → va_D A (mW K o r f B10 g) → va_S A s.heap H locs → lv_has ls 3 [(2, .int y9), (0, .ref o), (1, .int x)] → W p l e (rmD 2 0 0) s m ([.ref o, .int x] : List Value).toArray below meth c H locs 0 0 (kQi D (tysK K) (fun v (u : mS) => kb (-2147483648) v 2147483647 ∧ mI u.1 u.2.1 ∧ (u.1 13 = f 13 ∧ u.2.1 11 = a 11 ∧ u.2.1 2 = a 2 ∧ ((v = -1 ∧ ¬ (0 ≤ x.toInt ∧ x.toInt ≤ 1) ∧ u.2.1 3 = a 3 ∧ u.2.1 4 = a 4) ∨ (v = 0 ∧ ∃ kx : Nat, (kx : Int) = x.toInt ∧ kx < 2 ∧ u.2.1 3 = mCp (a 2) (a 3) 0 (5714 * kx) 5714 ∧ u.2.1 4 = upd (a 4) kx 1))) ∧ u.1 6 = f 6 ∧ u.1 14 = f 14 ∧ (u.1 0 = v ∧ ((v.toInt < 0 ∧ u.2.1 1 = rfS v.toInt (a 1) ∧ mPs (u.1 33) (u.2.1 31) P) ∨ (v = 0 ∧ u.2.1 1 = a 1 ∧ mPs (u.1 33) (u.2.1 31) (P)))) ∧ mZ [0] [1, 3, 4] f a u.1 u.2.1) (fun u => mW K o r u.1 u.2.1 u.2.2) A below ([.ref o, .int x] : List Value).toArray s 0 0) (F0 m 17 ls []) := by
      intro n12
      induction n12 with
      | zero =>
        intro k B10  H locs ls y9 hmlp11 hI hZ b13 hvlp11_0 hvlp11_1 hvlp11_2 hvlp11_3 hvlp11_4 hP hD hS hl
        exact (by have w1 := hmlp11; have w2 := hvlp11_3; omega : False).elim
      | succ n12 ihlp11 =>
        intro k B10  H locs ls y9 hmlp11 hI hZ b13 hvlp11_0 hvlp11_1 hvlp11_2 hvlp11_3 hvlp11_4 hP hD hS hl
        refine lv_iload_n hx hb dX12_image_17 rfl (lv_at hl 0 rfl) ?_
        refine lv_sipush (v := 5714) hx hb dX12_image_18 (by decide) ?_
        refine lv_icmp_ge (tgt := 48) hx hb dX12_image_21 (by decide) (fun c14 => ?_) (fun c14 => ?_)
        · have h15 := (kc_le c14)
          have b16 : kb 5714 y9 5714 := kr_le2 h15 kc_5714 b13
          have hkN : k = 5714 := by have w1 := hvlp11_2; have w2 := hvlp11_3; omega
          have hB := hvlp11_0
          rw [hkN] at hB
          refine lv_aload_n hx hb dX12_image_48 rfl (lv_at hl 1 rfl) ?_
          refine va_get (D := D) (ci := 12) (v := .ref (r 4)) (C := RX12) (T := TX12) (N := 48) hx hb hg inC12 hown hK hP 0 rfl rfl 4 (by decide) (hg _ wt5_164) (fun _ h9 => h9) rfl dX12_image_49 ?_
          refine lv_iload_n hx hb dX12_image_52 rfl (lv_at hl 2 rfl) ?_
          refine lv_iconst (v := 1) hx hb dX12_image_53 (by decide) ?_
          refine va_zast hx hb hK hP hD hS 4 2 rfl rfl (kb_in b8 (by decide) (by decide)) dX12_image_54 (fun H locs hP hD hS => ?_)
          have hP : va_P D vwCl (mW K o r f (va_up B10 4 (upd (B10 4) x.toNatClampNeg (vp_nar .boolean 1))) g) H := hP
          have hD : va_D A (mW K o r f (va_up B10 4 (upd (B10 4) x.toNatClampNeg (vp_nar .boolean 1))) g) := hD
          refine k_gen (P := fun z => va_P D vwCl (mW K o r f z g) H ∧ va_D A (mW K o r f z g) ∧ (mH f z) ∧ (mZ [0] [1, 3, 4] f a f z)) (va_up B10 4 (upd (B10 4) x.toNatClampNeg (vp_nar .boolean 1))) ⟨hP, hD, (mH_s hI (aI_free hI.2.1 4 _ (fun j => ⟨by show (mBa 4 j).1 ≤ _; exact Int.le_refl _, by show _ ≤ (mBa 4 j).2; exact Int.le_refl _⟩)) (by decide)), (mZ_a hZ rfl)⟩ (fun a_17 ea_17 hq => ?_)
          obtain ⟨hP, hD, hI, hZ⟩ := hq
          have hB3 : a_17 3 = mCp (a 2) (a 3) 0 (5714 * kx) 5714 := by rw [← ea_17]; exact hB
          have hB4 : a_17 4 = upd (a 4) kx 1 := by rw [← ea_17]; show upd (B10 4) x.toNatClampNeg (vp_nar .boolean 1) = _; have w1 : x.toNatClampNeg = kx := (by unfold Int32.toNatClampNeg; omega); rw [w1, hvlp11_1.2.1]; rfl
          have hB2 : a_17 2 = a 2 := by rw [← ea_17]; exact hvlp11_1.1
          have hB11 : a_17 11 = a 11 := by rw [← ea_17]; exact hvlp11_1.2.2
          have hI : mI f a_17 := mI_img hI0 hI hk2 hB3
          refine lv_aload_n hx hb dX12_image_55 rfl (lv_at hl 1 rfl) ?_
          refine lv_iconst (v := 0) hx hb dX12_image_56 (by decide) ?_
          refine kI.callV (As := [.int 0]) (rest := []) ⟨hx, hb, hml, hown, hg⟩ (n_good l o r f a_17 g hI 0  ) (cwV 1 hg (kgV wt6_76 wt6_78 wp3_6 wt1_14 wt6_79) rfl rfl rfl (by decide +kernel) ⟨by decide, by decide⟩) hK hP hD hS hA mIs [] rfl (wr := []) rfl rfl rfl (fun i h => by cases h) 0 12 rfl rfl rfl hl.1 rfl (Nat.le_of_ble_eq_true rfl) dX12_image_57 ⟨Nat.le_refl _, Nat.le_refl _⟩ (fun v19 u20 H locs hw18 hP hD hS => ?_)
          obtain ⟨f21, a22, g23⟩ := u20
          have hP : va_P D vwCl (mW K o r f21 a22 g23) H := hP
          have hD : va_D A (mW K o r f21 a22 g23) := hD
          have hI : mI f21 a22 := hw18.2.1
          have eE24 : mE (XR []) f a_17 f21 a22 := hw18.2.2.1
          have eZ25 : mZ [0] [] f a_17 f21 a22 := hw18.2.2.2.2.2
          have hZ : mZ [0] [1, 3, 4] f a f21 a22 := mZ_tr hZ (mZ_w (by decide) (by decide) eZ25)
          refine k_top (z := 0) hw18.2.2.2.1 ?_
          exact kI_ret (v := 0) hx hb hr hlocks rfl hK hS dX12_image_60 (f21, a22, g23) hP hD ⟨(kb_w kc_0 (by decide) (by decide)), hI, ⟨hw18.2.2.1.1 13 rfl, hw18.2.2.1.2.1.trans hB11, (mE_all hw18.2.2.1).trans hB2, Or.inr ⟨rfl, kx, hkx, hk2, hw18.2.2.1.2.2.2.1.trans hB3, hw18.2.2.1.2.2.2.2.trans hB4⟩⟩, (hw18.2.2.1.1 6 rfl), (hw18.2.2.1.1 14 rfl), ⟨hw18.2.2.2.2.1, Or.inr ⟨rfl, ((((eZ25.2 1 rfl).trans (show a_17 1 = B10 1 from by rw [← ea_17]; rfl))).trans hvlp11_4), by (try dsimp only); rw [show f21 33 = f 33 from hZ.1 33 rfl, show a22 31 = a 31 from hZ.2 31 rfl]; exact hp0⟩⟩, hZ⟩
        · have h26 := (kc_nle c14)
          have b27 : kb 0 y9 5713 := kr_lt1 h26 b13 kc_5714 (by decide)
          refine lv_aload_n hx hb dX12_image_24 rfl (lv_at hl 1 rfl) ?_
          refine va_get (D := D) (ci := 12) (v := .ref (r 3)) (C := RX12) (T := TX12) (N := 48) hx hb hg inC12 hown hK hP 0 rfl rfl 3 (by decide) (hg _ wt5_163) (fun _ h9 => h9) rfl dX12_image_25 ?_
          refine lv_sipush (v := 5714) hx hb dX12_image_28 (by decide) ?_
          refine lv_iload_n hx hb dX12_image_31 rfl (lv_at hl 2 rfl) ?_
          refine lv_imul hx hb dX12_image_32 ?_
          refine lv_topi (fun t28 et28 => ?_)
          have b29 : kb 0 t28 5714 := kb_eq et28 (kb_mul kc_5714 b8 (by decide) (by decide) (by decide))
          have qt28 : t28.toInt = 5714 * x.toInt := by rw [et28]; exact kt_cmul kc_5714 b8 (by decide) (by decide) (by decide)
          refine lv_iload_n hx hb dX12_image_33 rfl (lv_at hl 0 rfl) ?_
          refine lv_iadd hx hb dX12_image_34 ?_
          refine lv_topi (fun t30 et30 => ?_)
          have b31 : kb 0 t30 11427 := kb_eq et30 (kb_add b29 b27 (by decide) (by decide))
          have qt30 : t30.toInt = t28.toInt + y9.toInt := by rw [et30]; exact kt_add b29 b27 (by decide) (by decide)
          refine lv_aload_n hx hb dX12_image_35 rfl (lv_at hl 1 rfl) ?_
          refine va_get (D := D) (ci := 12) (v := .ref (r 2)) (C := RX12) (T := TX12) (N := 48) hx hb hg inC12 hown hK hP 0 rfl rfl 2 (by decide) (hg _ wt5_162) (fun _ h9 => h9) rfl dX12_image_36 ?_
          refine lv_iload_n hx hb dX12_image_39 rfl (lv_at hl 0 rfl) ?_
          refine va_iald hx hb hK hP 2 0 rfl rfl (kb_in b27 (by decide) (by decide)) dX12_image_40 ?_
          refine lv_topi (fun t32 et32 => ?_)
          refine va_iast hx hb hK hP hD hS 3 0 rfl rfl (kb_in b31 (by decide) (by decide)) dX12_image_41 (fun H locs hP hD hS => ?_)
          have hP : va_P D vwCl (mW K o r f (va_up B10 3 (upd (B10 3) t30.toNatClampNeg t32)) g) H := hP
          have hD : va_D A (mW K o r f (va_up B10 3 (upd (B10 3) t30.toNatClampNeg t32)) g) := hD
          refine k_gen (P := fun z => va_P D vwCl (mW K o r f z g) H ∧ va_D A (mW K o r f z g) ∧ (mH f z) ∧ (mZ [0] [1, 3, 4] f a f z)) (va_up B10 3 (upd (B10 3) t30.toNatClampNeg t32)) ⟨hP, hD, (mH_s hI (aI_mv hI.2.1 3 _ 2 _ et32 (kq_3 b27 b8 (by rw [qt30]; omega))) (by decide)), (mZ_a hZ rfl)⟩ (fun a_33 ea_33 hq => ?_)
          obtain ⟨hP, hD, hI, hZ⟩ := hq
          obtain ⟨t34, et34⟩ : ∃ z : Int32, z = y9 + Int32.ofInt 1 := ⟨_, rfl⟩
          have qt34 : t34.toInt = y9.toInt + 1 := by rw [et34]; exact km_inc b27 (by decide) (by decide)
          have b35 : kb 1 t34 5714 := kb_inc (k := 1) qt34 b27
          refine lv_iinc (v := t34) (lv' := [(2, .int t34), (0, .ref o), (1, .int x)]) hx hb dX12_image_42 hl (k := 0) rfl et34.symm (by decide) rfl (fun ls hl => ?_)
          refine lv_goto (tgt := 17) hx hb dX12_image_45 (by decide) ?_
          exact ihlp11 (k + 1) a_33 _ _ _ t34 (by omega) hI hZ (kb_w b35 (by decide) (by decide)) (mCp_in hvlp11_0 ea_33 (by rw [qt30]; have w1 := hvlp11_2; omega) (by rw [et32]; have w1 : y9.toNatClampNeg = 0 + k := (by unfold Int32.toNatClampNeg; omega); rw [hvlp11_1.1, w1])) (⟨(by rw [← ea_33]; show B10 2 = _; exact hvlp11_1.1), (by rw [← ea_33]; show B10 4 = _; exact hvlp11_1.2.1), (by rw [← ea_33]; show B10 11 = _; exact hvlp11_1.2.2)⟩) (by omega) (by omega) ((by rw [← ea_33]; show B10 1 = _; exact hvlp11_4)) hP hD hS (lv_sub hl [0, 1, 2] rfl)
    exact lp11 (5715) 0 a _ _ _ 0 (by omega) hI hZ (kb_w kc_0 (by decide) (by decide)) (mCp_0.symm) (⟨rfl, rfl, rfl⟩) (by decide +kernel) (Nat.zero_le _) (rfl) hP hD hS (lv_sub hl [0, 1, 2] rfl)
  · have b36 : kb 0 v2 0 := kb_eq c4 kc_0
    refine lv_aload_n hx hb dX12_image_9 rfl (lv_at hl 0 rfl) ?_
    refine lv_iconst (v := (-1)) hx hb dX12_image_10 (by decide) ?_
    refine kI.callV (As := [.int (-1)]) (rest := []) ⟨hx, hb, hml, hown, hg⟩ (n_refuses l o r f a g hI (-1) (kb_w kc_m1 (by decide) (by decide)) ) (cwV 1 hg (kgV wt6_72 wt6_74 wp3_5 wt1_14 wt6_75) rfl rfl rfl (by decide +kernel) ⟨by decide, by decide⟩) hK hP hD hS hA mIs [] rfl (wr := []) rfl rfl rfl (fun i h => by cases h) 0 12 rfl rfl rfl hl.1 rfl (Nat.le_of_ble_eq_true rfl) dX12_image_11 ⟨Nat.le_refl _, Nat.le_refl _⟩ (fun v38 u39 H locs hw37 hP hD hS => ?_)
    obtain ⟨f40, a41, g42⟩ := u39
    have hP : va_P D vwCl (mW K o r f40 a41 g42) H := hP
    have hD : va_D A (mW K o r f40 a41 g42) := hD
    have hI : mI f40 a41 := hw37.2.1
    have eE43 : mE (XR []) f a f40 a41 := hw37.2.2.1
    have eZ44 : mZ [0] [1] f a f40 a41 := hw37.2.2.2.2.2.2
    have hZ : mZ [0] [1, 3, 4] f a f40 a41 := mZ_tr hZ (mZ_w (by decide) (by decide) eZ44)
    refine k_top (z := (-1)) hw37.2.2.2.1 ?_
    exact kI_ret (v := (-1)) hx hb hr hlocks rfl hK hS dX12_image_14 (f40, a41, g42) hP hD ⟨(kb_w kc_m1 (by decide) (by decide)), hI, ⟨hw37.2.2.1.1 13 rfl, hw37.2.2.1.2.1, mE_all hw37.2.2.1, Or.inl ⟨rfl, fun hz => by have w1 := mLies_in hz; exact absurd (hw1.2.symm.trans c4) (by rw [w1]; decide +kernel), hw37.2.2.1.2.2.2.1, hw37.2.2.1.2.2.2.2⟩⟩, (hw37.2.2.1.1 6 rfl), (hw37.2.2.1.1 14 rfl), ⟨hw37.2.2.2.2.1, Or.inl ⟨(by decide +kernel), hw37.2.2.2.2.2.1.trans (by rw [show a 1 = a 1 from rfl]), by (try dsimp only); rw [show f40 33 = f 33 from (eZ44.1 33 rfl), show a41 31 = a 31 from hZ.2 31 rfl]; exact hp0⟩⟩, hZ⟩
set_option maxHeartbeats 4000000 in
set_option maxRecDepth 100000 in
theorem n_back  (l : Launch) {D : va_G} {K : Nat → ClassId} (o : Nat) (r : Nat → Nat) (f : Nat → Int32) (a : Nat → Nat → Int32) (g : Nat → Int64) (hI : mI f a) (x : Int32)  (P : pS) (hp0 : mPs (f 33) (a 31) P) : kI l yX12_back (Cond.code yX12_back cX12_back 3 (some .int) :: kG) (rmD 3 0 0) D (tysK K) [.ref o, .int x] (mW K o r f a g) (fun v (u : mS) => kb (-2147483648) v 2147483647 ∧ mI u.1 u.2.1 ∧ (u.1 13 = f 13 ∧ u.2.1 11 = a 11 ∧ u.2.1 3 = a 3 ∧ u.2.1 4 = a 4 ∧ ((v = -1 ∧ ¬ (0 ≤ x.toInt ∧ x.toInt ≤ 1) ∧ u.2.1 2 = a 2) ∨ (v = -2 ∧ ∃ kx : Nat, (kx : Int) = x.toInt ∧ kx < 2 ∧ a 4 kx = 0 ∧ u.2.1 2 = a 2) ∨ (v = 0 ∧ ∃ kx : Nat, (kx : Int) = x.toInt ∧ kx < 2 ∧ ¬ a 4 kx = 0 ∧ u.2.1 2 = mCp (a 3) (a 2) (5714 * kx) 0 5714))) ∧ u.1 6 = f 6 ∧ u.1 14 = f 14 ∧ (u.1 0 = v ∧ ((v.toInt < 0 ∧ u.2.1 1 = rfS v.toInt (a 1) ∧ mPs (u.1 33) (u.2.1 31) P) ∨ (v = 0 ∧ u.2.1 1 = a 1 ∧ mPs (u.1 33) (u.2.1 31) (noP P)))) ∧ mZ [0, 33] [1, 2] f a u.1 u.2.1) (fun u => mW K o r u.1 u.2.1 u.2.2) 0 0 := by
  refine kI.of (cc := cX12_back) (maxL := 3) (ret := (some .int)) (by decide) rfl (Nat.le_of_ble_eq_true rfl) ?_
  intro p e s m below meth c A hx hb hr hml hown hts hlocks hnm hK hP hD hS hA ls hl
  have hZ : mZ [0, 33] [1, 2] f a f a := mZ_rf
  have hg : ∀ w ∈ kG, w.before _ s = true := fun w h => hts w (List.mem_cons_of_mem _ h)
  have hown : s.vm.findClass RX12 = some m.cls := hown
  have hl : lv_has ls 3 [(0, .ref o), (1, .int x)] := hl
  have hI0 := hI
  have e57 : (5714 : Int32).toInt = 5714 := by decide +kernel
  refine lv_iload_n hx hb dX12_back_0 rfl (lv_at hl 1 rfl) ?_
  refine lv_iconst (v := 0) hx hb dX12_back_1 (by decide) ?_
  refine lv_iconst (v := 1) hx hb dX12_back_2 (by decide) ?_
  refine kN.callS (As := [.int x, .int 0, .int 1]) (rest := []) ⟨hx, hb, hml, hown, hg⟩ (m_lies l x 0 1 ) (va_cwS 3 hg (kgS wt6_69 wt6_70 wt1_14 wt6_71) rfl rfl rfl (by decide +kernel) ⟨by decide, by decide⟩) hP hS rfl hl.1 rfl (Nat.le_of_ble_eq_true rfl) dX12_back_3 ⟨Nat.le_refl _, Nat.le_refl _⟩ (fun v2 H locs hw1 hP hS => ?_)
  refine lv_if_ne (tgt := 15) hx hb dX12_back_6 (by decide) (fun c4 => ?_) (fun c4 => ?_)
  · have b5 : kb 1 v2 1 := kr_nel c4 hw1.1 kc_0 (by decide)
    have h6 := mLies_ne (hw1.2 ▸ c4)
    have b7 : kb 0 x 2147483647 := kr_le2 h6.1 kc_0 (kb_any x)
    have b8 : kb 0 x 1 := kr_le1 h6.2 b7 kc_1
    refine lv_aload_n hx hb dX12_back_15 rfl (lv_at hl 0 rfl) ?_
    refine va_get (D := D) (ci := 12) (v := .ref (r 4)) (C := RX12) (T := TX12) (N := 48) hx hb hg inC12 hown hK hP 0 rfl rfl 4 (by decide) (hg _ wt5_164) (fun _ h9 => h9) rfl dX12_back_16 ?_
    refine lv_iload_n hx hb dX12_back_19 rfl (lv_at hl 1 rfl) ?_
    refine va_zald hx hb hK hP 4 2 rfl rfl (kb_in b8 (by decide) (by decide)) dX12_back_20 ?_
    refine lv_topi (fun t9 et9 => ?_)
    refine lv_if_ne (tgt := 31) hx hb dX12_back_21 (by decide) (fun c10 => ?_) (fun c10 => ?_)
    · obtain ⟨kx, hkx⟩ : ∃ kx : Nat, (kx : Int) = x.toInt := ⟨x.toInt.toNat, by have w1 := (b8).1; omega⟩
      have hk2 : kx < 2 := by have w1 := (b8).2; omega
      have hI : mJ f a := mJ_of hI
      refine lv_iconst (v := 0) hx hb dX12_back_31 (by decide) ?_
      refine lv_istore_n (lv' := [(2, .int 0), (0, .ref o), (1, .int x)]) hx hb dX12_back_32 rfl hl (by decide) rfl (fun ls hl => ?_)
      have lp13 : ∀ (n14 : Nat) (k : Nat) (B12 : Nat → Nat → Int32) (H : Heap) (locs : List Loc) (ls : Array Slot) (y11 : Int32), ((5714 : Int) < (k : Int) + (n14 : Int)) → (mJ f B12) → (mZ [0, 33] [1, 2] f a f B12) → (kb 0 y11 5714) → (B12 2 = mCp (a 3) (a 2) (5714 * kx) (0) k) → (B12 3 = a 3 ∧ B12 4 = a 4 ∧ B12 11 = a 11) → (y11.toInt = (k : Int)) → (k ≤ 5714) → (B12 1 = a 1) → va_P D vwCl (mW K o r f B12 g) H → va_D A (mW K o r f B12 g) → va_S A s.heap H locs → lv_has ls 3 [(2, .int y11), (0, .ref o), (1, .int x)] → W p l e (rmD 3 0 0) s m ([.ref o, .int x] : List Value).toArray below meth c H locs 0 0 (kQi D (tysK K) (fun v (u : mS) => kb (-2147483648) v 2147483647 ∧ mI u.1 u.2.1 ∧ (u.1 13 = f 13 ∧ u.2.1 11 = a 11 ∧ u.2.1 3 = a 3 ∧ u.2.1 4 = a 4 ∧ ((v = -1 ∧ ¬ (0 ≤ x.toInt ∧ x.toInt ≤ 1) ∧ u.2.1 2 = a 2) ∨ (v = -2 ∧ ∃ kx : Nat, (kx : Int) = x.toInt ∧ kx < 2 ∧ a 4 kx = 0 ∧ u.2.1 2 = a 2) ∨ (v = 0 ∧ ∃ kx : Nat, (kx : Int) = x.toInt ∧ kx < 2 ∧ ¬ a 4 kx = 0 ∧ u.2.1 2 = mCp (a 3) (a 2) (5714 * kx) 0 5714))) ∧ u.1 6 = f 6 ∧ u.1 14 = f 14 ∧ (u.1 0 = v ∧ ((v.toInt < 0 ∧ u.2.1 1 = rfS v.toInt (a 1) ∧ mPs (u.1 33) (u.2.1 31) P) ∨ (v = 0 ∧ u.2.1 1 = a 1 ∧ mPs (u.1 33) (u.2.1 31) (noP P)))) ∧ mZ [0, 33] [1, 2] f a u.1 u.2.1) (fun u => mW K o r u.1 u.2.1 u.2.2) A below ([.ref o, .int x] : List Value).toArray s 0 0) (F0 m 33 ls []) := by
        intro n14
        induction n14 with
        | zero =>
          intro k B12  H locs ls y11 hmlp13 hI hZ b15 hvlp13_0 hvlp13_1 hvlp13_2 hvlp13_3 hvlp13_4 hP hD hS hl
          exact (by have w1 := hmlp13; have w2 := hvlp13_3; omega : False).elim
        | succ n14 ihlp13 =>
          intro k B12  H locs ls y11 hmlp13 hI hZ b15 hvlp13_0 hvlp13_1 hvlp13_2 hvlp13_3 hvlp13_4 hP hD hS hl
          refine lv_iload_n hx hb dX12_back_33 rfl (lv_at hl 0 rfl) ?_
          refine lv_sipush (v := 5714) hx hb dX12_back_34 (by decide) ?_
          refine lv_icmp_ge (tgt := 64) hx hb dX12_back_37 (by decide) (fun c16 => ?_) (fun c16 => ?_)
          · have h17 := (kc_le c16)
            have b18 : kb 5714 y11 5714 := kr_le2 h17 kc_5714 b15
            have hkN : k = 5714 := by have w1 := hvlp13_2; have w2 := hvlp13_3; omega
            have hB := hvlp13_0
            rw [hkN] at hB
            have hI : mI f B12 := mI_bck hI0 hI hk2 hB
            refine lv_aload_n hx hb dX12_back_64 rfl (lv_at hl 1 rfl) ?_
            refine lv_iconst (v := 0) hx hb dX12_back_65 (by decide) ?_
            refine kI.callV (As := [.int 0]) (rest := []) ⟨hx, hb, hml, hown, hg⟩ (n_settled l o r f B12 g hI 0  ) (cwV 1 hg (kgV wt6_84 wt6_86 wp3_7 wt1_14 wt6_87) rfl rfl rfl (by decide +kernel) ⟨by decide, by decide⟩) hK hP hD hS hA mIs [] rfl (wr := []) rfl rfl rfl (fun i h => by cases h) 0 12 rfl rfl rfl hl.1 rfl (Nat.le_of_ble_eq_true rfl) dX12_back_66 ⟨Nat.le_refl _, Nat.le_refl _⟩ (fun v20 u21 H locs hw19 hP hD hS => ?_)
            obtain ⟨f22, a23, g24⟩ := u21
            have hP : va_P D vwCl (mW K o r f22 a23 g24) H := hP
            have hD : va_D A (mW K o r f22 a23 g24) := hD
            have hI : mI f22 a23 := hw19.2.1
            have eE25 : mE (XR []) f B12 f22 a23 := hw19.2.2.1
            have eZ26 : mZ [0, 33] [] f B12 f22 a23 := hw19.2.2.2.2.2.2
            have hZ : mZ [0, 33] [1, 2] f a f22 a23 := mZ_tr hZ (mZ_w (by decide) (by decide) eZ26)
            refine k_top (z := 0) hw19.2.2.2.1 ?_
            exact kI_ret (v := 0) hx hb hr hlocks rfl hK hS dX12_back_69 (f22, a23, g24) hP hD ⟨(kb_w kc_0 (by decide) (by decide)), hI, ⟨hw19.2.2.1.1 13 rfl, hw19.2.2.1.2.1.trans hvlp13_1.2.2, hw19.2.2.1.2.2.2.1.trans hvlp13_1.1, hw19.2.2.1.2.2.2.2.trans hvlp13_1.2.1, Or.inr (Or.inr ⟨rfl, kx, hkx, hk2, by have w1 : kx = x.toNatClampNeg := (by unfold Int32.toNatClampNeg; omega); rw [w1, ← et9]; exact c10, (mE_all hw19.2.2.1).trans hB⟩)⟩, (hw19.2.2.1.1 6 rfl), (hw19.2.2.1.1 14 rfl), ⟨hw19.2.2.2.2.1, Or.inr ⟨rfl, (((eZ26.2 1 rfl)).trans hvlp13_4), mP_no hw19.2.2.2.2.2.1⟩⟩, hZ⟩
          · have h27 := (kc_nle c16)
            have b28 : kb 0 y11 5713 := kr_lt1 h27 b15 kc_5714 (by decide)
            refine lv_aload_n hx hb dX12_back_40 rfl (lv_at hl 1 rfl) ?_
            refine va_get (D := D) (ci := 12) (v := .ref (r 2)) (C := RX12) (T := TX12) (N := 48) hx hb hg inC12 hown hK hP 0 rfl rfl 2 (by decide) (hg _ wt5_162) (fun _ h9 => h9) rfl dX12_back_41 ?_
            refine lv_iload_n hx hb dX12_back_44 rfl (lv_at hl 0 rfl) ?_
            refine lv_aload_n hx hb dX12_back_45 rfl (lv_at hl 1 rfl) ?_
            refine va_get (D := D) (ci := 12) (v := .ref (r 3)) (C := RX12) (T := TX12) (N := 48) hx hb hg inC12 hown hK hP 0 rfl rfl 3 (by decide) (hg _ wt5_163) (fun _ h9 => h9) rfl dX12_back_46 ?_
            refine lv_sipush (v := 5714) hx hb dX12_back_49 (by decide) ?_
            refine lv_iload_n hx hb dX12_back_52 rfl (lv_at hl 2 rfl) ?_
            refine lv_imul hx hb dX12_back_53 ?_
            refine lv_topi (fun t29 et29 => ?_)
            have b30 : kb 0 t29 5714 := kb_eq et29 (kb_mul kc_5714 b8 (by decide) (by decide) (by decide))
            have qt29 : t29.toInt = 5714 * x.toInt := by rw [et29]; exact kt_cmul kc_5714 b8 (by decide) (by decide) (by decide)
            refine lv_iload_n hx hb dX12_back_54 rfl (lv_at hl 0 rfl) ?_
            refine lv_iadd hx hb dX12_back_55 ?_
            refine lv_topi (fun t31 et31 => ?_)
            have b32 : kb 0 t31 11427 := kb_eq et31 (kb_add b30 b28 (by decide) (by decide))
            have qt31 : t31.toInt = t29.toInt + y11.toInt := by rw [et31]; exact kt_add b30 b28 (by decide) (by decide)
            refine va_iald hx hb hK hP 3 0 rfl rfl (kb_in b32 (by decide) (by decide)) dX12_back_56 ?_
            refine lv_topi (fun t33 et33 => ?_)
            refine va_iast hx hb hK hP hD hS 2 0 rfl rfl (kb_in b28 (by decide) (by decide)) dX12_back_57 (fun H locs hP hD hS => ?_)
            have hP : va_P D vwCl (mW K o r f (va_up B12 2 (upd (B12 2) y11.toNatClampNeg t33)) g) H := hP
            have hD : va_D A (mW K o r f (va_up B12 2 (upd (B12 2) y11.toNatClampNeg t33)) g) := hD
            refine k_gen (P := fun z => va_P D vwCl (mW K o r f z g) H ∧ va_D A (mW K o r f z g) ∧ (mJ f z) ∧ (mZ [0, 33] [1, 2] f a f z)) (va_up B12 2 (upd (B12 2) y11.toNatClampNeg t33)) ⟨hP, hD, (mJ_s hI (aI_mv hI.2.1 2 _ 3 _ et33 (kq_3 b28 b8 (by rw [qt31]; omega)).symm) (by decide)), (mZ_a hZ rfl)⟩ (fun a_34 ea_34 hq => ?_)
            obtain ⟨hP, hD, hI, hZ⟩ := hq
            obtain ⟨t35, et35⟩ : ∃ z : Int32, z = y11 + Int32.ofInt 1 := ⟨_, rfl⟩
            have qt35 : t35.toInt = y11.toInt + 1 := by rw [et35]; exact km_inc b28 (by decide) (by decide)
            have b36 : kb 1 t35 5714 := kb_inc (k := 1) qt35 b28
            refine lv_iinc (v := t35) (lv' := [(2, .int t35), (0, .ref o), (1, .int x)]) hx hb dX12_back_58 hl (k := 0) rfl et35.symm (by decide) rfl (fun ls hl => ?_)
            refine lv_goto (tgt := 33) hx hb dX12_back_61 (by decide) ?_
            exact ihlp13 (k + 1) a_34 _ _ _ t35 (by omega) hI hZ (kb_w b36 (by decide) (by decide)) (mCp_in hvlp13_0 ea_34 (by have w1 := hvlp13_2; omega) (by rw [et33]; have w1 : t31.toNatClampNeg = 5714 * kx + k := (by unfold Int32.toNatClampNeg; rw [qt31]; omega); rw [hvlp13_1.1, w1])) (⟨(by rw [← ea_34]; show B12 3 = _; exact hvlp13_1.1), (by rw [← ea_34]; show B12 4 = _; exact hvlp13_1.2.1), (by rw [← ea_34]; show B12 11 = _; exact hvlp13_1.2.2)⟩) (by omega) (by omega) ((by rw [← ea_34]; show B12 1 = _; exact hvlp13_4)) hP hD hS (lv_sub hl [0, 1, 2] rfl)
      exact lp13 (5715) 0 a _ _ _ 0 (by omega) hI hZ (kb_w kc_0 (by decide) (by decide)) (mCp_0.symm) (⟨rfl, rfl, rfl⟩) (by decide +kernel) (Nat.zero_le _) (rfl) hP hD hS (lv_sub hl [0, 1, 2] rfl)
    · have b37 : kb 0 t9 0 := kb_eq c10 kc_0
      refine lv_aload_n hx hb dX12_back_24 rfl (lv_at hl 0 rfl) ?_
      refine lv_bipush (v := (-2)) hx hb dX12_back_25 (by decide) ?_
      refine kI.callV (As := [.int (-2)]) (rest := []) ⟨hx, hb, hml, hown, hg⟩ (n_refuses l o r f a g hI (-2) (kb_w kc_m2 (by decide) (by decide)) ) (cwV 1 hg (kgV wt6_72 wt6_74 wp3_5 wt1_14 wt6_75) rfl rfl rfl (by decide +kernel) ⟨by decide, by decide⟩) hK hP hD hS hA mIs [] rfl (wr := []) rfl rfl rfl (fun i h => by cases h) 0 12 rfl rfl rfl hl.1 rfl (Nat.le_of_ble_eq_true rfl) dX12_back_27 ⟨Nat.le_refl _, Nat.le_refl _⟩ (fun v39 u40 H locs hw38 hP hD hS => ?_)
      obtain ⟨f41, a42, g43⟩ := u40
      have hP : va_P D vwCl (mW K o r f41 a42 g43) H := hP
      have hD : va_D A (mW K o r f41 a42 g43) := hD
      have hI : mI f41 a42 := hw38.2.1
      have eE44 : mE (XR []) f a f41 a42 := hw38.2.2.1
      have eZ45 : mZ [0] [1] f a f41 a42 := hw38.2.2.2.2.2.2
      have hZ : mZ [0, 33] [1, 2] f a f41 a42 := mZ_tr hZ (mZ_w (by decide) (by decide) eZ45)
      refine k_top (z := (-2)) hw38.2.2.2.1 ?_
      exact kI_ret (v := (-2)) hx hb hr hlocks rfl hK hS dX12_back_30 (f41, a42, g43) hP hD ⟨(kb_w kc_m2 (by decide) (by decide)), hI, ⟨hw38.2.2.1.1 13 rfl, hw38.2.2.1.2.1, hw38.2.2.1.2.2.2.1, hw38.2.2.1.2.2.2.2, Or.inr (Or.inl ⟨rfl, x.toInt.toNat, by have w1 := (b8).1; omega, by have w1 := (b8).2; omega, by have w1 : x.toInt.toNat = x.toNatClampNeg := rfl; rw [w1]; exact et9.symm.trans c10, mE_all hw38.2.2.1⟩)⟩, (hw38.2.2.1.1 6 rfl), (hw38.2.2.1.1 14 rfl), ⟨hw38.2.2.2.2.1, Or.inl ⟨(by decide +kernel), hw38.2.2.2.2.2.1.trans (by rw [show a 1 = a 1 from rfl]), by (try dsimp only); rw [show f41 33 = f 33 from (eZ45.1 33 rfl), show a42 31 = a 31 from hZ.2 31 rfl]; exact hp0⟩⟩, hZ⟩
  · have b46 : kb 0 v2 0 := kb_eq c4 kc_0
    refine lv_aload_n hx hb dX12_back_9 rfl (lv_at hl 0 rfl) ?_
    refine lv_iconst (v := (-1)) hx hb dX12_back_10 (by decide) ?_
    refine kI.callV (As := [.int (-1)]) (rest := []) ⟨hx, hb, hml, hown, hg⟩ (n_refuses l o r f a g hI (-1) (kb_w kc_m1 (by decide) (by decide)) ) (cwV 1 hg (kgV wt6_72 wt6_74 wp3_5 wt1_14 wt6_75) rfl rfl rfl (by decide +kernel) ⟨by decide, by decide⟩) hK hP hD hS hA mIs [] rfl (wr := []) rfl rfl rfl (fun i h => by cases h) 0 12 rfl rfl rfl hl.1 rfl (Nat.le_of_ble_eq_true rfl) dX12_back_11 ⟨Nat.le_refl _, Nat.le_refl _⟩ (fun v48 u49 H locs hw47 hP hD hS => ?_)
    obtain ⟨f50, a51, g52⟩ := u49
    have hP : va_P D vwCl (mW K o r f50 a51 g52) H := hP
    have hD : va_D A (mW K o r f50 a51 g52) := hD
    have hI : mI f50 a51 := hw47.2.1
    have eE53 : mE (XR []) f a f50 a51 := hw47.2.2.1
    have eZ54 : mZ [0] [1] f a f50 a51 := hw47.2.2.2.2.2.2
    have hZ : mZ [0, 33] [1, 2] f a f50 a51 := mZ_tr hZ (mZ_w (by decide) (by decide) eZ54)
    refine k_top (z := (-1)) hw47.2.2.2.1 ?_
    exact kI_ret (v := (-1)) hx hb hr hlocks rfl hK hS dX12_back_14 (f50, a51, g52) hP hD ⟨(kb_w kc_m1 (by decide) (by decide)), hI, ⟨hw47.2.2.1.1 13 rfl, hw47.2.2.1.2.1, hw47.2.2.1.2.2.2.1, hw47.2.2.1.2.2.2.2, Or.inl ⟨rfl, fun hz => by have w1 := mLies_in hz; exact absurd (hw1.2.symm.trans c4) (by rw [w1]; decide +kernel), mE_all hw47.2.2.1⟩⟩, (hw47.2.2.1.1 6 rfl), (hw47.2.2.1.1 14 rfl), ⟨hw47.2.2.2.2.1, Or.inl ⟨(by decide +kernel), hw47.2.2.2.2.2.1.trans (by rw [show a 1 = a 1 from rfl]), by (try dsimp only); rw [show f50 33 = f 33 from (eZ54.1 33 rfl), show a51 31 = a 31 from hZ.2 31 rfl]; exact hp0⟩⟩, hZ⟩
