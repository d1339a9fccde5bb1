set_option maxHeartbeats 4000000 in
set_option maxRecDepth 100000 in
theorem n_nights  (l : Launch) {D : va_G} {K : Nat → ClassId} (o : Nat) (r : Nat → Nat) (f : Nat → Int32) (a : Nat → Nat → Int32) (g : Nat → Int64) (hI : mI f a) (x : Int32) (y : Int32)    : kI l yX12_nights (Cond.code yX12_nights cX12_nights 6 (some .int) :: kG) (rmD 52 0 0) D (tysK K) [.ref o, .int x, .int y] (mW K o r f a g) (fun v (u : mS) => kb (-2147483648) v 2147483647 ∧ mI u.1 u.2.1 ∧ mE (XR []) f a u.1 u.2.1 ∧ ((¬ ngtO x y ∧ v = -1 ∧ u.1 0 = -1 ∧ u.2.1 1 = rfS (-1 : Int32).toInt (a 1)) ∨ (ngtO x y ∧ u.1 0 = 0 ∧ u.2.1 1 = a 1)) ∧ mZ [0, 22, 23, 24, 25, 45, 46, 47] [1, 2, 5, 26, 29, 30, 34, 44] f a u.1 u.2.1) (fun u => mW K o r u.1 u.2.1 u.2.2) 0 0 := by
  refine kI.of (cc := cX12_nights) (maxL := 6) (ret := (some .int)) (by decide) rfl (Nat.le_of_ble_eq_true rfl) ?_
  intro p e s m below meth c A hx hb hr hml hown hts hlocks hnm hK hP hD hS hA ls hl
  have hE : mE (XR [(0, 23)]) f a f a := mE_rf
  have hZ : mZ [0, 22, 23, 24, 25, 45, 46, 47] [1, 2, 5, 26, 29, 30, 34, 44] f a f a := mZ_rf
  have hg : ∀ w ∈ kG, w.before _ s = true := fun w h => hts w (List.mem_cons_of_mem _ h)
  have hown : s.vm.findClass RX12 = some m.cls := hown
  have hl : lv_has ls 6 [(0, .ref o), (1, .int x), (2, .int y)] := hl
  refine lv_iload_n hx hb dX12_nights_0 rfl (lv_at hl 1 rfl) ?_
  refine lv_iconst (v := 0) hx hb dX12_nights_1 (by decide) ?_
  refine lv_ldc (v := (1000000)) hx hb hown (hg _ wt6_191) dX12_nights_2 ?_
  refine kN.callS (As := [.int x, .int 0, .int 1000000]) (rest := []) ⟨hx, hb, hml, hown, hg⟩ (m_lies l x 0 1000000 ) (va_cwS 3 hg (kgS wt6_69 wt6_70 wt1_14 wt6_71) rfl rfl rfl (by decide +kernel) ⟨by decide, by decide⟩) hP hS rfl hl.1 rfl (Nat.le_of_ble_eq_true rfl) dX12_nights_4 ⟨Nat.le_refl _, Nat.le_refl _⟩ (fun v2 H locs hw1 hP hS => ?_)
  refine lv_if_eq (tgt := 20) hx hb dX12_nights_7 (by decide) (fun c4 => ?_) (fun c4 => ?_)
  · have b5 : kb 0 v2 0 := kb_eq c4 kc_0
    refine lv_aload_n hx hb dX12_nights_20 rfl (lv_at hl 0 rfl) ?_
    refine lv_iconst (v := (-1)) hx hb dX12_nights_21 (by decide) ?_
    refine kI.callV (As := [.int (-1)]) (rest := []) ⟨hx, hb, hml, hown, hg⟩ (n_refuses l o r f a g hI (-1) (kb_w kc_m1 (by decide) (by decide)) ) (cwV 1 hg (kgV wt6_72 wt6_74 wp3_5 wt1_14 wt6_75) rfl rfl rfl (by decide +kernel) ⟨by decide, by decide⟩) hK hP hD hS hA mIs [] rfl (wr := []) rfl rfl rfl (fun i h => by cases h) 0 12 rfl rfl rfl hl.1 rfl (Nat.le_of_ble_eq_true rfl) dX12_nights_22 ⟨Nat.le_refl _, Nat.le_refl _⟩ (fun v7 u8 H locs hw6 hP hD hS => ?_)
    obtain ⟨f9, a10, g11⟩ := u8
    have hP : va_P D vwCl (mW K o r f9 a10 g11) H := hP
    have hD : va_D A (mW K o r f9 a10 g11) := hD
    have hI : mI f9 a10 := hw6.2.1
    have hE : mE (XR [(0, 23)]) f a f9 a10 := mE_tr hE (mE_w (XR_w (by decide)) hw6.2.2.1)
    have eE12 : mE (XR []) f a f9 a10 := hw6.2.2.1
    have eZ13 : mZ [0] [1] f a f9 a10 := hw6.2.2.2.2.2.2
    have hZ : mZ [0, 22, 23, 24, 25, 45, 46, 47] [1, 2, 5, 26, 29, 30, 34, 44] f a f9 a10 := mZ_tr hZ (mZ_w (by decide) (by decide) eZ13)
    refine k_top (z := (-1)) hw6.2.2.2.1 ?_
    exact kI_ret (v := (-1)) hx hb hr hlocks rfl hK hS dX12_nights_25 (f9, a10, g11) hP hD ⟨(kb_w kc_m1 (by decide) (by decide)), hI, ⟨hE.1, hE.2.1, fun i _ => (hw6.2.2.1).2.2.1 i rfl, hE.2.2.2.1, hE.2.2.2.2⟩, (Or.inl ⟨(fun q => mLies_z (hw1.2.symm.trans c4) (by decide +kernel) (by decide +kernel) q.1), rfl, hw6.2.2.2.2.1, hw6.2.2.2.2.2.1.trans (by rw [show a 1 = a 1 from rfl])⟩), hZ⟩
  · have b14 : kb 1 v2 1 := kr_nel c4 hw1.1 kc_0 (by decide)
    have h15 := mLies_ne (hw1.2 ▸ c4)
    have b16 : kb 0 x 2147483647 := kr_le2 h15.1 kc_0 (kb_any x)
    have b17 : kb 0 x 1000000 := kr_le1 h15.2 b16 kc_1000000
    refine lv_iload_n hx hb dX12_nights_10 rfl (lv_at hl 2 rfl) ?_
    refine lv_iconst (v := 1) hx hb dX12_nights_11 (by decide) ?_
    refine lv_bipush (v := 20) hx hb dX12_nights_12 (by decide) ?_
    refine kN.callS (As := [.int y, .int 1, .int 20]) (rest := []) ⟨hx, hb, hml, hown, hg⟩ (m_lies l y 1 20 ) (va_cwS 3 hg (kgS wt6_69 wt6_70 wt1_14 wt6_71) rfl rfl rfl (by decide +kernel) ⟨by decide, by decide⟩) hP hS rfl hl.1 rfl (Nat.le_of_ble_eq_true rfl) dX12_nights_14 ⟨Nat.le_refl _, Nat.le_refl _⟩ (fun v19 H locs hw18 hP hS => ?_)
    refine lv_if_ne (tgt := 26) hx hb dX12_nights_17 (by decide) (fun c21 => ?_) (fun c21 => ?_)
    · have b22 : kb 1 v19 1 := kr_nel c21 hw18.1 kc_0 (by decide)
      have h23 := mLies_ne (hw18.2 ▸ c21)
      have b24 : kb 1 y 2147483647 := kr_le2 h23.1 kc_1 (kb_any y)
      have b25 : kb 1 y 20 := kr_le1 h23.2 b24 kc_20
      refine lv_aload_n hx hb dX12_nights_26 rfl (lv_at hl 0 rfl) ?_
      refine lv_iload_n hx hb dX12_nights_27 rfl (lv_at hl 1 rfl) ?_
      refine va_put (D := D) (ci := 12) (v := .int x) (ty := .int) (C := RX12) (T := TX12) (N := 48) hx hb hg inC12 tyX12 tyX12_ok nmX12 hown hK hP hD hS 0 rfl rfl 47 (by decide) (hg _ wt5_207) (fun _ h9 => h9) rfl (by decide +kernel) rfl rfl (Nat.le_of_ble_eq_true rfl) dX12_nights_28 (fun H locs hP hD hS => ?_)
      have hP : va_P D vwCl (mW K o r (upd f 47 x) a g) H := hP
      have hD : va_D A (mW K o r (upd f 47 x) a g) := hD
      refine k_gen (P := fun z => va_P D vwCl (mW K o r z a g) H ∧ va_D A (mW K o r z a g) ∧ (mI z a) ∧ (mE (XR [(0, 23)]) f a z a) ∧ (mZ [0, 22, 23, 24, 25, 45, 46, 47] [1, 2, 5, 26, 29, 30, 34, 44] f a z a)) (upd f 47 x) ⟨hP, hD, (mI_f hI (fI_st hI.1 47 (kb_any _) (by decide) (by decide))), (mE_f hE (by decide)), (mZ_f hZ rfl)⟩ (fun f_26 ef_26 hq => ?_)
      obtain ⟨hP, hD, hI, hE, hZ⟩ := hq
      refine lv_aload_n hx hb dX12_nights_31 rfl (lv_at hl 0 rfl) ?_
      refine lv_aload_n hx hb dX12_nights_32 rfl (lv_at hl 0 rfl) ?_
      refine va_get (D := D) (ci := 12) (v := .ref (r 2)) (C := RX12) (T := TX12) (N := 48) hx hb hg inC12 hown hK hP 0 rfl rfl 2 (by decide) (hg _ wt5_162) (fun _ h9 => h9) rfl dX12_nights_33 ?_
      refine lv_bipush (v := 102) hx hb dX12_nights_36 (by decide) ?_
      refine va_iald hx hb hK hP 2 0 rfl rfl (kb_in kc_102 (by decide) (by decide)) dX12_nights_38 ?_
      refine lv_topi (fun t27 et27 => ?_)
      rw [cl_102] at et27
      have b28 : kb 0 t27 10 := kb_eq et27 (aI_at hI.2.1 2 102 (by decide) (by decide))
      refine va_put (D := D) (ci := 12) (v := .int t27) (ty := .int) (C := RX12) (T := TX12) (N := 48) hx hb hg inC12 tyX12 tyX12_ok nmX12 hown hK hP hD hS 0 rfl rfl 45 (by decide) (hg _ wt5_205) (fun _ h9 => h9) rfl (by decide +kernel) rfl rfl (Nat.le_of_ble_eq_true rfl) dX12_nights_39 (fun H locs hP hD hS => ?_)
      have hP : va_P D vwCl (mW K o r (upd f_26 45 t27) a g) H := hP
      have hD : va_D A (mW K o r (upd f_26 45 t27) a g) := hD
      refine k_gen (P := fun z => va_P D vwCl (mW K o r z a g) H ∧ va_D A (mW K o r z a g) ∧ (mI z a) ∧ (mE (XR [(0, 23)]) f a z a) ∧ (mZ [0, 22, 23, 24, 25, 45, 46, 47] [1, 2, 5, 26, 29, 30, 34, 44] f a z a)) (upd f_26 45 t27) ⟨hP, hD, (mI_f hI (fI_st hI.1 45 b28 (by decide) (by decide))), (mE_f hE (by decide)), (mZ_f hZ rfl)⟩ (fun f_29 ef_29 hq => ?_)
      obtain ⟨hP, hD, hI, hE, hZ⟩ := hq
      refine lv_aload_n hx hb dX12_nights_42 rfl (lv_at hl 0 rfl) ?_
      refine lv_aload_n hx hb dX12_nights_43 rfl (lv_at hl 0 rfl) ?_
      refine va_get (D := D) (ci := 12) (v := .ref (r 2)) (C := RX12) (T := TX12) (N := 48) hx hb hg inC12 hown hK hP 0 rfl rfl 2 (by decide) (hg _ wt5_162) (fun _ h9 => h9) rfl dX12_nights_44 ?_
      refine lv_bipush (v := 103) hx hb dX12_nights_47 (by decide) ?_
      refine va_iald hx hb hK hP 2 0 rfl rfl (kb_in kc_103 (by decide) (by decide)) dX12_nights_49 ?_
      refine lv_topi (fun t30 et30 => ?_)
      rw [cl_103] at et30
      have b31 : kb 0 t30 6 := kb_eq et30 (aI_at hI.2.1 2 103 (by decide) (by decide))
      refine va_put (D := D) (ci := 12) (v := .int t30) (ty := .int) (C := RX12) (T := TX12) (N := 48) hx hb hg inC12 tyX12 tyX12_ok nmX12 hown hK hP hD hS 0 rfl rfl 46 (by decide) (hg _ wt5_206) (fun _ h9 => h9) rfl (by decide +kernel) rfl rfl (Nat.le_of_ble_eq_true rfl) dX12_nights_50 (fun H locs hP hD hS => ?_)
      have hP : va_P D vwCl (mW K o r (upd f_29 46 t30) a g) H := hP
      have hD : va_D A (mW K o r (upd f_29 46 t30) a g) := hD
      refine k_gen (P := fun z => va_P D vwCl (mW K o r z a g) H ∧ va_D A (mW K o r z a g) ∧ (mI z a) ∧ (mE (XR [(0, 23)]) f a z a) ∧ (mZ [0, 22, 23, 24, 25, 45, 46, 47] [1, 2, 5, 26, 29, 30, 34, 44] f a z a)) (upd f_29 46 t30) ⟨hP, hD, (mI_f hI (fI_st hI.1 46 b31 (by decide) (by decide))), (mE_f hE (by decide)), (mZ_f hZ rfl)⟩ (fun f_32 ef_32 hq => ?_)
      obtain ⟨hP, hD, hI, hE, hZ⟩ := hq
      have hk0 : a 2 = a 2 := rfl
      refine lv_iconst (v := 0) hx hb dX12_nights_53 (by decide) ?_
      refine lv_istore_n (lv' := [(3, .int 0), (0, .ref o), (1, .int x), (2, .int y)]) hx hb dX12_nights_54 rfl hl (by decide) rfl (fun ls hl => ?_)
      refine lv_iconst (v := 0) hx hb dX12_nights_55 (by decide) ?_
      refine lv_istore (lv' := [(4, .int 0), (3, .int 0), (0, .ref o), (1, .int x), (2, .int y)]) hx hb dX12_nights_56 hl (by decide) rfl (fun ls hl => ?_)
      have lp38 : ∀ (n39 : Nat) (F35 : Nat → Int32) (B36 : Nat → Nat → Int32) (G37 : Nat → Int64) (H : Heap) (locs : List Loc) (ls : Array Slot) (y33 : Int32) (y34 : Int32), (20 < y33.toInt + (n39 : Int)) → (mI F35 B36) → (mE (XR [(0, 23)]) f a F35 B36) → (mZ [0, 22, 23, 24, 25, 45, 46, 47] [1, 2, 5, 26, 29, 30, 34, 44] f a F35 B36) → (B36 2 = a 2) → (kb 0 y33 20) → (B36 1 = a 1) → va_P D vwCl (mW K o r F35 B36 G37) H → va_D A (mW K o r F35 B36 G37) → va_S A s.heap H locs → lv_has ls 6 [(4, .int y33), (3, .int y34), (0, .ref o), (1, .int x), (2, .int y)] → W p l e (rmD 52 0 0) s m ([.ref o, .int x, .int y] : List Value).toArray below meth c H locs 0 0 (kQi D (tysK K) (fun v (u : mS) => kb (-2147483648) v 2147483647 ∧ mI u.1 u.2.1 ∧ mE (XR []) f a u.1 u.2.1 ∧ ((¬ ngtO x y ∧ v = -1 ∧ u.1 0 = -1 ∧ u.2.1 1 = rfS (-1 : Int32).toInt (a 1)) ∨ (ngtO x y ∧ u.1 0 = 0 ∧ u.2.1 1 = a 1)) ∧ mZ [0, 22, 23, 24, 25, 45, 46, 47] [1, 2, 5, 26, 29, 30, 34, 44] f a u.1 u.2.1) (fun u => mW K o r u.1 u.2.1 u.2.2) A below ([.ref o, .int x, .int y] : List Value).toArray s 0 0) (F0 m 58 ls []) := by
        intro n39
        induction n39 with
        | zero =>
          intro  F35 B36 G37  H locs ls y33 y34 hmlp38 hI hE hZ hk0 b40 hvlp38_0 hP hD hS hl
          exact (by have h1 := b40.2; have h2 := hmlp38; omega : False).elim
        | succ n39 ihlp38 =>
          intro  F35 B36 G37  H locs ls y33 y34 hmlp38 hI hE hZ hk0 b40 hvlp38_0 hP hD hS hl
          refine lv_iload hx hb dX12_nights_58 (lv_at hl 0 rfl) ?_
          refine lv_iload_n hx hb dX12_nights_60 rfl (lv_at hl 4 rfl) ?_
          refine lv_icmp_ge (tgt := 196) hx hb dX12_nights_61 (by decide) (fun c41 => ?_) (fun c41 => ?_)
          · have h42 := (kc_le c41)
            have b43 : kb 1 y33 20 := kr_le2 h42 b25 b40
            refine lv_aload_n hx hb dX12_nights_196 rfl (lv_at hl 2 rfl) ?_
            refine lv_iload_n hx hb dX12_nights_197 rfl (lv_at hl 1 rfl) ?_
            refine kI.callV (As := [.int y34]) (rest := []) ⟨hx, hb, hml, hown, hg⟩ (n_good l o r F35 B36 G37 hI y34  ) (cwV 1 hg (kgV wt6_76 wt6_78 wp3_6 wt1_14 wt6_79) rfl rfl rfl (by decide +kernel) ⟨by decide, by decide⟩) hK hP hD hS hA mIs [] rfl (wr := []) rfl rfl rfl (fun i h => by cases h) 0 12 rfl rfl rfl hl.1 rfl (Nat.le_of_ble_eq_true rfl) dX12_nights_198 ⟨Nat.le_refl _, Nat.le_refl _⟩ (fun v45 u46 H locs hw44 hP hD hS => ?_)
            obtain ⟨f47, a48, g49⟩ := u46
            have hP : va_P D vwCl (mW K o r f47 a48 g49) H := hP
            have hD : va_D A (mW K o r f47 a48 g49) := hD
            have hI : mI f47 a48 := hw44.2.1
            have hE : mE (XR [(0, 23)]) f a f47 a48 := mE_tr hE (mE_w (XR_w (by decide)) hw44.2.2.1)
            have eE50 : mE (XR []) F35 B36 f47 a48 := hw44.2.2.1
            have eZ51 : mZ [0] [] F35 B36 f47 a48 := hw44.2.2.2.2.2
            have hZ : mZ [0, 22, 23, 24, 25, 45, 46, 47] [1, 2, 5, 26, 29, 30, 34, 44] f a f47 a48 := mZ_tr hZ (mZ_w (by decide) (by decide) eZ51)
            have hk0 : a48 2 = a 2 := ((eZ51.2 2 rfl).trans hk0)
            refine k_top (z := y34) hw44.2.2.2.1 ?_
            exact kI_ret (v := y34) hx hb hr hlocks rfl hK hS dX12_nights_201 (f47, a48, g49) hP hD ⟨(kb_any y34), hI, ⟨hE.1, hE.2.1, fun i _ => congrFun hk0 i, hE.2.2.2.1, hE.2.2.2.2⟩, (Or.inr ⟨⟨b17, b25⟩, hw44.2.2.2.2.1, (((eZ51.2 1 rfl)).trans hvlp38_0)⟩), hZ⟩
          · have h52 := (kc_nle c41)
            have b53 : kb 0 y33 19 := kr_lt1 h52 b40 b25 (by decide)
            have h2b := hk0
            refine lv_aload_n hx hb dX12_nights_64 rfl (lv_at hl 2 rfl) ?_
            refine kV.callV (As := []) (rest := []) ⟨hx, hb, hml, hown, hg⟩ (m_begins l o r F35 B36 G37 hI   ) (cwV 0 hg (kgV wt7_203 wt7_205 wp7_4 wt1_14 wt7_206) rfl rfl rfl (by decide +kernel) ⟨by decide, by decide⟩) hK hP hD hS hA mIs [] rfl (wr := []) rfl rfl rfl (fun i h => by cases h) 0 12 rfl rfl rfl hl.1 rfl (Nat.le_of_ble_eq_true rfl) dX12_nights_65 ⟨Nat.le_refl _, Nat.le_refl _⟩ (fun u56 H locs hw54 hP hD hS => ?_)
            obtain ⟨f57, a58, g59⟩ := u56
            have hP : va_P D vwCl (mW K o r f57 a58 g59) H := hP
            have hD : va_D A (mW K o r f57 a58 g59) := hD
            have hI : mI f57 a58 := hw54.1
            have hE : mE (XR [(0, 23)]) f a f57 a58 := mE_tr hE hw54.2.1
            have eE60 : mE (XR [(0, 23)]) F35 B36 f57 a58 := hw54.2.1
            have eZ61 : mZ [] [2, 5] F35 B36 f57 a58 := hw54.2.2.2
            have hZ : mZ [0, 22, 23, 24, 25, 45, 46, 47] [1, 2, 5, 26, 29, 30, 34, 44] f a f57 a58 := mZ_tr hZ (mZ_w (by decide) (by decide) eZ61)
            have hk0 : ∀ i, i < 23 → a58 5 i = a 2 i := fun i hi => ((hw54.2.2.1) i hi).trans (congrFun h2b i)
            refine lv_iconst (v := 0) hx hb dX12_nights_68 (by decide) ?_
            refine lv_istore (lv' := [(5, .int 0), (4, .int y33), (3, .int y34), (0, .ref o), (1, .int x), (2, .int y)]) hx hb dX12_nights_69 hl (by decide) rfl (fun ls hl => ?_)
            have lp66 : ∀ (n67 : Nat) (F63 : Nat → Int32) (B64 : Nat → Nat → Int32) (G65 : Nat → Int64) (H : Heap) (locs : List Loc) (ls : Array Slot) (y62 : Int32), (99 < y62.toInt + (n67 : Int)) → (mI F63 B64) → (mE (XR [(0, 23)]) f a F63 B64) → (mZ [0, 22, 23, 24, 25, 45, 46, 47] [1, 2, 5, 26, 29, 30, 34, 44] f a F63 B64) → (∀ i, i < 23 → B64 5 i = a 2 i) → (kb 0 y62 99) → (B64 1 = a 1) → va_P D vwCl (mW K o r F63 B64 G65) H → va_D A (mW K o r F63 B64 G65) → va_S A s.heap H locs → lv_has ls 6 [(5, .int y62), (4, .int y33), (3, .int y34), (0, .ref o), (1, .int x), (2, .int y)] → W p l e (rmD 52 0 0) s m ([.ref o, .int x, .int y] : List Value).toArray below meth c H locs 0 0 (kQi D (tysK K) (fun v (u : mS) => kb (-2147483648) v 2147483647 ∧ mI u.1 u.2.1 ∧ mE (XR []) f a u.1 u.2.1 ∧ ((¬ ngtO x y ∧ v = -1 ∧ u.1 0 = -1 ∧ u.2.1 1 = rfS (-1 : Int32).toInt (a 1)) ∨ (ngtO x y ∧ u.1 0 = 0 ∧ u.2.1 1 = a 1)) ∧ mZ [0, 22, 23, 24, 25, 45, 46, 47] [1, 2, 5, 26, 29, 30, 34, 44] f a u.1 u.2.1) (fun u => mW K o r u.1 u.2.1 u.2.2) A below ([.ref o, .int x, .int y] : List Value).toArray s 0 0) (F0 m 71 ls []) := by
              intro n67
              induction n67 with
              | zero =>
                intro  F63 B64 G65  H locs ls y62 hmlp66 hI hE hZ hk0 b68 hvlp66_0 hP hD hS hl
                exact (by have h1 := b68.2; have h2 := hmlp66; omega : False).elim
              | succ n67 ihlp66 =>
                intro  F63 B64 G65  H locs ls y62 hmlp66 hI hE hZ hk0 b68 hvlp66_0 hP hD hS hl
                refine lv_iload hx hb dX12_nights_71 (lv_at hl 0 rfl) ?_
                refine lv_aload_n hx hb dX12_nights_73 rfl (lv_at hl 3 rfl) ?_
                refine va_get (D := D) (ci := 12) (v := .ref (r 2)) (C := RX12) (T := TX12) (N := 48) hx hb hg inC12 hown hK hP 0 rfl rfl 2 (by decide) (hg _ wt5_162) (fun _ h9 => h9) rfl dX12_nights_74 ?_
                refine lv_bipush (v := 99) hx hb dX12_nights_77 (by decide) ?_
                refine va_iald hx hb hK hP 2 0 rfl rfl (kb_in kc_99 (by decide) (by decide)) dX12_nights_79 ?_
                refine lv_topi (fun t69 et69 => ?_)
                rw [cl_99] at et69
                have b70 : kb 0 t69 99 := kb_eq et69 (aI_at hI.2.1 2 99 (by decide) (by decide))
                refine lv_icmp_ge (tgt := 136) hx hb dX12_nights_80 (by decide) (fun c71 => ?_) (fun c71 => ?_)
                · have h72 := (kc_le c71)
                  refine lv_iload_n hx hb dX12_nights_136 rfl (lv_at hl 2 rfl) ?_
                  refine lv_aload_n hx hb dX12_nights_137 rfl (lv_at hl 3 rfl) ?_
                  refine lv_aload_n hx hb dX12_nights_138 rfl (lv_at hl 3 rfl) ?_
                  refine kI.callV (As := []) (rest := [.ref o, .int y34]) ⟨hx, hb, hml, hown, hg⟩ (m_allParts l o r F63 B64 G65 hI   ) (cwV 0 hg (kgV wt7_187 wt7_189 wp7_1 wt1_14 wt7_190) rfl rfl rfl (by decide +kernel) ⟨by decide, by decide⟩) hK hP hD hS hA mIs [] rfl (wr := []) rfl rfl rfl (fun i h => by cases h) 0 12 rfl rfl rfl hl.1 rfl (Nat.le_of_ble_eq_true rfl) dX12_nights_139 ⟨Nat.le_refl _, Nat.le_refl _⟩ (fun v74 u75 H locs hw73 hP hD hS => ?_)
                  have hP : va_P D vwCl (mW K o r F63 B64 G65) H := hP
                  have hD : va_D A (mW K o r F63 B64 G65) := hD
                  refine kI.callV (As := [.int v74]) (rest := [.int y34]) ⟨hx, hb, hml, hown, hg⟩ (m_areStanding l o r F63 B64 G65 hI v74  ) (cwV 1 hg (kgV wt7_211 wt7_213 wp7_6 wt1_14 wt7_214) rfl rfl rfl (by decide +kernel) ⟨by decide, by decide⟩) hK hP hD hS hA mIs [] rfl (wr := []) rfl rfl rfl (fun i h => by cases h) 0 12 rfl rfl rfl hl.1 rfl (Nat.le_of_ble_eq_true rfl) dX12_nights_142 ⟨Nat.le_refl _, Nat.le_refl _⟩ (fun v77 u78 H locs hw76 hP hD hS => ?_)
                  have hP : va_P D vwCl (mW K o r F63 B64 G65) H := hP
                  have hD : va_D A (mW K o r F63 B64 G65) := hD
                  refine lv_if_eq (tgt := 152) hx hb dX12_nights_145 (by decide) (fun c79 => ?_) (fun c79 => ?_)
                  · have b80 : kb 0 v77 0 := kb_eq c79 kc_0
                    refine lv_iconst (v := 0) hx hb dX12_nights_152 (by decide) ?_
                    refine lv_iadd hx hb dX12_nights_153 ?_
                    refine lv_topi (fun t81 et81 => ?_)
                    have qt81 : t81.toInt = y34.toInt + 0 := by rw [et81]; exact kt_addc (kb_any y34) kc_0 (by decide) (by decide)
                    refine lv_istore_n (lv' := [(3, .int t81), (5, .int y62), (4, .int y33), (0, .ref o), (1, .int x), (2, .int y)]) hx hb dX12_nights_154 rfl hl (by decide) rfl (fun ls hl => ?_)
                    refine lv_iconst (v := 0) hx hb dX12_nights_155 (by decide) ?_
                    refine lv_istore (lv' := [(5, .int 0), (3, .int t81), (4, .int y33), (0, .ref o), (1, .int x), (2, .int y)]) hx hb dX12_nights_156 hl (by decide) rfl (fun ls hl => ?_)
                    have lp84 : ∀ (n85 : Nat) (B83 : Nat → Nat → Int32) (H : Heap) (locs : List Loc) (ls : Array Slot) (y82 : Int32), (23 < y82.toInt + (n85 : Int)) → (mI F63 B83) → (mE (XR [(0, 23)]) f a F63 B83) → (mZ [0, 22, 23, 24, 25, 45, 46, 47] [1, 2, 5, 26, 29, 30, 34, 44] f a F63 B83) → (∀ i, i < 23 → B83 5 i = a 2 i) → (kb 0 y82 23) → (B83 1 = a 1) → va_P D vwCl (mW K o r F63 B83 G65) H → va_D A (mW K o r F63 B83 G65) → va_S A s.heap H locs → lv_has ls 6 [(5, .int y82), (3, .int t81), (4, .int y33), (0, .ref o), (1, .int x), (2, .int y)] → W p l e (rmD 52 0 0) s m ([.ref o, .int x, .int y] : List Value).toArray below meth c H locs 0 0 (kQi D (tysK K) (fun v (u : mS) => kb (-2147483648) v 2147483647 ∧ mI u.1 u.2.1 ∧ mE (XR []) f a u.1 u.2.1 ∧ ((¬ ngtO x y ∧ v = -1 ∧ u.1 0 = -1 ∧ u.2.1 1 = rfS (-1 : Int32).toInt (a 1)) ∨ (ngtO x y ∧ u.1 0 = 0 ∧ u.2.1 1 = a 1)) ∧ mZ [0, 22, 23, 24, 25, 45, 46, 47] [1, 2, 5, 26, 29, 30, 34, 44] f a u.1 u.2.1) (fun u => mW K o r u.1 u.2.1 u.2.2) A below ([.ref o, .int x, .int y] : List Value).toArray s 0 0) (F0 m 158 ls []) := by
                      intro n85
                      induction n85 with
                      | zero =>
                        intro  B83  H locs ls y82 hmlp84 hI hE hZ hk0 b86 hvlp84_0 hP hD hS hl
                        exact (by have h1 := b86.2; have h2 := hmlp84; omega : False).elim
                      | succ n85 ihlp84 =>
                        intro  B83  H locs ls y82 hmlp84 hI hE hZ hk0 b86 hvlp84_0 hP hD hS hl
                        refine lv_iload hx hb dX12_nights_158 (lv_at hl 0 rfl) ?_
                        refine lv_bipush (v := 23) hx hb dX12_nights_160 (by decide) ?_
                        refine lv_icmp_ge (tgt := 185) hx hb dX12_nights_162 (by decide) (fun c87 => ?_) (fun c87 => ?_)
                        · have h88 := (kc_le c87)
                          have b89 : kb 23 y82 23 := kr_le2 h88 kc_23 b86
                          refine lv_aload_n hx hb dX12_nights_185 rfl (lv_at hl 3 rfl) ?_
                          refine lv_iconst (v := 0) hx hb dX12_nights_186 (by decide) ?_
                          refine kV.callV (As := [.int 0]) (rest := []) ⟨hx, hb, hml, hown, hg⟩ (m_takesBack l o r F63 B83 G65 hI 0 (kb_w kc_0 (by decide) (by decide)) ) (cwV 1 hg (kgV wt7_223 wt7_225 wp7_9 wt1_14 wt7_226) rfl rfl rfl (by decide +kernel) ⟨by decide, by decide⟩) hK hP hD hS hA mIs [] rfl (wr := []) rfl rfl rfl (fun i h => by cases h) 0 12 rfl rfl rfl hl.1 rfl (Nat.le_of_ble_eq_true rfl) dX12_nights_187 ⟨Nat.le_refl _, Nat.le_refl _⟩ (fun u92 H locs hw90 hP hD hS => ?_)
                          obtain ⟨f93, a94, g95⟩ := u92
                          have hP : va_P D vwCl (mW K o r f93 a94 g95) H := hP
                          have hD : va_D A (mW K o r f93 a94 g95) := hD
                          have hI : mI f93 a94 := hw90.1
                          have hE : mE (XR [(0, 23)]) f a f93 a94 := mE_tr hE hw90.2.1
                          have eE96 : mE (XR [(0, 23)]) F63 B83 f93 a94 := hw90.2.1
                          have eZ97 : mZ [] [2] F63 B83 f93 a94 := hw90.2.2.2
                          have hZ : mZ [0, 22, 23, 24, 25, 45, 46, 47] [1, 2, 5, 26, 29, 30, 34, 44] f a f93 a94 := mZ_tr hZ (mZ_w (by decide) (by decide) eZ97)
                          have hk0 : ∀ i, i < 23 → a94 5 i = a 2 i := (fun i hi => (congrFun (eZ97.2 5 rfl) i).trans (hk0 i hi))
                          have htb : ∀ i, a94 2 i = a 2 i := fun i => by by_cases hi : i < 23; (exact (hw90.2.2.1 i hi).trans (by rw [show 23 * (0 : Int32).toInt.toNat + i = i from (by rw [show (0 : Int32).toInt.toNat = 0 from by decide +kernel]; omega)]; exact (congrFun (eZ97.2 5 rfl) i).symm.trans (hk0 i hi))); (exact hE.2.2.1 i (XR23 hi))
                          have hk0 : a94 2 = a 2 := funext htb
                          obtain ⟨t98, et98⟩ : ∃ z : Int32, z = y33 + Int32.ofInt 1 := ⟨_, rfl⟩
                          have qt98 : t98.toInt = y33.toInt + 1 := by rw [et98]; exact km_inc b53 (by decide) (by decide)
                          have b99 : kb 1 t98 20 := kb_inc (k := 1) qt98 b53
                          refine lv_iinc (v := t98) (lv' := [(4, .int t98), (5, .int y82), (3, .int t81), (0, .ref o), (1, .int x), (2, .int y)]) hx hb dX12_nights_190 hl (k := 2) rfl et98.symm (by decide) rfl (fun ls hl => ?_)
                          refine lv_goto (tgt := 58) hx hb dX12_nights_193 (by decide) ?_
                          exact ihlp38  f93 a94 g95 _ _ _ t98 t81 (km_up hmlp38 qt98) hI hE hZ hk0 (kb_w b99 (by decide) (by decide)) ((((eZ97.2 1 rfl)).trans hvlp84_0)) hP hD hS (lv_sub hl [0, 2, 3, 4, 5] rfl)
                        · have h100 := (kc_nle c87)
                          have b101 : kb 0 y82 22 := kr_lt1 h100 b86 kc_23 (by decide)
                          refine lv_aload_n hx hb dX12_nights_165 rfl (lv_at hl 3 rfl) ?_
                          refine va_get (D := D) (ci := 12) (v := .ref (r 44)) (C := RX12) (T := TX12) (N := 48) hx hb hg inC12 hown hK hP 0 rfl rfl 44 (by decide) (hg _ wt5_204) (fun _ h9 => h9) rfl dX12_nights_166 ?_
                          refine lv_iload hx hb dX12_nights_169 (lv_at hl 0 rfl) ?_
                          refine lv_aload_n hx hb dX12_nights_171 rfl (lv_at hl 3 rfl) ?_
                          refine va_get (D := D) (ci := 12) (v := .ref (r 2)) (C := RX12) (T := TX12) (N := 48) hx hb hg inC12 hown hK hP 0 rfl rfl 2 (by decide) (hg _ wt5_162) (fun _ h9 => h9) rfl dX12_nights_172 ?_
                          refine lv_iload hx hb dX12_nights_175 (lv_at hl 0 rfl) ?_
                          refine va_iald hx hb hK hP 2 0 rfl rfl (kb_in b101 (by decide) (by decide)) dX12_nights_177 ?_
                          refine lv_topi (fun t102 et102 => ?_)
                          refine va_iast hx hb hK hP hD hS 21 0 rfl rfl (kb_in b101 (by decide) (by decide)) dX12_nights_178 (fun H locs hP hD hS => ?_)
                          have hP : va_P D vwCl (mW K o r F63 (va_up B83 44 (upd (B83 44) y82.toNatClampNeg t102)) G65) H := hP
                          have hD : va_D A (mW K o r F63 (va_up B83 44 (upd (B83 44) y82.toNatClampNeg t102)) G65) := hD
                          refine k_gen (P := fun z => va_P D vwCl (mW K o r F63 z G65) H ∧ va_D A (mW K o r F63 z G65) ∧ (mI F63 z) ∧ (mE (XR [(0, 23)]) f a F63 z) ∧ (mZ [0, 22, 23, 24, 25, 45, 46, 47] [1, 2, 5, 26, 29, 30, 34, 44] f a F63 z) ∧ (∀ i, i < 23 → z 5 i = a 2 i)) (va_up B83 44 (upd (B83 44) y82.toNatClampNeg t102)) ⟨hP, hD, (mI_s hI (aI_free hI.2.1 44 _ (fun j => ⟨by show (mBa 44 j).1 ≤ _; exact Int.le_refl _, by show _ ≤ (mBa 44 j).2; exact Int.le_refl _⟩)) (by decide) (by decide)), (mE_s hE (by decide) (by decide) (by decide) (by decide)), (mZ_a hZ rfl), hk0⟩ (fun a_103 ea_103 hq => ?_)
                          obtain ⟨hP, hD, hI, hE, hZ, hk0⟩ := hq
                          obtain ⟨t104, et104⟩ : ∃ z : Int32, z = y82 + Int32.ofInt 1 := ⟨_, rfl⟩
                          have qt104 : t104.toInt = y82.toInt + 1 := by rw [et104]; exact km_inc b101 (by decide) (by decide)
                          have b105 : kb 1 t104 23 := kb_inc (k := 1) qt104 b101
                          refine lv_iinc (v := t104) (lv' := [(5, .int t104), (3, .int t81), (4, .int y33), (0, .ref o), (1, .int x), (2, .int y)]) hx hb dX12_nights_179 hl (k := 0) rfl et104.symm (by decide) rfl (fun ls hl => ?_)
                          refine lv_goto (tgt := 158) hx hb dX12_nights_182 (by decide) ?_
                          exact ihlp84  a_103 _ _ _ t104 (km_up hmlp84 qt104) hI hE hZ hk0 (kb_w b105 (by decide) (by decide)) ((((show a_103 1 = B83 1 from by rw [← ea_103]; rfl)).trans hvlp84_0)) hP hD hS (lv_sub hl [0, 1, 2, 3, 4, 5] rfl)
                    exact lp84 (24)  B64 _ _ _ 0 (by have h1 := (kc_0); unfold kb at h1; omega) hI hE hZ hk0 (kb_w kc_0 (by decide) (by decide)) (((rfl).trans hvlp66_0)) hP hD hS (lv_sub hl [0, 1, 2, 3, 4, 5] rfl)
                  · have b106 : kb 1 v77 1 := kr_nel c79 hw76 kc_0 (by decide)
                    refine lv_iconst (v := 1) hx hb dX12_nights_148 (by decide) ?_
                    refine lv_goto (tgt := 153) hx hb dX12_nights_149 (by decide) ?_
                    refine lv_iadd hx hb dX12_nights_153 ?_
                    refine lv_topi (fun t107 et107 => ?_)
                    refine lv_istore_n (lv' := [(3, .int t107), (5, .int y62), (4, .int y33), (0, .ref o), (1, .int x), (2, .int y)]) hx hb dX12_nights_154 rfl hl (by decide) rfl (fun ls hl => ?_)
                    refine lv_iconst (v := 0) hx hb dX12_nights_155 (by decide) ?_
                    refine lv_istore (lv' := [(5, .int 0), (3, .int t107), (4, .int y33), (0, .ref o), (1, .int x), (2, .int y)]) hx hb dX12_nights_156 hl (by decide) rfl (fun ls hl => ?_)
                    have lp110 : ∀ (n111 : Nat) (B109 : Nat → Nat → Int32) (H : Heap) (locs : List Loc) (ls : Array Slot) (y108 : Int32), (23 < y108.toInt + (n111 : Int)) → (mI F63 B109) → (mE (XR [(0, 23)]) f a F63 B109) → (mZ [0, 22, 23, 24, 25, 45, 46, 47] [1, 2, 5, 26, 29, 30, 34, 44] f a F63 B109) → (∀ i, i < 23 → B109 5 i = a 2 i) → (kb 0 y108 23) → (B109 1 = a 1) → va_P D vwCl (mW K o r F63 B109 G65) H → va_D A (mW K o r F63 B109 G65) → va_S A s.heap H locs → lv_has ls 6 [(5, .int y108), (3, .int t107), (4, .int y33), (0, .ref o), (1, .int x), (2, .int y)] → W p l e (rmD 52 0 0) s m ([.ref o, .int x, .int y] : List Value).toArray below meth c H locs 0 0 (kQi D (tysK K) (fun v (u : mS) => kb (-2147483648) v 2147483647 ∧ mI u.1 u.2.1 ∧ mE (XR []) f a u.1 u.2.1 ∧ ((¬ ngtO x y ∧ v = -1 ∧ u.1 0 = -1 ∧ u.2.1 1 = rfS (-1 : Int32).toInt (a 1)) ∨ (ngtO x y ∧ u.1 0 = 0 ∧ u.2.1 1 = a 1)) ∧ mZ [0, 22, 23, 24, 25, 45, 46, 47] [1, 2, 5, 26, 29, 30, 34, 44] f a u.1 u.2.1) (fun u => mW K o r u.1 u.2.1 u.2.2) A below ([.ref o, .int x, .int y] : List Value).toArray s 0 0) (F0 m 158 ls []) := by
                      intro n111
                      induction n111 with
                      | zero =>
                        intro  B109  H locs ls y108 hmlp110 hI hE hZ hk0 b112 hvlp110_0 hP hD hS hl
                        exact (by have h1 := b112.2; have h2 := hmlp110; omega : False).elim
                      | succ n111 ihlp110 =>
                        intro  B109  H locs ls y108 hmlp110 hI hE hZ hk0 b112 hvlp110_0 hP hD hS hl
                        refine lv_iload hx hb dX12_nights_158 (lv_at hl 0 rfl) ?_
                        refine lv_bipush (v := 23) hx hb dX12_nights_160 (by decide) ?_
                        refine lv_icmp_ge (tgt := 185) hx hb dX12_nights_162 (by decide) (fun c113 => ?_) (fun c113 => ?_)
                        · have h114 := (kc_le c113)
                          have b115 : kb 23 y108 23 := kr_le2 h114 kc_23 b112
                          refine lv_aload_n hx hb dX12_nights_185 rfl (lv_at hl 3 rfl) ?_
                          refine lv_iconst (v := 0) hx hb dX12_nights_186 (by decide) ?_
                          refine kV.callV (As := [.int 0]) (rest := []) ⟨hx, hb, hml, hown, hg⟩ (m_takesBack l o r F63 B109 G65 hI 0 (kb_w kc_0 (by decide) (by decide)) ) (cwV 1 hg (kgV wt7_223 wt7_225 wp7_9 wt1_14 wt7_226) rfl rfl rfl (by decide +kernel) ⟨by decide, by decide⟩) hK hP hD hS hA mIs [] rfl (wr := []) rfl rfl rfl (fun i h => by cases h) 0 12 rfl rfl rfl hl.1 rfl (Nat.le_of_ble_eq_true rfl) dX12_nights_187 ⟨Nat.le_refl _, Nat.le_refl _⟩ (fun u118 H locs hw116 hP hD hS => ?_)
                          obtain ⟨f119, a120, g121⟩ := u118
                          have hP : va_P D vwCl (mW K o r f119 a120 g121) H := hP
                          have hD : va_D A (mW K o r f119 a120 g121) := hD
                          have hI : mI f119 a120 := hw116.1
                          have hE : mE (XR [(0, 23)]) f a f119 a120 := mE_tr hE hw116.2.1
                          have eE122 : mE (XR [(0, 23)]) F63 B109 f119 a120 := hw116.2.1
                          have eZ123 : mZ [] [2] F63 B109 f119 a120 := hw116.2.2.2
                          have hZ : mZ [0, 22, 23, 24, 25, 45, 46, 47] [1, 2, 5, 26, 29, 30, 34, 44] f a f119 a120 := mZ_tr hZ (mZ_w (by decide) (by decide) eZ123)
                          have hk0 : ∀ i, i < 23 → a120 5 i = a 2 i := (fun i hi => (congrFun (eZ123.2 5 rfl) i).trans (hk0 i hi))
                          have htb : ∀ i, a120 2 i = a 2 i := fun i => by by_cases hi : i < 23; (exact (hw116.2.2.1 i hi).trans (by rw [show 23 * (0 : Int32).toInt.toNat + i = i from (by rw [show (0 : Int32).toInt.toNat = 0 from by decide +kernel]; omega)]; exact (congrFun (eZ123.2 5 rfl) i).symm.trans (hk0 i hi))); (exact hE.2.2.1 i (XR23 hi))
                          have hk0 : a120 2 = a 2 := funext htb
                          obtain ⟨t124, et124⟩ : ∃ z : Int32, z = y33 + Int32.ofInt 1 := ⟨_, rfl⟩
                          have qt124 : t124.toInt = y33.toInt + 1 := by rw [et124]; exact km_inc b53 (by decide) (by decide)
                          have b125 : kb 1 t124 20 := kb_inc (k := 1) qt124 b53
                          refine lv_iinc (v := t124) (lv' := [(4, .int t124), (5, .int y108), (3, .int t107), (0, .ref o), (1, .int x), (2, .int y)]) hx hb dX12_nights_190 hl (k := 2) rfl et124.symm (by decide) rfl (fun ls hl => ?_)
                          refine lv_goto (tgt := 58) hx hb dX12_nights_193 (by decide) ?_
                          exact ihlp38  f119 a120 g121 _ _ _ t124 t107 (km_up hmlp38 qt124) hI hE hZ hk0 (kb_w b125 (by decide) (by decide)) ((((eZ123.2 1 rfl)).trans hvlp110_0)) hP hD hS (lv_sub hl [0, 2, 3, 4, 5] rfl)
                        · have h126 := (kc_nle c113)
                          have b127 : kb 0 y108 22 := kr_lt1 h126 b112 kc_23 (by decide)
                          refine lv_aload_n hx hb dX12_nights_165 rfl (lv_at hl 3 rfl) ?_
                          refine va_get (D := D) (ci := 12) (v := .ref (r 44)) (C := RX12) (T := TX12) (N := 48) hx hb hg inC12 hown hK hP 0 rfl rfl 44 (by decide) (hg _ wt5_204) (fun _ h9 => h9) rfl dX12_nights_166 ?_
                          refine lv_iload hx hb dX12_nights_169 (lv_at hl 0 rfl) ?_
                          refine lv_aload_n hx hb dX12_nights_171 rfl (lv_at hl 3 rfl) ?_
                          refine va_get (D := D) (ci := 12) (v := .ref (r 2)) (C := RX12) (T := TX12) (N := 48) hx hb hg inC12 hown hK hP 0 rfl rfl 2 (by decide) (hg _ wt5_162) (fun _ h9 => h9) rfl dX12_nights_172 ?_
                          refine lv_iload hx hb dX12_nights_175 (lv_at hl 0 rfl) ?_
                          refine va_iald hx hb hK hP 2 0 rfl rfl (kb_in b127 (by decide) (by decide)) dX12_nights_177 ?_
                          refine lv_topi (fun t128 et128 => ?_)
                          refine va_iast hx hb hK hP hD hS 21 0 rfl rfl (kb_in b127 (by decide) (by decide)) dX12_nights_178 (fun H locs hP hD hS => ?_)
                          have hP : va_P D vwCl (mW K o r F63 (va_up B109 44 (upd (B109 44) y108.toNatClampNeg t128)) G65) H := hP
                          have hD : va_D A (mW K o r F63 (va_up B109 44 (upd (B109 44) y108.toNatClampNeg t128)) G65) := hD
                          refine k_gen (P := fun z => va_P D vwCl (mW K o r F63 z G65) H ∧ va_D A (mW K o r F63 z G65) ∧ (mI F63 z) ∧ (mE (XR [(0, 23)]) f a F63 z) ∧ (mZ [0, 22, 23, 24, 25, 45, 46, 47] [1, 2, 5, 26, 29, 30, 34, 44] f a F63 z) ∧ (∀ i, i < 23 → z 5 i = a 2 i)) (va_up B109 44 (upd (B109 44) y108.toNatClampNeg t128)) ⟨hP, hD, (mI_s hI (aI_free hI.2.1 44 _ (fun j => ⟨by show (mBa 44 j).1 ≤ _; exact Int.le_refl _, by show _ ≤ (mBa 44 j).2; exact Int.le_refl _⟩)) (by decide) (by decide)), (mE_s hE (by decide) (by decide) (by decide) (by decide)), (mZ_a hZ rfl), hk0⟩ (fun a_129 ea_129 hq => ?_)
                          obtain ⟨hP, hD, hI, hE, hZ, hk0⟩ := hq
                          obtain ⟨t130, et130⟩ : ∃ z : Int32, z = y108 + Int32.ofInt 1 := ⟨_, rfl⟩
                          have qt130 : t130.toInt = y108.toInt + 1 := by rw [et130]; exact km_inc b127 (by decide) (by decide)
                          have b131 : kb 1 t130 23 := kb_inc (k := 1) qt130 b127
                          refine lv_iinc (v := t130) (lv' := [(5, .int t130), (3, .int t107), (4, .int y33), (0, .ref o), (1, .int x), (2, .int y)]) hx hb dX12_nights_179 hl (k := 0) rfl et130.symm (by decide) rfl (fun ls hl => ?_)
                          refine lv_goto (tgt := 158) hx hb dX12_nights_182 (by decide) ?_
                          exact ihlp110  a_129 _ _ _ t130 (km_up hmlp110 qt130) hI hE hZ hk0 (kb_w b131 (by decide) (by decide)) ((((show a_129 1 = B109 1 from by rw [← ea_129]; rfl)).trans hvlp110_0)) hP hD hS (lv_sub hl [0, 1, 2, 3, 4, 5] rfl)
                    exact lp110 (24)  B64 _ _ _ 0 (by have h1 := (kc_0); unfold kb at h1; omega) hI hE hZ hk0 (kb_w kc_0 (by decide) (by decide)) (((rfl).trans hvlp66_0)) hP hD hS (lv_sub hl [0, 1, 2, 3, 4, 5] rfl)
                · have h132 := (kc_nle c71)
                  have b133 : kb 0 y62 98 := kr_lt1 h132 b68 b70 (by decide)
                  have b134 : kb 1 t69 99 := kr_lt2 h132 b68 b70 (by decide)
                  refine lv_aload_n hx hb dX12_nights_83 rfl (lv_at hl 3 rfl) ?_
                  refine lv_aload_n hx hb dX12_nights_84 rfl (lv_at hl 3 rfl) ?_
                  refine kI.callV (As := []) (rest := [.ref o]) ⟨hx, hb, hml, hown, hg⟩ (m_allBuilders l o r F63 B64 G65 hI   ) (cwV 0 hg (kgV wt7_164 wt7_166 wp6_14 wt1_14 wt7_167) rfl rfl rfl (by decide +kernel) ⟨by decide, by decide⟩) hK hP hD hS hA mIs [] rfl (wr := []) rfl rfl rfl (fun i h => by cases h) 0 12 rfl rfl rfl hl.1 rfl (Nat.le_of_ble_eq_true rfl) dX12_nights_85 ⟨Nat.le_refl _, Nat.le_refl _⟩ (fun v136 u137 H locs hw135 hP hD hS => ?_)
                  have hP : va_P D vwCl (mW K o r F63 B64 G65) H := hP
                  have hD : va_D A (mW K o r F63 B64 G65) := hD
                  refine kV.callV (As := [.int v136]) (rest := []) ⟨hx, hb, hml, hown, hg⟩ (m_sendsAll l o r F63 B64 G65 hI v136  ) (cwV 1 hg (kgV wt7_215 wt7_217 wp7_7 wt1_14 wt7_218) rfl rfl rfl (by decide +kernel) ⟨by decide, by decide⟩) hK hP hD hS hA mIs [] rfl (wr := []) rfl rfl rfl (fun i h => by cases h) 0 12 rfl rfl rfl hl.1 rfl (Nat.le_of_ble_eq_true rfl) dX12_nights_88 ⟨Nat.le_refl _, Nat.le_refl _⟩ (fun u140 H locs hw138 hP hD hS => ?_)
                  obtain ⟨f141, a142, g143⟩ := u140
                  have hP : va_P D vwCl (mW K o r f141 a142 g143) H := hP
                  have hD : va_D A (mW K o r f141 a142 g143) := hD
                  have hI : mI f141 a142 := hw138.1
                  have hE : mE (XR [(0, 23)]) f a f141 a142 := mE_tr hE hw138.2.1
                  have eE144 : mE (XR [(0, 23)]) F63 B64 f141 a142 := hw138.2.1
                  have eZ145 : mZ [22, 23, 24, 25] [2, 26, 34] F63 B64 f141 a142 := hw138.2.2
                  have hZ : mZ [0, 22, 23, 24, 25, 45, 46, 47] [1, 2, 5, 26, 29, 30, 34, 44] f a f141 a142 := mZ_tr hZ (mZ_w (by decide) (by decide) eZ145)
                  have hk0 : ∀ i, i < 23 → a142 5 i = a 2 i := (fun i hi => (congrFun (eZ145.2 5 rfl) i).trans (hk0 i hi))
                  refine lv_aload_n hx hb dX12_nights_91 rfl (lv_at hl 3 rfl) ?_
                  refine lv_bipush (v := 10) hx hb dX12_nights_92 (by decide) ?_
                  refine kI.callV (As := [.int 10]) (rest := []) ⟨hx, hb, hml, hown, hg⟩ (m_draws l o r f141 a142 g143 hI 10 kc_10 ) (cwV 1 hg (kgV wt8_71 wt8_73 wp8_3 wt1_14 wt8_74) rfl rfl rfl (by decide +kernel) ⟨by decide, by decide⟩) hK hP hD hS hA mIs [] rfl (wr := []) rfl rfl rfl (fun i h => by cases h) 0 12 rfl rfl rfl hl.1 rfl (Nat.le_of_ble_eq_true rfl) dX12_nights_94 ⟨Nat.le_refl _, Nat.le_refl _⟩ (fun v147 u148 H locs hw146 hP hD hS => ?_)
                  obtain ⟨f149, a150, g151⟩ := u148
                  have hP : va_P D vwCl (mW K o r f149 a150 g151) H := hP
                  have hD : va_D A (mW K o r f149 a150 g151) := hD
                  have hI : mI f149 a150 := hw146.2.1
                  have hE : mE (XR [(0, 23)]) f a f149 a150 := mE_tr hE (mE_w (XR_w (by decide)) hw146.2.2.1)
                  have eE152 : mE (XR []) f141 a142 f149 a150 := hw146.2.2.1
                  have eZ153 : mZ [47] [] f141 a142 f149 a150 := hw146.2.2.2
                  have hZ : mZ [0, 22, 23, 24, 25, 45, 46, 47] [1, 2, 5, 26, 29, 30, 34, 44] f a f149 a150 := mZ_tr hZ (mZ_w (by decide) (by decide) eZ153)
                  have hk0 : ∀ i, i < 23 → a150 5 i = a 2 i := (fun i hi => (congrFun (eZ153.2 5 rfl) i).trans (hk0 i hi))
                  refine lv_aload_n hx hb dX12_nights_97 rfl (lv_at hl 3 rfl) ?_
                  refine va_get (D := D) (ci := 12) (v := .ref (r 2)) (C := RX12) (T := TX12) (N := 48) hx hb hg inC12 hown hK hP 0 rfl rfl 2 (by decide) (hg _ wt5_162) (fun _ h9 => h9) rfl dX12_nights_98 ?_
                  refine lv_bipush (v := 100) hx hb dX12_nights_101 (by decide) ?_
                  refine va_iald hx hb hK hP 2 0 rfl rfl (kb_in kc_100 (by decide) (by decide)) dX12_nights_103 ?_
                  refine lv_topi (fun t154 et154 => ?_)
                  rw [cl_100] at et154
                  refine lv_icmp_ge (tgt := 121) hx hb dX12_nights_104 (by decide) (fun c155 => ?_) (fun c155 => ?_)
                  · have h156 := (kc_le c155)
                    refine lv_aload_n hx hb dX12_nights_121 rfl (lv_at hl 3 rfl) ?_
                    refine lv_aload_n hx hb dX12_nights_122 rfl (lv_at hl 3 rfl) ?_
                    refine kI.callV (As := []) (rest := [.ref o]) ⟨hx, hb, hml, hown, hg⟩ (m_allBuilders l o r f149 a150 g151 hI   ) (cwV 0 hg (kgV wt7_164 wt7_166 wp6_14 wt1_14 wt7_167) rfl rfl rfl (by decide +kernel) ⟨by decide, by decide⟩) hK hP hD hS hA mIs [] rfl (wr := []) rfl rfl rfl (fun i h => by cases h) 0 12 rfl rfl rfl hl.1 rfl (Nat.le_of_ble_eq_true rfl) dX12_nights_123 ⟨Nat.le_refl _, Nat.le_refl _⟩ (fun v158 u159 H locs hw157 hP hD hS => ?_)
                    have hP : va_P D vwCl (mW K o r f149 a150 g151) H := hP
                    have hD : va_D A (mW K o r f149 a150 g151) := hD
                    refine kI.callV (As := [.int v158]) (rest := []) ⟨hx, hb, hml, hown, hg⟩ (m_ticks l o r f149 a150 g151 hI v158  ) (cwV 1 hg (kgV wt7_168 wt7_170 wp6_15 wt1_14 wt7_171) rfl rfl rfl (by decide +kernel) ⟨by decide, by decide⟩) hK hP hD hS hA mIs [] rfl (wr := []) rfl rfl rfl (fun i h => by cases h) 0 12 rfl rfl rfl hl.1 rfl (Nat.le_of_ble_eq_true rfl) dX12_nights_126 ⟨Nat.le_refl _, Nat.le_refl _⟩ (fun v161 u162 H locs hw160 hP hD hS => ?_)
                    obtain ⟨f163, a164, g165⟩ := u162
                    have hP : va_P D vwCl (mW K o r f163 a164 g165) H := hP
                    have hD : va_D A (mW K o r f163 a164 g165) := hD
                    have hI : mI f163 a164 := hw160.2.1
                    have hE : mE (XR [(0, 23)]) f a f163 a164 := mE_tr hE hw160.2.2.1
                    have eE166 : mE (XR [(0, 23)]) f149 a150 f163 a164 := hw160.2.2.1
                    have eZ167 : mZ [22, 23, 24, 25] [2, 26, 29, 30] f149 a150 f163 a164 := hw160.2.2.2
                    have hZ : mZ [0, 22, 23, 24, 25, 45, 46, 47] [1, 2, 5, 26, 29, 30, 34, 44] f a f163 a164 := mZ_tr hZ (mZ_w (by decide) (by decide) eZ167)
                    have hk0 : ∀ i, i < 23 → a164 5 i = a 2 i := (fun i hi => (congrFun (eZ167.2 5 rfl) i).trans (hk0 i hi))
                    refine lv_pop hx hb dX12_nights_129 rfl ?_
                    obtain ⟨t168, et168⟩ : ∃ z : Int32, z = y62 + Int32.ofInt 1 := ⟨_, rfl⟩
                    have qt168 : t168.toInt = y62.toInt + 1 := by rw [et168]; exact km_inc b133 (by decide) (by decide)
                    have b169 : kb 1 t168 99 := kb_inc (k := 1) qt168 b133
                    refine lv_iinc (v := t168) (lv' := [(5, .int t168), (4, .int y33), (3, .int y34), (0, .ref o), (1, .int x), (2, .int y)]) hx hb dX12_nights_130 hl (k := 0) rfl et168.symm (by decide) rfl (fun ls hl => ?_)
                    refine lv_goto (tgt := 71) hx hb dX12_nights_133 (by decide) ?_
                    exact ihlp66  f163 a164 g165 _ _ _ t168 (km_up hmlp66 qt168) hI hE hZ hk0 (kb_w b169 (by decide) (by decide)) (((((eZ167.2 1 rfl).trans ((eZ153.2 1 rfl).trans (eZ145.2 1 rfl)))).trans hvlp66_0)) hP hD hS (lv_sub hl [0, 1, 2, 3, 4, 5] rfl)
                  · have h170 := (kc_nle c155)
                    have b171 : kb (-2147483648) v147 2147483646 := kr_lt1 h170 (kb_any v147) (kb_any t154) (by decide)
                    have b172 : kb (-2147483647) t154 2147483647 := kr_lt2 h170 (kb_any v147) (kb_any t154) (by decide)
                    refine lv_aload_n hx hb dX12_nights_107 rfl (lv_at hl 3 rfl) ?_
                    refine va_get (D := D) (ci := 12) (v := .ref (r 2)) (C := RX12) (T := TX12) (N := 48) hx hb hg inC12 hown hK hP 0 rfl rfl 2 (by decide) (hg _ wt5_162) (fun _ h9 => h9) rfl dX12_nights_108 ?_
                    refine lv_bipush (v := 22) hx hb dX12_nights_111 (by decide) ?_
                    refine lv_dup2_11 hx hb dX12_nights_113 rfl rfl ?_
                    refine va_iald hx hb hK hP 2 0 rfl rfl (kb_in kc_22 (by decide) (by decide)) dX12_nights_114 ?_
                    refine lv_topi (fun t173 et173 => ?_)
                    rw [cl_22] at et173
                    refine lv_iconst (v := 1) hx hb dX12_nights_115 (by decide) ?_
                    refine lv_iadd hx hb dX12_nights_116 ?_
                    refine lv_topi (fun t174 et174 => ?_)
                    refine va_iast hx hb hK hP hD hS 2 0 rfl rfl (kb_in kc_22 (by decide) (by decide)) dX12_nights_117 (fun H locs hP hD hS => ?_)
                    rw [cl_22] at hP hD
                    have hP : va_P D vwCl (mW K o r f149 (va_up a150 2 (upd (a150 2) 22 t174)) g151) H := hP
                    have hD : va_D A (mW K o r f149 (va_up a150 2 (upd (a150 2) 22 t174)) g151) := hD
                    refine k_gen (P := fun z => va_P D vwCl (mW K o r f149 z g151) H ∧ va_D A (mW K o r f149 z g151) ∧ (mI f149 z) ∧ (mE (XR [(0, 23)]) f a f149 z) ∧ (mZ [0, 22, 23, 24, 25, 45, 46, 47] [1, 2, 5, 26, 29, 30, 34, 44] f a f149 z) ∧ (∀ i, i < 23 → z 5 i = a 2 i)) (va_up a150 2 (upd (a150 2) 22 t174)) ⟨hP, hD, (mI_2 hI (aI_st hI.2.1 2 22 (kb_any t174) (by decide) (by decide)) (by decide)), (mE_2 hE (by decide)), (mZ_a hZ rfl), hk0⟩ (fun a_175 ea_175 hq => ?_)
                    obtain ⟨hP, hD, hI, hE, hZ, hk0⟩ := hq
                    refine lv_goto (tgt := 130) hx hb dX12_nights_118 (by decide) ?_
                    obtain ⟨t176, et176⟩ : ∃ z : Int32, z = y62 + Int32.ofInt 1 := ⟨_, rfl⟩
                    have qt176 : t176.toInt = y62.toInt + 1 := by rw [et176]; exact km_inc b133 (by decide) (by decide)
                    have b177 : kb 1 t176 99 := kb_inc (k := 1) qt176 b133
                    refine lv_iinc (v := t176) (lv' := [(5, .int t176), (4, .int y33), (3, .int y34), (0, .ref o), (1, .int x), (2, .int y)]) hx hb dX12_nights_130 hl (k := 0) rfl et176.symm (by decide) rfl (fun ls hl => ?_)
                    refine lv_goto (tgt := 71) hx hb dX12_nights_133 (by decide) ?_
                    exact ihlp66  f149 a_175 g151 _ _ _ t176 (km_up hmlp66 qt176) hI hE hZ hk0 (kb_w b177 (by decide) (by decide)) (((((show a_175 1 = a150 1 from by rw [← ea_175]; rfl).trans ((eZ153.2 1 rfl).trans (eZ145.2 1 rfl)))).trans hvlp66_0)) hP hD hS (lv_sub hl [0, 1, 2, 3, 4, 5] rfl)
            exact lp66 (100)  f57 a58 g59 _ _ _ 0 (by have h1 := (kc_0); unfold kb at h1; omega) hI hE hZ hk0 (kb_w kc_0 (by decide) (by decide)) ((((eZ61.2 1 rfl)).trans hvlp38_0)) hP hD hS (lv_sub hl [0, 1, 2, 3, 4, 5] rfl)
      exact lp38 (21)  f_32 a g _ _ _ 0 0 (by have h1 := (kc_0); unfold kb at h1; omega) hI hE hZ hk0 (kb_w kc_0 (by decide) (by decide)) ((rfl)) hP hD hS (lv_sub hl [0, 1, 2, 3, 4] rfl)
    · have b178 : kb 0 v19 0 := kb_eq c21 kc_0
      refine lv_aload_n hx hb dX12_nights_20 rfl (lv_at hl 0 rfl) ?_
      refine lv_iconst (v := (-1)) hx hb dX12_nights_21 (by decide) ?_
      refine kI.callV (As := [.int (-1)]) (rest := []) ⟨hx, hb, hml, hown, hg⟩ (n_refuses l o r f a g hI (-1) (kb_w kc_m1 (by decide) (by decide)) ) (cwV 1 hg (kgV wt6_72 wt6_74 wp3_5 wt1_14 wt6_75) rfl rfl rfl (by decide +kernel) ⟨by decide, by decide⟩) hK hP hD hS hA mIs [] rfl (wr := []) rfl rfl rfl (fun i h => by cases h) 0 12 rfl rfl rfl hl.1 rfl (Nat.le_of_ble_eq_true rfl) dX12_nights_22 ⟨Nat.le_refl _, Nat.le_refl _⟩ (fun v180 u181 H locs hw179 hP hD hS => ?_)
      obtain ⟨f182, a183, g184⟩ := u181
      have hP : va_P D vwCl (mW K o r f182 a183 g184) H := hP
      have hD : va_D A (mW K o r f182 a183 g184) := hD
      have hI : mI f182 a183 := hw179.2.1
      have hE : mE (XR [(0, 23)]) f a f182 a183 := mE_tr hE (mE_w (XR_w (by decide)) hw179.2.2.1)
      have eE185 : mE (XR []) f a f182 a183 := hw179.2.2.1
      have eZ186 : mZ [0] [1] f a f182 a183 := hw179.2.2.2.2.2.2
      have hZ : mZ [0, 22, 23, 24, 25, 45, 46, 47] [1, 2, 5, 26, 29, 30, 34, 44] f a f182 a183 := mZ_tr hZ (mZ_w (by decide) (by decide) eZ186)
      refine k_top (z := (-1)) hw179.2.2.2.1 ?_
      exact kI_ret (v := (-1)) hx hb hr hlocks rfl hK hS dX12_nights_25 (f182, a183, g184) hP hD ⟨(kb_w kc_m1 (by decide) (by decide)), hI, ⟨hE.1, hE.2.1, fun i _ => (hw179.2.2.1).2.2.1 i rfl, hE.2.2.2.1, hE.2.2.2.2⟩, (Or.inl ⟨(fun q => mLies_z (hw18.2.symm.trans c21) (by decide +kernel) (by decide +kernel) q.2), rfl, hw179.2.2.2.2.1, hw179.2.2.2.2.2.1.trans (by rw [show a 1 = a 1 from rfl])⟩), hZ⟩
