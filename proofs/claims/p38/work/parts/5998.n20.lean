set_option maxHeartbeats 4000000 in
set_option maxRecDepth 100000 in
theorem n_row  (l : Launch) {D : va_G} {K : Nat → ClassId} (o : Nat) (r : Nat → Nat) (f : Nat → Int32) (a : Nat → Nat → Int32) (g : Nat → Int64) (hI : mI f a)   (P : pS) (hp0 : mPs (f 33) (a 31) P) : kI l yX12_row (Cond.code yX12_row cX12_row 6 (some .int) :: kG) (rmD 3 0 0) D (tysK K) [.ref o] (mW K o r f a g) (fun v (u : mS) => kb (-2147483648) v 2147483647 ∧ mI u.1 u.2.1 ∧ mF (XR [(0, 63), (102, 103)]) f a u.1 u.2.1 ∧ u.1 13 = 0 ∧ rowP (rOKm (a 11)) (f 13) v (a 2 102) (u.2.1 2 102) (f 6) (u.1 6) ∧ u.2.1 11 = a 11 ∧ u.1 14 = f 14 ∧ ((v = -6 ∧ u.1 0 = -6 ∧ u.2.1 1 = rfS (-6) (a 1) ∧ u.2.1 2 = a 2 ∧ mPs (u.1 33) (u.2.1 31) P) ∨ (¬ f 13 = 0 ∧ u.1 0 = 0 ∧ u.2.1 1 = a 1 ∧ rwP (a 11) (a 2) ((f 13).toInt.toNat / 4) (u.2.1 2) ∧ mPs (u.1 33) (u.2.1 31) (noP P))) ∧ mZ [0, 6, 13, 33] [1, 2] f a u.1 u.2.1) (fun u => mW K o r u.1 u.2.1 u.2.2) 0 0 := by
  refine kI.of (cc := cX12_row) (maxL := 6) (ret := (some .int)) (by decide) rfl (Nat.le_of_ble_eq_true rfl) ?_
  intro p e s m below meth c A hx hb hr hml hown hts hlocks hnm hK hP hD hS hA ls hl
  have hE : mF (XR [(0, 63), (102, 103)]) f a f a := mF_rf
  have hZ : mZ [0, 6, 13, 33] [1, 2] f a f a := mZ_rf
  have hg : ∀ w ∈ kG, w.before _ s = true := fun w h => hts w (List.mem_cons_of_mem _ h)
  have hown : s.vm.findClass RX12 = some m.cls := hown
  have hl : lv_has ls 6 [(0, .ref o)] := hl
  obtain ⟨c13_f, ec13_f⟩ : ∃ z : Int32, z = f 13 := ⟨_, rfl⟩
  have b1 : kb 0 c13_f 400 := kb_eq ec13_f (fI_at hI.1 13 (by decide) (by decide))
  obtain ⟨c2_102, ec2_102⟩ : ∃ z : Int32, z = a 2 102 := ⟨_, rfl⟩
  have b2 : kb 0 c2_102 10 := kb_eq ec2_102 (aI_at hI.2.1 2 102 (by decide) (by decide))
  obtain ⟨c6_f, ec6_f⟩ : ∃ z : Int32, z = f 6 := ⟨_, rfl⟩
  obtain ⟨c14_f, ec14_f⟩ : ∃ z : Int32, z = f 14 := ⟨_, rfl⟩
  obtain ⟨T, hT⟩ : ∃ z : Nat, z = (f 13).toInt.toNat := ⟨_, rfl⟩
  obtain ⟨N0, hN0⟩ : ∃ z : Nat, z = (a 2 102).toInt.toNat := ⟨_, rfl⟩
  have hTi : (T : Int) = c13_f.toInt := by have w1 := (b1).1; rw [hT, ← ec13_f]; omega
  have hNi : (N0 : Int) = c2_102.toInt := by have w1 := (b2).1; rw [hN0, ← ec2_102]; omega
  refine lv_aload_n hx hb dX12_row_0 rfl (lv_at hl 0 rfl) ?_
  refine va_get (D := D) (ci := 12) (v := .int (f 13)) (C := RX12) (T := TX12) (N := 48) hx hb hg inC12 hown hK hP 0 rfl rfl 13 (by decide) (hg _ wt5_173) (fun _ h9 => h9) rfl dX12_row_1 ?_
  refine k_top (z := c13_f) ec13_f.symm ?_
  refine lv_istore_n (lv' := [(1, .int c13_f), (0, .ref o)]) hx hb dX12_row_4 rfl hl (by decide) rfl (fun ls hl => ?_)
  refine lv_aload_n hx hb dX12_row_5 rfl (lv_at hl 1 rfl) ?_
  refine lv_iconst (v := 0) hx hb dX12_row_6 (by decide) ?_
  refine va_put (D := D) (ci := 12) (v := .int 0) (ty := .int) (C := RX12) (T := TX12) (N := 48) hx hb hg inC12 tyX12 tyX12_ok nmX12 hown hK hP hD hS 0 rfl rfl 13 (by decide) (hg _ wt5_173) (fun _ h9 => h9) rfl (by decide +kernel) rfl rfl (Nat.le_of_ble_eq_true rfl) dX12_row_7 (fun H locs hP hD hS => ?_)
  have hP : va_P D vwCl (mW K o r (upd f 13 0) a g) H := hP
  have hD : va_D A (mW K o r (upd f 13 0) a g) := hD
  refine k_gen (P := fun z => va_P D vwCl (mW K o r z a g) H ∧ va_D A (mW K o r z a g) ∧ (mI z a) ∧ (mF (XR [(0, 63), (102, 103)]) f a z a) ∧ (mZ [0, 6, 13, 33] [1, 2] f a z a)) (upd f 13 0) ⟨hP, hD, (mI_f hI (fI_st hI.1 13 kc_0 (by decide) (by decide))), (mF_f hE), (mZ_f hZ rfl)⟩ (fun f_3 ef_3 hq => ?_)
  obtain ⟨hP, hD, hI, hE, hZ⟩ := hq
  have hk0 : f_3 13 = 0 := (show f_3 13 = 0 from by rw [← ef_3]; rfl)
  have hk1 : f_3 14 = f 14 := (((show f_3 14 = f 14 from by rw [← ef_3]; rfl).trans ec14_f.symm)).trans ec14_f
  refine lv_iload_n hx hb dX12_row_10 rfl (lv_at hl 0 rfl) ?_
  refine lv_if_ne (tgt := 21) hx hb dX12_row_11 (by decide) (fun c4 => ?_) (fun c4 => ?_)
  · have b5 : kb 1 c13_f 400 := kr_nel c4 b1 kc_0 (by decide)
    refine lv_iconst (v := 0) hx hb dX12_row_21 (by decide) ?_
    refine lv_istore_n (lv' := [(2, .int 0), (1, .int c13_f), (0, .ref o)]) hx hb dX12_row_22 rfl hl (by decide) rfl (fun ls hl => ?_)
    refine lv_aload_n hx hb dX12_row_23 rfl (lv_at hl 2 rfl) ?_
    refine lv_iload_n hx hb dX12_row_24 rfl (lv_at hl 1 rfl) ?_
    refine lv_iconst (v := 4) hx hb dX12_row_25 (by decide) ?_
    refine lv_irem hx hb dX12_row_26 (by decide +kernel) ?_
    refine lv_topi (fun t6 et6 => ?_)
    have b7 : kb 0 t6 3 := kb_eq et6 (kb_rem (d := 4) b5 (by decide) rfl (by decide) (by decide))
    have hrm : t6.toInt = (T : Int) % 4 := by rw [et6, hTi]; exact kt_rem (d := 4) b5 (by decide) rfl (by decide) (by decide)
    refine lv_if_ne (tgt := 34) hx hb dX12_row_27 (by decide) (fun c8 => ?_) (fun c8 => ?_)
    · have b9 : kb 1 t6 3 := kr_nel c8 b7 kc_0 (by decide)
      refine lv_iconst (v := 1) hx hb dX12_row_34 (by decide) ?_
      refine va_put (D := D) (ci := 12) (v := .int 1) (ty := .int) (C := RX12) (T := TX12) (N := 48) hx hb hg inC12 tyX12 tyX12_ok nmX12 hown hK hP hD hS 0 rfl rfl 6 (by decide) (hg _ wt5_166) (fun _ h9 => h9) rfl (by decide +kernel) rfl rfl (Nat.le_of_ble_eq_true rfl) dX12_row_35 (fun H locs hP hD hS => ?_)
      have hP : va_P D vwCl (mW K o r (upd f_3 6 1) a g) H := hP
      have hD : va_D A (mW K o r (upd f_3 6 1) a g) := hD
      refine k_gen (P := fun z => va_P D vwCl (mW K o r z a g) H ∧ va_D A (mW K o r z a g) ∧ (mI z a) ∧ (mF (XR [(0, 63), (102, 103)]) f a z a) ∧ (mZ [0, 6, 13, 33] [1, 2] f a z a) ∧ (z 13 = 0) ∧ (z 14 = f 14)) (upd f_3 6 1) ⟨hP, hD, (mI_f hI (fI_st hI.1 6 (kb_any _) (by decide) (by decide))), (mF_f hE), (mZ_f hZ rfl), ((pk_un (by decide)).trans hk0), ((pk_un (by decide)).trans hk1)⟩ (fun f_10 ef_10 hq => ?_)
      obtain ⟨hP, hD, hI, hE, hZ, hk0, hk1⟩ := hq
      refine lv_iconst (v := 0) hx hb dX12_row_38 (by decide) ?_
      refine lv_istore_n (lv' := [(3, .int 0), (2, .int 0), (1, .int c13_f), (0, .ref o)]) hx hb dX12_row_39 rfl hl (by decide) rfl (fun ls hl => ?_)
      have lp16 : ∀ (n17 : Nat) (k : Nat) (mm : Nat) (F13 : Nat → Int32) (B14 : Nat → Nat → Int32) (G15 : Nat → Int64) (H : Heap) (locs : List Loc) (ls : Array Slot) (y11 : Int32) (y12 : Int32), ((100 : Int) < (k : Int) + (n17 : Int)) → (mI F13 B14) → (mF (XR [(0, 63), (102, 103)]) f a F13 B14) → (mZ [0, 6, 13, 33] [1, 2] f a F13 B14) → (F13 13 = 0) → (F13 14 = f 14) → (kb 0 y11 400) → (rSt (rOKm (a 11)) N0 k mm) → ((B14 2 102).toInt = (mm : Int)) → ((F13 6).toInt + (mm : Int) - (N0 : Int) = (((T + 3) / 4 : Nat) : Int) - ((T / 4 : Nat) : Int) + (k : Int)) → (y12.toInt = (mm : Int) - (N0 : Int)) → (y11.toInt = 4 * (k : Int)) → (k ≤ 100 ∧ N0 ≤ mm ∧ mm ≤ 10 ∧ 4 * k ≤ T) → (B14 11 = a 11) → (rwP (a 11) (a 2) k (B14 2)) → (B14 1 = a 1) → va_P D vwCl (mW K o r F13 B14 G15) H → va_D A (mW K o r F13 B14 G15) → va_S A s.heap H locs → lv_has ls 6 [(3, .int y11), (2, .int y12), (1, .int c13_f), (0, .ref o)] → W p l e (rmD 3 0 0) s m ([.ref o] : List Value).toArray below meth c H locs 0 0 (kQi D (tysK K) (fun v (u : mS) => kb (-2147483648) v 2147483647 ∧ mI u.1 u.2.1 ∧ mF (XR [(0, 63), (102, 103)]) f a u.1 u.2.1 ∧ u.1 13 = 0 ∧ rowP (rOKm (a 11)) (f 13) v (a 2 102) (u.2.1 2 102) (f 6) (u.1 6) ∧ u.2.1 11 = a 11 ∧ u.1 14 = f 14 ∧ ((v = -6 ∧ u.1 0 = -6 ∧ u.2.1 1 = rfS (-6) (a 1) ∧ u.2.1 2 = a 2 ∧ mPs (u.1 33) (u.2.1 31) P) ∨ (¬ f 13 = 0 ∧ u.1 0 = 0 ∧ u.2.1 1 = a 1 ∧ rwP (a 11) (a 2) ((f 13).toInt.toNat / 4) (u.2.1 2) ∧ mPs (u.1 33) (u.2.1 31) (noP P))) ∧ mZ [0, 6, 13, 33] [1, 2] f a u.1 u.2.1) (fun u => mW K o r u.1 u.2.1 u.2.2) A below ([.ref o] : List Value).toArray s 0 0) (F0 m 40 ls []) := by
        intro n17
        induction n17 with
        | zero =>
          intro k mm F13 B14 G15  H locs ls y11 y12 hmlp16 hI hE hZ hk0 hk1 b18 hvlp16_0 hvlp16_1 hvlp16_2 hvlp16_3 hvlp16_4 hvlp16_5 hvlp16_6 hvlp16_7 hvlp16_8 hP hD hS hl
          exact (by have w1 := hmlp16; have w2 := hvlp16_5; omega : False).elim
        | succ n17 ihlp16 =>
          intro k mm F13 B14 G15  H locs ls y11 y12 hmlp16 hI hE hZ hk0 hk1 b18 hvlp16_0 hvlp16_1 hvlp16_2 hvlp16_3 hvlp16_4 hvlp16_5 hvlp16_6 hvlp16_7 hvlp16_8 hP hD hS hl
          refine lv_iload_n hx hb dX12_row_40 rfl (lv_at hl 0 rfl) ?_
          obtain ⟨c6, ec6⟩ : ∃ z : Int32, z = F13 6 := ⟨_, rfl⟩
          have hc6 : c6.toInt + (mm : Int) - (N0 : Int) = (((T + 3) / 4 : Nat) : Int) - ((T / 4 : Nat) : Int) + (k : Int) := by rw [ec6]; exact hvlp16_2
          have hT4 : T ≤ 400 := by have w1 := (b5).2; omega
          have b19 : kb (-20) c6 300 := ⟨by have w1 := hc6; have w2 := hvlp16_5; omega, by have w1 := hc6; have w2 := hvlp16_5; omega⟩
          obtain ⟨cB, ecB⟩ : ∃ z : Int32, z = B14 2 102 := ⟨_, rfl⟩
          have hcB : cB.toInt = (mm : Int) := by rw [ecB]; exact hvlp16_1
          have b20 : kb 0 cB 10 := ⟨by omega, by have w2 := hvlp16_5; omega⟩
          have b21 : kb 0 y12 10 := ⟨by have w1 := hvlp16_3; have w2 := hvlp16_5; omega, by have w1 := hvlp16_3; have w2 := hvlp16_5; omega⟩
          refine lv_iconst (v := 4) hx hb dX12_row_41 (by decide) ?_
          refine lv_iadd hx hb dX12_row_42 ?_
          refine lv_topi (fun t22 et22 => ?_)
          have b23 : kb 4 t22 404 := kb_eq et22 (kb_add b18 kc_4 (by decide) (by decide))
          have qt22 : t22.toInt = y11.toInt + 4 := by rw [et22]; exact kt_addc b18 kc_4 (by decide) (by decide)
          refine lv_iload_n hx hb dX12_row_43 rfl (lv_at hl 2 rfl) ?_
          refine lv_icmp_gt (tgt := 182) hx hb dX12_row_44 (by decide) (fun c24 => ?_) (fun c24 => ?_)
          · have h25 := (kc_lt c24)
            have hrex := kc_lt c24
            refine lv_aload_n hx hb dX12_row_182 rfl (lv_at hl 3 rfl) ?_
            refine lv_iload_n hx hb dX12_row_183 rfl (lv_at hl 1 rfl) ?_
            refine kI.callV (As := [.int y12]) (rest := []) ⟨hx, hb, hml, hown, hg⟩ (n_settled l o r F13 B14 G15 hI y12  ) (cwV 1 hg (kgV wt6_84 wt6_86 wp3_7 wt1_14 wt6_87) rfl rfl rfl (by decide +kernel) ⟨by decide, by decide⟩) hK hP hD hS hA mIs [] rfl (wr := []) rfl rfl rfl (fun i h => by cases h) 0 12 rfl rfl rfl hl.1 rfl (Nat.le_of_ble_eq_true rfl) dX12_row_184 ⟨Nat.le_refl _, Nat.le_refl _⟩ (fun v27 u28 H locs hw26 hP hD hS => ?_)
            obtain ⟨f29, a30, g31⟩ := u28
            have hP : va_P D vwCl (mW K o r f29 a30 g31) H := hP
            have hD : va_D A (mW K o r f29 a30 g31) := hD
            have hI : mI f29 a30 := hw26.2.1
            have hE : mF (XR [(0, 63), (102, 103)]) f a f29 a30 := mF_tr hE (mF_w (XR_w (by decide)) (mF_of hw26.2.2.1))
            have eE32 : mE (XR []) F13 B14 f29 a30 := hw26.2.2.1
            have eZ33 : mZ [0, 33] [] F13 B14 f29 a30 := hw26.2.2.2.2.2.2
            have hZ : mZ [0, 6, 13, 33] [1, 2] f a f29 a30 := mZ_tr hZ (mZ_w (by decide) (by decide) eZ33)
            have hk0 : f29 13 = 0 := (eE32.1 13 rfl).trans hk0
            have hk1 : f29 14 = f 14 := (eE32.1 14 rfl).trans hk1
            refine k_top (z := y12) hw26.2.2.2.1 ?_
            exact kI_ret (v := y12) hx hb hr hlocks rfl hK hS dX12_row_187 (f29, a30, g31) hP hD ⟨(kb_w b21 (by decide) (by decide)), hI, hE, hk0, (Or.inr ⟨(fun q => c4 (ec13_f.trans q)), mm, (by rw [← hN0, ← hT, show T / 4 = k from (by have w1 := hrex; have w2 := hvlp16_4; have w3 := hvlp16_5; omega)]; exact hvlp16_0), (by rw [← ec2_102, ← hNi]; exact hvlp16_3), (by show (a30 2 102).toInt = (mm : Int); have e1 := congrArg Int32.toInt (((congrFun (eZ33.2 2 rfl) 102).trans ecB.symm)); omega), (by show (f29 6).toInt + (mm : Int) - (a 2 102).toInt = _; rw [← hT, ← ec2_102]; have e1 := congrArg Int32.toInt (((eZ33.1 6 rfl).trans ec6.symm)); have w1 := hc6; have w2 := hrex; have w3 := hvlp16_4; have w4 := hvlp16_5; omega)⟩), (eE32.2.1.trans hvlp16_6), hk1, (Or.inr ⟨(fun q => c4 (ec13_f.trans q)), hw26.2.2.2.2.1, (((eZ33.2 1 rfl)).trans hvlp16_8), (by show rwP (a 11) (a 2) ((f 13).toInt.toNat / 4) (a30 2); rw [← hT, show T / 4 = k from (by have w1 := hrex; have w2 := hvlp16_4; have w3 := hvlp16_5; omega), show a30 2 = B14 2 from (eZ33.2 2 rfl)]; exact hvlp16_7), mP_no hw26.2.2.2.2.2.1⟩), hZ⟩
          · have h34 := (kc_nlt c24)
            have b35 : kb 4 t22 400 := kr_le1 h34 b23 b5
            have b36 : kb 4 c13_f 400 := kr_le2 h34 b23 b5
            have b37 : kb 0 y11 396 := ⟨b18.1, by have h1 := b35.2; omega⟩
            have hrle := kc_nlt c24
            refine lv_aload_n hx hb dX12_row_47 rfl (lv_at hl 3 rfl) ?_
            refine va_get (D := D) (ci := 12) (v := .ref (r 11)) (C := RX12) (T := TX12) (N := 48) hx hb hg inC12 hown hK hP 0 rfl rfl 11 (by decide) (hg _ wt5_171) (fun _ h9 => h9) rfl dX12_row_48 ?_
            refine lv_iload_n hx hb dX12_row_51 rfl (lv_at hl 0 rfl) ?_
            refine lv_iconst (v := 1) hx hb dX12_row_52 (by decide) ?_
            refine lv_iadd hx hb dX12_row_53 ?_
            refine lv_topi (fun t38 et38 => ?_)
            have b39 : kb 1 t38 397 := kb_eq et38 (kb_add b37 kc_1 (by decide) (by decide))
            have qt38 : t38.toInt = y11.toInt + 1 := by rw [et38]; exact kt_addc b37 kc_1 (by decide) (by decide)
            refine va_bald hx hb hK hP 7 1 rfl rfl (kb_in b39 (by decide) (by decide)) dX12_row_54 ?_
            refine lv_topi (fun t40 et40 => ?_)
            refine lv_sipush (v := 255) hx hb dX12_row_55 (by decide) ?_
            refine lv_iand hx hb dX12_row_58 ?_
            refine lv_topi (fun t41 et41 => ?_)
            have b42 : kb 0 t41 255 := kb_eq et41 (kb_and 8 (by decide) (by decide))
            refine lv_istore (lv' := [(4, .int t41), (3, .int y11), (2, .int y12), (1, .int c13_f), (0, .ref o)]) hx hb dX12_row_59 hl (by decide) rfl (fun ls hl => ?_)
            refine lv_aload_n hx hb dX12_row_61 rfl (lv_at hl 4 rfl) ?_
            refine va_get (D := D) (ci := 12) (v := .ref (r 2)) (C := RX12) (T := TX12) (N := 48) hx hb hg inC12 hown hK hP 0 rfl rfl 2 (by decide) (hg _ wt5_162) (fun _ h9 => h9) rfl dX12_row_62 ?_
            refine lv_bipush (v := 102) hx hb dX12_row_65 (by decide) ?_
            refine va_iald hx hb hK hP 2 0 rfl rfl (kb_in kc_102 (by decide) (by decide)) dX12_row_67 ?_
            refine k_top (z := cB) (by rw [cl_102]; exact ecB.symm) ?_
            refine lv_bipush (v := 10) hx hb dX12_row_68 (by decide) ?_
            refine lv_icmp_ge (tgt := 108) hx hb dX12_row_70 (by decide) (fun c43 => ?_) (fun c43 => ?_)
            · have h44 := (kc_le c43)
              have b45 : kb 10 cB 10 := kr_le2 h44 kc_10 b20
              refine lv_iconst (v := 0) hx hb dX12_row_108 (by decide) ?_
              refine lv_istore (lv' := [(5, .int 0), (4, .int t41), (3, .int y11), (2, .int y12), (1, .int c13_f), (0, .ref o)]) hx hb dX12_row_109 hl (by decide) rfl (fun ls hl => ?_)
              refine lv_iload hx hb dX12_row_111 (lv_at hl 0 rfl) ?_
              refine lv_if_eq (tgt := 144) hx hb dX12_row_113 (by decide) (fun c46 => ?_) (fun c46 => ?_)
              · refine lv_iload_n hx hb dX12_row_144 rfl (lv_at hl 3 rfl) ?_
                refine lv_iload hx hb dX12_row_145 (lv_at hl 0 rfl) ?_
                refine lv_if_eq (tgt := 154) hx hb dX12_row_147 (by decide) (fun c47 => ?_) (fun c47 => ?_)
                · refine lv_iconst (v := 0) hx hb dX12_row_154 (by decide) ?_
                  refine lv_iadd hx hb dX12_row_155 ?_
                  refine lv_topi (fun t48 et48 => ?_)
                  have b49 : kb 0 t48 10 := kb_eq et48 (kb_add b21 kc_0 (by decide) (by decide))
                  have qt48 : t48.toInt = y12.toInt + 0 := by rw [et48]; exact kt_addc b21 kc_0 (by decide) (by decide)
                  refine lv_istore_n (lv' := [(2, .int t48), (5, .int 0), (4, .int t41), (3, .int y11), (1, .int c13_f), (0, .ref o)]) hx hb dX12_row_156 rfl hl (by decide) rfl (fun ls hl => ?_)
                  refine lv_aload_n hx hb dX12_row_157 rfl (lv_at hl 5 rfl) ?_
                  refine lv_dup hx hb dX12_row_158 rfl ?_
                  refine va_get (D := D) (ci := 12) (v := .int (F13 6)) (C := RX12) (T := TX12) (N := 48) hx hb hg inC12 hown hK hP 0 rfl rfl 6 (by decide) (hg _ wt5_166) (fun _ h9 => h9) rfl dX12_row_159 ?_
                  refine k_top (z := c6) ec6.symm ?_
                  refine lv_iload hx hb dX12_row_162 (lv_at hl 1 rfl) ?_
                  refine lv_if_eq (tgt := 171) hx hb dX12_row_164 (by decide) (fun c50 => ?_) (fun c50 => ?_)
                  · refine lv_iconst (v := 1) hx hb dX12_row_171 (by decide) ?_
                    refine lv_iadd hx hb dX12_row_172 ?_
                    refine lv_topi (fun t51 et51 => ?_)
                    have b52 : kb (-19) t51 301 := kb_eq et51 (kb_add b19 kc_1 (by decide) (by decide))
                    have qt51 : t51.toInt = c6.toInt + 1 := by rw [et51]; exact kt_addc b19 kc_1 (by decide) (by decide)
                    refine va_put (D := D) (ci := 12) (v := .int t51) (ty := .int) (C := RX12) (T := TX12) (N := 48) hx hb hg inC12 tyX12 tyX12_ok nmX12 hown hK hP hD hS 0 rfl rfl 6 (by decide) (hg _ wt5_166) (fun _ h9 => h9) rfl (by decide +kernel) rfl rfl (Nat.le_of_ble_eq_true rfl) dX12_row_173 (fun H locs hP hD hS => ?_)
                    have hP : va_P D vwCl (mW K o r (upd F13 6 t51) B14 G15) H := hP
                    have hD : va_D A (mW K o r (upd F13 6 t51) B14 G15) := hD
                    refine k_gen (P := fun z => va_P D vwCl (mW K o r z B14 G15) H ∧ va_D A (mW K o r z B14 G15) ∧ (mI z B14) ∧ (mF (XR [(0, 63), (102, 103)]) f a z B14) ∧ (mZ [0, 6, 13, 33] [1, 2] f a z B14) ∧ (z 13 = 0) ∧ (z 14 = f 14)) (upd F13 6 t51) ⟨hP, hD, (mI_f hI (fI_st hI.1 6 (kb_any _) (by decide) (by decide))), (mF_f hE), (mZ_f hZ rfl), ((pk_un (by decide)).trans hk0), ((pk_un (by decide)).trans hk1)⟩ (fun f_53 ef_53 hq => ?_)
                    obtain ⟨hP, hD, hI, hE, hZ, hk0, hk1⟩ := hq
                    obtain ⟨t54, et54⟩ : ∃ z : Int32, z = y11 + Int32.ofInt 4 := ⟨_, rfl⟩
                    have b55 : kb 4 t54 400 := kb_eq et54 (kb_add b37 (kb_ofInt 4 (by decide)) (by decide) (by decide))
                    have qt54 : t54.toInt = y11.toInt + 4 := by rw [et54]; exact km_add b37 (by decide) (by decide) (by decide)
                    refine lv_iinc (v := t54) (lv' := [(3, .int t54), (2, .int t48), (5, .int 0), (4, .int t41), (1, .int c13_f), (0, .ref o)]) hx hb dX12_row_176 hl (k := 3) rfl et54.symm (by decide) rfl (fun ls hl => ?_)
                    refine lv_goto (tgt := 40) hx hb dX12_row_179 (by decide) ?_
                    exact ihlp16 (k + 1) mm f_53 B14 G15 _ _ _ t54 t48 (by omega) hI hE hZ hk0 hk1 (kb_w b55 (by decide) (by decide)) (⟨mm, hvlp16_0, Or.inr ⟨fun q => by have q1 := q.1; have w1 := (b45).1; omega, rfl⟩⟩) (hvlp16_1) ((by have e1 := congrArg Int32.toInt ((show f_53 6 = t51 from by rw [← ef_53]; rfl)); have w1 := hc6; omega)) (by omega) (by omega) (⟨by have w1 := hvlp16_4; have w2 := (b37).2; omega, by have w1 := hvlp16_5; omega, by have w1 := hvlp16_5; omega, by have w1 := hvlp16_4; have w3 := hrle; omega⟩) (hvlp16_6) (⟨B14 2, hvlp16_7, Or.inr ⟨fun q => by have q1 := q.1; have w1 := (b45).1; have w2 := hvlp16_1; omega, rfl⟩⟩) (((rfl).trans hvlp16_8)) hP hD hS (lv_sub hl [0, 1, 4, 5] rfl)
                  · exact kb_nsame c50 kc_0 kc_0
                · exact kb_nsame c47 kc_0 kc_0
              · exact kb_nsame c46 kc_0 kc_0
            · have h56 := (kc_nle c43)
              have b57 : kb 0 cB 9 := kr_lt1 h56 b20 kc_10 (by decide)
              refine lv_aload_n hx hb dX12_row_73 rfl (lv_at hl 4 rfl) ?_
              refine lv_aload_n hx hb dX12_row_74 rfl (lv_at hl 4 rfl) ?_
              refine va_get (D := D) (ci := 12) (v := .ref (r 11)) (C := RX12) (T := TX12) (N := 48) hx hb hg inC12 hown hK hP 0 rfl rfl 11 (by decide) (hg _ wt5_171) (fun _ h9 => h9) rfl dX12_row_75 ?_
              refine lv_iload_n hx hb dX12_row_78 rfl (lv_at hl 1 rfl) ?_
              refine va_bald hx hb hK hP 7 1 rfl rfl (kb_in b37 (by decide) (by decide)) dX12_row_79 ?_
              refine lv_topi (fun t58 et58 => ?_)
              refine lv_iload hx hb dX12_row_80 (lv_at hl 0 rfl) ?_
              refine lv_aload_n hx hb dX12_row_82 rfl (lv_at hl 4 rfl) ?_
              refine va_get (D := D) (ci := 12) (v := .ref (r 11)) (C := RX12) (T := TX12) (N := 48) hx hb hg inC12 hown hK hP 0 rfl rfl 11 (by decide) (hg _ wt5_171) (fun _ h9 => h9) rfl dX12_row_83 ?_
              refine lv_iload_n hx hb dX12_row_86 rfl (lv_at hl 1 rfl) ?_
              refine lv_iconst (v := 2) hx hb dX12_row_87 (by decide) ?_
              refine lv_iadd hx hb dX12_row_88 ?_
              refine lv_topi (fun t59 et59 => ?_)
              have b60 : kb 2 t59 398 := kb_eq et59 (kb_add b37 kc_2 (by decide) (by decide))
              have qt59 : t59.toInt = y11.toInt + 2 := by rw [et59]; exact kt_addc b37 kc_2 (by decide) (by decide)
              refine va_bald hx hb hK hP 7 1 rfl rfl (kb_in b60 (by decide) (by decide)) dX12_row_89 ?_
              refine lv_topi (fun t61 et61 => ?_)
              refine lv_aload_n hx hb dX12_row_90 rfl (lv_at hl 4 rfl) ?_
              refine va_get (D := D) (ci := 12) (v := .ref (r 11)) (C := RX12) (T := TX12) (N := 48) hx hb hg inC12 hown hK hP 0 rfl rfl 11 (by decide) (hg _ wt5_171) (fun _ h9 => h9) rfl dX12_row_91 ?_
              refine lv_iload_n hx hb dX12_row_94 rfl (lv_at hl 1 rfl) ?_
              refine lv_iconst (v := 3) hx hb dX12_row_95 (by decide) ?_
              refine lv_iadd hx hb dX12_row_96 ?_
              refine lv_topi (fun t62 et62 => ?_)
              have b63 : kb 3 t62 399 := kb_eq et62 (kb_add b37 kc_3 (by decide) (by decide))
              have qt62 : t62.toInt = y11.toInt + 3 := by rw [et62]; exact kt_addc b37 kc_3 (by decide) (by decide)
              refine va_bald hx hb hK hP 7 1 rfl rfl (kb_in b63 (by decide) (by decide)) dX12_row_97 ?_
              refine lv_topi (fun t64 et64 => ?_)
              refine kI.callV (As := [.int t58, .int t41, .int t61, .int t64]) (rest := []) ⟨hx, hb, hml, hown, hg⟩ (m_canPart l o r F13 B14 G15 hI t58 t41 t61 t64  ) (cwV 4 hg (kgV wt6_92 wt6_94 wp3_8 wt1_14 wt6_95) rfl rfl rfl (by decide +kernel) ⟨by decide, by decide⟩) hK hP hD hS hA mIs [] rfl (wr := []) rfl rfl rfl (fun i h => by cases h) 0 12 rfl rfl rfl hl.1 rfl (Nat.le_of_ble_eq_true rfl) dX12_row_98 ⟨Nat.le_refl _, Nat.le_refl _⟩ (fun v66 u67 H locs hw65 hP hD hS => ?_)
              have hP : va_P D vwCl (mW K o r F13 B14 G15) H := hP
              have hD : va_D A (mW K o r F13 B14 G15) := hD
              refine lv_if_eq (tgt := 108) hx hb dX12_row_101 (by decide) (fun c68 => ?_) (fun c68 => ?_)
              · have b69 : kb 0 v66 0 := kb_eq c68 kc_0
                refine lv_iconst (v := 0) hx hb dX12_row_108 (by decide) ?_
                refine lv_istore (lv' := [(5, .int 0), (4, .int t41), (3, .int y11), (2, .int y12), (1, .int c13_f), (0, .ref o)]) hx hb dX12_row_109 hl (by decide) rfl (fun ls hl => ?_)
                refine lv_iload hx hb dX12_row_111 (lv_at hl 0 rfl) ?_
                refine lv_if_eq (tgt := 144) hx hb dX12_row_113 (by decide) (fun c70 => ?_) (fun c70 => ?_)
                · refine lv_iload_n hx hb dX12_row_144 rfl (lv_at hl 3 rfl) ?_
                  refine lv_iload hx hb dX12_row_145 (lv_at hl 0 rfl) ?_
                  refine lv_if_eq (tgt := 154) hx hb dX12_row_147 (by decide) (fun c71 => ?_) (fun c71 => ?_)
                  · refine lv_iconst (v := 0) hx hb dX12_row_154 (by decide) ?_
                    refine lv_iadd hx hb dX12_row_155 ?_
                    refine lv_topi (fun t72 et72 => ?_)
                    have b73 : kb 0 t72 10 := kb_eq et72 (kb_add b21 kc_0 (by decide) (by decide))
                    have qt72 : t72.toInt = y12.toInt + 0 := by rw [et72]; exact kt_addc b21 kc_0 (by decide) (by decide)
                    refine lv_istore_n (lv' := [(2, .int t72), (5, .int 0), (4, .int t41), (3, .int y11), (1, .int c13_f), (0, .ref o)]) hx hb dX12_row_156 rfl hl (by decide) rfl (fun ls hl => ?_)
                    refine lv_aload_n hx hb dX12_row_157 rfl (lv_at hl 5 rfl) ?_
                    refine lv_dup hx hb dX12_row_158 rfl ?_
                    refine va_get (D := D) (ci := 12) (v := .int (F13 6)) (C := RX12) (T := TX12) (N := 48) hx hb hg inC12 hown hK hP 0 rfl rfl 6 (by decide) (hg _ wt5_166) (fun _ h9 => h9) rfl dX12_row_159 ?_
                    refine k_top (z := c6) ec6.symm ?_
                    refine lv_iload hx hb dX12_row_162 (lv_at hl 1 rfl) ?_
                    refine lv_if_eq (tgt := 171) hx hb dX12_row_164 (by decide) (fun c74 => ?_) (fun c74 => ?_)
                    · refine lv_iconst (v := 1) hx hb dX12_row_171 (by decide) ?_
                      refine lv_iadd hx hb dX12_row_172 ?_
                      refine lv_topi (fun t75 et75 => ?_)
                      have b76 : kb (-19) t75 301 := kb_eq et75 (kb_add b19 kc_1 (by decide) (by decide))
                      have qt75 : t75.toInt = c6.toInt + 1 := by rw [et75]; exact kt_addc b19 kc_1 (by decide) (by decide)
                      refine va_put (D := D) (ci := 12) (v := .int t75) (ty := .int) (C := RX12) (T := TX12) (N := 48) hx hb hg inC12 tyX12 tyX12_ok nmX12 hown hK hP hD hS 0 rfl rfl 6 (by decide) (hg _ wt5_166) (fun _ h9 => h9) rfl (by decide +kernel) rfl rfl (Nat.le_of_ble_eq_true rfl) dX12_row_173 (fun H locs hP hD hS => ?_)
                      have hP : va_P D vwCl (mW K o r (upd F13 6 t75) B14 G15) H := hP
                      have hD : va_D A (mW K o r (upd F13 6 t75) B14 G15) := hD
                      refine k_gen (P := fun z => va_P D vwCl (mW K o r z B14 G15) H ∧ va_D A (mW K o r z B14 G15) ∧ (mI z B14) ∧ (mF (XR [(0, 63), (102, 103)]) f a z B14) ∧ (mZ [0, 6, 13, 33] [1, 2] f a z B14) ∧ (z 13 = 0) ∧ (z 14 = f 14)) (upd F13 6 t75) ⟨hP, hD, (mI_f hI (fI_st hI.1 6 (kb_any _) (by decide) (by decide))), (mF_f hE), (mZ_f hZ rfl), ((pk_un (by decide)).trans hk0), ((pk_un (by decide)).trans hk1)⟩ (fun f_77 ef_77 hq => ?_)
                      obtain ⟨hP, hD, hI, hE, hZ, hk0, hk1⟩ := hq
                      obtain ⟨t78, et78⟩ : ∃ z : Int32, z = y11 + Int32.ofInt 4 := ⟨_, rfl⟩
                      have b79 : kb 4 t78 400 := kb_eq et78 (kb_add b37 (kb_ofInt 4 (by decide)) (by decide) (by decide))
                      have qt78 : t78.toInt = y11.toInt + 4 := by rw [et78]; exact km_add b37 (by decide) (by decide) (by decide)
                      refine lv_iinc (v := t78) (lv' := [(3, .int t78), (2, .int t72), (5, .int 0), (4, .int t41), (1, .int c13_f), (0, .ref o)]) hx hb dX12_row_176 hl (k := 3) rfl et78.symm (by decide) rfl (fun ls hl => ?_)
                      refine lv_goto (tgt := 40) hx hb dX12_row_179 (by decide) ?_
                      exact ihlp16 (k + 1) mm f_77 B14 G15 _ _ _ t78 t72 (by omega) hI hE hZ hk0 hk1 (kb_w b79 (by decide) (by decide)) (⟨mm, hvlp16_0, Or.inr ⟨fun q => (hw65.2.2.2 c68) (by have w1 := hvlp16_4; have w5 := (b37).1; have j0 : y11.toNatClampNeg = 4 * k := (by unfold Int32.toNatClampNeg; omega); have j1 : t38.toNatClampNeg = 4 * k + 1 := (by unfold Int32.toNatClampNeg; omega); have j2 : t59.toNatClampNeg = 4 * k + 2 := (by unfold Int32.toNatClampNeg; omega); have j3 : t62.toNatClampNeg = 4 * k + 3 := (by unfold Int32.toNatClampNeg; omega); have jn : cB = nI mm := Int32.toInt_inj.mp (by rw [nI_toInt (by have w2 := hvlp16_5; omega)]; exact hcB); rw [et58, et41, et40, et61, et64, hvlp16_6, j0, j1, j2, j3, ← ecB, jn]; exact q.2), rfl⟩⟩) (hvlp16_1) ((by have e1 := congrArg Int32.toInt ((show f_77 6 = t75 from by rw [← ef_77]; rfl)); have w1 := hc6; omega)) (by omega) (by omega) (⟨by have w1 := hvlp16_4; have w2 := (b37).2; omega, by have w1 := hvlp16_5; omega, by have w1 := hvlp16_5; omega, by have w1 := hvlp16_4; have w3 := hrle; omega⟩) (hvlp16_6) (⟨B14 2, hvlp16_7, Or.inr ⟨fun q => (hw65.2.2.2 c68) (by rw [show (B14 2 102).toInt.toNat = mm from by have w1 := hvlp16_1; omega] at q; have w1 := hvlp16_4; have w5 := (b37).1; have j0 : y11.toNatClampNeg = 4 * k := (by unfold Int32.toNatClampNeg; omega); have j1 : t38.toNatClampNeg = 4 * k + 1 := (by unfold Int32.toNatClampNeg; omega); have j2 : t59.toNatClampNeg = 4 * k + 2 := (by unfold Int32.toNatClampNeg; omega); have j3 : t62.toNatClampNeg = 4 * k + 3 := (by unfold Int32.toNatClampNeg; omega); have jn : cB = nI mm := Int32.toInt_inj.mp (by rw [nI_toInt (by have w2 := hvlp16_5; omega)]; exact hcB); rw [et58, et41, et40, et61, et64, hvlp16_6, j0, j1, j2, j3, ← ecB, jn]; exact q.2), rfl⟩⟩) (((rfl).trans hvlp16_8)) hP hD hS (lv_sub hl [0, 1, 4, 5] rfl)
                    · exact kb_nsame c74 kc_0 kc_0
                  · exact kb_nsame c71 kc_0 kc_0
                · exact kb_nsame c70 kc_0 kc_0
              · have b80 : kb 1 v66 1 := kr_nel c68 hw65.1 kc_0 (by decide)
                have h81 := hw65.2.1 c68
                have b82 : kb 1 t58 99 := kb_of2 h81
                refine lv_iconst (v := 1) hx hb dX12_row_104 (by decide) ?_
                refine lv_goto (tgt := 109) hx hb dX12_row_105 (by decide) ?_
                refine lv_istore (lv' := [(5, .int 1), (4, .int t41), (3, .int y11), (2, .int y12), (1, .int c13_f), (0, .ref o)]) hx hb dX12_row_109 hl (by decide) rfl (fun ls hl => ?_)
                refine lv_iload hx hb dX12_row_111 (lv_at hl 0 rfl) ?_
                refine lv_if_eq (tgt := 144) hx hb dX12_row_113 (by decide) (fun c83 => ?_) (fun c83 => ?_)
                · exact kb_dj c83 kc_1 kc_0 (by decide)
                · refine lv_aload_n hx hb dX12_row_116 rfl (lv_at hl 5 rfl) ?_
                  refine lv_aload_n hx hb dX12_row_117 rfl (lv_at hl 5 rfl) ?_
                  refine va_get (D := D) (ci := 12) (v := .ref (r 11)) (C := RX12) (T := TX12) (N := 48) hx hb hg inC12 hown hK hP 0 rfl rfl 11 (by decide) (hg _ wt5_171) (fun _ h9 => h9) rfl dX12_row_118 ?_
                  refine lv_iload_n hx hb dX12_row_121 rfl (lv_at hl 2 rfl) ?_
                  refine va_bald hx hb hK hP 7 1 rfl rfl (kb_in b37 (by decide) (by decide)) dX12_row_122 ?_
                  refine k_top (z := t58) et58.symm ?_
                  refine lv_iload hx hb dX12_row_123 (lv_at hl 1 rfl) ?_
                  refine lv_aload_n hx hb dX12_row_125 rfl (lv_at hl 5 rfl) ?_
                  refine va_get (D := D) (ci := 12) (v := .ref (r 11)) (C := RX12) (T := TX12) (N := 48) hx hb hg inC12 hown hK hP 0 rfl rfl 11 (by decide) (hg _ wt5_171) (fun _ h9 => h9) rfl dX12_row_126 ?_
                  refine lv_iload_n hx hb dX12_row_129 rfl (lv_at hl 2 rfl) ?_
                  refine lv_iconst (v := 2) hx hb dX12_row_130 (by decide) ?_
                  refine lv_iadd hx hb dX12_row_131 ?_
                  refine k_top (z := t59) et59.symm ?_
                  refine va_bald hx hb hK hP 7 1 rfl rfl (kb_in b60 (by decide) (by decide)) dX12_row_132 ?_
                  refine k_top (z := t61) et61.symm ?_
                  refine lv_aload_n hx hb dX12_row_133 rfl (lv_at hl 5 rfl) ?_
                  refine va_get (D := D) (ci := 12) (v := .ref (r 11)) (C := RX12) (T := TX12) (N := 48) hx hb hg inC12 hown hK hP 0 rfl rfl 11 (by decide) (hg _ wt5_171) (fun _ h9 => h9) rfl dX12_row_134 ?_
                  refine lv_iload_n hx hb dX12_row_137 rfl (lv_at hl 2 rfl) ?_
                  refine lv_iconst (v := 3) hx hb dX12_row_138 (by decide) ?_
                  refine lv_iadd hx hb dX12_row_139 ?_
                  refine k_top (z := t62) et62.symm ?_
                  refine va_bald hx hb hK hP 7 1 rfl rfl (kb_in b63 (by decide) (by decide)) dX12_row_140 ?_
                  refine k_top (z := t64) et64.symm ?_
                  refine kV.callV (As := [.int t58, .int t41, .int t61, .int t64]) (rest := []) ⟨hx, hb, hml, hown, hg⟩ (n_addsPart l o r F13 B14 G15 hI t58 t41 t61 t64 b82 (kb_eq ecB.symm b57)) (cwV 4 hg (kgV wt6_96 wt6_98 wp3_9 wt1_14 wt6_99) rfl rfl rfl (by decide +kernel) ⟨by decide, by decide⟩) hK hP hD hS hA mIs [] rfl (wr := []) rfl rfl rfl (fun i h => by cases h) 0 12 rfl rfl rfl hl.1 rfl (Nat.le_of_ble_eq_true rfl) dX12_row_141 ⟨Nat.le_refl _, Nat.le_refl _⟩ (fun u86 H locs hw84 hP hD hS => ?_)
                  obtain ⟨f87, a88, g89⟩ := u86
                  have hP : va_P D vwCl (mW K o r f87 a88 g89) H := hP
                  have hD : va_D A (mW K o r f87 a88 g89) := hD
                  have hI : mI f87 a88 := hw84.1
                  have hE : mF (XR [(0, 63), (102, 103)]) f a f87 a88 := mF_tr hE (mF_of hw84.2.1)
                  have eE90 : mE (XR [(0, 63), (102, 103)]) F13 B14 f87 a88 := hw84.2.1
                  have eZ91 : mZ [] [2] F13 B14 f87 a88 := hw84.2.2.2.2
                  have hZ : mZ [0, 6, 13, 33] [1, 2] f a f87 a88 := mZ_tr hZ (mZ_w (by decide) (by decide) eZ91)
                  have hk0 : f87 13 = 0 := (eE90.1 13 rfl).trans hk0
                  have hk1 : f87 14 = f 14 := (eE90.1 14 rfl).trans hk1
                  refine lv_iload_n hx hb dX12_row_144 rfl (lv_at hl 3 rfl) ?_
                  refine lv_iload hx hb dX12_row_145 (lv_at hl 0 rfl) ?_
                  refine lv_if_eq (tgt := 154) hx hb dX12_row_147 (by decide) (fun c92 => ?_) (fun c92 => ?_)
                  · exact kb_dj c92 kc_1 kc_0 (by decide)
                  · refine lv_iconst (v := 1) hx hb dX12_row_150 (by decide) ?_
                    refine lv_goto (tgt := 155) hx hb dX12_row_151 (by decide) ?_
                    refine lv_iadd hx hb dX12_row_155 ?_
                    refine lv_topi (fun t93 et93 => ?_)
                    have b94 : kb 1 t93 11 := kb_eq et93 (kb_add b21 kc_1 (by decide) (by decide))
                    have qt93 : t93.toInt = y12.toInt + 1 := by rw [et93]; exact kt_addc b21 kc_1 (by decide) (by decide)
                    refine lv_istore_n (lv' := [(2, .int t93), (5, .int 1), (4, .int t41), (3, .int y11), (1, .int c13_f), (0, .ref o)]) hx hb dX12_row_156 rfl hl (by decide) rfl (fun ls hl => ?_)
                    refine lv_aload_n hx hb dX12_row_157 rfl (lv_at hl 5 rfl) ?_
                    refine lv_dup hx hb dX12_row_158 rfl ?_
                    refine va_get (D := D) (ci := 12) (v := .int (f87 6)) (C := RX12) (T := TX12) (N := 48) hx hb hg inC12 hown hK hP 0 rfl rfl 6 (by decide) (hg _ wt5_166) (fun _ h9 => h9) rfl dX12_row_159 ?_
                    refine k_top (z := c6) ((eZ91.1 6 rfl).trans ec6.symm) ?_
                    refine lv_iload hx hb dX12_row_162 (lv_at hl 1 rfl) ?_
                    refine lv_if_eq (tgt := 171) hx hb dX12_row_164 (by decide) (fun c95 => ?_) (fun c95 => ?_)
                    · exact kb_dj c95 kc_1 kc_0 (by decide)
                    · refine lv_iconst (v := 0) hx hb dX12_row_167 (by decide) ?_
                      refine lv_goto (tgt := 172) hx hb dX12_row_168 (by decide) ?_
                      refine lv_iadd hx hb dX12_row_172 ?_
                      refine lv_topi (fun t96 et96 => ?_)
                      have b97 : kb (-20) t96 300 := kb_eq et96 (kb_add b19 kc_0 (by decide) (by decide))
                      have qt96 : t96.toInt = c6.toInt + 0 := by rw [et96]; exact kt_addc b19 kc_0 (by decide) (by decide)
                      refine va_put (D := D) (ci := 12) (v := .int t96) (ty := .int) (C := RX12) (T := TX12) (N := 48) hx hb hg inC12 tyX12 tyX12_ok nmX12 hown hK hP hD hS 0 rfl rfl 6 (by decide) (hg _ wt5_166) (fun _ h9 => h9) rfl (by decide +kernel) rfl rfl (Nat.le_of_ble_eq_true rfl) dX12_row_173 (fun H locs hP hD hS => ?_)
                      have hP : va_P D vwCl (mW K o r (upd f87 6 t96) a88 g89) H := hP
                      have hD : va_D A (mW K o r (upd f87 6 t96) a88 g89) := hD
                      refine k_gen (P := fun z => va_P D vwCl (mW K o r z a88 g89) H ∧ va_D A (mW K o r z a88 g89) ∧ (mI z a88) ∧ (mF (XR [(0, 63), (102, 103)]) f a z a88) ∧ (mZ [0, 6, 13, 33] [1, 2] f a z a88) ∧ (z 13 = 0) ∧ (z 14 = f 14)) (upd f87 6 t96) ⟨hP, hD, (mI_f hI (fI_st hI.1 6 (kb_any _) (by decide) (by decide))), (mF_f hE), (mZ_f hZ rfl), ((pk_un (by decide)).trans hk0), ((pk_un (by decide)).trans hk1)⟩ (fun f_98 ef_98 hq => ?_)
                      obtain ⟨hP, hD, hI, hE, hZ, hk0, hk1⟩ := hq
                      obtain ⟨t99, et99⟩ : ∃ z : Int32, z = y11 + Int32.ofInt 4 := ⟨_, rfl⟩
                      have b100 : kb 4 t99 400 := kb_eq et99 (kb_add b37 (kb_ofInt 4 (by decide)) (by decide) (by decide))
                      have qt99 : t99.toInt = y11.toInt + 4 := by rw [et99]; exact km_add b37 (by decide) (by decide) (by decide)
                      refine lv_iinc (v := t99) (lv' := [(3, .int t99), (2, .int t93), (5, .int 1), (4, .int t41), (1, .int c13_f), (0, .ref o)]) hx hb dX12_row_176 hl (k := 3) rfl et99.symm (by decide) rfl (fun ls hl => ?_)
                      refine lv_goto (tgt := 40) hx hb dX12_row_179 (by decide) ?_
                      exact ihlp16 (k + 1) (mm + 1) f_98 a88 g89 _ _ _ t99 t93 (by omega) hI hE hZ hk0 hk1 (kb_w b100 (by decide) (by decide)) (⟨mm, hvlp16_0, Or.inl ⟨⟨by have w1 := (b57).2; omega, (by have w1 := hvlp16_4; have w5 := (b37).1; have j0 : y11.toNatClampNeg = 4 * k := (by unfold Int32.toNatClampNeg; omega); have j1 : t38.toNatClampNeg = 4 * k + 1 := (by unfold Int32.toNatClampNeg; omega); have j2 : t59.toNatClampNeg = 4 * k + 2 := (by unfold Int32.toNatClampNeg; omega); have j3 : t62.toNatClampNeg = 4 * k + 3 := (by unfold Int32.toNatClampNeg; omega); have jn : cB = nI mm := Int32.toInt_inj.mp (by rw [nI_toInt (by have w2 := hvlp16_5; omega)]; exact hcB); have h := hw65.2.2.1 c68; rw [et58, et41, et40, et61, et64, hvlp16_6, j0, j1, j2, j3, ← ecB, jn] at h; exact h)⟩, rfl⟩⟩) ((by have w1 := hvlp16_1; have w2 := (show (a88 2 102).toInt = (B14 2 102).toInt + 1 from hw84.2.2.1); omega)) ((by have e1 := congrArg Int32.toInt ((show f_98 6 = t96 from by rw [← ef_98]; rfl)); have w1 := hc6; omega)) (by omega) (by omega) (⟨by have w1 := hvlp16_4; have w2 := (b37).2; omega, by have w1 := hvlp16_5; omega, by have w1 := hvlp16_5; have w2 := (b57).2; omega, by have w1 := hvlp16_4; have w3 := hrle; omega⟩) ((eE90.2.1.trans hvlp16_6)) (⟨B14 2, hvlp16_7, Or.inl ⟨by rw [show (B14 2 102).toInt.toNat = mm from by have w1 := hvlp16_1; omega]; exact ⟨by have w1 := (b57).2; omega, (by have w1 := hvlp16_4; have w5 := (b37).1; have j0 : y11.toNatClampNeg = 4 * k := (by unfold Int32.toNatClampNeg; omega); have j1 : t38.toNatClampNeg = 4 * k + 1 := (by unfold Int32.toNatClampNeg; omega); have j2 : t59.toNatClampNeg = 4 * k + 2 := (by unfold Int32.toNatClampNeg; omega); have j3 : t62.toNatClampNeg = 4 * k + 3 := (by unfold Int32.toNatClampNeg; omega); have jn : cB = nI mm := Int32.toInt_inj.mp (by rw [nI_toInt (by have w2 := hvlp16_5; omega)]; exact hcB); have h := hw65.2.2.1 c68; rw [et58, et41, et40, et61, et64, hvlp16_6, j0, j1, j2, j3, ← ecB, jn] at h; exact h)⟩, (rfl).trans (by have w1 := hvlp16_4; have w5 := (b37).1; have j0 : y11.toNatClampNeg = 4 * k := (by unfold Int32.toNatClampNeg; omega); have j1 : t38.toNatClampNeg = 4 * k + 1 := (by unfold Int32.toNatClampNeg; omega); have j2 : t59.toNatClampNeg = 4 * k + 2 := (by unfold Int32.toNatClampNeg; omega); have j3 : t62.toNatClampNeg = 4 * k + 3 := (by unfold Int32.toNatClampNeg; omega); have jn : cB = nI mm := Int32.toInt_inj.mp (by rw [nI_toInt (by have w2 := hvlp16_5; omega)]; exact hcB); have h := hw84.2.2.2.1; rw [et58, et41, et40, et61, et64, hvlp16_6, j0, j1, j2, j3] at h; exact h)⟩⟩) ((((eZ91.2 1 rfl)).trans hvlp16_8)) hP hD hS (lv_sub hl [0, 1, 4, 5] rfl)
      exact lp16 (101) 0 N0 f_10 a g _ _ _ 0 0 (by omega) hI hE hZ hk0 hk1 (kb_w kc_0 (by decide) (by decide)) ((rfl : N0 = N0)) ((by rw [ec2_102.symm]; omega)) ((by have e1 := congrArg Int32.toInt ((show f_10 6 = 1 from by rw [← ef_10]; rfl)); have q1 : ¬ t6.toInt = 0 := (fun q => c8 (Int32.toInt_inj.mp (q.trans (by decide +kernel)))); have z1 : (1 : Int32).toInt = 1 := (by decide +kernel); have w9 := (b9).1; omega)) ((by have z0 : (0 : Int32).toInt = 0 := (by decide +kernel); omega)) ((by have z0 : (0 : Int32).toInt = 0 := (by decide +kernel); omega)) (⟨by omega, by omega, by have w1 := (b2).2; omega, by omega⟩) ((by rfl)) ((show a 2 = a 2 from rfl)) (rfl) hP hD hS (lv_sub hl [0, 1, 2, 3] rfl)
    · have b101 : kb 0 t6 0 := kb_eq c8 kc_0
      refine lv_iconst (v := 0) hx hb dX12_row_30 (by decide) ?_
      refine lv_goto (tgt := 35) hx hb dX12_row_31 (by decide) ?_
      refine va_put (D := D) (ci := 12) (v := .int 0) (ty := .int) (C := RX12) (T := TX12) (N := 48) hx hb hg inC12 tyX12 tyX12_ok nmX12 hown hK hP hD hS 0 rfl rfl 6 (by decide) (hg _ wt5_166) (fun _ h9 => h9) rfl (by decide +kernel) rfl rfl (Nat.le_of_ble_eq_true rfl) dX12_row_35 (fun H locs hP hD hS => ?_)
      have hP : va_P D vwCl (mW K o r (upd f_3 6 0) a g) H := hP
      have hD : va_D A (mW K o r (upd f_3 6 0) a g) := hD
      refine k_gen (P := fun z => va_P D vwCl (mW K o r z a g) H ∧ va_D A (mW K o r z a g) ∧ (mI z a) ∧ (mF (XR [(0, 63), (102, 103)]) f a z a) ∧ (mZ [0, 6, 13, 33] [1, 2] f a z a) ∧ (z 13 = 0) ∧ (z 14 = f 14)) (upd f_3 6 0) ⟨hP, hD, (mI_f hI (fI_st hI.1 6 (kb_any _) (by decide) (by decide))), (mF_f hE), (mZ_f hZ rfl), ((pk_un (by decide)).trans hk0), ((pk_un (by decide)).trans hk1)⟩ (fun f_102 ef_102 hq => ?_)
      obtain ⟨hP, hD, hI, hE, hZ, hk0, hk1⟩ := hq
      refine lv_iconst (v := 0) hx hb dX12_row_38 (by decide) ?_
      refine lv_istore_n (lv' := [(3, .int 0), (2, .int 0), (1, .int c13_f), (0, .ref o)]) hx hb dX12_row_39 rfl hl (by decide) rfl (fun ls hl => ?_)
      have lp108 : ∀ (n109 : Nat) (k : Nat) (mm : Nat) (F105 : Nat → Int32) (B106 : Nat → Nat → Int32) (G107 : Nat → Int64) (H : Heap) (locs : List Loc) (ls : Array Slot) (y103 : Int32) (y104 : Int32), ((100 : Int) < (k : Int) + (n109 : Int)) → (mI F105 B106) → (mF (XR [(0, 63), (102, 103)]) f a F105 B106) → (mZ [0, 6, 13, 33] [1, 2] f a F105 B106) → (F105 13 = 0) → (F105 14 = f 14) → (kb 0 y103 400) → (rSt (rOKm (a 11)) N0 k mm) → ((B106 2 102).toInt = (mm : Int)) → ((F105 6).toInt + (mm : Int) - (N0 : Int) = (((T + 3) / 4 : Nat) : Int) - ((T / 4 : Nat) : Int) + (k : Int)) → (y104.toInt = (mm : Int) - (N0 : Int)) → (y103.toInt = 4 * (k : Int)) → (k ≤ 100 ∧ N0 ≤ mm ∧ mm ≤ 10 ∧ 4 * k ≤ T) → (B106 11 = a 11) → (rwP (a 11) (a 2) k (B106 2)) → (B106 1 = a 1) → va_P D vwCl (mW K o r F105 B106 G107) H → va_D A (mW K o r F105 B106 G107) → va_S A s.heap H locs → lv_has ls 6 [(3, .int y103), (2, .int y104), (1, .int c13_f), (0, .ref o)] → W p l e (rmD 3 0 0) s m ([.ref o] : List Value).toArray below meth c H locs 0 0 (kQi D (tysK K) (fun v (u : mS) => kb (-2147483648) v 2147483647 ∧ mI u.1 u.2.1 ∧ mF (XR [(0, 63), (102, 103)]) f a u.1 u.2.1 ∧ u.1 13 = 0 ∧ rowP (rOKm (a 11)) (f 13) v (a 2 102) (u.2.1 2 102) (f 6) (u.1 6) ∧ u.2.1 11 = a 11 ∧ u.1 14 = f 14 ∧ ((v = -6 ∧ u.1 0 = -6 ∧ u.2.1 1 = rfS (-6) (a 1) ∧ u.2.1 2 = a 2 ∧ mPs (u.1 33) (u.2.1 31) P) ∨ (¬ f 13 = 0 ∧ u.1 0 = 0 ∧ u.2.1 1 = a 1 ∧ rwP (a 11) (a 2) ((f 13).toInt.toNat / 4) (u.2.1 2) ∧ mPs (u.1 33) (u.2.1 31) (noP P))) ∧ mZ [0, 6, 13, 33] [1, 2] f a u.1 u.2.1) (fun u => mW K o r u.1 u.2.1 u.2.2) A below ([.ref o] : List Value).toArray s 0 0) (F0 m 40 ls []) := by
        intro n109
        induction n109 with
        | zero =>
          intro k mm F105 B106 G107  H locs ls y103 y104 hmlp108 hI hE hZ hk0 hk1 b110 hvlp108_0 hvlp108_1 hvlp108_2 hvlp108_3 hvlp108_4 hvlp108_5 hvlp108_6 hvlp108_7 hvlp108_8 hP hD hS hl
          exact (by have w1 := hmlp108; have w2 := hvlp108_5; omega : False).elim
        | succ n109 ihlp108 =>
          intro k mm F105 B106 G107  H locs ls y103 y104 hmlp108 hI hE hZ hk0 hk1 b110 hvlp108_0 hvlp108_1 hvlp108_2 hvlp108_3 hvlp108_4 hvlp108_5 hvlp108_6 hvlp108_7 hvlp108_8 hP hD hS hl
          refine lv_iload_n hx hb dX12_row_40 rfl (lv_at hl 0 rfl) ?_
          obtain ⟨c6, ec6⟩ : ∃ z : Int32, z = F105 6 := ⟨_, rfl⟩
          have hc6 : c6.toInt + (mm : Int) - (N0 : Int) = (((T + 3) / 4 : Nat) : Int) - ((T / 4 : Nat) : Int) + (k : Int) := by rw [ec6]; exact hvlp108_2
          have hT4 : T ≤ 400 := by have w1 := (b5).2; omega
          have b111 : kb (-20) c6 300 := ⟨by have w1 := hc6; have w2 := hvlp108_5; omega, by have w1 := hc6; have w2 := hvlp108_5; omega⟩
          obtain ⟨cB, ecB⟩ : ∃ z : Int32, z = B106 2 102 := ⟨_, rfl⟩
          have hcB : cB.toInt = (mm : Int) := by rw [ecB]; exact hvlp108_1
          have b112 : kb 0 cB 10 := ⟨by omega, by have w2 := hvlp108_5; omega⟩
          have b113 : kb 0 y104 10 := ⟨by have w1 := hvlp108_3; have w2 := hvlp108_5; omega, by have w1 := hvlp108_3; have w2 := hvlp108_5; omega⟩
          refine lv_iconst (v := 4) hx hb dX12_row_41 (by decide) ?_
          refine lv_iadd hx hb dX12_row_42 ?_
          refine lv_topi (fun t114 et114 => ?_)
          have b115 : kb 4 t114 404 := kb_eq et114 (kb_add b110 kc_4 (by decide) (by decide))
          have qt114 : t114.toInt = y103.toInt + 4 := by rw [et114]; exact kt_addc b110 kc_4 (by decide) (by decide)
          refine lv_iload_n hx hb dX12_row_43 rfl (lv_at hl 2 rfl) ?_
          refine lv_icmp_gt (tgt := 182) hx hb dX12_row_44 (by decide) (fun c116 => ?_) (fun c116 => ?_)
          · have h117 := (kc_lt c116)
            have hrex := kc_lt c116
            refine lv_aload_n hx hb dX12_row_182 rfl (lv_at hl 3 rfl) ?_
            refine lv_iload_n hx hb dX12_row_183 rfl (lv_at hl 1 rfl) ?_
            refine kI.callV (As := [.int y104]) (rest := []) ⟨hx, hb, hml, hown, hg⟩ (n_settled l o r F105 B106 G107 hI y104  ) (cwV 1 hg (kgV wt6_84 wt6_86 wp3_7 wt1_14 wt6_87) rfl rfl rfl (by decide +kernel) ⟨by decide, by decide⟩) hK hP hD hS hA mIs [] rfl (wr := []) rfl rfl rfl (fun i h => by cases h) 0 12 rfl rfl rfl hl.1 rfl (Nat.le_of_ble_eq_true rfl) dX12_row_184 ⟨Nat.le_refl _, Nat.le_refl _⟩ (fun v119 u120 H locs hw118 hP hD hS => ?_)
            obtain ⟨f121, a122, g123⟩ := u120
            have hP : va_P D vwCl (mW K o r f121 a122 g123) H := hP
            have hD : va_D A (mW K o r f121 a122 g123) := hD
            have hI : mI f121 a122 := hw118.2.1
            have hE : mF (XR [(0, 63), (102, 103)]) f a f121 a122 := mF_tr hE (mF_w (XR_w (by decide)) (mF_of hw118.2.2.1))
            have eE124 : mE (XR []) F105 B106 f121 a122 := hw118.2.2.1
            have eZ125 : mZ [0, 33] [] F105 B106 f121 a122 := hw118.2.2.2.2.2.2
            have hZ : mZ [0, 6, 13, 33] [1, 2] f a f121 a122 := mZ_tr hZ (mZ_w (by decide) (by decide) eZ125)
            have hk0 : f121 13 = 0 := (eE124.1 13 rfl).trans hk0
            have hk1 : f121 14 = f 14 := (eE124.1 14 rfl).trans hk1
            refine k_top (z := y104) hw118.2.2.2.1 ?_
            exact kI_ret (v := y104) hx hb hr hlocks rfl hK hS dX12_row_187 (f121, a122, g123) hP hD ⟨(kb_w b113 (by decide) (by decide)), hI, hE, hk0, (Or.inr ⟨(fun q => c4 (ec13_f.trans q)), mm, (by rw [← hN0, ← hT, show T / 4 = k from (by have w1 := hrex; have w2 := hvlp108_4; have w3 := hvlp108_5; omega)]; exact hvlp108_0), (by rw [← ec2_102, ← hNi]; exact hvlp108_3), (by show (a122 2 102).toInt = (mm : Int); have e1 := congrArg Int32.toInt (((congrFun (eZ125.2 2 rfl) 102).trans ecB.symm)); omega), (by show (f121 6).toInt + (mm : Int) - (a 2 102).toInt = _; rw [← hT, ← ec2_102]; have e1 := congrArg Int32.toInt (((eZ125.1 6 rfl).trans ec6.symm)); have w1 := hc6; have w2 := hrex; have w3 := hvlp108_4; have w4 := hvlp108_5; omega)⟩), (eE124.2.1.trans hvlp108_6), hk1, (Or.inr ⟨(fun q => c4 (ec13_f.trans q)), hw118.2.2.2.2.1, (((eZ125.2 1 rfl)).trans hvlp108_8), (by show rwP (a 11) (a 2) ((f 13).toInt.toNat / 4) (a122 2); rw [← hT, show T / 4 = k from (by have w1 := hrex; have w2 := hvlp108_4; have w3 := hvlp108_5; omega), show a122 2 = B106 2 from (eZ125.2 2 rfl)]; exact hvlp108_7), mP_no hw118.2.2.2.2.2.1⟩), hZ⟩
          · have h126 := (kc_nlt c116)
            have b127 : kb 4 t114 400 := kr_le1 h126 b115 b5
            have b128 : kb 4 c13_f 400 := kr_le2 h126 b115 b5
            have b129 : kb 0 y103 396 := ⟨b110.1, by have h1 := b127.2; omega⟩
            have hrle := kc_nlt c116
            refine lv_aload_n hx hb dX12_row_47 rfl (lv_at hl 3 rfl) ?_
            refine va_get (D := D) (ci := 12) (v := .ref (r 11)) (C := RX12) (T := TX12) (N := 48) hx hb hg inC12 hown hK hP 0 rfl rfl 11 (by decide) (hg _ wt5_171) (fun _ h9 => h9) rfl dX12_row_48 ?_
            refine lv_iload_n hx hb dX12_row_51 rfl (lv_at hl 0 rfl) ?_
            refine lv_iconst (v := 1) hx hb dX12_row_52 (by decide) ?_
            refine lv_iadd hx hb dX12_row_53 ?_
            refine lv_topi (fun t130 et130 => ?_)
            have b131 : kb 1 t130 397 := kb_eq et130 (kb_add b129 kc_1 (by decide) (by decide))
            have qt130 : t130.toInt = y103.toInt + 1 := by rw [et130]; exact kt_addc b129 kc_1 (by decide) (by decide)
            refine va_bald hx hb hK hP 7 1 rfl rfl (kb_in b131 (by decide) (by decide)) dX12_row_54 ?_
            refine lv_topi (fun t132 et132 => ?_)
            refine lv_sipush (v := 255) hx hb dX12_row_55 (by decide) ?_
            refine lv_iand hx hb dX12_row_58 ?_
            refine lv_topi (fun t133 et133 => ?_)
            have b134 : kb 0 t133 255 := kb_eq et133 (kb_and 8 (by decide) (by decide))
            refine lv_istore (lv' := [(4, .int t133), (3, .int y103), (2, .int y104), (1, .int c13_f), (0, .ref o)]) hx hb dX12_row_59 hl (by decide) rfl (fun ls hl => ?_)
            refine lv_aload_n hx hb dX12_row_61 rfl (lv_at hl 4 rfl) ?_
            refine va_get (D := D) (ci := 12) (v := .ref (r 2)) (C := RX12) (T := TX12) (N := 48) hx hb hg inC12 hown hK hP 0 rfl rfl 2 (by decide) (hg _ wt5_162) (fun _ h9 => h9) rfl dX12_row_62 ?_
            refine lv_bipush (v := 102) hx hb dX12_row_65 (by decide) ?_
            refine va_iald hx hb hK hP 2 0 rfl rfl (kb_in kc_102 (by decide) (by decide)) dX12_row_67 ?_
            refine k_top (z := cB) (by rw [cl_102]; exact ecB.symm) ?_
            refine lv_bipush (v := 10) hx hb dX12_row_68 (by decide) ?_
            refine lv_icmp_ge (tgt := 108) hx hb dX12_row_70 (by decide) (fun c135 => ?_) (fun c135 => ?_)
            · have h136 := (kc_le c135)
              have b137 : kb 10 cB 10 := kr_le2 h136 kc_10 b112
              refine lv_iconst (v := 0) hx hb dX12_row_108 (by decide) ?_
              refine lv_istore (lv' := [(5, .int 0), (4, .int t133), (3, .int y103), (2, .int y104), (1, .int c13_f), (0, .ref o)]) hx hb dX12_row_109 hl (by decide) rfl (fun ls hl => ?_)
              refine lv_iload hx hb dX12_row_111 (lv_at hl 0 rfl) ?_
              refine lv_if_eq (tgt := 144) hx hb dX12_row_113 (by decide) (fun c138 => ?_) (fun c138 => ?_)
              · refine lv_iload_n hx hb dX12_row_144 rfl (lv_at hl 3 rfl) ?_
                refine lv_iload hx hb dX12_row_145 (lv_at hl 0 rfl) ?_
                refine lv_if_eq (tgt := 154) hx hb dX12_row_147 (by decide) (fun c139 => ?_) (fun c139 => ?_)
                · refine lv_iconst (v := 0) hx hb dX12_row_154 (by decide) ?_
                  refine lv_iadd hx hb dX12_row_155 ?_
                  refine lv_topi (fun t140 et140 => ?_)
                  have b141 : kb 0 t140 10 := kb_eq et140 (kb_add b113 kc_0 (by decide) (by decide))
                  have qt140 : t140.toInt = y104.toInt + 0 := by rw [et140]; exact kt_addc b113 kc_0 (by decide) (by decide)
                  refine lv_istore_n (lv' := [(2, .int t140), (5, .int 0), (4, .int t133), (3, .int y103), (1, .int c13_f), (0, .ref o)]) hx hb dX12_row_156 rfl hl (by decide) rfl (fun ls hl => ?_)
                  refine lv_aload_n hx hb dX12_row_157 rfl (lv_at hl 5 rfl) ?_
                  refine lv_dup hx hb dX12_row_158 rfl ?_
                  refine va_get (D := D) (ci := 12) (v := .int (F105 6)) (C := RX12) (T := TX12) (N := 48) hx hb hg inC12 hown hK hP 0 rfl rfl 6 (by decide) (hg _ wt5_166) (fun _ h9 => h9) rfl dX12_row_159 ?_
                  refine k_top (z := c6) ec6.symm ?_
                  refine lv_iload hx hb dX12_row_162 (lv_at hl 1 rfl) ?_
                  refine lv_if_eq (tgt := 171) hx hb dX12_row_164 (by decide) (fun c142 => ?_) (fun c142 => ?_)
                  · refine lv_iconst (v := 1) hx hb dX12_row_171 (by decide) ?_
                    refine lv_iadd hx hb dX12_row_172 ?_
                    refine lv_topi (fun t143 et143 => ?_)
                    have b144 : kb (-19) t143 301 := kb_eq et143 (kb_add b111 kc_1 (by decide) (by decide))
                    have qt143 : t143.toInt = c6.toInt + 1 := by rw [et143]; exact kt_addc b111 kc_1 (by decide) (by decide)
                    refine va_put (D := D) (ci := 12) (v := .int t143) (ty := .int) (C := RX12) (T := TX12) (N := 48) hx hb hg inC12 tyX12 tyX12_ok nmX12 hown hK hP hD hS 0 rfl rfl 6 (by decide) (hg _ wt5_166) (fun _ h9 => h9) rfl (by decide +kernel) rfl rfl (Nat.le_of_ble_eq_true rfl) dX12_row_173 (fun H locs hP hD hS => ?_)
                    have hP : va_P D vwCl (mW K o r (upd F105 6 t143) B106 G107) H := hP
                    have hD : va_D A (mW K o r (upd F105 6 t143) B106 G107) := hD
                    refine k_gen (P := fun z => va_P D vwCl (mW K o r z B106 G107) H ∧ va_D A (mW K o r z B106 G107) ∧ (mI z B106) ∧ (mF (XR [(0, 63), (102, 103)]) f a z B106) ∧ (mZ [0, 6, 13, 33] [1, 2] f a z B106) ∧ (z 13 = 0) ∧ (z 14 = f 14)) (upd F105 6 t143) ⟨hP, hD, (mI_f hI (fI_st hI.1 6 (kb_any _) (by decide) (by decide))), (mF_f hE), (mZ_f hZ rfl), ((pk_un (by decide)).trans hk0), ((pk_un (by decide)).trans hk1)⟩ (fun f_145 ef_145 hq => ?_)
                    obtain ⟨hP, hD, hI, hE, hZ, hk0, hk1⟩ := hq
                    obtain ⟨t146, et146⟩ : ∃ z : Int32, z = y103 + Int32.ofInt 4 := ⟨_, rfl⟩
                    have b147 : kb 4 t146 400 := kb_eq et146 (kb_add b129 (kb_ofInt 4 (by decide)) (by decide) (by decide))
                    have qt146 : t146.toInt = y103.toInt + 4 := by rw [et146]; exact km_add b129 (by decide) (by decide) (by decide)
                    refine lv_iinc (v := t146) (lv' := [(3, .int t146), (2, .int t140), (5, .int 0), (4, .int t133), (1, .int c13_f), (0, .ref o)]) hx hb dX12_row_176 hl (k := 3) rfl et146.symm (by decide) rfl (fun ls hl => ?_)
                    refine lv_goto (tgt := 40) hx hb dX12_row_179 (by decide) ?_
                    exact ihlp108 (k + 1) mm f_145 B106 G107 _ _ _ t146 t140 (by omega) hI hE hZ hk0 hk1 (kb_w b147 (by decide) (by decide)) (⟨mm, hvlp108_0, Or.inr ⟨fun q => by have q1 := q.1; have w1 := (b137).1; omega, rfl⟩⟩) (hvlp108_1) ((by have e1 := congrArg Int32.toInt ((show f_145 6 = t143 from by rw [← ef_145]; rfl)); have w1 := hc6; omega)) (by omega) (by omega) (⟨by have w1 := hvlp108_4; have w2 := (b129).2; omega, by have w1 := hvlp108_5; omega, by have w1 := hvlp108_5; omega, by have w1 := hvlp108_4; have w3 := hrle; omega⟩) (hvlp108_6) (⟨B106 2, hvlp108_7, Or.inr ⟨fun q => by have q1 := q.1; have w1 := (b137).1; have w2 := hvlp108_1; omega, rfl⟩⟩) (((rfl).trans hvlp108_8)) hP hD hS (lv_sub hl [0, 1, 4, 5] rfl)
                  · exact kb_nsame c142 kc_0 kc_0
                · exact kb_nsame c139 kc_0 kc_0
              · exact kb_nsame c138 kc_0 kc_0
            · have h148 := (kc_nle c135)
              have b149 : kb 0 cB 9 := kr_lt1 h148 b112 kc_10 (by decide)
              refine lv_aload_n hx hb dX12_row_73 rfl (lv_at hl 4 rfl) ?_
              refine lv_aload_n hx hb dX12_row_74 rfl (lv_at hl 4 rfl) ?_
              refine va_get (D := D) (ci := 12) (v := .ref (r 11)) (C := RX12) (T := TX12) (N := 48) hx hb hg inC12 hown hK hP 0 rfl rfl 11 (by decide) (hg _ wt5_171) (fun _ h9 => h9) rfl dX12_row_75 ?_
              refine lv_iload_n hx hb dX12_row_78 rfl (lv_at hl 1 rfl) ?_
              refine va_bald hx hb hK hP 7 1 rfl rfl (kb_in b129 (by decide) (by decide)) dX12_row_79 ?_
              refine lv_topi (fun t150 et150 => ?_)
              refine lv_iload hx hb dX12_row_80 (lv_at hl 0 rfl) ?_
              refine lv_aload_n hx hb dX12_row_82 rfl (lv_at hl 4 rfl) ?_
              refine va_get (D := D) (ci := 12) (v := .ref (r 11)) (C := RX12) (T := TX12) (N := 48) hx hb hg inC12 hown hK hP 0 rfl rfl 11 (by decide) (hg _ wt5_171) (fun _ h9 => h9) rfl dX12_row_83 ?_
              refine lv_iload_n hx hb dX12_row_86 rfl (lv_at hl 1 rfl) ?_
              refine lv_iconst (v := 2) hx hb dX12_row_87 (by decide) ?_
              refine lv_iadd hx hb dX12_row_88 ?_
              refine lv_topi (fun t151 et151 => ?_)
              have b152 : kb 2 t151 398 := kb_eq et151 (kb_add b129 kc_2 (by decide) (by decide))
              have qt151 : t151.toInt = y103.toInt + 2 := by rw [et151]; exact kt_addc b129 kc_2 (by decide) (by decide)
              refine va_bald hx hb hK hP 7 1 rfl rfl (kb_in b152 (by decide) (by decide)) dX12_row_89 ?_
              refine lv_topi (fun t153 et153 => ?_)
              refine lv_aload_n hx hb dX12_row_90 rfl (lv_at hl 4 rfl) ?_
              refine va_get (D := D) (ci := 12) (v := .ref (r 11)) (C := RX12) (T := TX12) (N := 48) hx hb hg inC12 hown hK hP 0 rfl rfl 11 (by decide) (hg _ wt5_171) (fun _ h9 => h9) rfl dX12_row_91 ?_
              refine lv_iload_n hx hb dX12_row_94 rfl (lv_at hl 1 rfl) ?_
              refine lv_iconst (v := 3) hx hb dX12_row_95 (by decide) ?_
              refine lv_iadd hx hb dX12_row_96 ?_
              refine lv_topi (fun t154 et154 => ?_)
              have b155 : kb 3 t154 399 := kb_eq et154 (kb_add b129 kc_3 (by decide) (by decide))
              have qt154 : t154.toInt = y103.toInt + 3 := by rw [et154]; exact kt_addc b129 kc_3 (by decide) (by decide)
              refine va_bald hx hb hK hP 7 1 rfl rfl (kb_in b155 (by decide) (by decide)) dX12_row_97 ?_
              refine lv_topi (fun t156 et156 => ?_)
              refine kI.callV (As := [.int t150, .int t133, .int t153, .int t156]) (rest := []) ⟨hx, hb, hml, hown, hg⟩ (m_canPart l o r F105 B106 G107 hI t150 t133 t153 t156  ) (cwV 4 hg (kgV wt6_92 wt6_94 wp3_8 wt1_14 wt6_95) rfl rfl rfl (by decide +kernel) ⟨by decide, by decide⟩) hK hP hD hS hA mIs [] rfl (wr := []) rfl rfl rfl (fun i h => by cases h) 0 12 rfl rfl rfl hl.1 rfl (Nat.le_of_ble_eq_true rfl) dX12_row_98 ⟨Nat.le_refl _, Nat.le_refl _⟩ (fun v158 u159 H locs hw157 hP hD hS => ?_)
              have hP : va_P D vwCl (mW K o r F105 B106 G107) H := hP
              have hD : va_D A (mW K o r F105 B106 G107) := hD
              refine lv_if_eq (tgt := 108) hx hb dX12_row_101 (by decide) (fun c160 => ?_) (fun c160 => ?_)
              · have b161 : kb 0 v158 0 := kb_eq c160 kc_0
                refine lv_iconst (v := 0) hx hb dX12_row_108 (by decide) ?_
                refine lv_istore (lv' := [(5, .int 0), (4, .int t133), (3, .int y103), (2, .int y104), (1, .int c13_f), (0, .ref o)]) hx hb dX12_row_109 hl (by decide) rfl (fun ls hl => ?_)
                refine lv_iload hx hb dX12_row_111 (lv_at hl 0 rfl) ?_
                refine lv_if_eq (tgt := 144) hx hb dX12_row_113 (by decide) (fun c162 => ?_) (fun c162 => ?_)
                · refine lv_iload_n hx hb dX12_row_144 rfl (lv_at hl 3 rfl) ?_
                  refine lv_iload hx hb dX12_row_145 (lv_at hl 0 rfl) ?_
                  refine lv_if_eq (tgt := 154) hx hb dX12_row_147 (by decide) (fun c163 => ?_) (fun c163 => ?_)
                  · refine lv_iconst (v := 0) hx hb dX12_row_154 (by decide) ?_
                    refine lv_iadd hx hb dX12_row_155 ?_
                    refine lv_topi (fun t164 et164 => ?_)
                    have b165 : kb 0 t164 10 := kb_eq et164 (kb_add b113 kc_0 (by decide) (by decide))
                    have qt164 : t164.toInt = y104.toInt + 0 := by rw [et164]; exact kt_addc b113 kc_0 (by decide) (by decide)
                    refine lv_istore_n (lv' := [(2, .int t164), (5, .int 0), (4, .int t133), (3, .int y103), (1, .int c13_f), (0, .ref o)]) hx hb dX12_row_156 rfl hl (by decide) rfl (fun ls hl => ?_)
                    refine lv_aload_n hx hb dX12_row_157 rfl (lv_at hl 5 rfl) ?_
                    refine lv_dup hx hb dX12_row_158 rfl ?_
                    refine va_get (D := D) (ci := 12) (v := .int (F105 6)) (C := RX12) (T := TX12) (N := 48) hx hb hg inC12 hown hK hP 0 rfl rfl 6 (by decide) (hg _ wt5_166) (fun _ h9 => h9) rfl dX12_row_159 ?_
                    refine k_top (z := c6) ec6.symm ?_
                    refine lv_iload hx hb dX12_row_162 (lv_at hl 1 rfl) ?_
                    refine lv_if_eq (tgt := 171) hx hb dX12_row_164 (by decide) (fun c166 => ?_) (fun c166 => ?_)
                    · refine lv_iconst (v := 1) hx hb dX12_row_171 (by decide) ?_
                      refine lv_iadd hx hb dX12_row_172 ?_
                      refine lv_topi (fun t167 et167 => ?_)
                      have b168 : kb (-19) t167 301 := kb_eq et167 (kb_add b111 kc_1 (by decide) (by decide))
                      have qt167 : t167.toInt = c6.toInt + 1 := by rw [et167]; exact kt_addc b111 kc_1 (by decide) (by decide)
                      refine va_put (D := D) (ci := 12) (v := .int t167) (ty := .int) (C := RX12) (T := TX12) (N := 48) hx hb hg inC12 tyX12 tyX12_ok nmX12 hown hK hP hD hS 0 rfl rfl 6 (by decide) (hg _ wt5_166) (fun _ h9 => h9) rfl (by decide +kernel) rfl rfl (Nat.le_of_ble_eq_true rfl) dX12_row_173 (fun H locs hP hD hS => ?_)
                      have hP : va_P D vwCl (mW K o r (upd F105 6 t167) B106 G107) H := hP
                      have hD : va_D A (mW K o r (upd F105 6 t167) B106 G107) := hD
                      refine k_gen (P := fun z => va_P D vwCl (mW K o r z B106 G107) H ∧ va_D A (mW K o r z B106 G107) ∧ (mI z B106) ∧ (mF (XR [(0, 63), (102, 103)]) f a z B106) ∧ (mZ [0, 6, 13, 33] [1, 2] f a z B106) ∧ (z 13 = 0) ∧ (z 14 = f 14)) (upd F105 6 t167) ⟨hP, hD, (mI_f hI (fI_st hI.1 6 (kb_any _) (by decide) (by decide))), (mF_f hE), (mZ_f hZ rfl), ((pk_un (by decide)).trans hk0), ((pk_un (by decide)).trans hk1)⟩ (fun f_169 ef_169 hq => ?_)
                      obtain ⟨hP, hD, hI, hE, hZ, hk0, hk1⟩ := hq
                      obtain ⟨t170, et170⟩ : ∃ z : Int32, z = y103 + Int32.ofInt 4 := ⟨_, rfl⟩
                      have b171 : kb 4 t170 400 := kb_eq et170 (kb_add b129 (kb_ofInt 4 (by decide)) (by decide) (by decide))
                      have qt170 : t170.toInt = y103.toInt + 4 := by rw [et170]; exact km_add b129 (by decide) (by decide) (by decide)
                      refine lv_iinc (v := t170) (lv' := [(3, .int t170), (2, .int t164), (5, .int 0), (4, .int t133), (1, .int c13_f), (0, .ref o)]) hx hb dX12_row_176 hl (k := 3) rfl et170.symm (by decide) rfl (fun ls hl => ?_)
                      refine lv_goto (tgt := 40) hx hb dX12_row_179 (by decide) ?_
                      exact ihlp108 (k + 1) mm f_169 B106 G107 _ _ _ t170 t164 (by omega) hI hE hZ hk0 hk1 (kb_w b171 (by decide) (by decide)) (⟨mm, hvlp108_0, Or.inr ⟨fun q => (hw157.2.2.2 c160) (by have w1 := hvlp108_4; have w5 := (b129).1; have j0 : y103.toNatClampNeg = 4 * k := (by unfold Int32.toNatClampNeg; omega); have j1 : t130.toNatClampNeg = 4 * k + 1 := (by unfold Int32.toNatClampNeg; omega); have j2 : t151.toNatClampNeg = 4 * k + 2 := (by unfold Int32.toNatClampNeg; omega); have j3 : t154.toNatClampNeg = 4 * k + 3 := (by unfold Int32.toNatClampNeg; omega); have jn : cB = nI mm := Int32.toInt_inj.mp (by rw [nI_toInt (by have w2 := hvlp108_5; omega)]; exact hcB); rw [et150, et133, et132, et153, et156, hvlp108_6, j0, j1, j2, j3, ← ecB, jn]; exact q.2), rfl⟩⟩) (hvlp108_1) ((by have e1 := congrArg Int32.toInt ((show f_169 6 = t167 from by rw [← ef_169]; rfl)); have w1 := hc6; omega)) (by omega) (by omega) (⟨by have w1 := hvlp108_4; have w2 := (b129).2; omega, by have w1 := hvlp108_5; omega, by have w1 := hvlp108_5; omega, by have w1 := hvlp108_4; have w3 := hrle; omega⟩) (hvlp108_6) (⟨B106 2, hvlp108_7, Or.inr ⟨fun q => (hw157.2.2.2 c160) (by rw [show (B106 2 102).toInt.toNat = mm from by have w1 := hvlp108_1; omega] at q; have w1 := hvlp108_4; have w5 := (b129).1; have j0 : y103.toNatClampNeg = 4 * k := (by unfold Int32.toNatClampNeg; omega); have j1 : t130.toNatClampNeg = 4 * k + 1 := (by unfold Int32.toNatClampNeg; omega); have j2 : t151.toNatClampNeg = 4 * k + 2 := (by unfold Int32.toNatClampNeg; omega); have j3 : t154.toNatClampNeg = 4 * k + 3 := (by unfold Int32.toNatClampNeg; omega); have jn : cB = nI mm := Int32.toInt_inj.mp (by rw [nI_toInt (by have w2 := hvlp108_5; omega)]; exact hcB); rw [et150, et133, et132, et153, et156, hvlp108_6, j0, j1, j2, j3, ← ecB, jn]; exact q.2), rfl⟩⟩) (((rfl).trans hvlp108_8)) hP hD hS (lv_sub hl [0, 1, 4, 5] rfl)
                    · exact kb_nsame c166 kc_0 kc_0
                  · exact kb_nsame c163 kc_0 kc_0
                · exact kb_nsame c162 kc_0 kc_0
              · have b172 : kb 1 v158 1 := kr_nel c160 hw157.1 kc_0 (by decide)
                have h173 := hw157.2.1 c160
                have b174 : kb 1 t150 99 := kb_of2 h173
                refine lv_iconst (v := 1) hx hb dX12_row_104 (by decide) ?_
                refine lv_goto (tgt := 109) hx hb dX12_row_105 (by decide) ?_
                refine lv_istore (lv' := [(5, .int 1), (4, .int t133), (3, .int y103), (2, .int y104), (1, .int c13_f), (0, .ref o)]) hx hb dX12_row_109 hl (by decide) rfl (fun ls hl => ?_)
                refine lv_iload hx hb dX12_row_111 (lv_at hl 0 rfl) ?_
                refine lv_if_eq (tgt := 144) hx hb dX12_row_113 (by decide) (fun c175 => ?_) (fun c175 => ?_)
                · exact kb_dj c175 kc_1 kc_0 (by decide)
                · refine lv_aload_n hx hb dX12_row_116 rfl (lv_at hl 5 rfl) ?_
                  refine lv_aload_n hx hb dX12_row_117 rfl (lv_at hl 5 rfl) ?_
                  refine va_get (D := D) (ci := 12) (v := .ref (r 11)) (C := RX12) (T := TX12) (N := 48) hx hb hg inC12 hown hK hP 0 rfl rfl 11 (by decide) (hg _ wt5_171) (fun _ h9 => h9) rfl dX12_row_118 ?_
                  refine lv_iload_n hx hb dX12_row_121 rfl (lv_at hl 2 rfl) ?_
                  refine va_bald hx hb hK hP 7 1 rfl rfl (kb_in b129 (by decide) (by decide)) dX12_row_122 ?_
                  refine k_top (z := t150) et150.symm ?_
                  refine lv_iload hx hb dX12_row_123 (lv_at hl 1 rfl) ?_
                  refine lv_aload_n hx hb dX12_row_125 rfl (lv_at hl 5 rfl) ?_
                  refine va_get (D := D) (ci := 12) (v := .ref (r 11)) (C := RX12) (T := TX12) (N := 48) hx hb hg inC12 hown hK hP 0 rfl rfl 11 (by decide) (hg _ wt5_171) (fun _ h9 => h9) rfl dX12_row_126 ?_
                  refine lv_iload_n hx hb dX12_row_129 rfl (lv_at hl 2 rfl) ?_
                  refine lv_iconst (v := 2) hx hb dX12_row_130 (by decide) ?_
                  refine lv_iadd hx hb dX12_row_131 ?_
                  refine k_top (z := t151) et151.symm ?_
                  refine va_bald hx hb hK hP 7 1 rfl rfl (kb_in b152 (by decide) (by decide)) dX12_row_132 ?_
                  refine k_top (z := t153) et153.symm ?_
                  refine lv_aload_n hx hb dX12_row_133 rfl (lv_at hl 5 rfl) ?_
                  refine va_get (D := D) (ci := 12) (v := .ref (r 11)) (C := RX12) (T := TX12) (N := 48) hx hb hg inC12 hown hK hP 0 rfl rfl 11 (by decide) (hg _ wt5_171) (fun _ h9 => h9) rfl dX12_row_134 ?_
                  refine lv_iload_n hx hb dX12_row_137 rfl (lv_at hl 2 rfl) ?_
                  refine lv_iconst (v := 3) hx hb dX12_row_138 (by decide) ?_
                  refine lv_iadd hx hb dX12_row_139 ?_
                  refine k_top (z := t154) et154.symm ?_
                  refine va_bald hx hb hK hP 7 1 rfl rfl (kb_in b155 (by decide) (by decide)) dX12_row_140 ?_
                  refine k_top (z := t156) et156.symm ?_
                  refine kV.callV (As := [.int t150, .int t133, .int t153, .int t156]) (rest := []) ⟨hx, hb, hml, hown, hg⟩ (n_addsPart l o r F105 B106 G107 hI t150 t133 t153 t156 b174 (kb_eq ecB.symm b149)) (cwV 4 hg (kgV wt6_96 wt6_98 wp3_9 wt1_14 wt6_99) rfl rfl rfl (by decide +kernel) ⟨by decide, by decide⟩) hK hP hD hS hA mIs [] rfl (wr := []) rfl rfl rfl (fun i h => by cases h) 0 12 rfl rfl rfl hl.1 rfl (Nat.le_of_ble_eq_true rfl) dX12_row_141 ⟨Nat.le_refl _, Nat.le_refl _⟩ (fun u178 H locs hw176 hP hD hS => ?_)
                  obtain ⟨f179, a180, g181⟩ := u178
                  have hP : va_P D vwCl (mW K o r f179 a180 g181) H := hP
                  have hD : va_D A (mW K o r f179 a180 g181) := hD
                  have hI : mI f179 a180 := hw176.1
                  have hE : mF (XR [(0, 63), (102, 103)]) f a f179 a180 := mF_tr hE (mF_of hw176.2.1)
                  have eE182 : mE (XR [(0, 63), (102, 103)]) F105 B106 f179 a180 := hw176.2.1
                  have eZ183 : mZ [] [2] F105 B106 f179 a180 := hw176.2.2.2.2
                  have hZ : mZ [0, 6, 13, 33] [1, 2] f a f179 a180 := mZ_tr hZ (mZ_w (by decide) (by decide) eZ183)
                  have hk0 : f179 13 = 0 := (eE182.1 13 rfl).trans hk0
                  have hk1 : f179 14 = f 14 := (eE182.1 14 rfl).trans hk1
                  refine lv_iload_n hx hb dX12_row_144 rfl (lv_at hl 3 rfl) ?_
                  refine lv_iload hx hb dX12_row_145 (lv_at hl 0 rfl) ?_
                  refine lv_if_eq (tgt := 154) hx hb dX12_row_147 (by decide) (fun c184 => ?_) (fun c184 => ?_)
                  · exact kb_dj c184 kc_1 kc_0 (by decide)
                  · refine lv_iconst (v := 1) hx hb dX12_row_150 (by decide) ?_
                    refine lv_goto (tgt := 155) hx hb dX12_row_151 (by decide) ?_
                    refine lv_iadd hx hb dX12_row_155 ?_
                    refine lv_topi (fun t185 et185 => ?_)
                    have b186 : kb 1 t185 11 := kb_eq et185 (kb_add b113 kc_1 (by decide) (by decide))
                    have qt185 : t185.toInt = y104.toInt + 1 := by rw [et185]; exact kt_addc b113 kc_1 (by decide) (by decide)
                    refine lv_istore_n (lv' := [(2, .int t185), (5, .int 1), (4, .int t133), (3, .int y103), (1, .int c13_f), (0, .ref o)]) hx hb dX12_row_156 rfl hl (by decide) rfl (fun ls hl => ?_)
                    refine lv_aload_n hx hb dX12_row_157 rfl (lv_at hl 5 rfl) ?_
                    refine lv_dup hx hb dX12_row_158 rfl ?_
                    refine va_get (D := D) (ci := 12) (v := .int (f179 6)) (C := RX12) (T := TX12) (N := 48) hx hb hg inC12 hown hK hP 0 rfl rfl 6 (by decide) (hg _ wt5_166) (fun _ h9 => h9) rfl dX12_row_159 ?_
                    refine k_top (z := c6) ((eZ183.1 6 rfl).trans ec6.symm) ?_
                    refine lv_iload hx hb dX12_row_162 (lv_at hl 1 rfl) ?_
                    refine lv_if_eq (tgt := 171) hx hb dX12_row_164 (by decide) (fun c187 => ?_) (fun c187 => ?_)
                    · exact kb_dj c187 kc_1 kc_0 (by decide)
                    · refine lv_iconst (v := 0) hx hb dX12_row_167 (by decide) ?_
                      refine lv_goto (tgt := 172) hx hb dX12_row_168 (by decide) ?_
                      refine lv_iadd hx hb dX12_row_172 ?_
                      refine lv_topi (fun t188 et188 => ?_)
                      have b189 : kb (-20) t188 300 := kb_eq et188 (kb_add b111 kc_0 (by decide) (by decide))
                      have qt188 : t188.toInt = c6.toInt + 0 := by rw [et188]; exact kt_addc b111 kc_0 (by decide) (by decide)
                      refine va_put (D := D) (ci := 12) (v := .int t188) (ty := .int) (C := RX12) (T := TX12) (N := 48) hx hb hg inC12 tyX12 tyX12_ok nmX12 hown hK hP hD hS 0 rfl rfl 6 (by decide) (hg _ wt5_166) (fun _ h9 => h9) rfl (by decide +kernel) rfl rfl (Nat.le_of_ble_eq_true rfl) dX12_row_173 (fun H locs hP hD hS => ?_)
                      have hP : va_P D vwCl (mW K o r (upd f179 6 t188) a180 g181) H := hP
                      have hD : va_D A (mW K o r (upd f179 6 t188) a180 g181) := hD
                      refine k_gen (P := fun z => va_P D vwCl (mW K o r z a180 g181) H ∧ va_D A (mW K o r z a180 g181) ∧ (mI z a180) ∧ (mF (XR [(0, 63), (102, 103)]) f a z a180) ∧ (mZ [0, 6, 13, 33] [1, 2] f a z a180) ∧ (z 13 = 0) ∧ (z 14 = f 14)) (upd f179 6 t188) ⟨hP, hD, (mI_f hI (fI_st hI.1 6 (kb_any _) (by decide) (by decide))), (mF_f hE), (mZ_f hZ rfl), ((pk_un (by decide)).trans hk0), ((pk_un (by decide)).trans hk1)⟩ (fun f_190 ef_190 hq => ?_)
                      obtain ⟨hP, hD, hI, hE, hZ, hk0, hk1⟩ := hq
                      obtain ⟨t191, et191⟩ : ∃ z : Int32, z = y103 + Int32.ofInt 4 := ⟨_, rfl⟩
                      have b192 : kb 4 t191 400 := kb_eq et191 (kb_add b129 (kb_ofInt 4 (by decide)) (by decide) (by decide))
                      have qt191 : t191.toInt = y103.toInt + 4 := by rw [et191]; exact km_add b129 (by decide) (by decide) (by decide)
                      refine lv_iinc (v := t191) (lv' := [(3, .int t191), (2, .int t185), (5, .int 1), (4, .int t133), (1, .int c13_f), (0, .ref o)]) hx hb dX12_row_176 hl (k := 3) rfl et191.symm (by decide) rfl (fun ls hl => ?_)
                      refine lv_goto (tgt := 40) hx hb dX12_row_179 (by decide) ?_
                      exact ihlp108 (k + 1) (mm + 1) f_190 a180 g181 _ _ _ t191 t185 (by omega) hI hE hZ hk0 hk1 (kb_w b192 (by decide) (by decide)) (⟨mm, hvlp108_0, Or.inl ⟨⟨by have w1 := (b149).2; omega, (by have w1 := hvlp108_4; have w5 := (b129).1; have j0 : y103.toNatClampNeg = 4 * k := (by unfold Int32.toNatClampNeg; omega); have j1 : t130.toNatClampNeg = 4 * k + 1 := (by unfold Int32.toNatClampNeg; omega); have j2 : t151.toNatClampNeg = 4 * k + 2 := (by unfold Int32.toNatClampNeg; omega); have j3 : t154.toNatClampNeg = 4 * k + 3 := (by unfold Int32.toNatClampNeg; omega); have jn : cB = nI mm := Int32.toInt_inj.mp (by rw [nI_toInt (by have w2 := hvlp108_5; omega)]; exact hcB); have h := hw157.2.2.1 c160; rw [et150, et133, et132, et153, et156, hvlp108_6, j0, j1, j2, j3, ← ecB, jn] at h; exact h)⟩, rfl⟩⟩) ((by have w1 := hvlp108_1; have w2 := (show (a180 2 102).toInt = (B106 2 102).toInt + 1 from hw176.2.2.1); omega)) ((by have e1 := congrArg Int32.toInt ((show f_190 6 = t188 from by rw [← ef_190]; rfl)); have w1 := hc6; omega)) (by omega) (by omega) (⟨by have w1 := hvlp108_4; have w2 := (b129).2; omega, by have w1 := hvlp108_5; omega, by have w1 := hvlp108_5; have w2 := (b149).2; omega, by have w1 := hvlp108_4; have w3 := hrle; omega⟩) ((eE182.2.1.trans hvlp108_6)) (⟨B106 2, hvlp108_7, Or.inl ⟨by rw [show (B106 2 102).toInt.toNat = mm from by have w1 := hvlp108_1; omega]; exact ⟨by have w1 := (b149).2; omega, (by have w1 := hvlp108_4; have w5 := (b129).1; have j0 : y103.toNatClampNeg = 4 * k := (by unfold Int32.toNatClampNeg; omega); have j1 : t130.toNatClampNeg = 4 * k + 1 := (by unfold Int32.toNatClampNeg; omega); have j2 : t151.toNatClampNeg = 4 * k + 2 := (by unfold Int32.toNatClampNeg; omega); have j3 : t154.toNatClampNeg = 4 * k + 3 := (by unfold Int32.toNatClampNeg; omega); have jn : cB = nI mm := Int32.toInt_inj.mp (by rw [nI_toInt (by have w2 := hvlp108_5; omega)]; exact hcB); have h := hw157.2.2.1 c160; rw [et150, et133, et132, et153, et156, hvlp108_6, j0, j1, j2, j3, ← ecB, jn] at h; exact h)⟩, (rfl).trans (by have w1 := hvlp108_4; have w5 := (b129).1; have j0 : y103.toNatClampNeg = 4 * k := (by unfold Int32.toNatClampNeg; omega); have j1 : t130.toNatClampNeg = 4 * k + 1 := (by unfold Int32.toNatClampNeg; omega); have j2 : t151.toNatClampNeg = 4 * k + 2 := (by unfold Int32.toNatClampNeg; omega); have j3 : t154.toNatClampNeg = 4 * k + 3 := (by unfold Int32.toNatClampNeg; omega); have jn : cB = nI mm := Int32.toInt_inj.mp (by rw [nI_toInt (by have w2 := hvlp108_5; omega)]; exact hcB); have h := hw176.2.2.2.1; rw [et150, et133, et132, et153, et156, hvlp108_6, j0, j1, j2, j3] at h; exact h)⟩⟩) ((((eZ183.2 1 rfl)).trans hvlp108_8)) hP hD hS (lv_sub hl [0, 1, 4, 5] rfl)
      exact lp108 (101) 0 N0 f_102 a g _ _ _ 0 0 (by omega) hI hE hZ hk0 hk1 (kb_w kc_0 (by decide) (by decide)) ((rfl : N0 = N0)) ((by rw [ec2_102.symm]; omega)) ((by have e1 := congrArg Int32.toInt ((show f_102 6 = 0 from by rw [← ef_102]; rfl)); have q1 := congrArg Int32.toInt c8; have z0 : (0 : Int32).toInt = 0 := (by decide +kernel); omega)) ((by have z0 : (0 : Int32).toInt = 0 := (by decide +kernel); omega)) ((by have z0 : (0 : Int32).toInt = 0 := (by decide +kernel); omega)) (⟨by omega, by omega, by have w1 := (b2).2; omega, by omega⟩) ((by rfl)) ((show a 2 = a 2 from rfl)) (rfl) hP hD hS (lv_sub hl [0, 1, 2, 3] rfl)
  · have b193 : kb 0 c13_f 0 := kb_eq c4 kc_0
    refine lv_aload_n hx hb dX12_row_14 rfl (lv_at hl 1 rfl) ?_
    refine lv_bipush (v := (-6)) hx hb dX12_row_15 (by decide) ?_
    refine kI.callV (As := [.int (-6)]) (rest := []) ⟨hx, hb, hml, hown, hg⟩ (n_refuses l o r f_3 a g hI (-6) (kb_w kc_m6 (by decide) (by decide)) ) (cwV 1 hg (kgV wt6_72 wt6_74 wp3_5 wt1_14 wt6_75) rfl rfl rfl (by decide +kernel) ⟨by decide, by decide⟩) hK hP hD hS hA mIs [] rfl (wr := []) rfl rfl rfl (fun i h => by cases h) 0 12 rfl rfl rfl hl.1 rfl (Nat.le_of_ble_eq_true rfl) dX12_row_17 ⟨Nat.le_refl _, Nat.le_refl _⟩ (fun v195 u196 H locs hw194 hP hD hS => ?_)
    obtain ⟨f197, a198, g199⟩ := u196
    have hP : va_P D vwCl (mW K o r f197 a198 g199) H := hP
    have hD : va_D A (mW K o r f197 a198 g199) := hD
    have hI : mI f197 a198 := hw194.2.1
    have hE : mF (XR [(0, 63), (102, 103)]) f a f197 a198 := mF_tr hE (mF_w (XR_w (by decide)) (mF_of hw194.2.2.1))
    have eE200 : mE (XR []) f_3 a f197 a198 := hw194.2.2.1
    have eZ201 : mZ [0] [1] f_3 a f197 a198 := hw194.2.2.2.2.2.2
    have hZ : mZ [0, 6, 13, 33] [1, 2] f a f197 a198 := mZ_tr hZ (mZ_w (by decide) (by decide) eZ201)
    have hk0 : f197 13 = 0 := (eE200.1 13 rfl).trans hk0
    have hk1 : f197 14 = f 14 := (eE200.1 14 rfl).trans hk1
    refine k_top (z := (-6)) hw194.2.2.2.1 ?_
    exact kI_ret (v := (-6)) hx hb hr hlocks rfl hK hS dX12_row_20 (f197, a198, g199) hP hD ⟨(kb_w kc_m6 (by decide) (by decide)), hI, hE, hk0, (Or.inl ⟨ec13_f.symm.trans c4, rfl, ((((congrFun (eZ201.2 2 rfl) 102).trans ec2_102.symm)).trans ec2_102), ((((eZ201.1 6 rfl).trans ((show f_3 6 = f 6 from by rw [← ef_3]; rfl).trans ec6_f.symm))).trans ec6_f)⟩), (eE200.2.1), hk1, (Or.inl ⟨rfl, hw194.2.2.2.2.1, hw194.2.2.2.2.2.1.trans (by rw [show (-6 : Int32).toInt = -6 from by decide +kernel, show a 1 = a 1 from rfl]), (eZ201.2 2 rfl), (by (try dsimp only); rw [show f197 33 = f 33 from ((eZ201.1 33 rfl).trans (show f_3 33 = f 33 from by rw [← ef_3]; rfl)), show a198 31 = a 31 from (eZ201.2 31 rfl)]; exact hp0)⟩), hZ⟩
