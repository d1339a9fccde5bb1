theorem pS_kb {k O : Nat → Int32} {N m s q : Nat} {x : Int32} (hN : N ≤ 10) (h : oDn k N O m) (hm : m ≤ s + 1) (hs : s + 1 < 2 ^ N) (hq : q ≤ N) (e : x.toInt = pSr k O s q) : kb 0 x 3628800 := by
  have hp := p2 hN
  have hb := pS_bd hN h hm (by omega) q hq
  have hmn := pB_mono s q (10 - q)
  rw [show q + (10 - q) = 10 by omega] at hmn
  have hk : pB s 10 ≤ oB s := chkB ⟨s, by omega⟩
  have hf : oB s ≤ 3628800 := (chkF ⟨s, by omega⟩).1
  exact ⟨by rw [e]; exact hb.1, by rw [e]; omega⟩
set_option maxHeartbeats 4000000 in
set_option maxRecDepth 100000 in
theorem m2_laysOrders  (l : Launch) {D : va_G} {K : Nat → ClassId} (o : Nat) (r : Nat → Nat) (f : Nat → Int32) (a : Nat → Nat → Int32) (g : Nat → Int64) (hI : mI f a)     : kV l yX12_laysOrders (Cond.code yX12_laysOrders cX12_laysOrders 5 none :: kG) (rmD 3 0 0) D (tysK K) [.ref o] (mW K o r f a g) (fun (u : mS) => mI u.1 u.2.1 ∧ mE (XR []) f a u.1 u.2.1 ∧ oDn (a 2) (a 2 102).toInt.toNat (u.2.1 35) 0 ∧ mZ [] [35] f a u.1 u.2.1) (fun u => mW K o r u.1 u.2.1 u.2.2) 0 0 := by
  refine kV.of (cc := cX12_laysOrders) (maxL := 5) (ret := none) (by decide) rfl (Nat.le_of_ble_eq_true rfl) ?_
  intro p e s m below meth c A hx hb hr hml hown hts hlocks hnm hK hP hD hS hA ls hl
  have hE : mE (XR []) f a f a := mE_rf
  have hZ : mZ [] [35] f a f a := mZ_rf
  have hg : ∀ w ∈ kG, w.before _ s = true := fun w h => hts w (List.mem_cons_of_mem _ h)
  have hown : s.vm.findClass RX12 = some m.cls := hown
  have hl : lv_has ls 5 [(0, .ref o)] := hl
  obtain ⟨cN, ecN⟩ : ∃ z : Int32, z = a 2 102 := ⟨_, rfl⟩
  have b1 : kb 0 cN 10 := kb_eq ecN (aI_at hI.2.1 2 102 (by decide) (by decide))
  obtain ⟨N, hN⟩ : ∃ N : Nat, (N : Int) = cN.toInt := ⟨cN.toInt.toNat, by have w1 := (b1).1; omega⟩
  have hN10 : N ≤ 10 := by have w1 := (b1).2; omega
  have hp2 := p2 hN10
  refine lv_aload_n hx hb dX12_laysOrders_0 rfl (lv_at hl 0 rfl) ?_
  refine kI.callV (As := []) (rest := []) ⟨hx, hb, hml, hown, hg⟩ (m2_allParts l o r f a g hI   ) (cwV 0 hg (kgV wt7_187 wt7_189 wp7_1 wt1_14 wt7_190) rfl rfl rfl (by decide +kernel) ⟨by decide, by decide⟩) hK hP hD hS hA mIs [] rfl (wr := []) rfl rfl rfl (fun i h => by cases h) 0 12 rfl rfl rfl hl.1 rfl (Nat.le_of_ble_eq_true rfl) dX12_laysOrders_1 ⟨Nat.le_refl _, Nat.le_refl _⟩ (fun v3 u4 H locs hw2 hP hD hS => ?_)
  have hP : va_P D vwCl (mW K o r f a g) H := hP
  have hD : va_D A (mW K o r f a g) := hD
  refine lv_istore_n (lv' := [(1, .int v3), (0, .ref o)]) hx hb dX12_laysOrders_4 rfl hl (by decide) rfl (fun ls hl => ?_)
  refine lv_aload_n hx hb dX12_laysOrders_5 rfl (lv_at hl 1 rfl) ?_
  refine va_get (D := D) (ci := 12) (v := .ref (r 35)) (C := RX12) (T := TX12) (N := 48) hx hb hg inC12 hown hK hP 0 rfl rfl 35 (by decide) (hg _ wt5_195) (fun _ h9 => h9) rfl dX12_laysOrders_6 ?_
  refine lv_iload_n hx hb dX12_laysOrders_9 rfl (lv_at hl 0 rfl) ?_
  refine lv_iconst (v := 1) hx hb dX12_laysOrders_10 (by decide) ?_
  refine va_iast hx hb hK hP hD hS 18 0 rfl rfl (kb_in hw2.1 (by decide) (by decide)) dX12_laysOrders_11 (fun H locs hP hD hS => ?_)
  have hP : va_P D vwCl (mW K o r f (va_up a 35 (upd (a 35) v3.toNatClampNeg 1)) g) H := hP
  have hD : va_D A (mW K o r f (va_up a 35 (upd (a 35) v3.toNatClampNeg 1)) g) := hD
  refine k_gen (P := fun z => va_P D vwCl (mW K o r f z g) H ∧ va_D A (mW K o r f z g) ∧ (mI f z) ∧ (mE (XR []) f a f z) ∧ (mZ [] [35] f a f z)) (va_up a 35 (upd (a 35) v3.toNatClampNeg 1)) ⟨hP, hD, (mI_s hI (aI_free hI.2.1 35 _ (fun j => ⟨by show (mBa 35 j).1 ≤ _; exact Int.le_refl _, by show _ ≤ (mBa 35 j).2; exact Int.le_refl _⟩)) (by decide) (by decide)), (mE_s hE (by decide) (by decide) (by decide) (by decide)), (mZ_a hZ rfl)⟩ (fun a_5 ea_5 hq => ?_)
  obtain ⟨hP, hD, hI, hE, hZ⟩ := hq
  have hNN : (a 2 102).toInt.toNat = N := by rw [← ecN]; omega
  have hall : v3.toInt = ((2 ^ N - 1 : Nat) : Int) := by rw [← hNN]; exact hw2.2
  have hO0 : oDn (a 2) N (a_5 35) (2 ^ N - 1) := by refine oDn_0 hN10 ?_; rw [← ea_5]; have w1 : v3.toNatClampNeg = 2 ^ N - 1 := (by unfold Int32.toNatClampNeg; omega); show upd (a 35) v3.toNatClampNeg 1 (2 ^ N - 1) = 1; rw [w1]; exact pk_us
  have hK2 : a_5 2 = a 2 := mE_all hE
  refine lv_iload_n hx hb dX12_laysOrders_12 rfl (lv_at hl 0 rfl) ?_
  refine lv_iconst (v := 1) hx hb dX12_laysOrders_13 (by decide) ?_
  refine lv_isub hx hb dX12_laysOrders_14 ?_
  refine lv_topi (fun t6 et6 => ?_)
  have b7 : kb (-1) t6 1022 := kb_eq et6 (kb_sub hw2.1 kc_1 (by decide) (by decide))
  have qt6 : t6.toInt = v3.toInt - 1 := by rw [et6]; exact kt_subc hw2.1 kc_1 (by decide) (by decide)
  refine lv_istore_n (lv' := [(2, .int t6), (1, .int v3), (0, .ref o)]) hx hb dX12_laysOrders_15 rfl hl (by decide) rfl (fun ls hl => ?_)
  have lp10 : ∀ (n11 : Nat) (mz : Nat) (B9 : Nat → Nat → Int32) (H : Heap) (locs : List Loc) (ls : Array Slot) (y8 : Int32), ((mz : Int) < (n11 : Int)) → (mI f B9) → (mE (XR []) f a f B9) → (mZ [] [35] f a f B9) → (kb (-1) y8 1022) → (y8.toInt = (mz : Int) - 1) → (oDn (a 2) N (B9 35) mz) → (mz ≤ 2 ^ N - 1) → (B9 2 = a 2) → va_P D vwCl (mW K o r f B9 g) H → va_D A (mW K o r f B9 g) → va_S A s.heap H locs → lv_has ls 5 [(2, .int y8), (1, .int v3), (0, .ref o)] → W p l e (rmD 3 0 0) s m ([.ref o] : List Value).toArray below meth c H locs 0 0 (kQv D (tysK K) (fun (u : mS) => mI u.1 u.2.1 ∧ mE (XR []) f a u.1 u.2.1 ∧ oDn (a 2) (a 2 102).toInt.toNat (u.2.1 35) 0 ∧ mZ [] [35] f a u.1 u.2.1) (fun u => mW K o r u.1 u.2.1 u.2.2) A below ([.ref o] : List Value).toArray s 0 0) (F0 m 16 ls []) := by
    intro n11
    induction n11 with
    | zero =>
      intro mz B9  H locs ls y8 hmlp10 hI hE hZ b12 hvlp10_0 hvlp10_1 hvlp10_2 hvlp10_3 hP hD hS hl
      exact (by have w1 := hmlp10; omega : False).elim
    | succ n11 ihlp10 =>
      intro mz B9  H locs ls y8 hmlp10 hI hE hZ b12 hvlp10_0 hvlp10_1 hvlp10_2 hvlp10_3 hP hD hS hl
      have hK2 := hvlp10_3
      refine lv_iload_n hx hb dX12_laysOrders_16 rfl (lv_at hl 0 rfl) ?_
      refine lv_if_lt (tgt := 84) hx hb dX12_laysOrders_17 (by decide) (fun c13 => ?_) (fun c13 => ?_)
      · have h14 := (kc_lt c13)
        have b15 : kb (-1) y8 (-1) := kr_lt1 h14 b12 kc_0 (by decide)
        exact kV_ret hx hb hr hlocks hK hS dX12_laysOrders_84 (f, B9, g) hP hD ⟨hI, hE, (by rw [← ecN]; have w1 : mz = 0 := (by have w2 := hvlp10_0; have w3 := (b15); unfold kb at w3; omega); have w4 := hvlp10_1; rw [w1] at w4; rw [show cN.toInt.toNat = N by omega]; exact w4), hZ⟩
      · have h16 := (kc_nlt c13)
        have b17 : kb 0 y8 1022 := kr_le2 h16 kc_0 b12
        have hm1 : 1 ≤ mz := by have w1 := (b17).1; have w2 := hvlp10_0; omega
        have hms : y8.toInt = ((mz - 1 : Nat) : Int) := by have w2 := hvlp10_0; omega
        refine lv_iconst (v := 0) hx hb dX12_laysOrders_20 (by decide) ?_
        refine lv_istore_n (lv' := [(3, .int 0), (2, .int y8), (1, .int v3), (0, .ref o)]) hx hb dX12_laysOrders_21 rfl hl (by decide) rfl (fun ls hl => ?_)
        refine lv_iconst (v := 0) hx hb dX12_laysOrders_22 (by decide) ?_
        refine lv_istore (lv' := [(4, .int 0), (3, .int 0), (2, .int y8), (1, .int v3), (0, .ref o)]) hx hb dX12_laysOrders_23 hl (by decide) rfl (fun ls hl => ?_)
        have lp20 : ∀ (n21 : Nat) (q : Nat) (H : Heap) (locs : List Loc) (ls : Array Slot) (y18 : Int32) (y19 : Int32), ((N : Int) < (q : Int) + (n21 : Int)) → (kb 0 y18 10) → (kb 0 y19 3628800) → (y19.toInt = pSr (a 2) (B9 35) (mz - 1) q) → (y18.toInt = (q : Int)) → (q ≤ N) → va_P D vwCl (mW K o r f B9 g) H → va_D A (mW K o r f B9 g) → va_S A s.heap H locs → lv_has ls 5 [(4, .int y18), (3, .int y19), (2, .int y8), (1, .int v3), (0, .ref o)] → W p l e (rmD 3 0 0) s m ([.ref o] : List Value).toArray below meth c H locs 0 0 (kQv D (tysK K) (fun (u : mS) => mI u.1 u.2.1 ∧ mE (XR []) f a u.1 u.2.1 ∧ oDn (a 2) (a 2 102).toInt.toNat (u.2.1 35) 0 ∧ mZ [] [35] f a u.1 u.2.1) (fun u => mW K o r u.1 u.2.1 u.2.2) A below ([.ref o] : List Value).toArray s 0 0) (F0 m 25 ls []) := by
          intro n21
          induction n21 with
          | zero =>
            intro q  H locs ls y18 y19 hmlp20 b22 b23 hvlp20_0 hvlp20_1 hvlp20_2 hP hD hS hl
            exact (by have w1 := hmlp20; have w2 := hvlp20_2; omega : False).elim
          | succ n21 ihlp20 =>
            intro q  H locs ls y18 y19 hmlp20 b22 b23 hvlp20_0 hvlp20_1 hvlp20_2 hP hD hS hl
            refine lv_iload hx hb dX12_laysOrders_25 (lv_at hl 0 rfl) ?_
            refine lv_aload_n hx hb dX12_laysOrders_27 rfl (lv_at hl 4 rfl) ?_
            refine va_get (D := D) (ci := 12) (v := .ref (r 2)) (C := RX12) (T := TX12) (N := 48) hx hb hg inC12 hown hK hP 0 rfl rfl 2 (by decide) (hg _ wt5_162) (fun _ h9 => h9) rfl dX12_laysOrders_28 ?_
            refine lv_bipush (v := 102) hx hb dX12_laysOrders_31 (by decide) ?_
            refine va_iald hx hb hK hP 2 0 rfl rfl (kb_in kc_102 (by decide) (by decide)) dX12_laysOrders_33 ?_
            refine k_top (z := cN) (by rw [cl_102]; exact ((congrFun hK2 102).trans ecN.symm)) ?_
            refine lv_icmp_ge (tgt := 71) hx hb dX12_laysOrders_34 (by decide) (fun c24 => ?_) (fun c24 => ?_)
            · have h25 := (kc_le c24)
              have hqN : q = N := by have w1 := hvlp20_1; have w2 := hvlp20_2; omega
              have hin0 := hvlp20_0
              refine lv_aload_n hx hb dX12_laysOrders_71 rfl (lv_at hl 4 rfl) ?_
              refine va_get (D := D) (ci := 12) (v := .ref (r 35)) (C := RX12) (T := TX12) (N := 48) hx hb hg inC12 hown hK hP 0 rfl rfl 35 (by decide) (hg _ wt5_195) (fun _ h9 => h9) rfl dX12_laysOrders_72 ?_
              refine lv_iload_n hx hb dX12_laysOrders_75 rfl (lv_at hl 2 rfl) ?_
              refine lv_iload_n hx hb dX12_laysOrders_76 rfl (lv_at hl 1 rfl) ?_
              refine va_iast hx hb hK hP hD hS 18 0 rfl rfl (kb_in b17 (by decide) (by decide)) dX12_laysOrders_77 (fun H locs hP hD hS => ?_)
              have hP : va_P D vwCl (mW K o r f (va_up B9 35 (upd (B9 35) y8.toNatClampNeg y19)) g) H := hP
              have hD : va_D A (mW K o r f (va_up B9 35 (upd (B9 35) y8.toNatClampNeg y19)) g) := hD
              refine k_gen (P := fun z => va_P D vwCl (mW K o r f z g) H ∧ va_D A (mW K o r f z g) ∧ (mI f z) ∧ (mE (XR []) f a f z) ∧ (mZ [] [35] f a f z)) (va_up B9 35 (upd (B9 35) y8.toNatClampNeg y19)) ⟨hP, hD, (mI_s hI (aI_free hI.2.1 35 _ (fun j => ⟨by show (mBa 35 j).1 ≤ _; exact Int.le_refl _, by show _ ≤ (mBa 35 j).2; exact Int.le_refl _⟩)) (by decide) (by decide)), (mE_s hE (by decide) (by decide) (by decide) (by decide)), (mZ_a hZ rfl)⟩ (fun a_26 ea_26 hq => ?_)
              obtain ⟨hP, hD, hI, hE, hZ⟩ := hq
              obtain ⟨t27, et27⟩ : ∃ z : Int32, z = y8 + Int32.ofInt (-1) := ⟨_, rfl⟩
              have qt27 : t27.toInt = y8.toInt - 1 := by rw [et27]; exact km_dec b17 (by decide)
              have b28 : kb (-1) t27 1021 := kb_inc (k := (-1)) qt27 b17
              refine lv_iinc (v := t27) (lv' := [(2, .int t27), (4, .int y18), (3, .int y19), (1, .int v3), (0, .ref o)]) hx hb dX12_laysOrders_78 hl (k := 2) rfl et27.symm (by decide) rfl (fun ls hl => ?_)
              refine lv_goto (tgt := 16) hx hb dX12_laysOrders_81 (by decide) ?_
              exact ihlp10 (mz - 1) a_26 _ _ _ t27 (by omega) hI hE hZ (kb_w b28 (by decide) (by decide)) (by have w1 := qt27; have w2 := hvlp10_0; omega) (by rw [← ea_26]; have w1 : y8.toNatClampNeg = mz - 1 := (by have w2 := hvlp10_0; unfold Int32.toNatClampNeg; omega); show oDn (a 2) N (upd (B9 35) y8.toNatClampNeg y19) (mz - 1); rw [w1]; refine oDn_s hN10 (by rw [show mz - 1 + 1 = mz by omega]; exact hvlp10_1) (by omega) ?_; have w3 := hin0; rw [hqN] at w3; exact w3) (by have w1 := hvlp10_2; omega) (mE_all hE) hP hD hS (lv_sub hl [0, 3, 4] rfl)
            · have h29 := (kc_nle c24)
              have b30 : kb 0 y18 9 := kr_lt1 h29 b22 b1 (by decide)
              have b31 : kb 1 cN 10 := kr_lt2 h29 b22 b1 (by decide)
              have hqN1 : q < N := by have w1 := hvlp20_1; omega
              refine lv_iload_n hx hb dX12_laysOrders_37 rfl (lv_at hl 1 rfl) ?_
              refine lv_aload_n hx hb dX12_laysOrders_38 rfl (lv_at hl 4 rfl) ?_
              refine lv_iload_n hx hb dX12_laysOrders_39 rfl (lv_at hl 2 rfl) ?_
              refine lv_iload hx hb dX12_laysOrders_40 (lv_at hl 0 rfl) ?_
              refine kI.callV (As := [.int y8, .int y18]) (rest := [.int y19]) ⟨hx, hb, hml, hown, hg⟩ (m2_canFollow l o r f B9 g hI y8 y18 (kb_w b17 (by decide) (by decide)) b30 ) (cwV 2 hg (kgV wt7_191 wt7_193 wp7_2 wt1_14 wt7_194) rfl rfl rfl (by decide +kernel) ⟨by decide, by decide⟩) hK hP hD hS hA mIs [] rfl (wr := []) rfl rfl rfl (fun i h => by cases h) 0 12 rfl rfl rfl hl.1 rfl (Nat.le_of_ble_eq_true rfl) dX12_laysOrders_42 ⟨Nat.le_refl _, Nat.le_refl _⟩ (fun v33 u34 H locs hw32 hP hD hS => ?_)
              have hP : va_P D vwCl (mW K o r f B9 g) H := hP
              have hD : va_D A (mW K o r f B9 g) := hD
              refine lv_if_eq (tgt := 62) hx hb dX12_laysOrders_45 (by decide) (fun c35 => ?_) (fun c35 => ?_)
              · have b36 : kb 0 v33 0 := kb_eq c35 kc_0
                have hfn37 : ¬ fB (a 2) (mz - 1) q = true := fB_n (by rw [hw32.2, hK2]) hms hvlp20_1 (by omega) (by omega) c35
                refine lv_iconst (v := 0) hx hb dX12_laysOrders_62 (by decide) ?_
                refine lv_iadd hx hb dX12_laysOrders_63 ?_
                refine lv_topi (fun t38 et38 => ?_)
                have b39 : kb 0 t38 3628800 := kb_eq et38 (kb_add b23 kc_0 (by decide) (by decide))
                have qt38 : t38.toInt = y19.toInt + 0 := by rw [et38]; exact kt_addc b23 kc_0 (by decide) (by decide)
                refine lv_istore_n (lv' := [(3, .int t38), (4, .int y18), (2, .int y8), (1, .int v3), (0, .ref o)]) hx hb dX12_laysOrders_64 rfl hl (by decide) rfl (fun ls hl => ?_)
                obtain ⟨t40, et40⟩ : ∃ z : Int32, z = y18 + Int32.ofInt 1 := ⟨_, rfl⟩
                have qt40 : t40.toInt = y18.toInt + 1 := by rw [et40]; exact km_inc b30 (by decide) (by decide)
                have b41 : kb 1 t40 10 := kb_inc (k := 1) qt40 b30
                refine lv_iinc (v := t40) (lv' := [(4, .int t40), (3, .int t38), (2, .int y8), (1, .int v3), (0, .ref o)]) hx hb dX12_laysOrders_65 hl (k := 1) rfl et40.symm (by decide) rfl (fun ls hl => ?_)
                refine lv_goto (tgt := 25) hx hb dX12_laysOrders_68 (by decide) ?_
                exact ihlp20 (q + 1) _ _ _ t40 t38 (by omega) (kb_w b41 (by decide) (by decide)) b39 (by rw [pS_n hfn37]; have w1 := qt38; have w2 := hvlp20_0; omega) (by have w1 := hvlp20_1; omega) (by omega) hP hD hS (lv_sub hl [0, 1, 2, 3, 4] rfl)
              · have b42 : kb 1 v33 1 := kr_nel c35 hw32.1 kc_0 (by decide)
                have hfy43 : fB (a 2) (mz - 1) q = true := fB_y (by rw [hw32.2, hK2]) hms hvlp20_1 (by omega) (by omega) c35 hw32.1
                refine lv_aload_n hx hb dX12_laysOrders_48 rfl (lv_at hl 4 rfl) ?_
                refine va_get (D := D) (ci := 12) (v := .ref (r 35)) (C := RX12) (T := TX12) (N := 48) hx hb hg inC12 hown hK hP 0 rfl rfl 35 (by decide) (hg _ wt5_195) (fun _ h9 => h9) rfl dX12_laysOrders_49 ?_
                refine lv_iload_n hx hb dX12_laysOrders_52 rfl (lv_at hl 2 rfl) ?_
                refine lv_iconst (v := 1) hx hb dX12_laysOrders_53 (by decide) ?_
                refine lv_iload hx hb dX12_laysOrders_54 (lv_at hl 0 rfl) ?_
                refine lv_ishl hx hb dX12_laysOrders_56 ?_
                refine lv_topi (fun t44 et44 => ?_)
                have b45 : kb 1 t44 512 := kb_eq et44 (kb_shl (l := 0) (h := 9) b30 (by decide))
                refine lv_ior hx hb dX12_laysOrders_57 ?_
                refine lv_topi (fun t46 et46 => ?_)
                have b47 : kb 0 t46 1023 := kb_eq et46 (kb_or 10 b17 b45 (by decide) (by decide) (by decide) (by decide) (by decide))
                refine va_iald hx hb hK hP 18 0 rfl rfl (kb_in b47 (by decide) (by decide)) dX12_laysOrders_58 ?_
                refine lv_topi (fun t48 et48 => ?_)
                have hix := cl_or (t := t46) (by rw [et46, et44]) hms hvlp20_1 (by omega) (by omega)
                have hoo : B9 35 (mz - 1 ||| 2 ^ q) = t48 := by rw [← hix.1]; exact et48.symm
                have b49 : kb 0 t48 3628800 := kb_eq hoo.symm (oDn_b hN10 hvlp10_1 (by have w1 := or_gt (fB_t (by omega) (by omega) hfy43); omega) (or_lt (by omega) hqN1))
                refine lv_goto (tgt := 63) hx hb dX12_laysOrders_59 (by decide) ?_
                refine lv_iadd hx hb dX12_laysOrders_63 ?_
                refine lv_topi (fun t50 et50 => ?_)
                have b51 : kb 0 t50 7257600 := kb_eq et50 (kb_add b23 b49 (by decide) (by decide))
                have qt50 : t50.toInt = y19.toInt + t48.toInt := by rw [et50]; exact kt_add b23 b49 (by decide) (by decide)
                refine lv_istore_n (lv' := [(3, .int t50), (4, .int y18), (2, .int y8), (1, .int v3), (0, .ref o)]) hx hb dX12_laysOrders_64 rfl hl (by decide) rfl (fun ls hl => ?_)
                have hnq : t50.toInt = pSr (a 2) (B9 35) (mz - 1) (q + 1) := by rw [pS_y hfy43]; have w1 := qt50; have w2 := hvlp20_0; have w3 : (B9 35 (mz - 1 ||| 2 ^ q)).toInt = t48.toInt := (by rw [← hoo]); omega
                have b52 : kb 0 t50 3628800 := pS_kb hN10 hvlp10_1 (by omega) (by omega) (by omega) hnq
                obtain ⟨t53, et53⟩ : ∃ z : Int32, z = y18 + Int32.ofInt 1 := ⟨_, rfl⟩
                have qt53 : t53.toInt = y18.toInt + 1 := by rw [et53]; exact km_inc b30 (by decide) (by decide)
                have b54 : kb 1 t53 10 := kb_inc (k := 1) qt53 b30
                refine lv_iinc (v := t53) (lv' := [(4, .int t53), (3, .int t50), (2, .int y8), (1, .int v3), (0, .ref o)]) hx hb dX12_laysOrders_65 hl (k := 1) rfl et53.symm (by decide) rfl (fun ls hl => ?_)
                refine lv_goto (tgt := 25) hx hb dX12_laysOrders_68 (by decide) ?_
                exact ihlp20 (q + 1) _ _ _ t53 t50 (by omega) (kb_w b54 (by decide) (by decide)) b52 (by rw [pS_y hfy43]; have w1 := qt50; have w2 := hvlp20_0; have w3 : (B9 35 (mz - 1 ||| 2 ^ q)).toInt = t48.toInt := (by rw [← hoo]); omega) (by have w1 := hvlp20_1; omega) (by omega) hP hD hS (lv_sub hl [0, 1, 2, 3, 4] rfl)
        exact lp20 (N + 1) 0 _ _ _ 0 0 (by omega) (kb_w kc_0 (by decide) (by decide)) (kb_w kc_0 (by decide) (by decide)) (by show (0 : Int32).toInt = 0; decide +kernel) (by decide +kernel) (Nat.zero_le _) hP hD hS (lv_sub hl [0, 1, 2, 3, 4] rfl)
  exact lp10 (2 ^ N) (2 ^ N - 1) a_5 _ _ _ t6 (by omega) hI hE hZ b7 (by have w1 := qt6; omega) (hO0) (Nat.le_refl _) (hK2) hP hD hS (lv_sub hl [0, 1, 2] rfl)
