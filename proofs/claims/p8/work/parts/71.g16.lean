theorem pS_kb {k O : Nat → Int32} {N m s q : Nat} {x : Int32} (hN : N ≤ 10) (h : oDn k N O m) (hm : m ≤ s + 1) (hs : s + 1 < 2 ^ N) (hq : q ≤ N) (e : x.toInt = pS k O s q) : kb 0 x 3628800 := by
  have hp := p2 hN
  have hb := pS_bd hN h hm (by omega) q hq
  have hmn := pB_mono s q (10 - q)
  rw [show q + (10 - q) = 10 by omega] at hmn
  have hk : pB s 10 ≤ oB s := chkB ⟨s, by omega⟩
  have hf : oB s ≤ 3628800 := (chkF ⟨s, by omega⟩).1
  exact ⟨by rw [e]; exact hb.1, by rw [e]; omega⟩
set_option maxHeartbeats 4000000 in
set_option maxRecDepth 100000 in
theorem m2_laysOrders  (l : Launch) {D : va_G} {K : Nat → ClassId} (o : Nat) (r : Nat → Nat) (f : Nat → Int32) (a : Nat → Nat → Int32) (g : Nat → Int64) (hI : mI f a)     : kV l yX12_laysOrders (Cond.code yX12_laysOrders cX12_laysOrders 5 none :: kG) (rmD 3 0 0) D (tysK K) [.ref o] (mW K o r f a g) (fun (u : mS) => mI u.1 u.2.1 ∧ mE (XR []) f a u.1 u.2.1 ∧ oDn (a 2) (a 2 102).toInt.toNat (u.2.1 35) 0) (fun u => mW K o r u.1 u.2.1 u.2.2) 0 0 := by
  refine kV.of (cc := cX12_laysOrders) (maxL := 5) (ret := none) (by decide) rfl (Nat.le_of_ble_eq_true rfl) ?_
  intro p e s m below meth c A hx hb hr hml hown hts hlocks hnm hK hP hD hS hA ls hl
  have hE : mE (XR []) f a f a := mE_rf
  have hg : ∀ w ∈ kG, w.before _ s = true := fun w h => hts w (List.mem_cons_of_mem _ h)
  have hown : s.vm.findClass RX12 = some m.cls := hown
  have hl : lv_has ls 5 [(0, .ref o)] := hl
  obtain ⟨cN, ecN⟩ : ∃ z : Int32, z = a 2 102 := ⟨_, rfl⟩
  have b1 : kb 0 cN 10 := kb_eq ecN (aI_at hI.2.1 2 102 (by decide) (by decide))
  obtain ⟨N, hN⟩ : ∃ N : Nat, (N : Int) = cN.toInt := ⟨cN.toInt.toNat, by have w1 := (b1).1; omega⟩
  have hN10 : N ≤ 10 := by have w1 := (b1).2; omega
  have hp2 := p2 hN10
  refine lv_aload_n hx hb dX12_laysOrders_0 rfl (lv_at hl 0 rfl) ?_
  refine kI.callV (As := []) (rest := []) ⟨hx, hb, hml, hown, hg⟩ (m2_allParts l o r f a g hI   ) (cwV 0 hg (kgV wt7_187 wt7_189 wp7_1 wt1_14 wt7_190) rfl rfl rfl (by decide +kernel) ⟨by decide, by decide⟩) hK hP hD hS hA mIs [] rfl (wr := []) rfl rfl rfl (fun i h => by cases h) 0 12 rfl rfl rfl hl.1 rfl (Nat.le_of_ble_eq_true rfl) dX12_laysOrders_1 ⟨Nat.le_refl _, Nat.le_refl _⟩ (fun v3 u4 H locs hw2 hP hD hS => ?_)
  have hP : va_P D vwCl (mW K o r f a g) H := hP
  have hD : va_D A (mW K o r f a g) := hD
  refine lv_istore_n (lv' := [(1, .int v3), (0, .ref o)]) hx hb dX12_laysOrders_4 rfl hl (by decide) rfl (fun ls hl => ?_)
  refine lv_aload_n hx hb dX12_laysOrders_5 rfl (lv_at hl 1 rfl) ?_
  refine va_get (D := D) (ci := 12) (v := .ref (r 35)) (C := RX12) (T := TX12) (N := 48) hx hb hg inC12 hown hK hP 0 rfl rfl 35 (by decide) (hg _ wt5_195) (fun _ h9 => h9) rfl dX12_laysOrders_6 ?_
  refine lv_iload_n hx hb dX12_laysOrders_9 rfl (lv_at hl 0 rfl) ?_
  refine lv_iconst (v := 1) hx hb dX12_laysOrders_10 (by decide) ?_
  refine va_iast hx hb hK hP hD hS 18 0 rfl rfl (kb_in hw2.1 (by decide) (by decide)) dX12_laysOrders_11 (fun H locs hP hD hS => ?_)
  have hP : va_P D vwCl (mW K o r f (va_up a 35 (upd (a 35) v3.toNatClampNeg 1)) g) H := hP
  have hD : va_D A (mW K o r f (va_up a 35 (upd (a 35) v3.toNatClampNeg 1)) g) := hD
  refine k_gen (P := fun z => va_P D vwCl (mW K o r f z g) H ∧ va_D A (mW K o r f z g) ∧ (mI f z) ∧ (mE (XR []) f a f z)) (va_up a 35 (upd (a 35) v3.toNatClampNeg 1)) ⟨hP, hD, (mI_s hI (aI_free hI.2.1 35 _ (fun j => ⟨by show (mBa 35 j).1 ≤ _; exact Int.le_refl _, by show _ ≤ (mBa 35 j).2; exact Int.le_refl _⟩)) (by decide) (by decide)), (mE_s hE (by decide) (by decide) (by decide) (by decide))⟩ (fun a_5 ea_5 hq => ?_)
  obtain ⟨hP, hD, hI, hE⟩ := hq
  have hNN : (a 2 102).toInt.toNat = N := by rw [← ecN]; omega
  have hall : v3.toInt = ((2 ^ N - 1 : Nat) : Int) := by rw [← hNN]; exact hw2.2
  have hO0 : oDn (a 2) N (a_5 35) (2 ^ N - 1) := by refine oDn_0 hN10 ?_; rw [← ea_5]; have w1 : v3.toNatClampNeg = 2 ^ N - 1 := (by unfold Int32.toNatClampNeg; omega); show upd (a 35) v3.toNatClampNeg 1 (2 ^ N - 1) = 1; rw [w1]; exact pk_us
  have hK2 : a_5 2 = a 2 := mE_all hE
  refine lv_iload_n hx hb dX12_laysOrders_12 rfl (lv_at hl 0 rfl) ?_
  refine lv_iconst (v := 1) hx hb dX12_laysOrders_13 (by decide) ?_
  refine lv_isub hx hb dX12_laysOrders_14 ?_
  refine lv_topi (fun t6 et6 => ?_)
  have b7 : kb (-1) t6 1022 := kb_eq et6 (kb_sub hw2.1 kc_1 (by decide) (by decide))
  have qt6 : t6.toInt = v3.toInt - 1 := by rw [et6]; exact kt_subc hw2.1 kc_1 (by decide) (by decide)
  refine lv_istore_n (lv' := [(2, .int t6), (1, .int v3), (0, .ref o)]) hx hb dX12_laysOrders_15 rfl hl (by decide) rfl (fun ls hl => ?_)
  have lp10 : ∀ (n11 : Nat) (m : Nat) (B9 : Nat → Nat → Int32) (H : Heap) (locs : List Loc) (ls : Array Slot) (y8 : Int32), ((m : Int) < (n11 : Int)) → (mI f B9) → (mE (XR []) f a f B9) → (kb (-1) y8 1022) → (y8.toInt = (m : Int) - 1) → (oDn (a 2) N (B9 35) m) → (m ≤ 2 ^ N - 1) → (B9 2 = a 2) → va_P D vwCl (mW K o r f B9 g) H → va_D A (mW K o r f B9 g) → va_S A s.heap H locs → lv_has ls 5 [(2, .int y8), (1, .int v3), (0, .ref o)] → W p l e (rmD 3 0 0) s m ([.ref o] : List Value).toArray below meth c H locs 0 0 (kQv D (tysK K) (fun (u : mS) => mI u.1 u.2.1 ∧ mE (XR []) f a u.1 u.2.1 ∧ oDn (a 2) (a 2 102).toInt.toNat (u.2.1 35) 0) (fun u => mW K o r u.1 u.2.1 u.2.2) A below ([.ref o] : List Value).toArray s 0 0) (F0 m 16 ls []) := by
    intro n11
    induction n11 with
    | zero =>
      intro m B9  H locs ls y8 hmlp10 hI hE b12 hvlp10_0 hvlp10_1 hvlp10_2 hvlp10_3 hP hD hS hl
      exact (by have w1 := hmlp10; omega : False).elim
    | succ n11 ihlp10 =>
      intro m B9  H locs ls y8 hmlp10 hI hE b12 hvlp10_0 hvlp10_1 hvlp10_2 hvlp10_3 hP hD hS hl
      have hK2 := hvlp10_3
      refine lv_iload_n hx hb dX12_laysOrders_16 rfl (lv_at hl 0 rfl) ?_
      refine lv_if_lt (tgt := 84) hx hb dX12_laysOrders_17 (by decide) (fun c13 => ?_) (fun c13 => ?_)
      · have h14 := (kc_lt c13)
        have b15 : kb (-1) y8 (-1) := kr_lt1 h14 b12 kc_0 (by decide)
        exact kV_ret hx hb hr hlocks hK hS dX12_laysOrders_84 (f, B9, g) hP hD ⟨hI, hE, (by rw [← ecN]; have w1 : m = 0 := (by have w2 := hvlp10_0; have w3 := (b15); unfold kb at w3; omega); have w4 := hvlp10_1; rw [w1] at w4; rw [show cN.toInt.toNat = N by omega]; exact w4)⟩
      · have h16 := (kc_nlt c13)
        have b17 : kb 0 y8 1022 := kr_le2 h16 kc_0 b12
        have hm1 : 1 ≤ m := by have w1 := (b17).1; have w2 := hvlp10_0; omega
        have hms : y8.toInt = ((m - 1 : Nat) : Int) := by have w2 := hvlp10_0; omega
        refine lv_iconst (v := 0) hx hb dX12_laysOrders_20 (by decide) ?_
        refine lv_istore_n (lv' := [(3, .int 0), (2, .int y8), (1, .int v3), (0, .ref o)]) hx hb dX12_laysOrders_21 rfl hl (by decide) rfl (fun ls hl => ?_)
        refine lv_iconst (v := 0) hx hb dX12_laysOrders_22 (by decide) ?_
        refine lv_istore (lv' := [(4, .int 0), (3, .int 0), (2, .int y8), (1, .int v3), (0, .ref o)]) hx hb dX12_laysOrders_23 hl (by decide) rfl (fun ls hl => ?_)
        have lp20 : ∀ (n21 : Nat) (q : Nat) (H : Heap) (locs : List Loc) (ls : Array Slot) (y18 : Int32) (y19 : Int32), ((N : Int) < (q : Int) + (n21 : Int)) → (kb 0 y18 10) → (kb 0 y19 3628800) → (y19.toInt = pS (a 2) (B9 35) (m - 1) q) → (y18.toInt = (q : Int)) → (q ≤ N) → va_P D vwCl (mW K o r f B9 g) H → va_D A (mW K o r f B9 g) → va_S A s.heap H locs → lv_has ls 5 [(4, .int y18), (3, .int y19), (2, .int y8), (1, .int v3), (0, .ref o)] → W p l e (rmD 3 0 0) s m ([.ref o] : List Value).toArray below meth c H locs 0 0 (kQv D (tysK K) (fun (u : mS) => mI u.1 u.2.1 ∧ mE (XR []) f a u.1 u.2.1 ∧ oDn (a 2) (a 2 102).toInt.toNat (u.2.1 35) 0) (fun u => mW K o r u.1 u.2.1 u.2.2) A below ([.ref o] : List Value).toArray s 0 0) (F0 m 25 ls []) := by
          intro n21
          induction n21 with
          | zero =>
            intro q  H locs ls y18 y19 hmlp20 b22 b23 hvlp20_0 hvlp20_1 hvlp20_2 hP hD hS hl
            exact (by have w1 := hmlp20; have w2 := hvlp20_2; omega : False).elim
          | succ n21 ihlp20 =>
            intro q  H locs ls y18 y19 hmlp20 b22 b23 hvlp20_0 hvlp20_1 hvlp20_2 hP hD hS hl
            refine lv_iload hx hb dX12_laysOrders_25 (lv_at hl 0 rfl) ?_
            refine lv_aload_n hx hb dX12_laysOrders_27 rfl (lv_at hl 4 rfl) ?_
            refine va_get (D := D) (ci := 12) (v := .ref (r 2)) (C := RX12) (T := TX12) (N := 48) hx hb hg inC12 hown hK hP 0 rfl rfl 2 (by decide) (hg _ wt5_162) (fun _ h9 => h9) rfl dX12_laysOrders_28 ?_
            refine lv_bipush (v := 102) hx hb dX12_laysOrders_31 (by decide) ?_
            refine va_iald hx hb hK hP 2 0 rfl rfl (kb_in kc_102 (by decide) (by decide)) dX12_laysOrders_33 ?_
            refine lv_topi (fun t24 et24 => ?_)
            rw [cl_102] at et24
            have b25 : kb 0 t24 10 := kb_eq et24 (aI_at hI.2.1 2 102 (by decide) (by decide))
            refine lv_icmp_ge (tgt := 71) hx hb dX12_laysOrders_34 (by decide) (fun c26 => ?_) (fun c26 => ?_)
            · have h27 := (kc_le c26)
              have hqN : q = N := by have w1 := hvlp20_1; have w2 := hvlp20_2; omega
              have hin0 := hvlp20_0
              refine lv_aload_n hx hb dX12_laysOrders_71 rfl (lv_at hl 4 rfl) ?_
              refine va_get (D := D) (ci := 12) (v := .ref (r 35)) (C := RX12) (T := TX12) (N := 48) hx hb hg inC12 hown hK hP 0 rfl rfl 35 (by decide) (hg _ wt5_195) (fun _ h9 => h9) rfl dX12_laysOrders_72 ?_
              refine lv_iload_n hx hb dX12_laysOrders_75 rfl (lv_at hl 2 rfl) ?_
              refine lv_iload_n hx hb dX12_laysOrders_76 rfl (lv_at hl 1 rfl) ?_
              refine va_iast hx hb hK hP hD hS 18 0 rfl rfl (kb_in b17 (by decide) (by decide)) dX12_laysOrders_77 (fun H locs hP hD hS => ?_)
              have hP : va_P D vwCl (mW K o r f (va_up B9 35 (upd (B9 35) y8.toNatClampNeg y19)) g) H := hP
              have hD : va_D A (mW K o r f (va_up B9 35 (upd (B9 35) y8.toNatClampNeg y19)) g) := hD
              refine k_gen (P := fun z => va_P D vwCl (mW K o r f z g) H ∧ va_D A (mW K o r f z g) ∧ (mI f z) ∧ (mE (XR []) f a f z)) (va_up B9 35 (upd (B9 35) y8.toNatClampNeg y19)) ⟨hP, hD, (mI_s hI (aI_free hI.2.1 35 _ (fun j => ⟨by show (mBa 35 j).1 ≤ _; exact Int.le_refl _, by show _ ≤ (mBa 35 j).2; exact Int.le_refl _⟩)) (by decide) (by decide)), (mE_s hE (by decide) (by decide) (by decide) (by decide))⟩ (fun a_28 ea_28 hq => ?_)
              obtain ⟨hP, hD, hI, hE⟩ := hq
              obtain ⟨t29, et29⟩ : ∃ z : Int32, z = y8 + Int32.ofInt (-1) := ⟨_, rfl⟩
              have qt29 : t29.toInt = y8.toInt - 1 := by rw [et29]; exact km_dec b17 (by decide)
              have b30 : kb (-1) t29 1021 := kb_inc (k := (-1)) qt29 b17
              refine lv_iinc (v := t29) (lv' := [(2, .int t29), (4, .int y18), (3, .int y19), (1, .int v3), (0, .ref o)]) hx hb dX12_laysOrders_78 hl (k := 2) rfl et29.symm (by decide) rfl (fun ls hl => ?_)
              refine lv_goto (tgt := 16) hx hb dX12_laysOrders_81 (by decide) ?_
              exact ihlp10 (m - 1) a_28 _ _ _ t29 (by omega) hI hE (kb_w b30 (by decide) (by decide)) (by have w1 := qt29; have w2 := hvlp10_0; omega) (by rw [← ea_28]; have w1 : y8.toNatClampNeg = m - 1 := (by have w2 := hvlp10_0; unfold Int32.toNatClampNeg; omega); show oDn (a 2) N (upd (B9 35) y8.toNatClampNeg y19) (m - 1); rw [w1]; refine oDn_s hN10 (by rw [show m - 1 + 1 = m by omega]; exact hvlp10_1) (by omega) ?_; have w3 := hin0; rw [hqN] at w3; exact w3) (by have w1 := hvlp10_2; omega) (mE_all hE) hP hD hS (lv_sub hl [0, 3, 4] rfl)
            · have h31 := (kc_nle c26)
              have b32 : kb 0 y18 9 := kr_lt1 h31 b22 b25 (by decide)
              have b33 : kb 1 t24 10 := kr_lt2 h31 b22 b25 (by decide)
              have hqN1 : q < N := by have w1 := hvlp20_1; omega
              refine lv_iload_n hx hb dX12_laysOrders_37 rfl (lv_at hl 1 rfl) ?_
              refine lv_aload_n hx hb dX12_laysOrders_38 rfl (lv_at hl 4 rfl) ?_
              refine lv_iload_n hx hb dX12_laysOrders_39 rfl (lv_at hl 2 rfl) ?_
              refine lv_iload hx hb dX12_laysOrders_40 (lv_at hl 0 rfl) ?_
              refine kI.callV (As := [.int y8, .int y18]) (rest := [.int y19]) ⟨hx, hb, hml, hown, hg⟩ (m2_canFollow l o r f B9 g hI y8 y18 (kb_w b17 (by decide) (by decide)) b32 ) (cwV 2 hg (kgV wt7_191 wt7_193 wp7_2 wt1_14 wt7_194) rfl rfl rfl (by decide +kernel) ⟨by decide, by decide⟩) hK hP hD hS hA mIs [] rfl (wr := []) rfl rfl rfl (fun i h => by cases h) 0 12 rfl rfl rfl hl.1 rfl (Nat.le_of_ble_eq_true rfl) dX12_laysOrders_42 ⟨Nat.le_refl _, Nat.le_refl _⟩ (fun v35 u36 H locs hw34 hP hD hS => ?_)
              have hP : va_P D vwCl (mW K o r f B9 g) H := hP
              have hD : va_D A (mW K o r f B9 g) := hD
              refine lv_if_eq (tgt := 62) hx hb dX12_laysOrders_45 (by decide) (fun c37 => ?_) (fun c37 => ?_)
              · have b38 : kb 0 v35 0 := kb_eq c37 kc_0
                have hfn39 : ¬ fB (a 2) (m - 1) q = true := fB_n (by rw [hw34.2, hK2]) hms hvlp20_1 (by omega) (by omega) c37
                refine lv_iconst (v := 0) hx hb dX12_laysOrders_62 (by decide) ?_
                refine lv_iadd hx hb dX12_laysOrders_63 ?_
                refine lv_topi (fun t40 et40 => ?_)
                have b41 : kb 0 t40 3628800 := kb_eq et40 (kb_add b23 kc_0 (by decide) (by decide))
                have qt40 : t40.toInt = y19.toInt + 0 := by rw [et40]; exact kt_addc b23 kc_0 (by decide) (by decide)
                refine lv_istore_n (lv' := [(3, .int t40), (4, .int y18), (2, .int y8), (1, .int v3), (0, .ref o)]) hx hb dX12_laysOrders_64 rfl hl (by decide) rfl (fun ls hl => ?_)
                obtain ⟨t42, et42⟩ : ∃ z : Int32, z = y18 + Int32.ofInt 1 := ⟨_, rfl⟩
                have qt42 : t42.toInt = y18.toInt + 1 := by rw [et42]; exact km_inc b32 (by decide) (by decide)
                have b43 : kb 1 t42 10 := kb_inc (k := 1) qt42 b32
                refine lv_iinc (v := t42) (lv' := [(4, .int t42), (3, .int t40), (2, .int y8), (1, .int v3), (0, .ref o)]) hx hb dX12_laysOrders_65 hl (k := 1) rfl et42.symm (by decide) rfl (fun ls hl => ?_)
                refine lv_goto (tgt := 25) hx hb dX12_laysOrders_68 (by decide) ?_
                exact ihlp20 (q + 1) _ _ _ t42 t40 (by omega) (kb_w b43 (by decide) (by decide)) b41 (by rw [pS_n hfn39]; have w1 := qt40; have w2 := hvlp20_0; omega) (by have w1 := hvlp20_1; omega) (by omega) hP hD hS (lv_sub hl [0, 1, 2, 3, 4] rfl)
              · have b44 : kb 1 v35 1 := kr_nel c37 hw34.1 kc_0 (by decide)
                have hfy45 : fB (a 2) (m - 1) q = true := fB_y (by rw [hw34.2, hK2]) hms hvlp20_1 (by omega) (by omega) c37 hw34.1
                refine lv_aload_n hx hb dX12_laysOrders_48 rfl (lv_at hl 4 rfl) ?_
                refine va_get (D := D) (ci := 12) (v := .ref (r 35)) (C := RX12) (T := TX12) (N := 48) hx hb hg inC12 hown hK hP 0 rfl rfl 35 (by decide) (hg _ wt5_195) (fun _ h9 => h9) rfl dX12_laysOrders_49 ?_
                refine lv_iload_n hx hb dX12_laysOrders_52 rfl (lv_at hl 2 rfl) ?_
                refine lv_iconst (v := 1) hx hb dX12_laysOrders_53 (by decide) ?_
                refine lv_iload hx hb dX12_laysOrders_54 (lv_at hl 0 rfl) ?_
                refine lv_ishl hx hb dX12_laysOrders_56 ?_
                refine lv_topi (fun t46 et46 => ?_)
                have b47 : kb 1 t46 512 := kb_eq et46 (kb_shl (l := 0) (h := 9) b32 (by decide))
                refine lv_ior hx hb dX12_laysOrders_57 ?_
                refine lv_topi (fun t48 et48 => ?_)
                have b49 : kb 0 t48 1023 := kb_eq et48 (kb_or 10 b17 b47 (by decide) (by decide) (by decide) (by decide) (by decide))
                refine va_iald hx hb hK hP 18 0 rfl rfl (kb_in b49 (by decide) (by decide)) dX12_laysOrders_58 ?_
                refine lv_topi (fun t50 et50 => ?_)
                have hix := cl_or (t := t48) (by rw [et48, et46]) hms hvlp20_1 (by omega) (by omega)
                have hoo : B9 35 (m - 1 ||| 2 ^ q) = t50 := by rw [← hix.1]; exact et50.symm
                have b51 : kb 0 t50 3628800 := kb_eq hoo.symm (oDn_b hN10 hvlp10_1 (by have w1 := or_gt (fB_t (by omega) (by omega) hfy45); omega) (or_lt (by omega) hqN1))
                refine lv_goto (tgt := 63) hx hb dX12_laysOrders_59 (by decide) ?_
                refine lv_iadd hx hb dX12_laysOrders_63 ?_
                refine lv_topi (fun t52 et52 => ?_)
                have b53 : kb 0 t52 7257600 := kb_eq et52 (kb_add b23 b51 (by decide) (by decide))
                have qt52 : t52.toInt = y19.toInt + t50.toInt := by rw [et52]; exact kt_add b23 b51 (by decide) (by decide)
                refine lv_istore_n (lv' := [(3, .int t52), (4, .int y18), (2, .int y8), (1, .int v3), (0, .ref o)]) hx hb dX12_laysOrders_64 rfl hl (by decide) rfl (fun ls hl => ?_)
                have hnq : t52.toInt = pS (a 2) (B9 35) (m - 1) (q + 1) := by rw [pS_y hfy45]; have w1 := qt52; have w2 := hvlp20_0; have w3 : (B9 35 (m - 1 ||| 2 ^ q)).toInt = t50.toInt := (by rw [← hoo]); omega
                have b54 : kb 0 t52 3628800 := pS_kb hN10 hvlp10_1 (by omega) (by omega) (by omega) hnq
                obtain ⟨t55, et55⟩ : ∃ z : Int32, z = y18 + Int32.ofInt 1 := ⟨_, rfl⟩
                have qt55 : t55.toInt = y18.toInt + 1 := by rw [et55]; exact km_inc b32 (by decide) (by decide)
                have b56 : kb 1 t55 10 := kb_inc (k := 1) qt55 b32
                refine lv_iinc (v := t55) (lv' := [(4, .int t55), (3, .int t52), (2, .int y8), (1, .int v3), (0, .ref o)]) hx hb dX12_laysOrders_65 hl (k := 1) rfl et55.symm (by decide) rfl (fun ls hl => ?_)
                refine lv_goto (tgt := 25) hx hb dX12_laysOrders_68 (by decide) ?_
                exact ihlp20 (q + 1) _ _ _ t55 t52 (by omega) (kb_w b56 (by decide) (by decide)) b54 (by rw [pS_y hfy45]; have w1 := qt52; have w2 := hvlp20_0; have w3 : (B9 35 (m - 1 ||| 2 ^ q)).toInt = t50.toInt := (by rw [← hoo]); omega) (by have w1 := hvlp20_1; omega) (by omega) hP hD hS (lv_sub hl [0, 1, 2, 3, 4] rfl)
        exact lp20 (N + 1) 0 _ _ _ 0 0 (by omega) (kb_w kc_0 (by decide) (by decide)) (kb_w kc_0 (by decide) (by decide)) (by show (0 : Int32).toInt = 0; decide +kernel) (by decide +kernel) (Nat.zero_le _) hP hD hS (lv_sub hl [0, 1, 2, 3, 4] rfl)
  exact lp10 (2 ^ N) (2 ^ N - 1) a_5 _ _ _ t6 (by omega) hI hE b7 (by have w1 := qt6; omega) (hO0) (Nat.le_refl _) (hK2) hP hD hS (lv_sub hl [0, 1, 2] rfl)
