set_option maxHeartbeats 4000000 in
set_option maxRecDepth 100000 in
theorem n_addsPart  (l : Launch) {D : va_G} {K : Nat → ClassId} (o : Nat) (r : Nat → Nat) (f : Nat → Int32) (a : Nat → Nat → Int32) (g : Nat → Int64) (hI : mI f a) (x : Int32) (y : Int32) (z : Int32) (t : Int32) (bx : kb 1 x 99)  (hp0 : kb 0 (a 2 102) 9) : kV l yX12_addsPart (Cond.code yX12_addsPart cX12_addsPart 6 none :: kG) (rmD 1 0 0) D (tysK K) [.ref o, .int x, .int y, .int z, .int t] (mW K o r f a g) (fun (u : mS) => mI u.1 u.2.1 ∧ mE (XR [(0, 63), (102, 103)]) f a u.1 u.2.1 ∧ (u.2.1 2 102).toInt = (a 2 102).toInt + 1 ∧ u.2.1 2 = prtK (a 2) (a 2 102).toInt.toNat x y z t ∧ mZ [] [2] f a u.1 u.2.1) (fun u => mW K o r u.1 u.2.1 u.2.2) 0 0 := by
  refine kV.of (cc := cX12_addsPart) (maxL := 6) (ret := none) (by decide) rfl (Nat.le_of_ble_eq_true rfl) ?_
  intro p e s m below meth c A hx hb hr hml hown hts hlocks hnm hK hP hD hS hA ls hl
  have hE : mE (XR [(0, 63), (102, 103)]) f a f a := mE_rf
  have hZ : mZ [] [2] f a f a := mZ_rf
  have hg : ∀ w ∈ kG, w.before _ s = true := fun w h => hts w (List.mem_cons_of_mem _ h)
  have hown : s.vm.findClass RX12 = some m.cls := hown
  have hl : lv_has ls 6 [(0, .ref o), (1, .int x), (2, .int y), (3, .int z), (4, .int t)] := hl
  obtain ⟨c2_102, ec2_102⟩ : ∃ z : Int32, z = a 2 102 := ⟨_, rfl⟩
  have b1 : kb 0 c2_102 9 := kb_eq ec2_102 hp0
  refine lv_aload_n hx hb dX12_addsPart_0 rfl (lv_at hl 0 rfl) ?_
  refine va_get (D := D) (ci := 12) (v := .ref (r 2)) (C := RX12) (T := TX12) (N := 48) hx hb hg inC12 hown hK hP 0 rfl rfl 2 (by decide) (hg _ wt5_162) (fun _ h9 => h9) rfl dX12_addsPart_1 ?_
  refine lv_bipush (v := 102) hx hb dX12_addsPart_4 (by decide) ?_
  refine va_iald hx hb hK hP 2 0 rfl rfl (kb_in kc_102 (by decide) (by decide)) dX12_addsPart_6 ?_
  refine k_top (z := c2_102) (by rw [cl_102]; exact ec2_102.symm) ?_
  refine lv_istore (lv' := [(5, .int c2_102), (0, .ref o), (1, .int x), (2, .int y), (3, .int z), (4, .int t)]) hx hb dX12_addsPart_7 hl (by decide) rfl (fun ls hl => ?_)
  refine lv_aload_n hx hb dX12_addsPart_9 rfl (lv_at hl 1 rfl) ?_
  refine va_get (D := D) (ci := 12) (v := .ref (r 2)) (C := RX12) (T := TX12) (N := 48) hx hb hg inC12 hown hK hP 0 rfl rfl 2 (by decide) (hg _ wt5_162) (fun _ h9 => h9) rfl dX12_addsPart_10 ?_
  refine lv_bipush (v := 23) hx hb dX12_addsPart_13 (by decide) ?_
  refine lv_iload hx hb dX12_addsPart_15 (lv_at hl 0 rfl) ?_
  refine lv_iadd hx hb dX12_addsPart_17 ?_
  refine lv_topi (fun t2 et2 => ?_)
  have b3 : kb 23 t2 32 := kb_eq et2 (kb_add kc_23 b1 (by decide) (by decide))
  have qt2 : t2.toInt = 23 + c2_102.toInt := by rw [et2]; exact kt_cadd kc_23 b1 (by decide) (by decide)
  refine lv_iload_n hx hb dX12_addsPart_18 rfl (lv_at hl 2 rfl) ?_
  refine va_iast hx hb hK hP hD hS 2 0 rfl rfl (kb_in b3 (by decide) (by decide)) dX12_addsPart_19 (fun H locs hP hD hS => ?_)
  have hP : va_P D vwCl (mW K o r f (va_up a 2 (upd (a 2) t2.toNatClampNeg x)) g) H := hP
  have hD : va_D A (mW K o r f (va_up a 2 (upd (a 2) t2.toNatClampNeg x)) g) := hD
  refine k_gen (P := fun z => va_P D vwCl (mW K o r f z g) H ∧ va_D A (mW K o r f z g) ∧ (mI f z) ∧ (mE (XR [(0, 63), (102, 103)]) f a f z) ∧ (mZ [] [2] f a f z)) (va_up a 2 (upd (a 2) t2.toNatClampNeg x)) ⟨hP, hD, (mI_2 hI (aI_sx hI.2.1 2 23 10 b3 (by decide) (by decide) bx (by decide +kernel)) (kb_clt b3 (by decide) (by decide))), (mE_2 hE (bX_at 23 10 b3 (by decide) (by decide) (by decide))), (mZ_a hZ rfl)⟩ (fun a_4 ea_4 hq => ?_)
  obtain ⟨hP, hD, hI, hE, hZ⟩ := hq
  refine lv_aload_n hx hb dX12_addsPart_20 rfl (lv_at hl 1 rfl) ?_
  refine va_get (D := D) (ci := 12) (v := .ref (r 2)) (C := RX12) (T := TX12) (N := 48) hx hb hg inC12 hown hK hP 0 rfl rfl 2 (by decide) (hg _ wt5_162) (fun _ h9 => h9) rfl dX12_addsPart_21 ?_
  refine lv_bipush (v := 33) hx hb dX12_addsPart_24 (by decide) ?_
  refine lv_iload hx hb dX12_addsPart_26 (lv_at hl 0 rfl) ?_
  refine lv_iadd hx hb dX12_addsPart_28 ?_
  refine lv_topi (fun t5 et5 => ?_)
  have b6 : kb 33 t5 42 := kb_eq et5 (kb_add kc_33 b1 (by decide) (by decide))
  have qt5 : t5.toInt = 33 + c2_102.toInt := by rw [et5]; exact kt_cadd kc_33 b1 (by decide) (by decide)
  refine lv_iload_n hx hb dX12_addsPart_29 rfl (lv_at hl 3 rfl) ?_
  refine va_iast hx hb hK hP hD hS 2 0 rfl rfl (kb_in b6 (by decide) (by decide)) dX12_addsPart_30 (fun H locs hP hD hS => ?_)
  have hP : va_P D vwCl (mW K o r f (va_up a_4 2 (upd (a_4 2) t5.toNatClampNeg y)) g) H := hP
  have hD : va_D A (mW K o r f (va_up a_4 2 (upd (a_4 2) t5.toNatClampNeg y)) g) := hD
  refine k_gen (P := fun z => va_P D vwCl (mW K o r f z g) H ∧ va_D A (mW K o r f z g) ∧ (mI f z) ∧ (mE (XR [(0, 63), (102, 103)]) f a f z) ∧ (mZ [] [2] f a f z)) (va_up a_4 2 (upd (a_4 2) t5.toNatClampNeg y)) ⟨hP, hD, (mI_2 hI (aI_sx hI.2.1 2 33 10 b6 (by decide) (by decide) (kb_any y) (by decide +kernel)) (kb_clt b6 (by decide) (by decide))), (mE_2 hE (bX_at 33 10 b6 (by decide) (by decide) (by decide))), (mZ_a hZ rfl)⟩ (fun a_7 ea_7 hq => ?_)
  obtain ⟨hP, hD, hI, hE, hZ⟩ := hq
  refine lv_aload_n hx hb dX12_addsPart_31 rfl (lv_at hl 1 rfl) ?_
  refine va_get (D := D) (ci := 12) (v := .ref (r 2)) (C := RX12) (T := TX12) (N := 48) hx hb hg inC12 hown hK hP 0 rfl rfl 2 (by decide) (hg _ wt5_162) (fun _ h9 => h9) rfl dX12_addsPart_32 ?_
  refine lv_bipush (v := 43) hx hb dX12_addsPart_35 (by decide) ?_
  refine lv_iload hx hb dX12_addsPart_37 (lv_at hl 0 rfl) ?_
  refine lv_iadd hx hb dX12_addsPart_39 ?_
  refine lv_topi (fun t8 et8 => ?_)
  have b9 : kb 43 t8 52 := kb_eq et8 (kb_add kc_43 b1 (by decide) (by decide))
  have qt8 : t8.toInt = 43 + c2_102.toInt := by rw [et8]; exact kt_cadd kc_43 b1 (by decide) (by decide)
  refine lv_iload_n hx hb dX12_addsPart_40 rfl (lv_at hl 4 rfl) ?_
  refine va_iast hx hb hK hP hD hS 2 0 rfl rfl (kb_in b9 (by decide) (by decide)) dX12_addsPart_41 (fun H locs hP hD hS => ?_)
  have hP : va_P D vwCl (mW K o r f (va_up a_7 2 (upd (a_7 2) t8.toNatClampNeg z)) g) H := hP
  have hD : va_D A (mW K o r f (va_up a_7 2 (upd (a_7 2) t8.toNatClampNeg z)) g) := hD
  refine k_gen (P := fun z => va_P D vwCl (mW K o r f z g) H ∧ va_D A (mW K o r f z g) ∧ (mI f z) ∧ (mE (XR [(0, 63), (102, 103)]) f a f z) ∧ (mZ [] [2] f a f z)) (va_up a_7 2 (upd (a_7 2) t8.toNatClampNeg z)) ⟨hP, hD, (mI_2 hI (aI_sx hI.2.1 2 43 10 b9 (by decide) (by decide) (kb_any z) (by decide +kernel)) (kb_clt b9 (by decide) (by decide))), (mE_2 hE (bX_at 43 10 b9 (by decide) (by decide) (by decide))), (mZ_a hZ rfl)⟩ (fun a_10 ea_10 hq => ?_)
  obtain ⟨hP, hD, hI, hE, hZ⟩ := hq
  refine lv_aload_n hx hb dX12_addsPart_42 rfl (lv_at hl 1 rfl) ?_
  refine va_get (D := D) (ci := 12) (v := .ref (r 2)) (C := RX12) (T := TX12) (N := 48) hx hb hg inC12 hown hK hP 0 rfl rfl 2 (by decide) (hg _ wt5_162) (fun _ h9 => h9) rfl dX12_addsPart_43 ?_
  refine lv_bipush (v := 53) hx hb dX12_addsPart_46 (by decide) ?_
  refine lv_iload hx hb dX12_addsPart_48 (lv_at hl 0 rfl) ?_
  refine lv_iadd hx hb dX12_addsPart_50 ?_
  refine lv_topi (fun t11 et11 => ?_)
  have b12 : kb 53 t11 62 := kb_eq et11 (kb_add kc_53 b1 (by decide) (by decide))
  have qt11 : t11.toInt = 53 + c2_102.toInt := by rw [et11]; exact kt_cadd kc_53 b1 (by decide) (by decide)
  refine lv_iload hx hb dX12_addsPart_51 (lv_at hl 5 rfl) ?_
  refine va_iast hx hb hK hP hD hS 2 0 rfl rfl (kb_in b12 (by decide) (by decide)) dX12_addsPart_53 (fun H locs hP hD hS => ?_)
  have hP : va_P D vwCl (mW K o r f (va_up a_10 2 (upd (a_10 2) t11.toNatClampNeg t)) g) H := hP
  have hD : va_D A (mW K o r f (va_up a_10 2 (upd (a_10 2) t11.toNatClampNeg t)) g) := hD
  refine k_gen (P := fun z => va_P D vwCl (mW K o r f z g) H ∧ va_D A (mW K o r f z g) ∧ (mI f z) ∧ (mE (XR [(0, 63), (102, 103)]) f a f z) ∧ (mZ [] [2] f a f z)) (va_up a_10 2 (upd (a_10 2) t11.toNatClampNeg t)) ⟨hP, hD, (mI_2 hI (aI_sx hI.2.1 2 53 10 b12 (by decide) (by decide) (kb_any t) (by decide +kernel)) (kb_clt b12 (by decide) (by decide))), (mE_2 hE (bX_at 53 10 b12 (by decide) (by decide) (by decide))), (mZ_a hZ rfl)⟩ (fun a_13 ea_13 hq => ?_)
  obtain ⟨hP, hD, hI, hE, hZ⟩ := hq
  refine lv_aload_n hx hb dX12_addsPart_54 rfl (lv_at hl 1 rfl) ?_
  refine va_get (D := D) (ci := 12) (v := .ref (r 2)) (C := RX12) (T := TX12) (N := 48) hx hb hg inC12 hown hK hP 0 rfl rfl 2 (by decide) (hg _ wt5_162) (fun _ h9 => h9) rfl dX12_addsPart_55 ?_
  refine lv_iconst (v := 0) hx hb dX12_addsPart_58 (by decide) ?_
  refine lv_iload hx hb dX12_addsPart_59 (lv_at hl 0 rfl) ?_
  refine lv_iadd hx hb dX12_addsPart_61 ?_
  refine k_top (z := c2_102) (Int32.zero_add _) ?_
  refine lv_iload_n hx hb dX12_addsPart_62 rfl (lv_at hl 2 rfl) ?_
  refine va_iast hx hb hK hP hD hS 2 0 rfl rfl (kb_in b1 (by decide) (by decide)) dX12_addsPart_63 (fun H locs hP hD hS => ?_)
  have hP : va_P D vwCl (mW K o r f (va_up a_13 2 (upd (a_13 2) c2_102.toNatClampNeg x)) g) H := hP
  have hD : va_D A (mW K o r f (va_up a_13 2 (upd (a_13 2) c2_102.toNatClampNeg x)) g) := hD
  refine k_gen (P := fun z => va_P D vwCl (mW K o r f z g) H ∧ va_D A (mW K o r f z g) ∧ (mI f z) ∧ (mE (XR [(0, 63), (102, 103)]) f a f z) ∧ (mZ [] [2] f a f z)) (va_up a_13 2 (upd (a_13 2) c2_102.toNatClampNeg x)) ⟨hP, hD, (mI_2 hI (aI_sx hI.2.1 2 0 10 b1 (by decide) (by decide) bx (by decide +kernel)) (kb_clt b1 (by decide) (by decide))), (mE_2 hE (bX_at 0 10 b1 (by decide) (by decide) (by decide))), (mZ_a hZ rfl)⟩ (fun a_14 ea_14 hq => ?_)
  obtain ⟨hP, hD, hI, hE, hZ⟩ := hq
  refine lv_aload_n hx hb dX12_addsPart_64 rfl (lv_at hl 1 rfl) ?_
  refine va_get (D := D) (ci := 12) (v := .ref (r 2)) (C := RX12) (T := TX12) (N := 48) hx hb hg inC12 hown hK hP 0 rfl rfl 2 (by decide) (hg _ wt5_162) (fun _ h9 => h9) rfl dX12_addsPart_65 ?_
  refine lv_bipush (v := 102) hx hb dX12_addsPart_68 (by decide) ?_
  refine lv_dup2_11 hx hb dX12_addsPart_70 rfl rfl ?_
  refine va_iald hx hb hK hP 2 0 rfl rfl (kb_in kc_102 (by decide) (by decide)) dX12_addsPart_71 ?_
  refine k_top (z := c2_102) (by rw [cl_102]; exact ((show a_14 2 102 = a_13 2 102 from by rw [← ea_14]; exact (pk_un (f := a_13 2) (j := 102) (kb_nc b1 (by decide) (by decide)))).trans ((show a_13 2 102 = a_10 2 102 from by rw [← ea_13]; exact (pk_un (f := a_10 2) (j := 102) (kb_nc b12 (by decide) (by decide)))).trans ((show a_10 2 102 = a_7 2 102 from by rw [← ea_10]; exact (pk_un (f := a_7 2) (j := 102) (kb_nc b9 (by decide) (by decide)))).trans ((show a_7 2 102 = a_4 2 102 from by rw [← ea_7]; exact (pk_un (f := a_4 2) (j := 102) (kb_nc b6 (by decide) (by decide)))).trans ((show a_4 2 102 = a 2 102 from by rw [← ea_4]; exact (pk_un (f := a 2) (j := 102) (kb_nc b3 (by decide) (by decide)))).trans ec2_102.symm)))))) ?_
  refine lv_iconst (v := 1) hx hb dX12_addsPart_72 (by decide) ?_
  refine lv_iadd hx hb dX12_addsPart_73 ?_
  refine lv_topi (fun t15 et15 => ?_)
  have b16 : kb 1 t15 10 := kb_eq et15 (kb_add b1 kc_1 (by decide) (by decide))
  have qt15 : t15.toInt = c2_102.toInt + 1 := by rw [et15]; exact kt_addc b1 kc_1 (by decide) (by decide)
  refine va_iast hx hb hK hP hD hS 2 0 rfl rfl (kb_in kc_102 (by decide) (by decide)) dX12_addsPart_74 (fun H locs hP hD hS => ?_)
  rw [cl_102] at hP hD
  have hP : va_P D vwCl (mW K o r f (va_up a_14 2 (upd (a_14 2) 102 t15)) g) H := hP
  have hD : va_D A (mW K o r f (va_up a_14 2 (upd (a_14 2) 102 t15)) g) := hD
  refine k_gen (P := fun z => va_P D vwCl (mW K o r f z g) H ∧ va_D A (mW K o r f z g) ∧ (mI f z) ∧ (mE (XR [(0, 63), (102, 103)]) f a f z) ∧ (mZ [] [2] f a f z)) (va_up a_14 2 (upd (a_14 2) 102 t15)) ⟨hP, hD, (mI_2 hI (aI_st hI.2.1 2 102 b16 (by decide) (by decide)) (by decide)), (mE_2 hE (by decide)), (mZ_a hZ rfl)⟩ (fun a_17 ea_17 hq => ?_)
  obtain ⟨hP, hD, hI, hE, hZ⟩ := hq
  exact kV_ret hx hb hr hlocks hK hS dX12_addsPart_75 (f, a_17, g) hP hD ⟨hI, hE, (by show (a_17 2 102).toInt = _; have e1 := congrArg Int32.toInt (show a_17 2 102 = t15 from by rw [← ea_17]; exact (pk_us (f := a_14 2) (k := 102) (x := t15))); have e2 := congrArg Int32.toInt ec2_102; omega), (prtK_e ((show a_17 2 = upd (a_14 2) 102 t15 from by rw [← ea_17]; rfl).trans (congrArg (fun zz_ => upd zz_ 102 t15) ((show a_14 2 = upd (a_13 2) c2_102.toNatClampNeg x from by rw [← ea_14]; rfl).trans (congrArg (fun zz_ => upd zz_ c2_102.toNatClampNeg x) ((show a_13 2 = upd (a_10 2) t11.toNatClampNeg t from by rw [← ea_13]; rfl).trans (congrArg (fun zz_ => upd zz_ t11.toNatClampNeg t) ((show a_10 2 = upd (a_7 2) t8.toNatClampNeg z from by rw [← ea_10]; rfl).trans (congrArg (fun zz_ => upd zz_ t8.toNatClampNeg z) ((show a_7 2 = upd (a_4 2) t5.toNatClampNeg y from by rw [← ea_7]; rfl).trans (congrArg (fun zz_ => upd zz_ t5.toNatClampNeg y) (show a_4 2 = upd (a 2) t2.toNatClampNeg x from by rw [← ea_4]; rfl))))))))))) (show t2.toNatClampNeg = 23 + (a 2 102).toInt.toNat from by rw [← ec2_102]; have w1 := qt2; have w2 := (b1).1; unfold Int32.toNatClampNeg; omega) (show t5.toNatClampNeg = 33 + (a 2 102).toInt.toNat from by rw [← ec2_102]; have w1 := qt5; have w2 := (b1).1; unfold Int32.toNatClampNeg; omega) (show t8.toNatClampNeg = 43 + (a 2 102).toInt.toNat from by rw [← ec2_102]; have w1 := qt8; have w2 := (b1).1; unfold Int32.toNatClampNeg; omega) (show t11.toNatClampNeg = 53 + (a 2 102).toInt.toNat from by rw [← ec2_102]; have w1 := qt11; have w2 := (b1).1; unfold Int32.toNatClampNeg; omega) (show c2_102.toNatClampNeg = 0 + (a 2 102).toInt.toNat from by rw [← ec2_102]; have w2 := (b1).1; unfold Int32.toNatClampNeg; omega) (et15.trans (by rw [ec2_102]))), hZ⟩
set_option maxHeartbeats 4000000 in
set_option maxRecDepth 100000 in
theorem n_part  (l : Launch) {D : va_G} {K : Nat → ClassId} (o : Nat) (r : Nat → Nat) (f : Nat → Int32) (a : Nat → Nat → Int32) (g : Nat → Int64) (hI : mI f a) (x : Int32) (y : Int32) (z : Int32) (t : Int32)  (P : pS) (hp0 : mPs (f 33) (a 31) P) : kI l yX12_part (Cond.code yX12_part cX12_part 5 (some .int) :: kG) (rmD 3 0 0) D (tysK K) [.ref o, .int x, .int y, .int z, .int t] (mW K o r f a g) (fun v (u : mS) => kb (-2147483648) v 2147483647 ∧ mI u.1 u.2.1 ∧ mE (XR [(0, 63), (102, 103)]) f a u.1 u.2.1 ∧ prtP (okPm x y z t (a 2 102)) v (a 2 102) (u.2.1 2 102) ∧ mTe v u.1 u.2.1 (a 1) (a 2) P (prtK (a 2) (a 2 102).toInt.toNat x y z t) (noP P) ∧ mZ [0, 33] [1, 2] f a u.1 u.2.1) (fun u => mW K o r u.1 u.2.1 u.2.2) 0 0 := by
  refine kI.of (cc := cX12_part) (maxL := 5) (ret := (some .int)) (by decide) rfl (Nat.le_of_ble_eq_true rfl) ?_
  intro p e s m below meth c A hx hb hr hml hown hts hlocks hnm hK hP hD hS hA ls hl
  have hE : mE (XR [(0, 63), (102, 103)]) f a f a := mE_rf
  have hZ : mZ [0, 33] [1, 2] f a f a := mZ_rf
  have hg : ∀ w ∈ kG, w.before _ s = true := fun w h => hts w (List.mem_cons_of_mem _ h)
  have hown : s.vm.findClass RX12 = some m.cls := hown
  have hl : lv_has ls 5 [(0, .ref o), (1, .int x), (2, .int y), (3, .int z), (4, .int t)] := hl
  obtain ⟨c2_102, ec2_102⟩ : ∃ z : Int32, z = a 2 102 := ⟨_, rfl⟩
  have b1 : kb 0 c2_102 10 := kb_eq ec2_102 (aI_at hI.2.1 2 102 (by decide) (by decide))
  refine lv_aload_n hx hb dX12_part_0 rfl (lv_at hl 0 rfl) ?_
  refine lv_iload_n hx hb dX12_part_1 rfl (lv_at hl 1 rfl) ?_
  refine lv_iload_n hx hb dX12_part_2 rfl (lv_at hl 2 rfl) ?_
  refine lv_iload_n hx hb dX12_part_3 rfl (lv_at hl 3 rfl) ?_
  refine lv_iload hx hb dX12_part_4 (lv_at hl 4 rfl) ?_
  refine kI.callV (As := [.int x, .int y, .int z, .int t]) (rest := []) ⟨hx, hb, hml, hown, hg⟩ (m_canPart l o r f a g hI x y z t  ) (cwV 4 hg (kgV wt6_92 wt6_94 wp3_8 wt1_14 wt6_95) rfl rfl rfl (by decide +kernel) ⟨by decide, by decide⟩) hK hP hD hS hA mIs [] rfl (wr := []) rfl rfl rfl (fun i h => by cases h) 0 12 rfl rfl rfl hl.1 rfl (Nat.le_of_ble_eq_true rfl) dX12_part_6 ⟨Nat.le_refl _, Nat.le_refl _⟩ (fun v3 u4 H locs hw2 hP hD hS => ?_)
  have hP : va_P D vwCl (mW K o r f a g) H := hP
  have hD : va_D A (mW K o r f a g) := hD
  refine lv_if_ne (tgt := 18) hx hb dX12_part_9 (by decide) (fun c5 => ?_) (fun c5 => ?_)
  · have b6 : kb 1 v3 1 := kr_nel c5 hw2.1 kc_0 (by decide)
    have h7 := hw2.2.1 c5
    have b8 : kb 1 x 99 := kb_of2 h7
    refine lv_aload_n hx hb dX12_part_18 rfl (lv_at hl 0 rfl) ?_
    refine va_get (D := D) (ci := 12) (v := .ref (r 2)) (C := RX12) (T := TX12) (N := 48) hx hb hg inC12 hown hK hP 0 rfl rfl 2 (by decide) (hg _ wt5_162) (fun _ h9 => h9) rfl dX12_part_19 ?_
    refine lv_bipush (v := 102) hx hb dX12_part_22 (by decide) ?_
    refine va_iald hx hb hK hP 2 0 rfl rfl (kb_in kc_102 (by decide) (by decide)) dX12_part_24 ?_
    refine k_top (z := c2_102) (by rw [cl_102]; exact ec2_102.symm) ?_
    refine lv_bipush (v := 10) hx hb dX12_part_25 (by decide) ?_
    refine lv_icmp_ne (tgt := 37) hx hb dX12_part_27 (by decide) (fun c9 => ?_) (fun c9 => ?_)
    · have b10 : kb 0 c2_102 9 := kr_neh c9 b1 kc_10 (by decide)
      refine lv_aload_n hx hb dX12_part_37 rfl (lv_at hl 0 rfl) ?_
      refine lv_iload_n hx hb dX12_part_38 rfl (lv_at hl 1 rfl) ?_
      refine lv_iload_n hx hb dX12_part_39 rfl (lv_at hl 2 rfl) ?_
      refine lv_iload_n hx hb dX12_part_40 rfl (lv_at hl 3 rfl) ?_
      refine lv_iload hx hb dX12_part_41 (lv_at hl 4 rfl) ?_
      refine kV.callV (As := [.int x, .int y, .int z, .int t]) (rest := []) ⟨hx, hb, hml, hown, hg⟩ (n_addsPart l o r f a g hI x y z t b8 (kb_eq ec2_102.symm b10)) (cwV 4 hg (kgV wt6_96 wt6_98 wp3_9 wt1_14 wt6_99) rfl rfl rfl (by decide +kernel) ⟨by decide, by decide⟩) hK hP hD hS hA mIs [] rfl (wr := []) rfl rfl rfl (fun i h => by cases h) 0 12 rfl rfl rfl hl.1 rfl (Nat.le_of_ble_eq_true rfl) dX12_part_43 ⟨Nat.le_refl _, Nat.le_refl _⟩ (fun u13 H locs hw11 hP hD hS => ?_)
      obtain ⟨f14, a15, g16⟩ := u13
      have hP : va_P D vwCl (mW K o r f14 a15 g16) H := hP
      have hD : va_D A (mW K o r f14 a15 g16) := hD
      have hI : mI f14 a15 := hw11.1
      have hE : mE (XR [(0, 63), (102, 103)]) f a f14 a15 := mE_tr hE hw11.2.1
      have eE17 : mE (XR [(0, 63), (102, 103)]) f a f14 a15 := hw11.2.1
      have eZ18 : mZ [] [2] f a f14 a15 := hw11.2.2.2.2
      have hZ : mZ [0, 33] [1, 2] f a f14 a15 := mZ_tr hZ (mZ_w (by decide) (by decide) eZ18)
      refine lv_aload_n hx hb dX12_part_46 rfl (lv_at hl 0 rfl) ?_
      refine lv_aload_n hx hb dX12_part_47 rfl (lv_at hl 0 rfl) ?_
      refine va_get (D := D) (ci := 12) (v := .ref (r 2)) (C := RX12) (T := TX12) (N := 48) hx hb hg inC12 hown hK hP 0 rfl rfl 2 (by decide) (hg _ wt5_162) (fun _ h9 => h9) rfl dX12_part_48 ?_
      refine lv_bipush (v := 102) hx hb dX12_part_51 (by decide) ?_
      refine va_iald hx hb hK hP 2 0 rfl rfl (kb_in kc_102 (by decide) (by decide)) dX12_part_53 ?_
      refine lv_topi (fun t19 et19 => ?_)
      rw [cl_102] at et19
      have b20 : kb 0 t19 10 := kb_eq et19 (aI_at hI.2.1 2 102 (by decide) (by decide))
      refine lv_iconst (v := 1) hx hb dX12_part_54 (by decide) ?_
      refine lv_isub hx hb dX12_part_55 ?_
      refine lv_topi (fun t21 et21 => ?_)
      have b22 : kb (-1) t21 9 := kb_eq et21 (kb_sub b20 kc_1 (by decide) (by decide))
      have qt21 : t21.toInt = t19.toInt - 1 := by rw [et21]; exact kt_subc b20 kc_1 (by decide) (by decide)
      refine kI.callV (As := [.int t21]) (rest := []) ⟨hx, hb, hml, hown, hg⟩ (n_settled l o r f14 a15 g16 hI t21  ) (cwV 1 hg (kgV wt6_84 wt6_86 wp3_7 wt1_14 wt6_87) rfl rfl rfl (by decide +kernel) ⟨by decide, by decide⟩) hK hP hD hS hA mIs [] rfl (wr := []) rfl rfl rfl (fun i h => by cases h) 0 12 rfl rfl rfl hl.1 rfl (Nat.le_of_ble_eq_true rfl) dX12_part_56 ⟨Nat.le_refl _, Nat.le_refl _⟩ (fun v24 u25 H locs hw23 hP hD hS => ?_)
      obtain ⟨f26, a27, g28⟩ := u25
      have hP : va_P D vwCl (mW K o r f26 a27 g28) H := hP
      have hD : va_D A (mW K o r f26 a27 g28) := hD
      have hI : mI f26 a27 := hw23.2.1
      have hE : mE (XR [(0, 63), (102, 103)]) f a f26 a27 := mE_tr hE (mE_w (XR_w (by decide)) hw23.2.2.1)
      have eE29 : mE (XR []) f14 a15 f26 a27 := hw23.2.2.1
      have eZ30 : mZ [0, 33] [] f14 a15 f26 a27 := hw23.2.2.2.2.2.2
      have hZ : mZ [0, 33] [1, 2] f a f26 a27 := mZ_tr hZ (mZ_w (by decide) (by decide) eZ30)
      refine k_top (z := t21) hw23.2.2.2.1 ?_
      exact kI_ret (v := t21) hx hb hr hlocks rfl hK hS dX12_part_59 (f26, a27, g28) hP hD ⟨(kb_w b22 (by decide) (by decide)), hI, hE, (Or.inr (Or.inr ⟨(by rw [← ec2_102]; exact Int32.toInt_inj.mp (by have e1 := congrArg Int32.toInt (et19.symm); have e2 := congrArg Int32.toInt ec2_102; have e3 := (show (a15 2 102).toInt = (a 2 102).toInt + 1 from hw11.2.2.1); omega)), hw2.2.2.1 c5, (by rw [← ec2_102]; exact b10), (by show (a27 2 102).toInt = (a 2 102).toInt + 1; have e0 := congrArg Int32.toInt (((congrFun (eZ30.2 2 rfl) 102).trans et19.symm)); have e1 := congrArg Int32.toInt (et19.symm); have e3 := (show (a15 2 102).toInt = (a 2 102).toInt + 1 from hw11.2.2.1); omega)⟩)), (Or.inr ⟨(fun w9 => by have e1 := congrArg Int32.toInt (et19.symm); have e2 := congrArg Int32.toInt ec2_102; have e3 := (show (a15 2 102).toInt = (a 2 102).toInt + 1 from hw11.2.2.1); have e5 := (b10).1; omega), hw23.2.2.2.2.1, ((eZ30.2 1 rfl).trans (eZ18.2 1 rfl)), (((eZ30.2 2 rfl)).trans (hw11.2.2.2.1.trans (by rw [show a 2 = a 2 from rfl]))), (mP_no hw23.2.2.2.2.2.1)⟩), hZ⟩
    · have b31 : kb 10 c2_102 10 := kb_eq c9 kc_10
      refine lv_aload_n hx hb dX12_part_30 rfl (lv_at hl 0 rfl) ?_
      refine lv_bipush (v := (-5)) hx hb dX12_part_31 (by decide) ?_
      refine kI.callV (As := [.int (-5)]) (rest := []) ⟨hx, hb, hml, hown, hg⟩ (n_refuses l o r f a g hI (-5) (kb_w kc_m5 (by decide) (by decide)) ) (cwV 1 hg (kgV wt6_72 wt6_74 wp3_5 wt1_14 wt6_75) rfl rfl rfl (by decide +kernel) ⟨by decide, by decide⟩) hK hP hD hS hA mIs [] rfl (wr := []) rfl rfl rfl (fun i h => by cases h) 0 12 rfl rfl rfl hl.1 rfl (Nat.le_of_ble_eq_true rfl) dX12_part_33 ⟨Nat.le_refl _, Nat.le_refl _⟩ (fun v33 u34 H locs hw32 hP hD hS => ?_)
      obtain ⟨f35, a36, g37⟩ := u34
      have hP : va_P D vwCl (mW K o r f35 a36 g37) H := hP
      have hD : va_D A (mW K o r f35 a36 g37) := hD
      have hI : mI f35 a36 := hw32.2.1
      have hE : mE (XR [(0, 63), (102, 103)]) f a f35 a36 := mE_tr hE (mE_w (XR_w (by decide)) hw32.2.2.1)
      have eE38 : mE (XR []) f a f35 a36 := hw32.2.2.1
      have eZ39 : mZ [0] [1] f a f35 a36 := hw32.2.2.2.2.2.2
      have hZ : mZ [0, 33] [1, 2] f a f35 a36 := mZ_tr hZ (mZ_w (by decide) (by decide) eZ39)
      refine k_top (z := (-5)) hw32.2.2.2.1 ?_
      exact kI_ret (v := (-5)) hx hb hr hlocks rfl hK hS dX12_part_36 (f35, a36, g37) hP hD ⟨(kb_w kc_m5 (by decide) (by decide)), hI, hE, (Or.inr (Or.inl ⟨rfl, hw2.2.2.1 c5, (by rw [← ec2_102]; have w1 := (b31).1; omega), ((((congrFun (eZ39.2 2 rfl) 102).trans ec2_102.symm)).trans ec2_102)⟩)), (Or.inl ⟨(by decide +kernel), hw32.2.2.2.2.1, hw32.2.2.2.2.2.1.trans (by rw [show a 1 = a 1 from rfl]), (eZ39.2 2 rfl), (by (try dsimp only); rw [show f35 33 = f 33 from (eZ39.1 33 rfl), show a36 31 = a 31 from (eZ39.2 31 rfl)]; exact hp0)⟩), hZ⟩
  · have b40 : kb 0 v3 0 := kb_eq c5 kc_0
    refine lv_aload_n hx hb dX12_part_12 rfl (lv_at hl 0 rfl) ?_
    refine lv_iconst (v := (-1)) hx hb dX12_part_13 (by decide) ?_
    refine kI.callV (As := [.int (-1)]) (rest := []) ⟨hx, hb, hml, hown, hg⟩ (n_refuses l o r f a g hI (-1) (kb_w kc_m1 (by decide) (by decide)) ) (cwV 1 hg (kgV wt6_72 wt6_74 wp3_5 wt1_14 wt6_75) rfl rfl rfl (by decide +kernel) ⟨by decide, by decide⟩) hK hP hD hS hA mIs [] rfl (wr := []) rfl rfl rfl (fun i h => by cases h) 0 12 rfl rfl rfl hl.1 rfl (Nat.le_of_ble_eq_true rfl) dX12_part_14 ⟨Nat.le_refl _, Nat.le_refl _⟩ (fun v42 u43 H locs hw41 hP hD hS => ?_)
    obtain ⟨f44, a45, g46⟩ := u43
    have hP : va_P D vwCl (mW K o r f44 a45 g46) H := hP
    have hD : va_D A (mW K o r f44 a45 g46) := hD
    have hI : mI f44 a45 := hw41.2.1
    have hE : mE (XR [(0, 63), (102, 103)]) f a f44 a45 := mE_tr hE (mE_w (XR_w (by decide)) hw41.2.2.1)
    have eE47 : mE (XR []) f a f44 a45 := hw41.2.2.1
    have eZ48 : mZ [0] [1] f a f44 a45 := hw41.2.2.2.2.2.2
    have hZ : mZ [0, 33] [1, 2] f a f44 a45 := mZ_tr hZ (mZ_w (by decide) (by decide) eZ48)
    refine k_top (z := (-1)) hw41.2.2.2.1 ?_
    exact kI_ret (v := (-1)) hx hb hr hlocks rfl hK hS dX12_part_17 (f44, a45, g46) hP hD ⟨(kb_w kc_m1 (by decide) (by decide)), hI, hE, (Or.inl ⟨rfl, hw2.2.2.2 c5, ((((congrFun (eZ48.2 2 rfl) 102).trans ec2_102.symm)).trans ec2_102)⟩), (Or.inl ⟨(by decide +kernel), hw41.2.2.2.2.1, hw41.2.2.2.2.2.1.trans (by rw [show a 1 = a 1 from rfl]), (eZ48.2 2 rfl), (by (try dsimp only); rw [show f44 33 = f 33 from (eZ48.1 33 rfl), show a45 31 = a 31 from (eZ48.2 31 rfl)]; exact hp0)⟩), hZ⟩
set_option maxHeartbeats 4000000 in
set_option maxRecDepth 100000 in
theorem n_builder  (l : Launch) {D : va_G} {K : Nat → ClassId} (o : Nat) (r : Nat → Nat) (f : Nat → Int32) (a : Nat → Nat → Int32) (g : Nat → Int64) (hI : mI f a) (x : Int32) (y : Int32)  (P : pS) (hp0 : mPs (f 33) (a 31) P) : kI l yX12_builder (Cond.code yX12_builder cX12_builder 4 (some .int) :: kG) (rmD 3 0 0) D (tysK K) [.ref o, .int x, .int y] (mW K o r f a g) (fun v (u : mS) => kb (-2147483648) v 2147483647 ∧ mI u.1 u.2.1 ∧ mE (XR [(0, 23), (63, 75), (103, 104)]) f a u.1 u.2.1 ∧ bldP x y v (a 2 103) (u.2.1 2 103) ∧ mTe v u.1 u.2.1 (a 1) (a 2) P (bldK (a 2) (a 2 103).toInt.toNat x y) (noP P) ∧ mZ [0, 33] [1, 2] f a u.1 u.2.1) (fun u => mW K o r u.1 u.2.1 u.2.2) 0 0 := by
  refine kI.of (cc := cX12_builder) (maxL := 4) (ret := (some .int)) (by decide) rfl (Nat.le_of_ble_eq_true rfl) ?_
  intro p e s m below meth c A hx hb hr hml hown hts hlocks hnm hK hP hD hS hA ls hl
  have hE : mE (XR [(0, 23), (63, 75), (103, 104)]) f a f a := mE_rf
  have hZ : mZ [0, 33] [1, 2] f a f a := mZ_rf
  have hg : ∀ w ∈ kG, w.before _ s = true := fun w h => hts w (List.mem_cons_of_mem _ h)
  have hown : s.vm.findClass RX12 = some m.cls := hown
  have hl : lv_has ls 4 [(0, .ref o), (1, .int x), (2, .int y)] := hl
  obtain ⟨c2_103, ec2_103⟩ : ∃ z : Int32, z = a 2 103 := ⟨_, rfl⟩
  have b1 : kb 0 c2_103 6 := kb_eq ec2_103 (aI_at hI.2.1 2 103 (by decide) (by decide))
  refine lv_iload_n hx hb dX12_builder_0 rfl (lv_at hl 1 rfl) ?_
  refine lv_iconst (v := 1) hx hb dX12_builder_1 (by decide) ?_
  refine lv_bipush (v := 15) hx hb dX12_builder_2 (by decide) ?_
  refine kN.callS (As := [.int x, .int 1, .int 15]) (rest := []) ⟨hx, hb, hml, hown, hg⟩ (m_lies l x 1 15 ) (va_cwS 3 hg (kgS wt6_69 wt6_70 wt1_14 wt6_71) rfl rfl rfl (by decide +kernel) ⟨by decide, by decide⟩) hP hS rfl hl.1 rfl (Nat.le_of_ble_eq_true rfl) dX12_builder_4 ⟨Nat.le_refl _, Nat.le_refl _⟩ (fun v3 H locs hw2 hP hS => ?_)
  refine lv_if_eq (tgt := 20) hx hb dX12_builder_7 (by decide) (fun c5 => ?_) (fun c5 => ?_)
  · have b6 : kb 0 v3 0 := kb_eq c5 kc_0
    refine lv_aload_n hx hb dX12_builder_20 rfl (lv_at hl 0 rfl) ?_
    refine lv_iconst (v := (-1)) hx hb dX12_builder_21 (by decide) ?_
    refine kI.callV (As := [.int (-1)]) (rest := []) ⟨hx, hb, hml, hown, hg⟩ (n_refuses l o r f a g hI (-1) (kb_w kc_m1 (by decide) (by decide)) ) (cwV 1 hg (kgV wt6_72 wt6_74 wp3_5 wt1_14 wt6_75) rfl rfl rfl (by decide +kernel) ⟨by decide, by decide⟩) hK hP hD hS hA mIs [] rfl (wr := []) rfl rfl rfl (fun i h => by cases h) 0 12 rfl rfl rfl hl.1 rfl (Nat.le_of_ble_eq_true rfl) dX12_builder_22 ⟨Nat.le_refl _, Nat.le_refl _⟩ (fun v8 u9 H locs hw7 hP hD hS => ?_)
    obtain ⟨f10, a11, g12⟩ := u9
    have hP : va_P D vwCl (mW K o r f10 a11 g12) H := hP
    have hD : va_D A (mW K o r f10 a11 g12) := hD
    have hI : mI f10 a11 := hw7.2.1
    have hE : mE (XR [(0, 23), (63, 75), (103, 104)]) f a f10 a11 := mE_tr hE (mE_w (XR_w (by decide)) hw7.2.2.1)
    have eE13 : mE (XR []) f a f10 a11 := hw7.2.2.1
    have eZ14 : mZ [0] [1] f a f10 a11 := hw7.2.2.2.2.2.2
    have hZ : mZ [0, 33] [1, 2] f a f10 a11 := mZ_tr hZ (mZ_w (by decide) (by decide) eZ14)
    refine k_top (z := (-1)) hw7.2.2.2.1 ?_
    exact kI_ret (v := (-1)) hx hb hr hlocks rfl hK hS dX12_builder_25 (f10, a11, g12) hP hD ⟨(kb_w kc_m1 (by decide) (by decide)), hI, hE, (Or.inl ⟨rfl, fun q => mLies_z (hw2.2.symm.trans c5) (by decide +kernel) (by decide +kernel) q.1, ((((congrFun (eZ14.2 2 rfl) 103).trans ec2_103.symm)).trans ec2_103)⟩), (Or.inl ⟨(by decide +kernel), hw7.2.2.2.2.1, hw7.2.2.2.2.2.1.trans (by rw [show a 1 = a 1 from rfl]), (eZ14.2 2 rfl), (by (try dsimp only); rw [show f10 33 = f 33 from (eZ14.1 33 rfl), show a11 31 = a 31 from (eZ14.2 31 rfl)]; exact hp0)⟩), hZ⟩
  · have b15 : kb 1 v3 1 := kr_nel c5 hw2.1 kc_0 (by decide)
    have h16 := mLies_ne (hw2.2 ▸ c5)
    have b17 : kb 1 x 2147483647 := kr_le2 h16.1 kc_1 (kb_any x)
    have b18 : kb 1 x 15 := kr_le1 h16.2 b17 kc_15
    refine lv_iload_n hx hb dX12_builder_10 rfl (lv_at hl 2 rfl) ?_
    refine lv_iconst (v := 1) hx hb dX12_builder_11 (by decide) ?_
    refine lv_bipush (v := 9) hx hb dX12_builder_12 (by decide) ?_
    refine kN.callS (As := [.int y, .int 1, .int 9]) (rest := []) ⟨hx, hb, hml, hown, hg⟩ (m_lies l y 1 9 ) (va_cwS 3 hg (kgS wt6_69 wt6_70 wt1_14 wt6_71) rfl rfl rfl (by decide +kernel) ⟨by decide, by decide⟩) hP hS rfl hl.1 rfl (Nat.le_of_ble_eq_true rfl) dX12_builder_14 ⟨Nat.le_refl _, Nat.le_refl _⟩ (fun v20 H locs hw19 hP hS => ?_)
    refine lv_if_ne (tgt := 26) hx hb dX12_builder_17 (by decide) (fun c22 => ?_) (fun c22 => ?_)
    · have b23 : kb 1 v20 1 := kr_nel c22 hw19.1 kc_0 (by decide)
      have h24 := mLies_ne (hw19.2 ▸ c22)
      have b25 : kb 1 y 2147483647 := kr_le2 h24.1 kc_1 (kb_any y)
      have b26 : kb 1 y 9 := kr_le1 h24.2 b25 kc_9
      refine lv_aload_n hx hb dX12_builder_26 rfl (lv_at hl 0 rfl) ?_
      refine va_get (D := D) (ci := 12) (v := .ref (r 2)) (C := RX12) (T := TX12) (N := 48) hx hb hg inC12 hown hK hP 0 rfl rfl 2 (by decide) (hg _ wt5_162) (fun _ h9 => h9) rfl dX12_builder_27 ?_
      refine lv_bipush (v := 103) hx hb dX12_builder_30 (by decide) ?_
      refine va_iald hx hb hK hP 2 0 rfl rfl (kb_in kc_103 (by decide) (by decide)) dX12_builder_32 ?_
      refine k_top (z := c2_103) (by rw [cl_103]; exact ec2_103.symm) ?_
      refine lv_istore_n (lv' := [(3, .int c2_103), (0, .ref o), (1, .int x), (2, .int y)]) hx hb dX12_builder_33 rfl hl (by decide) rfl (fun ls hl => ?_)
      refine lv_iload_n hx hb dX12_builder_34 rfl (lv_at hl 0 rfl) ?_
      refine lv_bipush (v := 6) hx hb dX12_builder_35 (by decide) ?_
      refine lv_icmp_ne (tgt := 47) hx hb dX12_builder_37 (by decide) (fun c27 => ?_) (fun c27 => ?_)
      · have b28 : kb 0 c2_103 5 := kr_neh c27 b1 kc_6 (by decide)
        refine lv_aload_n hx hb dX12_builder_47 rfl (lv_at hl 1 rfl) ?_
        refine va_get (D := D) (ci := 12) (v := .ref (r 2)) (C := RX12) (T := TX12) (N := 48) hx hb hg inC12 hown hK hP 0 rfl rfl 2 (by decide) (hg _ wt5_162) (fun _ h9 => h9) rfl dX12_builder_48 ?_
        refine lv_bipush (v := 63) hx hb dX12_builder_51 (by decide) ?_
        refine lv_iload_n hx hb dX12_builder_53 rfl (lv_at hl 0 rfl) ?_
        refine lv_iadd hx hb dX12_builder_54 ?_
        refine lv_topi (fun t29 et29 => ?_)
        have b30 : kb 63 t29 68 := kb_eq et29 (kb_add kc_63 b28 (by decide) (by decide))
        have qt29 : t29.toInt = 63 + c2_103.toInt := by rw [et29]; exact kt_cadd kc_63 b28 (by decide) (by decide)
        refine lv_iload_n hx hb dX12_builder_55 rfl (lv_at hl 2 rfl) ?_
        refine va_iast hx hb hK hP hD hS 2 0 rfl rfl (kb_in b30 (by decide) (by decide)) dX12_builder_56 (fun H locs hP hD hS => ?_)
        have hP : va_P D vwCl (mW K o r f (va_up a 2 (upd (a 2) t29.toNatClampNeg x)) g) H := hP
        have hD : va_D A (mW K o r f (va_up a 2 (upd (a 2) t29.toNatClampNeg x)) g) := hD
        refine k_gen (P := fun z => va_P D vwCl (mW K o r f z g) H ∧ va_D A (mW K o r f z g) ∧ (mI f z) ∧ (mE (XR [(0, 23), (63, 75), (103, 104)]) f a f z) ∧ (mZ [0, 33] [1, 2] f a f z)) (va_up a 2 (upd (a 2) t29.toNatClampNeg x)) ⟨hP, hD, (mI_2 hI (aI_sx hI.2.1 2 63 6 b30 (by decide) (by decide) b18 (by decide +kernel)) (kb_clt b30 (by decide) (by decide))), (mE_2 hE (bX_at 63 6 b30 (by decide) (by decide) (by decide))), (mZ_a hZ rfl)⟩ (fun a_31 ea_31 hq => ?_)
        obtain ⟨hP, hD, hI, hE, hZ⟩ := hq
        refine lv_aload_n hx hb dX12_builder_57 rfl (lv_at hl 1 rfl) ?_
        refine va_get (D := D) (ci := 12) (v := .ref (r 2)) (C := RX12) (T := TX12) (N := 48) hx hb hg inC12 hown hK hP 0 rfl rfl 2 (by decide) (hg _ wt5_162) (fun _ h9 => h9) rfl dX12_builder_58 ?_
        refine lv_bipush (v := 69) hx hb dX12_builder_61 (by decide) ?_
        refine lv_iload_n hx hb dX12_builder_63 rfl (lv_at hl 0 rfl) ?_
        refine lv_iadd hx hb dX12_builder_64 ?_
        refine lv_topi (fun t32 et32 => ?_)
        have b33 : kb 69 t32 74 := kb_eq et32 (kb_add kc_69 b28 (by decide) (by decide))
        have qt32 : t32.toInt = 69 + c2_103.toInt := by rw [et32]; exact kt_cadd kc_69 b28 (by decide) (by decide)
        refine lv_iload_n hx hb dX12_builder_65 rfl (lv_at hl 3 rfl) ?_
        refine va_iast hx hb hK hP hD hS 2 0 rfl rfl (kb_in b33 (by decide) (by decide)) dX12_builder_66 (fun H locs hP hD hS => ?_)
        have hP : va_P D vwCl (mW K o r f (va_up a_31 2 (upd (a_31 2) t32.toNatClampNeg y)) g) H := hP
        have hD : va_D A (mW K o r f (va_up a_31 2 (upd (a_31 2) t32.toNatClampNeg y)) g) := hD
        refine k_gen (P := fun z => va_P D vwCl (mW K o r f z g) H ∧ va_D A (mW K o r f z g) ∧ (mI f z) ∧ (mE (XR [(0, 23), (63, 75), (103, 104)]) f a f z) ∧ (mZ [0, 33] [1, 2] f a f z)) (va_up a_31 2 (upd (a_31 2) t32.toNatClampNeg y)) ⟨hP, hD, (mI_2 hI (aI_sx hI.2.1 2 69 6 b33 (by decide) (by decide) b26 (by decide +kernel)) (kb_clt b33 (by decide) (by decide))), (mE_2 hE (bX_at 69 6 b33 (by decide) (by decide) (by decide))), (mZ_a hZ rfl)⟩ (fun a_34 ea_34 hq => ?_)
        obtain ⟨hP, hD, hI, hE, hZ⟩ := hq
        refine lv_aload_n hx hb dX12_builder_67 rfl (lv_at hl 1 rfl) ?_
        refine va_get (D := D) (ci := 12) (v := .ref (r 2)) (C := RX12) (T := TX12) (N := 48) hx hb hg inC12 hown hK hP 0 rfl rfl 2 (by decide) (hg _ wt5_162) (fun _ h9 => h9) rfl dX12_builder_68 ?_
        refine lv_bipush (v := 10) hx hb dX12_builder_71 (by decide) ?_
        refine lv_iload_n hx hb dX12_builder_73 rfl (lv_at hl 0 rfl) ?_
        refine lv_iadd hx hb dX12_builder_74 ?_
        refine lv_topi (fun t35 et35 => ?_)
        have b36 : kb 10 t35 15 := kb_eq et35 (kb_add kc_10 b28 (by decide) (by decide))
        have qt35 : t35.toInt = 10 + c2_103.toInt := by rw [et35]; exact kt_cadd kc_10 b28 (by decide) (by decide)
        refine lv_iconst (v := 0) hx hb dX12_builder_75 (by decide) ?_
        refine va_iast hx hb hK hP hD hS 2 0 rfl rfl (kb_in b36 (by decide) (by decide)) dX12_builder_76 (fun H locs hP hD hS => ?_)
        have hP : va_P D vwCl (mW K o r f (va_up a_34 2 (upd (a_34 2) t35.toNatClampNeg 0)) g) H := hP
        have hD : va_D A (mW K o r f (va_up a_34 2 (upd (a_34 2) t35.toNatClampNeg 0)) g) := hD
        refine k_gen (P := fun z => va_P D vwCl (mW K o r f z g) H ∧ va_D A (mW K o r f z g) ∧ (mI f z) ∧ (mE (XR [(0, 23), (63, 75), (103, 104)]) f a f z) ∧ (mZ [0, 33] [1, 2] f a f z)) (va_up a_34 2 (upd (a_34 2) t35.toNatClampNeg 0)) ⟨hP, hD, (mI_2 hI (aI_sx hI.2.1 2 10 6 b36 (by decide) (by decide) kc_0 (by decide +kernel)) (kb_clt b36 (by decide) (by decide))), (mE_2 hE (bX_at 10 6 b36 (by decide) (by decide) (by decide))), (mZ_a hZ rfl)⟩ (fun a_37 ea_37 hq => ?_)
        obtain ⟨hP, hD, hI, hE, hZ⟩ := hq
        refine lv_aload_n hx hb dX12_builder_77 rfl (lv_at hl 1 rfl) ?_
        refine va_get (D := D) (ci := 12) (v := .ref (r 2)) (C := RX12) (T := TX12) (N := 48) hx hb hg inC12 hown hK hP 0 rfl rfl 2 (by decide) (hg _ wt5_162) (fun _ h9 => h9) rfl dX12_builder_78 ?_
        refine lv_bipush (v := 16) hx hb dX12_builder_81 (by decide) ?_
        refine lv_iload_n hx hb dX12_builder_83 rfl (lv_at hl 0 rfl) ?_
        refine lv_iadd hx hb dX12_builder_84 ?_
        refine lv_topi (fun t38 et38 => ?_)
        have b39 : kb 16 t38 21 := kb_eq et38 (kb_add kc_16 b28 (by decide) (by decide))
        have qt38 : t38.toInt = 16 + c2_103.toInt := by rw [et38]; exact kt_cadd kc_16 b28 (by decide) (by decide)
        refine lv_iconst (v := (-1)) hx hb dX12_builder_85 (by decide) ?_
        refine va_iast hx hb hK hP hD hS 2 0 rfl rfl (kb_in b39 (by decide) (by decide)) dX12_builder_86 (fun H locs hP hD hS => ?_)
        have hP : va_P D vwCl (mW K o r f (va_up a_37 2 (upd (a_37 2) t38.toNatClampNeg (-1))) g) H := hP
        have hD : va_D A (mW K o r f (va_up a_37 2 (upd (a_37 2) t38.toNatClampNeg (-1))) g) := hD
        refine k_gen (P := fun z => va_P D vwCl (mW K o r f z g) H ∧ va_D A (mW K o r f z g) ∧ (mI f z) ∧ (mE (XR [(0, 23), (63, 75), (103, 104)]) f a f z) ∧ (mZ [0, 33] [1, 2] f a f z)) (va_up a_37 2 (upd (a_37 2) t38.toNatClampNeg (-1))) ⟨hP, hD, (mI_2 hI (aI_sx hI.2.1 2 16 6 b39 (by decide) (by decide) kc_m1 (by decide +kernel)) (kb_clt b39 (by decide) (by decide))), (mE_2 hE (bX_at 16 6 b39 (by decide) (by decide) (by decide))), (mZ_a hZ rfl)⟩ (fun a_40 ea_40 hq => ?_)
        obtain ⟨hP, hD, hI, hE, hZ⟩ := hq
        refine lv_aload_n hx hb dX12_builder_87 rfl (lv_at hl 1 rfl) ?_
        refine va_get (D := D) (ci := 12) (v := .ref (r 2)) (C := RX12) (T := TX12) (N := 48) hx hb hg inC12 hown hK hP 0 rfl rfl 2 (by decide) (hg _ wt5_162) (fun _ h9 => h9) rfl dX12_builder_88 ?_
        refine lv_bipush (v := 103) hx hb dX12_builder_91 (by decide) ?_
        refine lv_dup2_11 hx hb dX12_builder_93 rfl rfl ?_
        refine va_iald hx hb hK hP 2 0 rfl rfl (kb_in kc_103 (by decide) (by decide)) dX12_builder_94 ?_
        refine k_top (z := c2_103) (by rw [cl_103]; exact ((show a_40 2 103 = a_37 2 103 from by rw [← ea_40]; exact (pk_un (f := a_37 2) (j := 103) (kb_nc b39 (by decide) (by decide)))).trans ((show a_37 2 103 = a_34 2 103 from by rw [← ea_37]; exact (pk_un (f := a_34 2) (j := 103) (kb_nc b36 (by decide) (by decide)))).trans ((show a_34 2 103 = a_31 2 103 from by rw [← ea_34]; exact (pk_un (f := a_31 2) (j := 103) (kb_nc b33 (by decide) (by decide)))).trans ((show a_31 2 103 = a 2 103 from by rw [← ea_31]; exact (pk_un (f := a 2) (j := 103) (kb_nc b30 (by decide) (by decide)))).trans ec2_103.symm))))) ?_
        refine lv_iconst (v := 1) hx hb dX12_builder_95 (by decide) ?_
        refine lv_iadd hx hb dX12_builder_96 ?_
        refine lv_topi (fun t41 et41 => ?_)
        have b42 : kb 1 t41 6 := kb_eq et41 (kb_add b28 kc_1 (by decide) (by decide))
        have qt41 : t41.toInt = c2_103.toInt + 1 := by rw [et41]; exact kt_addc b28 kc_1 (by decide) (by decide)
        refine va_iast hx hb hK hP hD hS 2 0 rfl rfl (kb_in kc_103 (by decide) (by decide)) dX12_builder_97 (fun H locs hP hD hS => ?_)
        rw [cl_103] at hP hD
        have hP : va_P D vwCl (mW K o r f (va_up a_40 2 (upd (a_40 2) 103 t41)) g) H := hP
        have hD : va_D A (mW K o r f (va_up a_40 2 (upd (a_40 2) 103 t41)) g) := hD
        refine k_gen (P := fun z => va_P D vwCl (mW K o r f z g) H ∧ va_D A (mW K o r f z g) ∧ (mI f z) ∧ (mE (XR [(0, 23), (63, 75), (103, 104)]) f a f z) ∧ (mZ [0, 33] [1, 2] f a f z)) (va_up a_40 2 (upd (a_40 2) 103 t41)) ⟨hP, hD, (mI_2 hI (aI_st hI.2.1 2 103 b42 (by decide) (by decide)) (by decide)), (mE_2 hE (by decide)), (mZ_a hZ rfl)⟩ (fun a_43 ea_43 hq => ?_)
        obtain ⟨hP, hD, hI, hE, hZ⟩ := hq
        refine lv_aload_n hx hb dX12_builder_98 rfl (lv_at hl 1 rfl) ?_
        refine lv_iload_n hx hb dX12_builder_99 rfl (lv_at hl 0 rfl) ?_
        refine kI.callV (As := [.int c2_103]) (rest := []) ⟨hx, hb, hml, hown, hg⟩ (n_settled l o r f a_43 g hI c2_103  ) (cwV 1 hg (kgV wt6_84 wt6_86 wp3_7 wt1_14 wt6_87) rfl rfl rfl (by decide +kernel) ⟨by decide, by decide⟩) hK hP hD hS hA mIs [] rfl (wr := []) rfl rfl rfl (fun i h => by cases h) 0 12 rfl rfl rfl hl.1 rfl (Nat.le_of_ble_eq_true rfl) dX12_builder_100 ⟨Nat.le_refl _, Nat.le_refl _⟩ (fun v45 u46 H locs hw44 hP hD hS => ?_)
        obtain ⟨f47, a48, g49⟩ := u46
        have hP : va_P D vwCl (mW K o r f47 a48 g49) H := hP
        have hD : va_D A (mW K o r f47 a48 g49) := hD
        have hI : mI f47 a48 := hw44.2.1
        have hE : mE (XR [(0, 23), (63, 75), (103, 104)]) f a f47 a48 := mE_tr hE (mE_w (XR_w (by decide)) hw44.2.2.1)
        have eE50 : mE (XR []) f a_43 f47 a48 := hw44.2.2.1
        have eZ51 : mZ [0, 33] [] f a_43 f47 a48 := hw44.2.2.2.2.2.2
        have hZ : mZ [0, 33] [1, 2] f a f47 a48 := mZ_tr hZ (mZ_w (by decide) (by decide) eZ51)
        refine k_top (z := c2_103) hw44.2.2.2.1 ?_
        exact kI_ret (v := c2_103) hx hb hr hlocks rfl hK hS dX12_builder_103 (f47, a48, g49) hP hD ⟨(kb_w b28 (by decide) (by decide)), hI, hE, (Or.inr (Or.inr ⟨ec2_103, ⟨b18, b26⟩, (by rw [← ec2_103]; exact b28), (by show (a48 2 103).toInt = (a 2 103).toInt + 1; have e1 := congrArg Int32.toInt (((congrFun (eZ51.2 2 rfl) 103).trans (show a_43 2 103 = t41 from by rw [← ea_43]; exact (pk_us (f := a_40 2) (k := 103) (x := t41))))); have e2 := congrArg Int32.toInt ec2_103; omega)⟩)), (Or.inr ⟨(fun w9 => by have w1 := (b28).1; omega), hw44.2.2.2.2.1, ((eZ51.2 1 rfl).trans ((show a_43 1 = a_40 1 from by rw [← ea_43]; rfl).trans ((show a_40 1 = a_37 1 from by rw [← ea_40]; rfl).trans ((show a_37 1 = a_34 1 from by rw [← ea_37]; rfl).trans ((show a_34 1 = a_31 1 from by rw [← ea_34]; rfl).trans (show a_31 1 = a 1 from by rw [← ea_31]; rfl)))))), (bldK_e ((eZ51.2 2 rfl).trans ((show a_43 2 = upd (a_40 2) 103 t41 from by rw [← ea_43]; rfl).trans (congrArg (fun zz_ => upd zz_ 103 t41) ((show a_40 2 = upd (a_37 2) t38.toNatClampNeg (-1) from by rw [← ea_40]; rfl).trans (congrArg (fun zz_ => upd zz_ t38.toNatClampNeg (-1)) ((show a_37 2 = upd (a_34 2) t35.toNatClampNeg 0 from by rw [← ea_37]; rfl).trans (congrArg (fun zz_ => upd zz_ t35.toNatClampNeg 0) ((show a_34 2 = upd (a_31 2) t32.toNatClampNeg y from by rw [← ea_34]; rfl).trans (congrArg (fun zz_ => upd zz_ t32.toNatClampNeg y) (show a_31 2 = upd (a 2) t29.toNatClampNeg x from by rw [← ea_31]; rfl)))))))))) (show t29.toNatClampNeg = 63 + (a 2 103).toInt.toNat from by rw [← ec2_103]; have w1 := qt29; have w2 := (b28).1; unfold Int32.toNatClampNeg; omega) (show t32.toNatClampNeg = 69 + (a 2 103).toInt.toNat from by rw [← ec2_103]; have w1 := qt32; have w2 := (b28).1; unfold Int32.toNatClampNeg; omega) (show t35.toNatClampNeg = 10 + (a 2 103).toInt.toNat from by rw [← ec2_103]; have w1 := qt35; have w2 := (b28).1; unfold Int32.toNatClampNeg; omega) (show t38.toNatClampNeg = 16 + (a 2 103).toInt.toNat from by rw [← ec2_103]; have w1 := qt38; have w2 := (b28).1; unfold Int32.toNatClampNeg; omega) (et41.trans (by rw [ec2_103]))), (mP_no hw44.2.2.2.2.2.1)⟩), hZ⟩
      · have b52 : kb 6 c2_103 6 := kb_eq c27 kc_6
        refine lv_aload_n hx hb dX12_builder_40 rfl (lv_at hl 1 rfl) ?_
        refine lv_bipush (v := (-5)) hx hb dX12_builder_41 (by decide) ?_
        refine kI.callV (As := [.int (-5)]) (rest := []) ⟨hx, hb, hml, hown, hg⟩ (n_refuses l o r f a g hI (-5) (kb_w kc_m5 (by decide) (by decide)) ) (cwV 1 hg (kgV wt6_72 wt6_74 wp3_5 wt1_14 wt6_75) rfl rfl rfl (by decide +kernel) ⟨by decide, by decide⟩) hK hP hD hS hA mIs [] rfl (wr := []) rfl rfl rfl (fun i h => by cases h) 0 12 rfl rfl rfl hl.1 rfl (Nat.le_of_ble_eq_true rfl) dX12_builder_43 ⟨Nat.le_refl _, Nat.le_refl _⟩ (fun v54 u55 H locs hw53 hP hD hS => ?_)
        obtain ⟨f56, a57, g58⟩ := u55
        have hP : va_P D vwCl (mW K o r f56 a57 g58) H := hP
        have hD : va_D A (mW K o r f56 a57 g58) := hD
        have hI : mI f56 a57 := hw53.2.1
        have hE : mE (XR [(0, 23), (63, 75), (103, 104)]) f a f56 a57 := mE_tr hE (mE_w (XR_w (by decide)) hw53.2.2.1)
        have eE59 : mE (XR []) f a f56 a57 := hw53.2.2.1
        have eZ60 : mZ [0] [1] f a f56 a57 := hw53.2.2.2.2.2.2
        have hZ : mZ [0, 33] [1, 2] f a f56 a57 := mZ_tr hZ (mZ_w (by decide) (by decide) eZ60)
        refine k_top (z := (-5)) hw53.2.2.2.1 ?_
        exact kI_ret (v := (-5)) hx hb hr hlocks rfl hK hS dX12_builder_46 (f56, a57, g58) hP hD ⟨(kb_w kc_m5 (by decide) (by decide)), hI, hE, (Or.inr (Or.inl ⟨rfl, ⟨b18, b26⟩, (by rw [← ec2_103]; have w1 := (b52).1; omega), ((((congrFun (eZ60.2 2 rfl) 103).trans ec2_103.symm)).trans ec2_103)⟩)), (Or.inl ⟨(by decide +kernel), hw53.2.2.2.2.1, hw53.2.2.2.2.2.1.trans (by rw [show a 1 = a 1 from rfl]), (eZ60.2 2 rfl), (by (try dsimp only); rw [show f56 33 = f 33 from (eZ60.1 33 rfl), show a57 31 = a 31 from (eZ60.2 31 rfl)]; exact hp0)⟩), hZ⟩
    · have b61 : kb 0 v20 0 := kb_eq c22 kc_0
      refine lv_aload_n hx hb dX12_builder_20 rfl (lv_at hl 0 rfl) ?_
      refine lv_iconst (v := (-1)) hx hb dX12_builder_21 (by decide) ?_
      refine kI.callV (As := [.int (-1)]) (rest := []) ⟨hx, hb, hml, hown, hg⟩ (n_refuses l o r f a g hI (-1) (kb_w kc_m1 (by decide) (by decide)) ) (cwV 1 hg (kgV wt6_72 wt6_74 wp3_5 wt1_14 wt6_75) rfl rfl rfl (by decide +kernel) ⟨by decide, by decide⟩) hK hP hD hS hA mIs [] rfl (wr := []) rfl rfl rfl (fun i h => by cases h) 0 12 rfl rfl rfl hl.1 rfl (Nat.le_of_ble_eq_true rfl) dX12_builder_22 ⟨Nat.le_refl _, Nat.le_refl _⟩ (fun v63 u64 H locs hw62 hP hD hS => ?_)
      obtain ⟨f65, a66, g67⟩ := u64
      have hP : va_P D vwCl (mW K o r f65 a66 g67) H := hP
      have hD : va_D A (mW K o r f65 a66 g67) := hD
      have hI : mI f65 a66 := hw62.2.1
      have hE : mE (XR [(0, 23), (63, 75), (103, 104)]) f a f65 a66 := mE_tr hE (mE_w (XR_w (by decide)) hw62.2.2.1)
      have eE68 : mE (XR []) f a f65 a66 := hw62.2.2.1
      have eZ69 : mZ [0] [1] f a f65 a66 := hw62.2.2.2.2.2.2
      have hZ : mZ [0, 33] [1, 2] f a f65 a66 := mZ_tr hZ (mZ_w (by decide) (by decide) eZ69)
      refine k_top (z := (-1)) hw62.2.2.2.1 ?_
      exact kI_ret (v := (-1)) hx hb hr hlocks rfl hK hS dX12_builder_25 (f65, a66, g67) hP hD ⟨(kb_w kc_m1 (by decide) (by decide)), hI, hE, (Or.inl ⟨rfl, fun q => mLies_z (hw19.2.symm.trans c22) (by decide +kernel) (by decide +kernel) q.2, ((((congrFun (eZ69.2 2 rfl) 103).trans ec2_103.symm)).trans ec2_103)⟩), (Or.inl ⟨(by decide +kernel), hw62.2.2.2.2.1, hw62.2.2.2.2.2.1.trans (by rw [show a 1 = a 1 from rfl]), (eZ69.2 2 rfl), (by (try dsimp only); rw [show f65 33 = f 33 from (eZ69.1 33 rfl), show a66 31 = a 31 from (eZ69.2 31 rfl)]; exact hp0)⟩), hZ⟩
set_option maxHeartbeats 4000000 in
set_option maxRecDepth 100000 in
theorem n_sight  (l : Launch) {D : va_G} {K : Nat → ClassId} (o : Nat) (r : Nat → Nat) (f : Nat → Int32) (a : Nat → Nat → Int32) (g : Nat → Int64) (hI : mI f a) (x : Int32) (y : Int32) (z : Int32)  (P : pS) (hp0 : mPs (f 33) (a 31) P) : kI l yX12_sight (Cond.code yX12_sight cX12_sight 5 (some .int) :: kG) (rmD 3 0 0) D (tysK K) [.ref o, .int x, .int y, .int z] (mW K o r f a g) (fun v (u : mS) => kb (-2147483648) v 2147483647 ∧ mI u.1 u.2.1 ∧ mE (XR [(75, 99), (104, 105)]) f a u.1 u.2.1 ∧ sgtP x y z v (a 2 102) (a 2 104) (u.2.1 2 104) ∧ mTe v u.1 u.2.1 (a 1) (a 2) P (sgtK (a 2) (a 2 104).toInt.toNat x y z) (P) ∧ mZ [0] [1, 2] f a u.1 u.2.1) (fun u => mW K o r u.1 u.2.1 u.2.2) 0 0 := by
  refine kI.of (cc := cX12_sight) (maxL := 5) (ret := (some .int)) (by decide) rfl (Nat.le_of_ble_eq_true rfl) ?_
  intro p e s m below meth c A hx hb hr hml hown hts hlocks hnm hK hP hD hS hA ls hl
  have hE : mE (XR [(75, 99), (104, 105)]) f a f a := mE_rf
  have hZ : mZ [0] [1, 2] f a f a := mZ_rf
  have hg : ∀ w ∈ kG, w.before _ s = true := fun w h => hts w (List.mem_cons_of_mem _ h)
  have hown : s.vm.findClass RX12 = some m.cls := hown
  have hl : lv_has ls 5 [(0, .ref o), (1, .int x), (2, .int y), (3, .int z)] := hl
  obtain ⟨c2_104, ec2_104⟩ : ∃ z : Int32, z = a 2 104 := ⟨_, rfl⟩
  have b1 : kb 0 c2_104 8 := kb_eq ec2_104 (aI_at hI.2.1 2 104 (by decide) (by decide))
  refine lv_iload_n hx hb dX12_sight_0 rfl (lv_at hl 1 rfl) ?_
  refine lv_iconst (v := 0) hx hb dX12_sight_1 (by decide) ?_
  refine lv_bipush (v := 99) hx hb dX12_sight_2 (by decide) ?_
  refine kN.callS (As := [.int x, .int 0, .int 99]) (rest := []) ⟨hx, hb, hml, hown, hg⟩ (m_lies l x 0 99 ) (va_cwS 3 hg (kgS wt6_69 wt6_70 wt1_14 wt6_71) rfl rfl rfl (by decide +kernel) ⟨by decide, by decide⟩) hP hS rfl hl.1 rfl (Nat.le_of_ble_eq_true rfl) dX12_sight_4 ⟨Nat.le_refl _, Nat.le_refl _⟩ (fun v3 H locs hw2 hP hS => ?_)
  refine lv_if_eq (tgt := 19) hx hb dX12_sight_7 (by decide) (fun c5 => ?_) (fun c5 => ?_)
  · have b6 : kb 0 v3 0 := kb_eq c5 kc_0
    refine lv_aload_n hx hb dX12_sight_19 rfl (lv_at hl 0 rfl) ?_
    refine lv_iconst (v := (-1)) hx hb dX12_sight_20 (by decide) ?_
    refine kI.callV (As := [.int (-1)]) (rest := []) ⟨hx, hb, hml, hown, hg⟩ (n_refuses l o r f a g hI (-1) (kb_w kc_m1 (by decide) (by decide)) ) (cwV 1 hg (kgV wt6_72 wt6_74 wp3_5 wt1_14 wt6_75) rfl rfl rfl (by decide +kernel) ⟨by decide, by decide⟩) hK hP hD hS hA mIs [] rfl (wr := []) rfl rfl rfl (fun i h => by cases h) 0 12 rfl rfl rfl hl.1 rfl (Nat.le_of_ble_eq_true rfl) dX12_sight_21 ⟨Nat.le_refl _, Nat.le_refl _⟩ (fun v8 u9 H locs hw7 hP hD hS => ?_)
    obtain ⟨f10, a11, g12⟩ := u9
    have hP : va_P D vwCl (mW K o r f10 a11 g12) H := hP
    have hD : va_D A (mW K o r f10 a11 g12) := hD
    have hI : mI f10 a11 := hw7.2.1
    have hE : mE (XR [(75, 99), (104, 105)]) f a f10 a11 := mE_tr hE (mE_w (XR_w (by decide)) hw7.2.2.1)
    have eE13 : mE (XR []) f a f10 a11 := hw7.2.2.1
    have eZ14 : mZ [0] [1] f a f10 a11 := hw7.2.2.2.2.2.2
    have hZ : mZ [0] [1, 2] f a f10 a11 := mZ_tr hZ (mZ_w (by decide) (by decide) eZ14)
    refine k_top (z := (-1)) hw7.2.2.2.1 ?_
    exact kI_ret (v := (-1)) hx hb hr hlocks rfl hK hS dX12_sight_24 (f10, a11, g12) hP hD ⟨(kb_w kc_m1 (by decide) (by decide)), hI, hE, (Or.inl ⟨rfl, fun q => mLies_z (hw2.2.symm.trans c5) (by decide +kernel) (by decide +kernel) q.1, ((((congrFun (eZ14.2 2 rfl) 104).trans ec2_104.symm)).trans ec2_104)⟩), (Or.inl ⟨(by decide +kernel), hw7.2.2.2.2.1, hw7.2.2.2.2.2.1.trans (by rw [show a 1 = a 1 from rfl]), (eZ14.2 2 rfl), (by (try dsimp only); rw [show f10 33 = f 33 from (eZ14.1 33 rfl), show a11 31 = a 31 from (eZ14.2 31 rfl)]; exact hp0)⟩), hZ⟩
  · have b15 : kb 1 v3 1 := kr_nel c5 hw2.1 kc_0 (by decide)
    have h16 := mLies_ne (hw2.2 ▸ c5)
    have b17 : kb 0 x 2147483647 := kr_le2 h16.1 kc_0 (kb_any x)
    have b18 : kb 0 x 99 := kr_le1 h16.2 b17 kc_99
    refine lv_iload_n hx hb dX12_sight_10 rfl (lv_at hl 3 rfl) ?_
    refine lv_iconst (v := 0) hx hb dX12_sight_11 (by decide) ?_
    refine lv_iconst (v := 1) hx hb dX12_sight_12 (by decide) ?_
    refine kN.callS (As := [.int z, .int 0, .int 1]) (rest := []) ⟨hx, hb, hml, hown, hg⟩ (m_lies l z 0 1 ) (va_cwS 3 hg (kgS wt6_69 wt6_70 wt1_14 wt6_71) rfl rfl rfl (by decide +kernel) ⟨by decide, by decide⟩) hP hS rfl hl.1 rfl (Nat.le_of_ble_eq_true rfl) dX12_sight_13 ⟨Nat.le_refl _, Nat.le_refl _⟩ (fun v20 H locs hw19 hP hS => ?_)
    refine lv_if_ne (tgt := 25) hx hb dX12_sight_16 (by decide) (fun c22 => ?_) (fun c22 => ?_)
    · have b23 : kb 1 v20 1 := kr_nel c22 hw19.1 kc_0 (by decide)
      have h24 := mLies_ne (hw19.2 ▸ c22)
      have b25 : kb 0 z 2147483647 := kr_le2 h24.1 kc_0 (kb_any z)
      have b26 : kb 0 z 1 := kr_le1 h24.2 b25 kc_1
      refine lv_aload_n hx hb dX12_sight_25 rfl (lv_at hl 0 rfl) ?_
      refine lv_iload_n hx hb dX12_sight_26 rfl (lv_at hl 2 rfl) ?_
      refine kI.callV (As := [.int y]) (rest := []) ⟨hx, hb, hml, hown, hg⟩ (m_isPart l o r f a g hI y  ) (cwV 1 hg (kgV wt6_104 wt6_106 wp3_10 wt1_14 wt6_107) rfl rfl rfl (by decide +kernel) ⟨by decide, by decide⟩) hK hP hD hS hA mIs [] rfl (wr := []) rfl rfl rfl (fun i h => by cases h) 0 12 rfl rfl rfl hl.1 rfl (Nat.le_of_ble_eq_true rfl) dX12_sight_27 ⟨Nat.le_refl _, Nat.le_refl _⟩ (fun v28 u29 H locs hw27 hP hD hS => ?_)
      have hP : va_P D vwCl (mW K o r f a g) H := hP
      have hD : va_D A (mW K o r f a g) := hD
      refine lv_if_ne (tgt := 40) hx hb dX12_sight_30 (by decide) (fun c30 => ?_) (fun c30 => ?_)
      · have b31 : kb 1 v28 1 := kr_nel c30 hw27.1 kc_0 (by decide)
        have h32 := hw27.2.1 c30
        have b33 : kb 0 y 9 := ⟨by have h1 := h32.1; omega, (by have h1 := h32.2; have h2 := (aI_at hI.2.1 2 102 (by decide) (by decide) : kb 0 (a 2 102) 10).2; omega)⟩
        refine lv_aload_n hx hb dX12_sight_40 rfl (lv_at hl 0 rfl) ?_
        refine va_get (D := D) (ci := 12) (v := .ref (r 2)) (C := RX12) (T := TX12) (N := 48) hx hb hg inC12 hown hK hP 0 rfl rfl 2 (by decide) (hg _ wt5_162) (fun _ h9 => h9) rfl dX12_sight_41 ?_
        refine lv_bipush (v := 104) hx hb dX12_sight_44 (by decide) ?_
        refine va_iald hx hb hK hP 2 0 rfl rfl (kb_in kc_104 (by decide) (by decide)) dX12_sight_46 ?_
        refine k_top (z := c2_104) (by rw [cl_104]; exact ec2_104.symm) ?_
        refine lv_istore (lv' := [(4, .int c2_104), (0, .ref o), (1, .int x), (2, .int y), (3, .int z)]) hx hb dX12_sight_47 hl (by decide) rfl (fun ls hl => ?_)
        refine lv_iload hx hb dX12_sight_49 (lv_at hl 0 rfl) ?_
        refine lv_bipush (v := 8) hx hb dX12_sight_51 (by decide) ?_
        refine lv_icmp_ne (tgt := 63) hx hb dX12_sight_53 (by decide) (fun c34 => ?_) (fun c34 => ?_)
        · have b35 : kb 0 c2_104 7 := kr_neh c34 b1 kc_8 (by decide)
          refine lv_aload_n hx hb dX12_sight_63 rfl (lv_at hl 1 rfl) ?_
          refine va_get (D := D) (ci := 12) (v := .ref (r 2)) (C := RX12) (T := TX12) (N := 48) hx hb hg inC12 hown hK hP 0 rfl rfl 2 (by decide) (hg _ wt5_162) (fun _ h9 => h9) rfl dX12_sight_64 ?_
          refine lv_bipush (v := 75) hx hb dX12_sight_67 (by decide) ?_
          refine lv_iconst (v := 3) hx hb dX12_sight_69 (by decide) ?_
          refine lv_iload hx hb dX12_sight_70 (lv_at hl 0 rfl) ?_
          refine lv_imul hx hb dX12_sight_72 ?_
          refine lv_topi (fun t36 et36 => ?_)
          have b37 : kb 0 t36 21 := kb_eq et36 (kb_mul kc_3 b35 (by decide) (by decide) (by decide))
          have qt36 : t36.toInt = 3 * c2_104.toInt := by rw [et36]; exact kt_cmul kc_3 b35 (by decide) (by decide) (by decide)
          refine lv_iadd hx hb dX12_sight_73 ?_
          refine lv_topi (fun t38 et38 => ?_)
          have b39 : kb 75 t38 96 := kb_eq et38 (kb_add kc_75 b37 (by decide) (by decide))
          have qt38 : t38.toInt = 75 + t36.toInt := by rw [et38]; exact kt_cadd kc_75 b37 (by decide) (by decide)
          refine lv_iload_n hx hb dX12_sight_74 rfl (lv_at hl 2 rfl) ?_
          refine va_iast hx hb hK hP hD hS 2 0 rfl rfl (kb_in b39 (by decide) (by decide)) dX12_sight_75 (fun H locs hP hD hS => ?_)
          have hP : va_P D vwCl (mW K o r f (va_up a 2 (upd (a 2) t38.toNatClampNeg x)) g) H := hP
          have hD : va_D A (mW K o r f (va_up a 2 (upd (a 2) t38.toNatClampNeg x)) g) := hD
          refine k_gen (P := fun z => va_P D vwCl (mW K o r f z g) H ∧ va_D A (mW K o r f z g) ∧ (mI f z) ∧ (mE (XR [(75, 99), (104, 105)]) f a f z) ∧ (mZ [0] [1, 2] f a f z)) (va_up a 2 (upd (a 2) t38.toNatClampNeg x)) ⟨hP, hD, (mI_2 hI (aI_sx hI.2.1 2 75 22 b39 (by decide) (by decide) b18 (by decide +kernel)) (kb_clt b39 (by decide) (by decide))), (mE_2 hE (bX_at 75 22 b39 (by decide) (by decide) (by decide))), (mZ_a hZ rfl)⟩ (fun a_40 ea_40 hq => ?_)
          obtain ⟨hP, hD, hI, hE, hZ⟩ := hq
          refine lv_aload_n hx hb dX12_sight_76 rfl (lv_at hl 1 rfl) ?_
          refine va_get (D := D) (ci := 12) (v := .ref (r 2)) (C := RX12) (T := TX12) (N := 48) hx hb hg inC12 hown hK hP 0 rfl rfl 2 (by decide) (hg _ wt5_162) (fun _ h9 => h9) rfl dX12_sight_77 ?_
          refine lv_bipush (v := 75) hx hb dX12_sight_80 (by decide) ?_
          refine lv_iconst (v := 3) hx hb dX12_sight_82 (by decide) ?_
          refine lv_iload hx hb dX12_sight_83 (lv_at hl 0 rfl) ?_
          refine lv_imul hx hb dX12_sight_85 ?_
          refine k_top (z := t36) et36.symm ?_
          refine lv_iadd hx hb dX12_sight_86 ?_
          refine k_top (z := t38) et38.symm ?_
          refine lv_iconst (v := 1) hx hb dX12_sight_87 (by decide) ?_
          refine lv_iadd hx hb dX12_sight_88 ?_
          refine lv_topi (fun t41 et41 => ?_)
          have b42 : kb 76 t41 97 := kb_eq et41 (kb_add b39 kc_1 (by decide) (by decide))
          have qt41 : t41.toInt = t38.toInt + 1 := by rw [et41]; exact kt_addc b39 kc_1 (by decide) (by decide)
          refine lv_iload_n hx hb dX12_sight_89 rfl (lv_at hl 3 rfl) ?_
          refine va_iast hx hb hK hP hD hS 2 0 rfl rfl (kb_in b42 (by decide) (by decide)) dX12_sight_90 (fun H locs hP hD hS => ?_)
          have hP : va_P D vwCl (mW K o r f (va_up a_40 2 (upd (a_40 2) t41.toNatClampNeg y)) g) H := hP
          have hD : va_D A (mW K o r f (va_up a_40 2 (upd (a_40 2) t41.toNatClampNeg y)) g) := hD
          refine k_gen (P := fun z => va_P D vwCl (mW K o r f z g) H ∧ va_D A (mW K o r f z g) ∧ (mI f z) ∧ (mE (XR [(75, 99), (104, 105)]) f a f z) ∧ (mZ [0] [1, 2] f a f z)) (va_up a_40 2 (upd (a_40 2) t41.toNatClampNeg y)) ⟨hP, hD, (mI_2 hI (aI_sx hI.2.1 2 76 22 b42 (by decide) (by decide) b33 (by decide +kernel)) (kb_clt b42 (by decide) (by decide))), (mE_2 hE (bX_at 76 22 b42 (by decide) (by decide) (by decide))), (mZ_a hZ rfl)⟩ (fun a_43 ea_43 hq => ?_)
          obtain ⟨hP, hD, hI, hE, hZ⟩ := hq
          refine lv_aload_n hx hb dX12_sight_91 rfl (lv_at hl 1 rfl) ?_
          refine va_get (D := D) (ci := 12) (v := .ref (r 2)) (C := RX12) (T := TX12) (N := 48) hx hb hg inC12 hown hK hP 0 rfl rfl 2 (by decide) (hg _ wt5_162) (fun _ h9 => h9) rfl dX12_sight_92 ?_
          refine lv_bipush (v := 75) hx hb dX12_sight_95 (by decide) ?_
          refine lv_iconst (v := 3) hx hb dX12_sight_97 (by decide) ?_
          refine lv_iload hx hb dX12_sight_98 (lv_at hl 0 rfl) ?_
          refine lv_imul hx hb dX12_sight_100 ?_
          refine k_top (z := t36) et36.symm ?_
          refine lv_iadd hx hb dX12_sight_101 ?_
          refine k_top (z := t38) et38.symm ?_
          refine lv_iconst (v := 2) hx hb dX12_sight_102 (by decide) ?_
          refine lv_iadd hx hb dX12_sight_103 ?_
          refine lv_topi (fun t44 et44 => ?_)
          have b45 : kb 77 t44 98 := kb_eq et44 (kb_add b39 kc_2 (by decide) (by decide))
          have qt44 : t44.toInt = t38.toInt + 2 := by rw [et44]; exact kt_addc b39 kc_2 (by decide) (by decide)
          refine lv_iload_n hx hb dX12_sight_104 rfl (lv_at hl 4 rfl) ?_
          refine va_iast hx hb hK hP hD hS 2 0 rfl rfl (kb_in b45 (by decide) (by decide)) dX12_sight_105 (fun H locs hP hD hS => ?_)
          have hP : va_P D vwCl (mW K o r f (va_up a_43 2 (upd (a_43 2) t44.toNatClampNeg z)) g) H := hP
          have hD : va_D A (mW K o r f (va_up a_43 2 (upd (a_43 2) t44.toNatClampNeg z)) g) := hD
          refine k_gen (P := fun z => va_P D vwCl (mW K o r f z g) H ∧ va_D A (mW K o r f z g) ∧ (mI f z) ∧ (mE (XR [(75, 99), (104, 105)]) f a f z) ∧ (mZ [0] [1, 2] f a f z)) (va_up a_43 2 (upd (a_43 2) t44.toNatClampNeg z)) ⟨hP, hD, (mI_2 hI (aI_sx hI.2.1 2 77 22 b45 (by decide) (by decide) b26 (by decide +kernel)) (kb_clt b45 (by decide) (by decide))), (mE_2 hE (bX_at 77 22 b45 (by decide) (by decide) (by decide))), (mZ_a hZ rfl)⟩ (fun a_46 ea_46 hq => ?_)
          obtain ⟨hP, hD, hI, hE, hZ⟩ := hq
          refine lv_aload_n hx hb dX12_sight_106 rfl (lv_at hl 1 rfl) ?_
          refine va_get (D := D) (ci := 12) (v := .ref (r 2)) (C := RX12) (T := TX12) (N := 48) hx hb hg inC12 hown hK hP 0 rfl rfl 2 (by decide) (hg _ wt5_162) (fun _ h9 => h9) rfl dX12_sight_107 ?_
          refine lv_bipush (v := 104) hx hb dX12_sight_110 (by decide) ?_
          refine lv_dup2_11 hx hb dX12_sight_112 rfl rfl ?_
          refine va_iald hx hb hK hP 2 0 rfl rfl (kb_in kc_104 (by decide) (by decide)) dX12_sight_113 ?_
          refine k_top (z := c2_104) (by rw [cl_104]; exact ((show a_46 2 104 = a_43 2 104 from by rw [← ea_46]; exact (pk_un (f := a_43 2) (j := 104) (kb_nc b45 (by decide) (by decide)))).trans ((show a_43 2 104 = a_40 2 104 from by rw [← ea_43]; exact (pk_un (f := a_40 2) (j := 104) (kb_nc b42 (by decide) (by decide)))).trans ((show a_40 2 104 = a 2 104 from by rw [← ea_40]; exact (pk_un (f := a 2) (j := 104) (kb_nc b39 (by decide) (by decide)))).trans ec2_104.symm)))) ?_
          refine lv_iconst (v := 1) hx hb dX12_sight_114 (by decide) ?_
          refine lv_iadd hx hb dX12_sight_115 ?_
          refine lv_topi (fun t47 et47 => ?_)
          have b48 : kb 1 t47 8 := kb_eq et47 (kb_add b35 kc_1 (by decide) (by decide))
          have qt47 : t47.toInt = c2_104.toInt + 1 := by rw [et47]; exact kt_addc b35 kc_1 (by decide) (by decide)
          refine va_iast hx hb hK hP hD hS 2 0 rfl rfl (kb_in kc_104 (by decide) (by decide)) dX12_sight_116 (fun H locs hP hD hS => ?_)
          rw [cl_104] at hP hD
          have hP : va_P D vwCl (mW K o r f (va_up a_46 2 (upd (a_46 2) 104 t47)) g) H := hP
          have hD : va_D A (mW K o r f (va_up a_46 2 (upd (a_46 2) 104 t47)) g) := hD
          refine k_gen (P := fun z => va_P D vwCl (mW K o r f z g) H ∧ va_D A (mW K o r f z g) ∧ (mI f z) ∧ (mE (XR [(75, 99), (104, 105)]) f a f z) ∧ (mZ [0] [1, 2] f a f z)) (va_up a_46 2 (upd (a_46 2) 104 t47)) ⟨hP, hD, (mI_2 hI (aI_st hI.2.1 2 104 b48 (by decide) (by decide)) (by decide)), (mE_2 hE (by decide)), (mZ_a hZ rfl)⟩ (fun a_49 ea_49 hq => ?_)
          obtain ⟨hP, hD, hI, hE, hZ⟩ := hq
          refine lv_aload_n hx hb dX12_sight_117 rfl (lv_at hl 1 rfl) ?_
          refine lv_iload hx hb dX12_sight_118 (lv_at hl 0 rfl) ?_
          refine lv_iconst (v := 1) hx hb dX12_sight_120 (by decide) ?_
          refine lv_iadd hx hb dX12_sight_121 ?_
          refine k_top (z := t47) et47.symm ?_
          refine kI.callV (As := [.int t47]) (rest := []) ⟨hx, hb, hml, hown, hg⟩ (n_good l o r f a_49 g hI t47  ) (cwV 1 hg (kgV wt6_76 wt6_78 wp3_6 wt1_14 wt6_79) rfl rfl rfl (by decide +kernel) ⟨by decide, by decide⟩) hK hP hD hS hA mIs [] rfl (wr := []) rfl rfl rfl (fun i h => by cases h) 0 12 rfl rfl rfl hl.1 rfl (Nat.le_of_ble_eq_true rfl) dX12_sight_122 ⟨Nat.le_refl _, Nat.le_refl _⟩ (fun v51 u52 H locs hw50 hP hD hS => ?_)
          obtain ⟨f53, a54, g55⟩ := u52
          have hP : va_P D vwCl (mW K o r f53 a54 g55) H := hP
          have hD : va_D A (mW K o r f53 a54 g55) := hD
          have hI : mI f53 a54 := hw50.2.1
          have hE : mE (XR [(75, 99), (104, 105)]) f a f53 a54 := mE_tr hE (mE_w (XR_w (by decide)) hw50.2.2.1)
          have eE56 : mE (XR []) f a_49 f53 a54 := hw50.2.2.1
          have eZ57 : mZ [0] [] f a_49 f53 a54 := hw50.2.2.2.2.2
          have hZ : mZ [0] [1, 2] f a f53 a54 := mZ_tr hZ (mZ_w (by decide) (by decide) eZ57)
          refine k_top (z := t47) hw50.2.2.2.1 ?_
          exact kI_ret (v := t47) hx hb hr hlocks rfl hK hS dX12_sight_125 (f53, a54, g55) hP hD ⟨(kb_w b48 (by decide) (by decide)), hI, hE, (Or.inr (Or.inr (Or.inr ⟨(by rw [← ec2_104]; omega), ⟨b18, b26⟩, ⟨h32.1, by have q2 := h32.2; omega⟩, (by rw [← ec2_104]; exact b35), (by show (a54 2 104).toInt = (a 2 104).toInt + 1; have e1 := congrArg Int32.toInt (((congrFun (eZ57.2 2 rfl) 104).trans (show a_49 2 104 = t47 from by rw [← ea_49]; exact (pk_us (f := a_46 2) (k := 104) (x := t47))))); have e2 := congrArg Int32.toInt ec2_104; omega)⟩))), (Or.inr ⟨(fun w9 => by have w1 := (b48).1; omega), hw50.2.2.2.2.1, ((eZ57.2 1 rfl).trans ((show a_49 1 = a_46 1 from by rw [← ea_49]; rfl).trans ((show a_46 1 = a_43 1 from by rw [← ea_46]; rfl).trans ((show a_43 1 = a_40 1 from by rw [← ea_43]; rfl).trans (show a_40 1 = a 1 from by rw [← ea_40]; rfl))))), (sgtK_e ((eZ57.2 2 rfl).trans ((show a_49 2 = upd (a_46 2) 104 t47 from by rw [← ea_49]; rfl).trans (congrArg (fun zz_ => upd zz_ 104 t47) ((show a_46 2 = upd (a_43 2) t44.toNatClampNeg z from by rw [← ea_46]; rfl).trans (congrArg (fun zz_ => upd zz_ t44.toNatClampNeg z) ((show a_43 2 = upd (a_40 2) t41.toNatClampNeg y from by rw [← ea_43]; rfl).trans (congrArg (fun zz_ => upd zz_ t41.toNatClampNeg y) (show a_40 2 = upd (a 2) t38.toNatClampNeg x from by rw [← ea_40]; rfl)))))))) (show t38.toNatClampNeg = 75 + 3 * (a 2 104).toInt.toNat from by rw [← ec2_104]; have wt36 := qt36; have wt41 := qt41; have wt44 := qt44; have wt47 := qt47; have wt38 := qt38; have w2 := (b35).1; unfold Int32.toNatClampNeg; omega) (show t41.toNatClampNeg = 76 + 3 * (a 2 104).toInt.toNat from by rw [← ec2_104]; have wt36 := qt36; have wt38 := qt38; have wt44 := qt44; have wt47 := qt47; have wt41 := qt41; have w2 := (b35).1; unfold Int32.toNatClampNeg; omega) (show t44.toNatClampNeg = 77 + 3 * (a 2 104).toInt.toNat from by rw [← ec2_104]; have wt36 := qt36; have wt38 := qt38; have wt41 := qt41; have wt47 := qt47; have wt44 := qt44; have w2 := (b35).1; unfold Int32.toNatClampNeg; omega) (et47.trans (by rw [ec2_104]))), (by (try dsimp only); rw [show f53 33 = f 33 from (eZ57.1 33 rfl), show a54 31 = a 31 from ((eZ57.2 31 rfl).trans ((show a_49 31 = a_46 31 from by rw [← ea_49]; rfl).trans ((show a_46 31 = a_43 31 from by rw [← ea_46]; rfl).trans ((show a_43 31 = a_40 31 from by rw [← ea_43]; rfl).trans (show a_40 31 = a 31 from by rw [← ea_40]; rfl)))))]; exact hp0)⟩), hZ⟩
        · have b58 : kb 8 c2_104 8 := kb_eq c34 kc_8
          refine lv_aload_n hx hb dX12_sight_56 rfl (lv_at hl 1 rfl) ?_
          refine lv_bipush (v := (-5)) hx hb dX12_sight_57 (by decide) ?_
          refine kI.callV (As := [.int (-5)]) (rest := []) ⟨hx, hb, hml, hown, hg⟩ (n_refuses l o r f a g hI (-5) (kb_w kc_m5 (by decide) (by decide)) ) (cwV 1 hg (kgV wt6_72 wt6_74 wp3_5 wt1_14 wt6_75) rfl rfl rfl (by decide +kernel) ⟨by decide, by decide⟩) hK hP hD hS hA mIs [] rfl (wr := []) rfl rfl rfl (fun i h => by cases h) 0 12 rfl rfl rfl hl.1 rfl (Nat.le_of_ble_eq_true rfl) dX12_sight_59 ⟨Nat.le_refl _, Nat.le_refl _⟩ (fun v60 u61 H locs hw59 hP hD hS => ?_)
          obtain ⟨f62, a63, g64⟩ := u61
          have hP : va_P D vwCl (mW K o r f62 a63 g64) H := hP
          have hD : va_D A (mW K o r f62 a63 g64) := hD
          have hI : mI f62 a63 := hw59.2.1
          have hE : mE (XR [(75, 99), (104, 105)]) f a f62 a63 := mE_tr hE (mE_w (XR_w (by decide)) hw59.2.2.1)
          have eE65 : mE (XR []) f a f62 a63 := hw59.2.2.1
          have eZ66 : mZ [0] [1] f a f62 a63 := hw59.2.2.2.2.2.2
          have hZ : mZ [0] [1, 2] f a f62 a63 := mZ_tr hZ (mZ_w (by decide) (by decide) eZ66)
          refine k_top (z := (-5)) hw59.2.2.2.1 ?_
          exact kI_ret (v := (-5)) hx hb hr hlocks rfl hK hS dX12_sight_62 (f62, a63, g64) hP hD ⟨(kb_w kc_m5 (by decide) (by decide)), hI, hE, (Or.inr (Or.inr (Or.inl ⟨rfl, ⟨b18, b26⟩, ⟨h32.1, by have q2 := h32.2; omega⟩, (by rw [← ec2_104]; have w1 := (b58).1; omega), ((((congrFun (eZ66.2 2 rfl) 104).trans ec2_104.symm)).trans ec2_104)⟩))), (Or.inl ⟨(by decide +kernel), hw59.2.2.2.2.1, hw59.2.2.2.2.2.1.trans (by rw [show a 1 = a 1 from rfl]), (eZ66.2 2 rfl), (by (try dsimp only); rw [show f62 33 = f 33 from (eZ66.1 33 rfl), show a63 31 = a 31 from (eZ66.2 31 rfl)]; exact hp0)⟩), hZ⟩
      · have b67 : kb 0 v28 0 := kb_eq c30 kc_0
        refine lv_aload_n hx hb dX12_sight_33 rfl (lv_at hl 0 rfl) ?_
        refine lv_bipush (v := (-2)) hx hb dX12_sight_34 (by decide) ?_
        refine kI.callV (As := [.int (-2)]) (rest := []) ⟨hx, hb, hml, hown, hg⟩ (n_refuses l o r f a g hI (-2) (kb_w kc_m2 (by decide) (by decide)) ) (cwV 1 hg (kgV wt6_72 wt6_74 wp3_5 wt1_14 wt6_75) rfl rfl rfl (by decide +kernel) ⟨by decide, by decide⟩) hK hP hD hS hA mIs [] rfl (wr := []) rfl rfl rfl (fun i h => by cases h) 0 12 rfl rfl rfl hl.1 rfl (Nat.le_of_ble_eq_true rfl) dX12_sight_36 ⟨Nat.le_refl _, Nat.le_refl _⟩ (fun v69 u70 H locs hw68 hP hD hS => ?_)
        obtain ⟨f71, a72, g73⟩ := u70
        have hP : va_P D vwCl (mW K o r f71 a72 g73) H := hP
        have hD : va_D A (mW K o r f71 a72 g73) := hD
        have hI : mI f71 a72 := hw68.2.1
        have hE : mE (XR [(75, 99), (104, 105)]) f a f71 a72 := mE_tr hE (mE_w (XR_w (by decide)) hw68.2.2.1)
        have eE74 : mE (XR []) f a f71 a72 := hw68.2.2.1
        have eZ75 : mZ [0] [1] f a f71 a72 := hw68.2.2.2.2.2.2
        have hZ : mZ [0] [1, 2] f a f71 a72 := mZ_tr hZ (mZ_w (by decide) (by decide) eZ75)
        refine k_top (z := (-2)) hw68.2.2.2.1 ?_
        exact kI_ret (v := (-2)) hx hb hr hlocks rfl hK hS dX12_sight_39 (f71, a72, g73) hP hD ⟨(kb_w kc_m2 (by decide) (by decide)), hI, hE, (Or.inr (Or.inl ⟨rfl, ⟨b18, b26⟩, (fun q => (hw27.2.2 c30) ⟨q.1, by have q2 := q.2; omega⟩), ((((congrFun (eZ75.2 2 rfl) 104).trans ec2_104.symm)).trans ec2_104)⟩)), (Or.inl ⟨(by decide +kernel), hw68.2.2.2.2.1, hw68.2.2.2.2.2.1.trans (by rw [show a 1 = a 1 from rfl]), (eZ75.2 2 rfl), (by (try dsimp only); rw [show f71 33 = f 33 from (eZ75.1 33 rfl), show a72 31 = a 31 from (eZ75.2 31 rfl)]; exact hp0)⟩), hZ⟩
    · have b76 : kb 0 v20 0 := kb_eq c22 kc_0
      refine lv_aload_n hx hb dX12_sight_19 rfl (lv_at hl 0 rfl) ?_
      refine lv_iconst (v := (-1)) hx hb dX12_sight_20 (by decide) ?_
      refine kI.callV (As := [.int (-1)]) (rest := []) ⟨hx, hb, hml, hown, hg⟩ (n_refuses l o r f a g hI (-1) (kb_w kc_m1 (by decide) (by decide)) ) (cwV 1 hg (kgV wt6_72 wt6_74 wp3_5 wt1_14 wt6_75) rfl rfl rfl (by decide +kernel) ⟨by decide, by decide⟩) hK hP hD hS hA mIs [] rfl (wr := []) rfl rfl rfl (fun i h => by cases h) 0 12 rfl rfl rfl hl.1 rfl (Nat.le_of_ble_eq_true rfl) dX12_sight_21 ⟨Nat.le_refl _, Nat.le_refl _⟩ (fun v78 u79 H locs hw77 hP hD hS => ?_)
      obtain ⟨f80, a81, g82⟩ := u79
      have hP : va_P D vwCl (mW K o r f80 a81 g82) H := hP
      have hD : va_D A (mW K o r f80 a81 g82) := hD
      have hI : mI f80 a81 := hw77.2.1
      have hE : mE (XR [(75, 99), (104, 105)]) f a f80 a81 := mE_tr hE (mE_w (XR_w (by decide)) hw77.2.2.1)
      have eE83 : mE (XR []) f a f80 a81 := hw77.2.2.1
      have eZ84 : mZ [0] [1] f a f80 a81 := hw77.2.2.2.2.2.2
      have hZ : mZ [0] [1, 2] f a f80 a81 := mZ_tr hZ (mZ_w (by decide) (by decide) eZ84)
      refine k_top (z := (-1)) hw77.2.2.2.1 ?_
      exact kI_ret (v := (-1)) hx hb hr hlocks rfl hK hS dX12_sight_24 (f80, a81, g82) hP hD ⟨(kb_w kc_m1 (by decide) (by decide)), hI, hE, (Or.inl ⟨rfl, fun q => mLies_z (hw19.2.symm.trans c22) (by decide +kernel) (by decide +kernel) q.2, ((((congrFun (eZ84.2 2 rfl) 104).trans ec2_104.symm)).trans ec2_104)⟩), (Or.inl ⟨(by decide +kernel), hw77.2.2.2.2.1, hw77.2.2.2.2.2.1.trans (by rw [show a 1 = a 1 from rfl]), (eZ84.2 2 rfl), (by (try dsimp only); rw [show f80 33 = f 33 from (eZ84.1 33 rfl), show a81 31 = a 31 from (eZ84.2 31 rfl)]; exact hp0)⟩), hZ⟩
set_option maxHeartbeats 4000000 in
set_option maxRecDepth 100000 in
theorem n_forget  (l : Launch) {D : va_G} {K : Nat → ClassId} (o : Nat) (r : Nat → Nat) (f : Nat → Int32) (a : Nat → Nat → Int32) (g : Nat → Int64) (hI : mI f a)     : kI l yX12_forget (Cond.code yX12_forget cX12_forget 2 (some .int) :: kG) (rmD 1 0 0) D (tysK K) [.ref o] (mW K o r f a g) (fun v (u : mS) => kb 0 v 8 ∧ mI u.1 u.2.1 ∧ mE (XR [(104, 105)]) f a u.1 u.2.1 ∧ v = a 2 104 ∧ u.2.1 2 104 = 0 ∧ u.2.1 2 = upd (a 2) 104 0 ∧ mZ [] [2] f a u.1 u.2.1) (fun u => mW K o r u.1 u.2.1 u.2.2) 0 0 := by
  refine kI.of (cc := cX12_forget) (maxL := 2) (ret := (some .int)) (by decide) rfl (Nat.le_of_ble_eq_true rfl) ?_
  intro p e s m below meth c A hx hb hr hml hown hts hlocks hnm hK hP hD hS hA ls hl
  have hE : mE (XR [(104, 105)]) f a f a := mE_rf
  have hZ : mZ [] [2] f a f a := mZ_rf
  have hg : ∀ w ∈ kG, w.before _ s = true := fun w h => hts w (List.mem_cons_of_mem _ h)
  have hown : s.vm.findClass RX12 = some m.cls := hown
  have hl : lv_has ls 2 [(0, .ref o)] := hl
  obtain ⟨c2_104, ec2_104⟩ : ∃ z : Int32, z = a 2 104 := ⟨_, rfl⟩
  have b1 : kb 0 c2_104 8 := kb_eq ec2_104 (aI_at hI.2.1 2 104 (by decide) (by decide))
  refine lv_aload_n hx hb dX12_forget_0 rfl (lv_at hl 0 rfl) ?_
  refine va_get (D := D) (ci := 12) (v := .ref (r 2)) (C := RX12) (T := TX12) (N := 48) hx hb hg inC12 hown hK hP 0 rfl rfl 2 (by decide) (hg _ wt5_162) (fun _ h9 => h9) rfl dX12_forget_1 ?_
  refine lv_bipush (v := 104) hx hb dX12_forget_4 (by decide) ?_
  refine va_iald hx hb hK hP 2 0 rfl rfl (kb_in kc_104 (by decide) (by decide)) dX12_forget_6 ?_
  refine k_top (z := c2_104) (by rw [cl_104]; exact ec2_104.symm) ?_
  refine lv_istore_n (lv' := [(1, .int c2_104), (0, .ref o)]) hx hb dX12_forget_7 rfl hl (by decide) rfl (fun ls hl => ?_)
  refine lv_aload_n hx hb dX12_forget_8 rfl (lv_at hl 1 rfl) ?_
  refine va_get (D := D) (ci := 12) (v := .ref (r 2)) (C := RX12) (T := TX12) (N := 48) hx hb hg inC12 hown hK hP 0 rfl rfl 2 (by decide) (hg _ wt5_162) (fun _ h9 => h9) rfl dX12_forget_9 ?_
  refine lv_bipush (v := 104) hx hb dX12_forget_12 (by decide) ?_
  refine lv_iconst (v := 0) hx hb dX12_forget_14 (by decide) ?_
  refine va_iast hx hb hK hP hD hS 2 0 rfl rfl (kb_in kc_104 (by decide) (by decide)) dX12_forget_15 (fun H locs hP hD hS => ?_)
  rw [cl_104] at hP hD
  have hP : va_P D vwCl (mW K o r f (va_up a 2 (upd (a 2) 104 0)) g) H := hP
  have hD : va_D A (mW K o r f (va_up a 2 (upd (a 2) 104 0)) g) := hD
  refine k_gen (P := fun z => va_P D vwCl (mW K o r f z g) H ∧ va_D A (mW K o r f z g) ∧ (mI f z) ∧ (mE (XR [(104, 105)]) f a f z) ∧ (mZ [] [2] f a f z)) (va_up a 2 (upd (a 2) 104 0)) ⟨hP, hD, (mI_2 hI (aI_st hI.2.1 2 104 kc_0 (by decide) (by decide)) (by decide)), (mE_2 hE (by decide)), (mZ_a hZ rfl)⟩ (fun a_2 ea_2 hq => ?_)
  obtain ⟨hP, hD, hI, hE, hZ⟩ := hq
  refine lv_iload_n hx hb dX12_forget_16 rfl (lv_at hl 0 rfl) ?_
  exact kI_ret (v := c2_104) hx hb hr hlocks rfl hK hS dX12_forget_17 (f, a_2, g) hP hD ⟨b1, hI, hE, ec2_104, (show a_2 2 104 = 0 from by rw [← ea_2]; exact (pk_us (f := a 2) (k := 104) (x := 0))), (show a_2 2 = upd (a 2) 104 0 from by rw [← ea_2]; rfl), hZ⟩
set_option maxHeartbeats 4000000 in
set_option maxRecDepth 100000 in
theorem n_force  (l : Launch) {D : va_G} {K : Nat → ClassId} (o : Nat) (r : Nat → Nat) (f : Nat → Int32) (a : Nat → Nat → Int32) (g : Nat → Int64) (hI : mI f a) (x : Int32)  (P : pS) (hp0 : mPs (f 33) (a 31) P) : kI l yX12_force (Cond.code yX12_force cX12_force 3 (some .int) :: kG) (rmD 2 0 0) D (tysK K) [.ref o, .int x] (mW K o r f a g) (fun v (u : mS) => kb (-2147483648) v 2147483647 ∧ mI u.1 u.2.1 ∧ mE (XR [(106, 107)]) f a u.1 u.2.1 ∧ frcP x v (a 2 105) (a 2 106) (u.2.1 2 106) ∧ ((v = -2 ∧ u.1 0 = v ∧ u.2.1 1 = rfS (-2 : Int32).toInt (a 1) ∧ u.2.1 2 = a 2 ∧ mPs (u.1 33) (u.2.1 31) P) ∨ (¬ v = -2 ∧ u.1 0 = 0 ∧ u.2.1 1 = a 1 ∧ u.2.1 2 = upd (a 2) 106 x ∧ mPs (u.1 33) (u.2.1 31) P)) ∧ mZ [0] [1, 2] f a u.1 u.2.1) (fun u => mW K o r u.1 u.2.1 u.2.2) 0 0 := by
  refine kI.of (cc := cX12_force) (maxL := 3) (ret := (some .int)) (by decide) rfl (Nat.le_of_ble_eq_true rfl) ?_
  intro p e s m below meth c A hx hb hr hml hown hts hlocks hnm hK hP hD hS hA ls hl
  have hE : mE (XR [(106, 107)]) f a f a := mE_rf
  have hZ : mZ [0] [1, 2] f a f a := mZ_rf
  have hg : ∀ w ∈ kG, w.before _ s = true := fun w h => hts w (List.mem_cons_of_mem _ h)
  have hown : s.vm.findClass RX12 = some m.cls := hown
  have hl : lv_has ls 3 [(0, .ref o), (1, .int x)] := hl
  obtain ⟨c2_105, ec2_105⟩ : ∃ z : Int32, z = a 2 105 := ⟨_, rfl⟩
  have b1 : kb 0 c2_105 6 := kb_eq ec2_105 (aI_at hI.2.1 2 105 (by decide) (by decide))
  obtain ⟨c2_106, ec2_106⟩ : ∃ z : Int32, z = a 2 106 := ⟨_, rfl⟩
  have b2 : kb (-1) c2_106 5 := kb_eq ec2_106 (aI_at hI.2.1 2 106 (by decide) (by decide))
  refine lv_iload_n hx hb dX12_force_0 rfl (lv_at hl 1 rfl) ?_
  refine lv_iconst (v := (-1)) hx hb dX12_force_1 (by decide) ?_
  refine lv_aload_n hx hb dX12_force_2 rfl (lv_at hl 0 rfl) ?_
  refine va_get (D := D) (ci := 12) (v := .ref (r 2)) (C := RX12) (T := TX12) (N := 48) hx hb hg inC12 hown hK hP 0 rfl rfl 2 (by decide) (hg _ wt5_162) (fun _ h9 => h9) rfl dX12_force_3 ?_
  refine lv_bipush (v := 105) hx hb dX12_force_6 (by decide) ?_
  refine va_iald hx hb hK hP 2 0 rfl rfl (kb_in kc_105 (by decide) (by decide)) dX12_force_8 ?_
  refine k_top (z := c2_105) (by rw [cl_105]; exact ec2_105.symm) ?_
  refine lv_iconst (v := 1) hx hb dX12_force_9 (by decide) ?_
  refine lv_isub hx hb dX12_force_10 ?_
  refine lv_topi (fun t3 et3 => ?_)
  have b4 : kb (-1) t3 5 := kb_eq et3 (kb_sub b1 kc_1 (by decide) (by decide))
  have qt3 : t3.toInt = c2_105.toInt - 1 := by rw [et3]; exact kt_subc b1 kc_1 (by decide) (by decide)
  refine kN.callS (As := [.int x, .int (-1), .int t3]) (rest := []) ⟨hx, hb, hml, hown, hg⟩ (m_lies l x (-1) t3 ) (va_cwS 3 hg (kgS wt6_69 wt6_70 wt1_14 wt6_71) rfl rfl rfl (by decide +kernel) ⟨by decide, by decide⟩) hP hS rfl hl.1 rfl (Nat.le_of_ble_eq_true rfl) dX12_force_11 ⟨Nat.le_refl _, Nat.le_refl _⟩ (fun v6 H locs hw5 hP hS => ?_)
  refine lv_if_ne (tgt := 24) hx hb dX12_force_14 (by decide) (fun c8 => ?_) (fun c8 => ?_)
  · have b9 : kb 1 v6 1 := kr_nel c8 hw5.1 kc_0 (by decide)
    have h10 := mLies_ne (hw5.2 ▸ c8)
    have b11 : kb (-1) x 2147483647 := kr_le2 h10.1 kc_m1 (kb_any x)
    have b12 : kb (-1) x 5 := kr_le1 h10.2 b11 b4
    refine lv_aload_n hx hb dX12_force_24 rfl (lv_at hl 0 rfl) ?_
    refine va_get (D := D) (ci := 12) (v := .ref (r 2)) (C := RX12) (T := TX12) (N := 48) hx hb hg inC12 hown hK hP 0 rfl rfl 2 (by decide) (hg _ wt5_162) (fun _ h9 => h9) rfl dX12_force_25 ?_
    refine lv_bipush (v := 106) hx hb dX12_force_28 (by decide) ?_
    refine va_iald hx hb hK hP 2 0 rfl rfl (kb_in kc_106 (by decide) (by decide)) dX12_force_30 ?_
    refine k_top (z := c2_106) (by rw [cl_106]; exact ec2_106.symm) ?_
    refine lv_istore_n (lv' := [(2, .int c2_106), (0, .ref o), (1, .int x)]) hx hb dX12_force_31 rfl hl (by decide) rfl (fun ls hl => ?_)
    refine lv_aload_n hx hb dX12_force_32 rfl (lv_at hl 1 rfl) ?_
    refine va_get (D := D) (ci := 12) (v := .ref (r 2)) (C := RX12) (T := TX12) (N := 48) hx hb hg inC12 hown hK hP 0 rfl rfl 2 (by decide) (hg _ wt5_162) (fun _ h9 => h9) rfl dX12_force_33 ?_
    refine lv_bipush (v := 106) hx hb dX12_force_36 (by decide) ?_
    refine lv_iload_n hx hb dX12_force_38 rfl (lv_at hl 2 rfl) ?_
    refine va_iast hx hb hK hP hD hS 2 0 rfl rfl (kb_in kc_106 (by decide) (by decide)) dX12_force_39 (fun H locs hP hD hS => ?_)
    rw [cl_106] at hP hD
    have hP : va_P D vwCl (mW K o r f (va_up a 2 (upd (a 2) 106 x)) g) H := hP
    have hD : va_D A (mW K o r f (va_up a 2 (upd (a 2) 106 x)) g) := hD
    refine k_gen (P := fun z => va_P D vwCl (mW K o r f z g) H ∧ va_D A (mW K o r f z g) ∧ (mI f z) ∧ (mE (XR [(106, 107)]) f a f z) ∧ (mZ [0] [1, 2] f a f z)) (va_up a 2 (upd (a 2) 106 x)) ⟨hP, hD, (mI_2 hI (aI_st hI.2.1 2 106 b12 (by decide) (by decide)) (by decide)), (mE_2 hE (by decide)), (mZ_a hZ rfl)⟩ (fun a_13 ea_13 hq => ?_)
    obtain ⟨hP, hD, hI, hE, hZ⟩ := hq
    refine lv_aload_n hx hb dX12_force_40 rfl (lv_at hl 1 rfl) ?_
    refine lv_iload_n hx hb dX12_force_41 rfl (lv_at hl 0 rfl) ?_
    refine kI.callV (As := [.int c2_106]) (rest := []) ⟨hx, hb, hml, hown, hg⟩ (n_good l o r f a_13 g hI c2_106  ) (cwV 1 hg (kgV wt6_76 wt6_78 wp3_6 wt1_14 wt6_79) rfl rfl rfl (by decide +kernel) ⟨by decide, by decide⟩) hK hP hD hS hA mIs [] rfl (wr := []) rfl rfl rfl (fun i h => by cases h) 0 12 rfl rfl rfl hl.1 rfl (Nat.le_of_ble_eq_true rfl) dX12_force_42 ⟨Nat.le_refl _, Nat.le_refl _⟩ (fun v15 u16 H locs hw14 hP hD hS => ?_)
    obtain ⟨f17, a18, g19⟩ := u16
    have hP : va_P D vwCl (mW K o r f17 a18 g19) H := hP
    have hD : va_D A (mW K o r f17 a18 g19) := hD
    have hI : mI f17 a18 := hw14.2.1
    have hE : mE (XR [(106, 107)]) f a f17 a18 := mE_tr hE (mE_w (XR_w (by decide)) hw14.2.2.1)
    have eE20 : mE (XR []) f a_13 f17 a18 := hw14.2.2.1
    have eZ21 : mZ [0] [] f a_13 f17 a18 := hw14.2.2.2.2.2
    have hZ : mZ [0] [1, 2] f a f17 a18 := mZ_tr hZ (mZ_w (by decide) (by decide) eZ21)
    refine k_top (z := c2_106) hw14.2.2.2.1 ?_
    exact kI_ret (v := c2_106) hx hb hr hlocks rfl hK hS dX12_force_45 (f17, a18, g19) hP hD ⟨(kb_w b2 (by decide) (by decide)), hI, hE, (show frcP x c2_106 (a 2 105) (a 2 106) (a18 2 106) from Or.inr ⟨ec2_106, (by have w1 := mLies_ne (hw5.2 ▸ c8); have w2 := qt3; have w3 : (-1 : Int32).toInt = -1 := (by decide +kernel); rw [← ec2_105]; exact ⟨by have w4 := w1.1; omega, by have w4 := w1.2; omega⟩), ((congrFun (eZ21.2 2 rfl) 106).trans (show a_13 2 106 = x from by rw [← ea_13]; exact (pk_us (f := a 2) (k := 106) (x := x))))⟩), (Or.inr ⟨(fun w9 => by have w1 := (b2).1; have w2 := congrArg Int32.toInt w9; have w3 : (-2 : Int32).toInt = -2 := (by decide +kernel); omega), hw14.2.2.2.2.1, ((eZ21.2 1 rfl).trans (show a_13 1 = a 1 from by rw [← ea_13]; rfl)), ((eZ21.2 2 rfl).trans (show a_13 2 = upd (a 2) 106 x from by rw [← ea_13]; rfl)), (by (try dsimp only); rw [show f17 33 = f 33 from (eZ21.1 33 rfl), show a18 31 = a 31 from ((eZ21.2 31 rfl).trans (show a_13 31 = a 31 from by rw [← ea_13]; rfl))]; exact hp0)⟩), hZ⟩
  · have b22 : kb 0 v6 0 := kb_eq c8 kc_0
    refine lv_aload_n hx hb dX12_force_17 rfl (lv_at hl 0 rfl) ?_
    refine lv_bipush (v := (-2)) hx hb dX12_force_18 (by decide) ?_
    refine kI.callV (As := [.int (-2)]) (rest := []) ⟨hx, hb, hml, hown, hg⟩ (n_refuses l o r f a g hI (-2) (kb_w kc_m2 (by decide) (by decide)) ) (cwV 1 hg (kgV wt6_72 wt6_74 wp3_5 wt1_14 wt6_75) rfl rfl rfl (by decide +kernel) ⟨by decide, by decide⟩) hK hP hD hS hA mIs [] rfl (wr := []) rfl rfl rfl (fun i h => by cases h) 0 12 rfl rfl rfl hl.1 rfl (Nat.le_of_ble_eq_true rfl) dX12_force_20 ⟨Nat.le_refl _, Nat.le_refl _⟩ (fun v24 u25 H locs hw23 hP hD hS => ?_)
    obtain ⟨f26, a27, g28⟩ := u25
    have hP : va_P D vwCl (mW K o r f26 a27 g28) H := hP
    have hD : va_D A (mW K o r f26 a27 g28) := hD
    have hI : mI f26 a27 := hw23.2.1
    have hE : mE (XR [(106, 107)]) f a f26 a27 := mE_tr hE (mE_w (XR_w (by decide)) hw23.2.2.1)
    have eE29 : mE (XR []) f a f26 a27 := hw23.2.2.1
    have eZ30 : mZ [0] [1] f a f26 a27 := hw23.2.2.2.2.2.2
    have hZ : mZ [0] [1, 2] f a f26 a27 := mZ_tr hZ (mZ_w (by decide) (by decide) eZ30)
    refine k_top (z := (-2)) hw23.2.2.2.1 ?_
    exact kI_ret (v := (-2)) hx hb hr hlocks rfl hK hS dX12_force_23 (f26, a27, g28) hP hD ⟨(kb_w kc_m2 (by decide) (by decide)), hI, hE, (show frcP x (-2) (a 2 105) (a 2 106) (a27 2 106) from Or.inl ⟨rfl, (fun q => mLies_z (hw5.2.symm.trans c8) (by decide +kernel) (show t3.toInt = _ from rfl) ⟨q.1, by have w1 := q.2; rw [← ec2_105] at w1; have w2 := qt3; omega⟩), ((((congrFun (eZ30.2 2 rfl) 106).trans ec2_106.symm)).trans ec2_106)⟩), (Or.inl ⟨rfl, hw23.2.2.2.2.1, hw23.2.2.2.2.2.1.trans (by rw [show a 1 = a 1 from rfl]), (eZ30.2 2 rfl), (by (try dsimp only); rw [show f26 33 = f 33 from (eZ30.1 33 rfl), show a27 31 = a 31 from (eZ30.2 31 rfl)]; exact hp0)⟩), hZ⟩
