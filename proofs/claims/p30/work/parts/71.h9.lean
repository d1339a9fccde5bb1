set_option maxHeartbeats 4000000 in
set_option maxRecDepth 100000 in
theorem x_7_copyFromI  (l : Launch) {D : va_G} {K : Nat → ClassId} (r : Nat → Nat) (f : Nat → Int32) (a : Nat → Nat → Int32) (g : xG) (tx tt : va_W) (hT : ∀ c ∈ tt, c ∈ tx) (hI : xI f a) (hG : gOK K g.2 tt)     : kVG l yX7_copyFrom (Cond.code yX7_copyFrom cX7_copyFrom 3 none :: kG) (rmD 2 0 0) D K [.ref (r 95), .ref (r 1)] (xX K r f a g (sI K r f a g ++ tx)) (fun (u : xS) => xI u.1 u.2.1 ∧ gOK K u.2.2.2 tt ∧ xEk [12, 13, 14, 32, 38, 44, 49, 50, 832, 838, 844, 849, 850] f a g u.1 u.2.1 u.2.2 ∧ u.1 3040 = f 32 ∧ u.1 3046 = f 38 ∧ u.1 3052 = f 44 ∧ u.1 3057 = f 49 ∧ u.1 3058 = f 50) (fun u => xX K r u.1 u.2.1 u.2.2 (sI K r u.1 u.2.1 u.2.2 ++ tx)) 0 0 := by
  refine kVG.of (cc := cX7_copyFrom) (maxL := 3) (ret := none) (by decide) rfl (Nat.le_of_ble_eq_true rfl) ?_
  intro p e s m below meth c A hx hb hr hml hown hts hlocks hnm hK hP hD hS hA hV ls hl
  have hE : xEk [12, 13, 14, 32, 38, 44, 49, 50, 832, 838, 844, 849, 850] f a g f a g := xEk_rf
  have hg : ∀ w ∈ kG, w.before _ s = true := fun w h => hts w (List.mem_cons_of_mem _ h)
  have hown : s.vm.findClass RX7 = some m.cls := hown
  have hl : lv_has ls 3 [(0, .ref (r 95)), (1, .ref (r 1))] := hl
  obtain ⟨s32, es32⟩ : ∃ z : Int32, z = f 32 := ⟨_, rfl⟩
  have b1 : kb 0 s32 10 := kb_eq es32 (fI_at hI.1 32 (by decide) (by decide))
  obtain ⟨s38, es38⟩ : ∃ z : Int32, z = f 38 := ⟨_, rfl⟩
  obtain ⟨s44, es44⟩ : ∃ z : Int32, z = f 44 := ⟨_, rfl⟩
  obtain ⟨s49, es49⟩ : ∃ z : Int32, z = f 49 := ⟨_, rfl⟩
  obtain ⟨s50, es50⟩ : ∃ z : Int32, z = f 50 := ⟨_, rfl⟩
  refine lv_aload_n hx hb dX7_copyFrom_0 rfl (lv_at hl 0 rfl) ?_
  refine lv_aload_n hx hb dX7_copyFrom_1 rfl (lv_at hl 1 rfl) ?_
  refine va_get (D := D) (ci := 7) (v := .int (f 32)) (C := RX7) (T := TX7) (N := 20) hx hb hg inC7 hown hK hP 1 rfl rfl 0 (by decide) (hg _ wt1_79) (fun _ h9 => h9) rfl dX7_copyFrom_2 ?_
  refine k_top (z := s32) es32.symm ?_
  refine va_put (D := D) (ci := 7) (v := .int s32) (ty := .int) (C := RX7) (T := TX7) (N := 20) hx hb hg inC7 tyX7 tyX7_ok nmX7 hown hK hP hD hS 95 rfl rfl 0 (by decide) (hg _ wt1_79) (fun _ h9 => h9) rfl (by decide +kernel) rfl rfl (Nat.le_of_ble_eq_true rfl) dX7_copyFrom_5 (fun H locs hP hD hS => ?_)
  have hP : va_P D vwCl (xX K r (upd f 3040 s32) a g (sI K r (upd f 3040 s32) a g ++ tx)) H := hP
  have hD : va_D A (xX K r (upd f 3040 s32) a g (sI K r (upd f 3040 s32) a g ++ tx)) := hD
  refine k_gen (P := fun z => va_P D vwCl (xX K r z a g (sI K r z a g ++ tx)) H ∧ va_D A (xX K r z a g (sI K r z a g ++ tx)) ∧ (xI z a) ∧ (gOK K g.2 tt) ∧ (xEk [12, 13, 14, 32, 38, 44, 49, 50, 832, 838, 844, 849, 850] f a g z a g)) (upd f 3040 s32) ⟨hP, hD, (xI_f hI (fI_st hI.1 3040 b1 (by decide) (by decide))), hG, (xEk_f hE (by decide))⟩ (fun f_2 ef_2 hq => ?_)
  obtain ⟨hP, hD, hI, hG, hE⟩ := hq
  refine lv_aload_n hx hb dX7_copyFrom_8 rfl (lv_at hl 1 rfl) ?_
  refine va_get (D := D) (ci := 7) (v := .ref (r 2)) (C := RX7) (T := TX7) (N := 20) hx hb hg inC7 hown hK hP 1 rfl rfl 1 (by decide) (hg _ wt1_86) (fun _ h9 => h9) rfl dX7_copyFrom_9 ?_
  refine lv_iconst (v := 0) hx hb dX7_copyFrom_12 (by decide) ?_
  refine lv_aload_n hx hb dX7_copyFrom_13 rfl (lv_at hl 0 rfl) ?_
  refine va_get (D := D) (ci := 7) (v := .ref (r 96)) (C := RX7) (T := TX7) (N := 20) hx hb hg inC7 hown hK hP 95 rfl rfl 1 (by decide) (hg _ wt1_86) (fun _ h9 => h9) rfl dX7_copyFrom_14 ?_
  refine lv_iconst (v := 0) hx hb dX7_copyFrom_17 (by decide) ?_
  refine lv_bipush (v := 10) hx hb dX7_copyFrom_18 (by decide) ?_
  refine va_copyi (ty := .int) hx hb (hml.trans hl.1.symm) hown (hg _ wt4_83) (hg _ wt4_70) (hg _ wt4_69) (hg _ wt1_20) hK hP hD hS 2 96 0 0 rfl rfl rfl rfl rfl (by decide) (by decide) (by decide) (by decide +kernel) (by decide +kernel) (fun i _ => rfl) (by decide) (Nat.le_of_ble_eq_true rfl) dX7_copyFrom_20 (fun H locs hP hD hS => ?_)
  have hP : va_P D vwCl (xX K r f_2 (va_up a 96 (va_cpy (a 2) (a 96) (0 : Int32).toNatClampNeg (0 : Int32).toNatClampNeg (10 : Int32).toNatClampNeg)) g (sI K r f_2 (va_up a 96 (va_cpy (a 2) (a 96) (0 : Int32).toNatClampNeg (0 : Int32).toNatClampNeg (10 : Int32).toNatClampNeg)) g ++ tx)) H := hP
  have hD : va_D A (xX K r f_2 (va_up a 96 (va_cpy (a 2) (a 96) (0 : Int32).toNatClampNeg (0 : Int32).toNatClampNeg (10 : Int32).toNatClampNeg)) g (sI K r f_2 (va_up a 96 (va_cpy (a 2) (a 96) (0 : Int32).toNatClampNeg (0 : Int32).toNatClampNeg (10 : Int32).toNatClampNeg)) g ++ tx)) := hD
  refine k_gen (P := fun z => va_P D vwCl (xX K r f_2 z g (sI K r f_2 z g ++ tx)) H ∧ va_D A (xX K r f_2 z g (sI K r f_2 z g ++ tx)) ∧ (xI f_2 z) ∧ (gOK K g.2 tt) ∧ (xEk [12, 13, 14, 32, 38, 44, 49, 50, 832, 838, 844, 849, 850] f a g f_2 z g)) (va_up a 96 (va_cpy (a 2) (a 96) (0 : Int32).toNatClampNeg (0 : Int32).toNatClampNeg (10 : Int32).toNatClampNeg)) ⟨hP, hD, (xI_a hI (by decide)), hG, (xEk_a hE (by decide))⟩ (fun a_3 ea_3 hq => ?_)
  obtain ⟨hP, hD, hI, hG, hE⟩ := hq
  refine lv_aload_n hx hb dX7_copyFrom_23 rfl (lv_at hl 1 rfl) ?_
  refine va_get (D := D) (ci := 7) (v := .ref (r 3)) (C := RX7) (T := TX7) (N := 20) hx hb hg inC7 hown hK hP 1 rfl rfl 2 (by decide) (hg _ wt1_89) (fun _ h9 => h9) rfl dX7_copyFrom_24 ?_
  refine lv_iconst (v := 0) hx hb dX7_copyFrom_27 (by decide) ?_
  refine lv_aload_n hx hb dX7_copyFrom_28 rfl (lv_at hl 0 rfl) ?_
  refine va_get (D := D) (ci := 7) (v := .ref (r 97)) (C := RX7) (T := TX7) (N := 20) hx hb hg inC7 hown hK hP 95 rfl rfl 2 (by decide) (hg _ wt1_89) (fun _ h9 => h9) rfl dX7_copyFrom_29 ?_
  refine lv_iconst (v := 0) hx hb dX7_copyFrom_32 (by decide) ?_
  refine lv_bipush (v := 10) hx hb dX7_copyFrom_33 (by decide) ?_
  refine va_copyi (ty := .int) hx hb (hml.trans hl.1.symm) hown (hg _ wt4_83) (hg _ wt4_70) (hg _ wt4_69) (hg _ wt1_20) hK hP hD hS 3 97 0 0 rfl rfl rfl rfl rfl (by decide) (by decide) (by decide) (by decide +kernel) (by decide +kernel) (fun i _ => rfl) (by decide) (Nat.le_of_ble_eq_true rfl) dX7_copyFrom_35 (fun H locs hP hD hS => ?_)
  have hP : va_P D vwCl (xX K r f_2 (va_up a_3 97 (va_cpy (a_3 3) (a_3 97) (0 : Int32).toNatClampNeg (0 : Int32).toNatClampNeg (10 : Int32).toNatClampNeg)) g (sI K r f_2 (va_up a_3 97 (va_cpy (a_3 3) (a_3 97) (0 : Int32).toNatClampNeg (0 : Int32).toNatClampNeg (10 : Int32).toNatClampNeg)) g ++ tx)) H := hP
  have hD : va_D A (xX K r f_2 (va_up a_3 97 (va_cpy (a_3 3) (a_3 97) (0 : Int32).toNatClampNeg (0 : Int32).toNatClampNeg (10 : Int32).toNatClampNeg)) g (sI K r f_2 (va_up a_3 97 (va_cpy (a_3 3) (a_3 97) (0 : Int32).toNatClampNeg (0 : Int32).toNatClampNeg (10 : Int32).toNatClampNeg)) g ++ tx)) := hD
  refine k_gen (P := fun z => va_P D vwCl (xX K r f_2 z g (sI K r f_2 z g ++ tx)) H ∧ va_D A (xX K r f_2 z g (sI K r f_2 z g ++ tx)) ∧ (xI f_2 z) ∧ (gOK K g.2 tt) ∧ (xEk [12, 13, 14, 32, 38, 44, 49, 50, 832, 838, 844, 849, 850] f a g f_2 z g)) (va_up a_3 97 (va_cpy (a_3 3) (a_3 97) (0 : Int32).toNatClampNeg (0 : Int32).toNatClampNeg (10 : Int32).toNatClampNeg)) ⟨hP, hD, (xI_a hI (by decide)), hG, (xEk_a hE (by decide))⟩ (fun a_4 ea_4 hq => ?_)
  obtain ⟨hP, hD, hI, hG, hE⟩ := hq
  refine lv_aload_n hx hb dX7_copyFrom_38 rfl (lv_at hl 1 rfl) ?_
  refine va_get (D := D) (ci := 7) (v := .ref (r 4)) (C := RX7) (T := TX7) (N := 20) hx hb hg inC7 hown hK hP 1 rfl rfl 3 (by decide) (hg _ wt1_93) (fun _ h9 => h9) rfl dX7_copyFrom_39 ?_
  refine lv_iconst (v := 0) hx hb dX7_copyFrom_42 (by decide) ?_
  refine lv_aload_n hx hb dX7_copyFrom_43 rfl (lv_at hl 0 rfl) ?_
  refine va_get (D := D) (ci := 7) (v := .ref (r 98)) (C := RX7) (T := TX7) (N := 20) hx hb hg inC7 hown hK hP 95 rfl rfl 3 (by decide) (hg _ wt1_93) (fun _ h9 => h9) rfl dX7_copyFrom_44 ?_
  refine lv_iconst (v := 0) hx hb dX7_copyFrom_47 (by decide) ?_
  refine lv_bipush (v := 10) hx hb dX7_copyFrom_48 (by decide) ?_
  refine va_copyi (ty := .int) hx hb (hml.trans hl.1.symm) hown (hg _ wt4_83) (hg _ wt4_70) (hg _ wt4_69) (hg _ wt1_20) hK hP hD hS 4 98 0 0 rfl rfl rfl rfl rfl (by decide) (by decide) (by decide) (by decide +kernel) (by decide +kernel) (fun i _ => rfl) (by decide) (Nat.le_of_ble_eq_true rfl) dX7_copyFrom_50 (fun H locs hP hD hS => ?_)
  have hP : va_P D vwCl (xX K r f_2 (va_up a_4 98 (va_cpy (a_4 4) (a_4 98) (0 : Int32).toNatClampNeg (0 : Int32).toNatClampNeg (10 : Int32).toNatClampNeg)) g (sI K r f_2 (va_up a_4 98 (va_cpy (a_4 4) (a_4 98) (0 : Int32).toNatClampNeg (0 : Int32).toNatClampNeg (10 : Int32).toNatClampNeg)) g ++ tx)) H := hP
  have hD : va_D A (xX K r f_2 (va_up a_4 98 (va_cpy (a_4 4) (a_4 98) (0 : Int32).toNatClampNeg (0 : Int32).toNatClampNeg (10 : Int32).toNatClampNeg)) g (sI K r f_2 (va_up a_4 98 (va_cpy (a_4 4) (a_4 98) (0 : Int32).toNatClampNeg (0 : Int32).toNatClampNeg (10 : Int32).toNatClampNeg)) g ++ tx)) := hD
  refine k_gen (P := fun z => va_P D vwCl (xX K r f_2 z g (sI K r f_2 z g ++ tx)) H ∧ va_D A (xX K r f_2 z g (sI K r f_2 z g ++ tx)) ∧ (xI f_2 z) ∧ (gOK K g.2 tt) ∧ (xEk [12, 13, 14, 32, 38, 44, 49, 50, 832, 838, 844, 849, 850] f a g f_2 z g)) (va_up a_4 98 (va_cpy (a_4 4) (a_4 98) (0 : Int32).toNatClampNeg (0 : Int32).toNatClampNeg (10 : Int32).toNatClampNeg)) ⟨hP, hD, (xI_a hI (by decide)), hG, (xEk_a hE (by decide))⟩ (fun a_5 ea_5 hq => ?_)
  obtain ⟨hP, hD, hI, hG, hE⟩ := hq
  refine lv_aload_n hx hb dX7_copyFrom_53 rfl (lv_at hl 1 rfl) ?_
  refine va_get (D := D) (ci := 7) (v := .ref (r 5)) (C := RX7) (T := TX7) (N := 20) hx hb hg inC7 hown hK hP 1 rfl rfl 4 (by decide) (hg _ wt1_95) (fun _ h9 => h9) rfl dX7_copyFrom_54 ?_
  refine lv_iconst (v := 0) hx hb dX7_copyFrom_57 (by decide) ?_
  refine lv_aload_n hx hb dX7_copyFrom_58 rfl (lv_at hl 0 rfl) ?_
  refine va_get (D := D) (ci := 7) (v := .ref (r 99)) (C := RX7) (T := TX7) (N := 20) hx hb hg inC7 hown hK hP 95 rfl rfl 4 (by decide) (hg _ wt1_95) (fun _ h9 => h9) rfl dX7_copyFrom_59 ?_
  refine lv_iconst (v := 0) hx hb dX7_copyFrom_62 (by decide) ?_
  refine lv_bipush (v := 10) hx hb dX7_copyFrom_63 (by decide) ?_
  refine va_copyi (ty := .int) hx hb (hml.trans hl.1.symm) hown (hg _ wt4_83) (hg _ wt4_70) (hg _ wt4_69) (hg _ wt1_20) hK hP hD hS 5 99 0 0 rfl rfl rfl rfl rfl (by decide) (by decide) (by decide) (by decide +kernel) (by decide +kernel) (fun i _ => rfl) (by decide) (Nat.le_of_ble_eq_true rfl) dX7_copyFrom_65 (fun H locs hP hD hS => ?_)
  have hP : va_P D vwCl (xX K r f_2 (va_up a_5 99 (va_cpy (a_5 5) (a_5 99) (0 : Int32).toNatClampNeg (0 : Int32).toNatClampNeg (10 : Int32).toNatClampNeg)) g (sI K r f_2 (va_up a_5 99 (va_cpy (a_5 5) (a_5 99) (0 : Int32).toNatClampNeg (0 : Int32).toNatClampNeg (10 : Int32).toNatClampNeg)) g ++ tx)) H := hP
  have hD : va_D A (xX K r f_2 (va_up a_5 99 (va_cpy (a_5 5) (a_5 99) (0 : Int32).toNatClampNeg (0 : Int32).toNatClampNeg (10 : Int32).toNatClampNeg)) g (sI K r f_2 (va_up a_5 99 (va_cpy (a_5 5) (a_5 99) (0 : Int32).toNatClampNeg (0 : Int32).toNatClampNeg (10 : Int32).toNatClampNeg)) g ++ tx)) := hD
  refine k_gen (P := fun z => va_P D vwCl (xX K r f_2 z g (sI K r f_2 z g ++ tx)) H ∧ va_D A (xX K r f_2 z g (sI K r f_2 z g ++ tx)) ∧ (xI f_2 z) ∧ (gOK K g.2 tt) ∧ (xEk [12, 13, 14, 32, 38, 44, 49, 50, 832, 838, 844, 849, 850] f a g f_2 z g)) (va_up a_5 99 (va_cpy (a_5 5) (a_5 99) (0 : Int32).toNatClampNeg (0 : Int32).toNatClampNeg (10 : Int32).toNatClampNeg)) ⟨hP, hD, (xI_a hI (by decide)), hG, (xEk_a hE (by decide))⟩ (fun a_6 ea_6 hq => ?_)
  obtain ⟨hP, hD, hI, hG, hE⟩ := hq
  refine lv_aload_n hx hb dX7_copyFrom_68 rfl (lv_at hl 1 rfl) ?_
  refine va_get (D := D) (ci := 7) (v := .ref (r 6)) (C := RX7) (T := TX7) (N := 20) hx hb hg inC7 hown hK hP 1 rfl rfl 5 (by decide) (hg _ wt1_97) (fun _ h9 => h9) rfl dX7_copyFrom_69 ?_
  refine lv_iconst (v := 0) hx hb dX7_copyFrom_72 (by decide) ?_
  refine lv_aload_n hx hb dX7_copyFrom_73 rfl (lv_at hl 0 rfl) ?_
  refine va_get (D := D) (ci := 7) (v := .ref (r 100)) (C := RX7) (T := TX7) (N := 20) hx hb hg inC7 hown hK hP 95 rfl rfl 5 (by decide) (hg _ wt1_97) (fun _ h9 => h9) rfl dX7_copyFrom_74 ?_
  refine lv_iconst (v := 0) hx hb dX7_copyFrom_77 (by decide) ?_
  refine lv_bipush (v := 10) hx hb dX7_copyFrom_78 (by decide) ?_
  refine va_copyi (ty := .int) hx hb (hml.trans hl.1.symm) hown (hg _ wt4_83) (hg _ wt4_70) (hg _ wt4_69) (hg _ wt1_20) hK hP hD hS 6 100 0 0 rfl rfl rfl rfl rfl (by decide) (by decide) (by decide) (by decide +kernel) (by decide +kernel) (fun i _ => rfl) (by decide) (Nat.le_of_ble_eq_true rfl) dX7_copyFrom_80 (fun H locs hP hD hS => ?_)
  have hP : va_P D vwCl (xX K r f_2 (va_up a_6 100 (va_cpy (a_6 6) (a_6 100) (0 : Int32).toNatClampNeg (0 : Int32).toNatClampNeg (10 : Int32).toNatClampNeg)) g (sI K r f_2 (va_up a_6 100 (va_cpy (a_6 6) (a_6 100) (0 : Int32).toNatClampNeg (0 : Int32).toNatClampNeg (10 : Int32).toNatClampNeg)) g ++ tx)) H := hP
  have hD : va_D A (xX K r f_2 (va_up a_6 100 (va_cpy (a_6 6) (a_6 100) (0 : Int32).toNatClampNeg (0 : Int32).toNatClampNeg (10 : Int32).toNatClampNeg)) g (sI K r f_2 (va_up a_6 100 (va_cpy (a_6 6) (a_6 100) (0 : Int32).toNatClampNeg (0 : Int32).toNatClampNeg (10 : Int32).toNatClampNeg)) g ++ tx)) := hD
  refine k_gen (P := fun z => va_P D vwCl (xX K r f_2 z g (sI K r f_2 z g ++ tx)) H ∧ va_D A (xX K r f_2 z g (sI K r f_2 z g ++ tx)) ∧ (xI f_2 z) ∧ (gOK K g.2 tt) ∧ (xEk [12, 13, 14, 32, 38, 44, 49, 50, 832, 838, 844, 849, 850] f a g f_2 z g)) (va_up a_6 100 (va_cpy (a_6 6) (a_6 100) (0 : Int32).toNatClampNeg (0 : Int32).toNatClampNeg (10 : Int32).toNatClampNeg)) ⟨hP, hD, (xI_a hI (by decide)), hG, (xEk_a hE (by decide))⟩ (fun a_7 ea_7 hq => ?_)
  obtain ⟨hP, hD, hI, hG, hE⟩ := hq
  refine lv_aload_n hx hb dX7_copyFrom_83 rfl (lv_at hl 0 rfl) ?_
  refine lv_aload_n hx hb dX7_copyFrom_84 rfl (lv_at hl 1 rfl) ?_
  refine va_get (D := D) (ci := 7) (v := .int (f_2 38)) (C := RX7) (T := TX7) (N := 20) hx hb hg inC7 hown hK hP 1 rfl rfl 6 (by decide) (hg _ wt1_104) (fun _ h9 => h9) rfl dX7_copyFrom_85 ?_
  refine k_top (z := s38) ((show f_2 38 = f 38 from by rw [← ef_2]; rfl).trans es38.symm) ?_
  refine va_put (D := D) (ci := 7) (v := .int s38) (ty := .int) (C := RX7) (T := TX7) (N := 20) hx hb hg inC7 tyX7 tyX7_ok nmX7 hown hK hP hD hS 95 rfl rfl 6 (by decide) (hg _ wt1_104) (fun _ h9 => h9) rfl (by decide +kernel) rfl rfl (Nat.le_of_ble_eq_true rfl) dX7_copyFrom_88 (fun H locs hP hD hS => ?_)
  have hP : va_P D vwCl (xX K r (upd f_2 3046 s38) a_7 g (sI K r (upd f_2 3046 s38) a_7 g ++ tx)) H := hP
  have hD : va_D A (xX K r (upd f_2 3046 s38) a_7 g (sI K r (upd f_2 3046 s38) a_7 g ++ tx)) := hD
  refine k_gen (P := fun z => va_P D vwCl (xX K r z a_7 g (sI K r z a_7 g ++ tx)) H ∧ va_D A (xX K r z a_7 g (sI K r z a_7 g ++ tx)) ∧ (xI z a_7) ∧ (gOK K g.2 tt) ∧ (xEk [12, 13, 14, 32, 38, 44, 49, 50, 832, 838, 844, 849, 850] f a g z a_7 g)) (upd f_2 3046 s38) ⟨hP, hD, (xI_f hI (fI_st hI.1 3046 (kb_any _) (by decide) (by decide))), hG, (xEk_f hE (by decide))⟩ (fun f_8 ef_8 hq => ?_)
  obtain ⟨hP, hD, hI, hG, hE⟩ := hq
  refine lv_aload_n hx hb dX7_copyFrom_91 rfl (lv_at hl 1 rfl) ?_
  refine va_get (D := D) (ci := 7) (v := .ref (r 7)) (C := RX7) (T := TX7) (N := 20) hx hb hg inC7 hown hK hP 1 rfl rfl 7 (by decide) (hg _ wt1_110) (fun _ h9 => h9) rfl dX7_copyFrom_92 ?_
  refine lv_iconst (v := 0) hx hb dX7_copyFrom_95 (by decide) ?_
  refine lv_aload_n hx hb dX7_copyFrom_96 rfl (lv_at hl 0 rfl) ?_
  refine va_get (D := D) (ci := 7) (v := .ref (r 101)) (C := RX7) (T := TX7) (N := 20) hx hb hg inC7 hown hK hP 95 rfl rfl 7 (by decide) (hg _ wt1_110) (fun _ h9 => h9) rfl dX7_copyFrom_97 ?_
  refine lv_iconst (v := 0) hx hb dX7_copyFrom_100 (by decide) ?_
  refine lv_bipush (v := 6) hx hb dX7_copyFrom_101 (by decide) ?_
  refine va_copyi (ty := .int) hx hb (hml.trans hl.1.symm) hown (hg _ wt4_83) (hg _ wt4_70) (hg _ wt4_69) (hg _ wt1_20) hK hP hD hS 7 101 0 0 rfl rfl rfl rfl rfl (by decide) (by decide) (by decide) (by decide +kernel) (by decide +kernel) (fun i _ => rfl) (by decide) (Nat.le_of_ble_eq_true rfl) dX7_copyFrom_103 (fun H locs hP hD hS => ?_)
  have hP : va_P D vwCl (xX K r f_8 (va_up a_7 101 (va_cpy (a_7 7) (a_7 101) (0 : Int32).toNatClampNeg (0 : Int32).toNatClampNeg (6 : Int32).toNatClampNeg)) g (sI K r f_8 (va_up a_7 101 (va_cpy (a_7 7) (a_7 101) (0 : Int32).toNatClampNeg (0 : Int32).toNatClampNeg (6 : Int32).toNatClampNeg)) g ++ tx)) H := hP
  have hD : va_D A (xX K r f_8 (va_up a_7 101 (va_cpy (a_7 7) (a_7 101) (0 : Int32).toNatClampNeg (0 : Int32).toNatClampNeg (6 : Int32).toNatClampNeg)) g (sI K r f_8 (va_up a_7 101 (va_cpy (a_7 7) (a_7 101) (0 : Int32).toNatClampNeg (0 : Int32).toNatClampNeg (6 : Int32).toNatClampNeg)) g ++ tx)) := hD
  refine k_gen (P := fun z => va_P D vwCl (xX K r f_8 z g (sI K r f_8 z g ++ tx)) H ∧ va_D A (xX K r f_8 z g (sI K r f_8 z g ++ tx)) ∧ (xI f_8 z) ∧ (gOK K g.2 tt) ∧ (xEk [12, 13, 14, 32, 38, 44, 49, 50, 832, 838, 844, 849, 850] f a g f_8 z g)) (va_up a_7 101 (va_cpy (a_7 7) (a_7 101) (0 : Int32).toNatClampNeg (0 : Int32).toNatClampNeg (6 : Int32).toNatClampNeg)) ⟨hP, hD, (xI_a hI (by decide)), hG, (xEk_a hE (by decide))⟩ (fun a_9 ea_9 hq => ?_)
  obtain ⟨hP, hD, hI, hG, hE⟩ := hq
  refine lv_aload_n hx hb dX7_copyFrom_106 rfl (lv_at hl 1 rfl) ?_
  refine va_get (D := D) (ci := 7) (v := .ref (r 8)) (C := RX7) (T := TX7) (N := 20) hx hb hg inC7 hown hK hP 1 rfl rfl 8 (by decide) (hg _ wt1_114) (fun _ h9 => h9) rfl dX7_copyFrom_107 ?_
  refine lv_iconst (v := 0) hx hb dX7_copyFrom_110 (by decide) ?_
  refine lv_aload_n hx hb dX7_copyFrom_111 rfl (lv_at hl 0 rfl) ?_
  refine va_get (D := D) (ci := 7) (v := .ref (r 102)) (C := RX7) (T := TX7) (N := 20) hx hb hg inC7 hown hK hP 95 rfl rfl 8 (by decide) (hg _ wt1_114) (fun _ h9 => h9) rfl dX7_copyFrom_112 ?_
  refine lv_iconst (v := 0) hx hb dX7_copyFrom_115 (by decide) ?_
  refine lv_bipush (v := 6) hx hb dX7_copyFrom_116 (by decide) ?_
  refine va_copyi (ty := .int) hx hb (hml.trans hl.1.symm) hown (hg _ wt4_83) (hg _ wt4_70) (hg _ wt4_69) (hg _ wt1_20) hK hP hD hS 8 102 0 0 rfl rfl rfl rfl rfl (by decide) (by decide) (by decide) (by decide +kernel) (by decide +kernel) (fun i _ => rfl) (by decide) (Nat.le_of_ble_eq_true rfl) dX7_copyFrom_118 (fun H locs hP hD hS => ?_)
  have hP : va_P D vwCl (xX K r f_8 (va_up a_9 102 (va_cpy (a_9 8) (a_9 102) (0 : Int32).toNatClampNeg (0 : Int32).toNatClampNeg (6 : Int32).toNatClampNeg)) g (sI K r f_8 (va_up a_9 102 (va_cpy (a_9 8) (a_9 102) (0 : Int32).toNatClampNeg (0 : Int32).toNatClampNeg (6 : Int32).toNatClampNeg)) g ++ tx)) H := hP
  have hD : va_D A (xX K r f_8 (va_up a_9 102 (va_cpy (a_9 8) (a_9 102) (0 : Int32).toNatClampNeg (0 : Int32).toNatClampNeg (6 : Int32).toNatClampNeg)) g (sI K r f_8 (va_up a_9 102 (va_cpy (a_9 8) (a_9 102) (0 : Int32).toNatClampNeg (0 : Int32).toNatClampNeg (6 : Int32).toNatClampNeg)) g ++ tx)) := hD
  refine k_gen (P := fun z => va_P D vwCl (xX K r f_8 z g (sI K r f_8 z g ++ tx)) H ∧ va_D A (xX K r f_8 z g (sI K r f_8 z g ++ tx)) ∧ (xI f_8 z) ∧ (gOK K g.2 tt) ∧ (xEk [12, 13, 14, 32, 38, 44, 49, 50, 832, 838, 844, 849, 850] f a g f_8 z g)) (va_up a_9 102 (va_cpy (a_9 8) (a_9 102) (0 : Int32).toNatClampNeg (0 : Int32).toNatClampNeg (6 : Int32).toNatClampNeg)) ⟨hP, hD, (xI_a hI (by decide)), hG, (xEk_a hE (by decide))⟩ (fun a_10 ea_10 hq => ?_)
  obtain ⟨hP, hD, hI, hG, hE⟩ := hq
  refine lv_aload_n hx hb dX7_copyFrom_121 rfl (lv_at hl 1 rfl) ?_
  refine va_get (D := D) (ci := 7) (v := .ref (r 9)) (C := RX7) (T := TX7) (N := 20) hx hb hg inC7 hown hK hP 1 rfl rfl 9 (by decide) (hg _ wt1_116) (fun _ h9 => h9) rfl dX7_copyFrom_122 ?_
  refine lv_iconst (v := 0) hx hb dX7_copyFrom_125 (by decide) ?_
  refine lv_aload_n hx hb dX7_copyFrom_126 rfl (lv_at hl 0 rfl) ?_
  refine va_get (D := D) (ci := 7) (v := .ref (r 103)) (C := RX7) (T := TX7) (N := 20) hx hb hg inC7 hown hK hP 95 rfl rfl 9 (by decide) (hg _ wt1_116) (fun _ h9 => h9) rfl dX7_copyFrom_127 ?_
  refine lv_iconst (v := 0) hx hb dX7_copyFrom_130 (by decide) ?_
  refine lv_bipush (v := 6) hx hb dX7_copyFrom_131 (by decide) ?_
  refine va_copyi (ty := .int) hx hb (hml.trans hl.1.symm) hown (hg _ wt4_83) (hg _ wt4_70) (hg _ wt4_69) (hg _ wt1_20) hK hP hD hS 9 103 0 0 rfl rfl rfl rfl rfl (by decide) (by decide) (by decide) (by decide +kernel) (by decide +kernel) (fun i _ => rfl) (by decide) (Nat.le_of_ble_eq_true rfl) dX7_copyFrom_133 (fun H locs hP hD hS => ?_)
  have hP : va_P D vwCl (xX K r f_8 (va_up a_10 103 (va_cpy (a_10 9) (a_10 103) (0 : Int32).toNatClampNeg (0 : Int32).toNatClampNeg (6 : Int32).toNatClampNeg)) g (sI K r f_8 (va_up a_10 103 (va_cpy (a_10 9) (a_10 103) (0 : Int32).toNatClampNeg (0 : Int32).toNatClampNeg (6 : Int32).toNatClampNeg)) g ++ tx)) H := hP
  have hD : va_D A (xX K r f_8 (va_up a_10 103 (va_cpy (a_10 9) (a_10 103) (0 : Int32).toNatClampNeg (0 : Int32).toNatClampNeg (6 : Int32).toNatClampNeg)) g (sI K r f_8 (va_up a_10 103 (va_cpy (a_10 9) (a_10 103) (0 : Int32).toNatClampNeg (0 : Int32).toNatClampNeg (6 : Int32).toNatClampNeg)) g ++ tx)) := hD
  refine k_gen (P := fun z => va_P D vwCl (xX K r f_8 z g (sI K r f_8 z g ++ tx)) H ∧ va_D A (xX K r f_8 z g (sI K r f_8 z g ++ tx)) ∧ (xI f_8 z) ∧ (gOK K g.2 tt) ∧ (xEk [12, 13, 14, 32, 38, 44, 49, 50, 832, 838, 844, 849, 850] f a g f_8 z g)) (va_up a_10 103 (va_cpy (a_10 9) (a_10 103) (0 : Int32).toNatClampNeg (0 : Int32).toNatClampNeg (6 : Int32).toNatClampNeg)) ⟨hP, hD, (xI_a hI (by decide)), hG, (xEk_a hE (by decide))⟩ (fun a_11 ea_11 hq => ?_)
  obtain ⟨hP, hD, hI, hG, hE⟩ := hq
  refine lv_aload_n hx hb dX7_copyFrom_136 rfl (lv_at hl 1 rfl) ?_
  refine va_get (D := D) (ci := 7) (v := .ref (r 10)) (C := RX7) (T := TX7) (N := 20) hx hb hg inC7 hown hK hP 1 rfl rfl 10 (by decide) (hg _ wt1_121) (fun _ h9 => h9) rfl dX7_copyFrom_137 ?_
  refine lv_iconst (v := 0) hx hb dX7_copyFrom_140 (by decide) ?_
  refine lv_aload_n hx hb dX7_copyFrom_141 rfl (lv_at hl 0 rfl) ?_
  refine va_get (D := D) (ci := 7) (v := .ref (r 104)) (C := RX7) (T := TX7) (N := 20) hx hb hg inC7 hown hK hP 95 rfl rfl 10 (by decide) (hg _ wt1_121) (fun _ h9 => h9) rfl dX7_copyFrom_142 ?_
  refine lv_iconst (v := 0) hx hb dX7_copyFrom_145 (by decide) ?_
  refine lv_bipush (v := 6) hx hb dX7_copyFrom_146 (by decide) ?_
  refine va_copyi (ty := .int) hx hb (hml.trans hl.1.symm) hown (hg _ wt4_83) (hg _ wt4_70) (hg _ wt4_69) (hg _ wt1_20) hK hP hD hS 10 104 0 0 rfl rfl rfl rfl rfl (by decide) (by decide) (by decide) (by decide +kernel) (by decide +kernel) (fun i _ => rfl) (by decide) (Nat.le_of_ble_eq_true rfl) dX7_copyFrom_148 (fun H locs hP hD hS => ?_)
  have hP : va_P D vwCl (xX K r f_8 (va_up a_11 104 (va_cpy (a_11 10) (a_11 104) (0 : Int32).toNatClampNeg (0 : Int32).toNatClampNeg (6 : Int32).toNatClampNeg)) g (sI K r f_8 (va_up a_11 104 (va_cpy (a_11 10) (a_11 104) (0 : Int32).toNatClampNeg (0 : Int32).toNatClampNeg (6 : Int32).toNatClampNeg)) g ++ tx)) H := hP
  have hD : va_D A (xX K r f_8 (va_up a_11 104 (va_cpy (a_11 10) (a_11 104) (0 : Int32).toNatClampNeg (0 : Int32).toNatClampNeg (6 : Int32).toNatClampNeg)) g (sI K r f_8 (va_up a_11 104 (va_cpy (a_11 10) (a_11 104) (0 : Int32).toNatClampNeg (0 : Int32).toNatClampNeg (6 : Int32).toNatClampNeg)) g ++ tx)) := hD
  refine k_gen (P := fun z => va_P D vwCl (xX K r f_8 z g (sI K r f_8 z g ++ tx)) H ∧ va_D A (xX K r f_8 z g (sI K r f_8 z g ++ tx)) ∧ (xI f_8 z) ∧ (gOK K g.2 tt) ∧ (xEk [12, 13, 14, 32, 38, 44, 49, 50, 832, 838, 844, 849, 850] f a g f_8 z g)) (va_up a_11 104 (va_cpy (a_11 10) (a_11 104) (0 : Int32).toNatClampNeg (0 : Int32).toNatClampNeg (6 : Int32).toNatClampNeg)) ⟨hP, hD, (xI_a hI (by decide)), hG, (xEk_a hE (by decide))⟩ (fun a_12 ea_12 hq => ?_)
  obtain ⟨hP, hD, hI, hG, hE⟩ := hq
  refine lv_aload_n hx hb dX7_copyFrom_151 rfl (lv_at hl 1 rfl) ?_
  refine va_get (D := D) (ci := 7) (v := .ref (r 11)) (C := RX7) (T := TX7) (N := 20) hx hb hg inC7 hown hK hP 1 rfl rfl 11 (by decide) (hg _ wt1_127) (fun _ h9 => h9) rfl dX7_copyFrom_152 ?_
  refine lv_iconst (v := 0) hx hb dX7_copyFrom_155 (by decide) ?_
  refine lv_aload_n hx hb dX7_copyFrom_156 rfl (lv_at hl 0 rfl) ?_
  refine va_get (D := D) (ci := 7) (v := .ref (r 105)) (C := RX7) (T := TX7) (N := 20) hx hb hg inC7 hown hK hP 95 rfl rfl 11 (by decide) (hg _ wt1_127) (fun _ h9 => h9) rfl dX7_copyFrom_157 ?_
  refine lv_iconst (v := 0) hx hb dX7_copyFrom_160 (by decide) ?_
  refine lv_iconst (v := 4) hx hb dX7_copyFrom_161 (by decide) ?_
  refine va_copyi (ty := .int) hx hb (hml.trans hl.1.symm) hown (hg _ wt4_83) (hg _ wt4_70) (hg _ wt4_69) (hg _ wt1_20) hK hP hD hS 11 105 0 0 rfl rfl rfl rfl rfl (by decide) (by decide) (by decide) (by decide +kernel) (by decide +kernel) (fun i _ => rfl) (by decide) (Nat.le_of_ble_eq_true rfl) dX7_copyFrom_162 (fun H locs hP hD hS => ?_)
  have hP : va_P D vwCl (xX K r f_8 (va_up a_12 105 (va_cpy (a_12 11) (a_12 105) (0 : Int32).toNatClampNeg (0 : Int32).toNatClampNeg (4 : Int32).toNatClampNeg)) g (sI K r f_8 (va_up a_12 105 (va_cpy (a_12 11) (a_12 105) (0 : Int32).toNatClampNeg (0 : Int32).toNatClampNeg (4 : Int32).toNatClampNeg)) g ++ tx)) H := hP
  have hD : va_D A (xX K r f_8 (va_up a_12 105 (va_cpy (a_12 11) (a_12 105) (0 : Int32).toNatClampNeg (0 : Int32).toNatClampNeg (4 : Int32).toNatClampNeg)) g (sI K r f_8 (va_up a_12 105 (va_cpy (a_12 11) (a_12 105) (0 : Int32).toNatClampNeg (0 : Int32).toNatClampNeg (4 : Int32).toNatClampNeg)) g ++ tx)) := hD
  refine k_gen (P := fun z => va_P D vwCl (xX K r f_8 z g (sI K r f_8 z g ++ tx)) H ∧ va_D A (xX K r f_8 z g (sI K r f_8 z g ++ tx)) ∧ (xI f_8 z) ∧ (gOK K g.2 tt) ∧ (xEk [12, 13, 14, 32, 38, 44, 49, 50, 832, 838, 844, 849, 850] f a g f_8 z g)) (va_up a_12 105 (va_cpy (a_12 11) (a_12 105) (0 : Int32).toNatClampNeg (0 : Int32).toNatClampNeg (4 : Int32).toNatClampNeg)) ⟨hP, hD, (xI_a hI (by decide)), hG, (xEk_a hE (by decide))⟩ (fun a_13 ea_13 hq => ?_)
  obtain ⟨hP, hD, hI, hG, hE⟩ := hq
  refine lv_aload_n hx hb dX7_copyFrom_165 rfl (lv_at hl 0 rfl) ?_
  refine lv_aload_n hx hb dX7_copyFrom_166 rfl (lv_at hl 1 rfl) ?_
  refine va_get (D := D) (ci := 7) (v := .int (f_8 44)) (C := RX7) (T := TX7) (N := 20) hx hb hg inC7 hown hK hP 1 rfl rfl 12 (by decide) (hg _ wt1_135) (fun _ h9 => h9) rfl dX7_copyFrom_167 ?_
  refine k_top (z := s44) ((show f_8 44 = f_2 44 from by rw [← ef_8]; rfl).trans ((show f_2 44 = f 44 from by rw [← ef_2]; rfl).trans es44.symm)) ?_
  refine va_put (D := D) (ci := 7) (v := .int s44) (ty := .int) (C := RX7) (T := TX7) (N := 20) hx hb hg inC7 tyX7 tyX7_ok nmX7 hown hK hP hD hS 95 rfl rfl 12 (by decide) (hg _ wt1_135) (fun _ h9 => h9) rfl (by decide +kernel) rfl rfl (Nat.le_of_ble_eq_true rfl) dX7_copyFrom_170 (fun H locs hP hD hS => ?_)
  have hP : va_P D vwCl (xX K r (upd f_8 3052 s44) a_13 g (sI K r (upd f_8 3052 s44) a_13 g ++ tx)) H := hP
  have hD : va_D A (xX K r (upd f_8 3052 s44) a_13 g (sI K r (upd f_8 3052 s44) a_13 g ++ tx)) := hD
  refine k_gen (P := fun z => va_P D vwCl (xX K r z a_13 g (sI K r z a_13 g ++ tx)) H ∧ va_D A (xX K r z a_13 g (sI K r z a_13 g ++ tx)) ∧ (xI z a_13) ∧ (gOK K g.2 tt) ∧ (xEk [12, 13, 14, 32, 38, 44, 49, 50, 832, 838, 844, 849, 850] f a g z a_13 g)) (upd f_8 3052 s44) ⟨hP, hD, (xI_f hI (fI_st hI.1 3052 (kb_any _) (by decide) (by decide))), hG, (xEk_f hE (by decide))⟩ (fun f_14 ef_14 hq => ?_)
  obtain ⟨hP, hD, hI, hG, hE⟩ := hq
  refine lv_aload_n hx hb dX7_copyFrom_173 rfl (lv_at hl 1 rfl) ?_
  refine va_get (D := D) (ci := 7) (v := .ref (r 12)) (C := RX7) (T := TX7) (N := 20) hx hb hg inC7 hown hK hP 1 rfl rfl 13 (by decide) (hg _ wt1_138) (fun _ h9 => h9) rfl dX7_copyFrom_174 ?_
  refine lv_iconst (v := 0) hx hb dX7_copyFrom_177 (by decide) ?_
  refine lv_aload_n hx hb dX7_copyFrom_178 rfl (lv_at hl 0 rfl) ?_
  refine va_get (D := D) (ci := 7) (v := .ref (r 106)) (C := RX7) (T := TX7) (N := 20) hx hb hg inC7 hown hK hP 95 rfl rfl 13 (by decide) (hg _ wt1_138) (fun _ h9 => h9) rfl dX7_copyFrom_179 ?_
  refine lv_iconst (v := 0) hx hb dX7_copyFrom_182 (by decide) ?_
  refine lv_bipush (v := 8) hx hb dX7_copyFrom_183 (by decide) ?_
  refine va_copyi (ty := .int) hx hb (hml.trans hl.1.symm) hown (hg _ wt4_83) (hg _ wt4_70) (hg _ wt4_69) (hg _ wt1_20) hK hP hD hS 12 106 0 0 rfl rfl rfl rfl rfl (by decide) (by decide) (by decide) (by decide +kernel) (by decide +kernel) (fun i _ => rfl) (by decide) (Nat.le_of_ble_eq_true rfl) dX7_copyFrom_185 (fun H locs hP hD hS => ?_)
  have hP : va_P D vwCl (xX K r f_14 (va_up a_13 106 (va_cpy (a_13 12) (a_13 106) (0 : Int32).toNatClampNeg (0 : Int32).toNatClampNeg (8 : Int32).toNatClampNeg)) g (sI K r f_14 (va_up a_13 106 (va_cpy (a_13 12) (a_13 106) (0 : Int32).toNatClampNeg (0 : Int32).toNatClampNeg (8 : Int32).toNatClampNeg)) g ++ tx)) H := hP
  have hD : va_D A (xX K r f_14 (va_up a_13 106 (va_cpy (a_13 12) (a_13 106) (0 : Int32).toNatClampNeg (0 : Int32).toNatClampNeg (8 : Int32).toNatClampNeg)) g (sI K r f_14 (va_up a_13 106 (va_cpy (a_13 12) (a_13 106) (0 : Int32).toNatClampNeg (0 : Int32).toNatClampNeg (8 : Int32).toNatClampNeg)) g ++ tx)) := hD
  refine k_gen (P := fun z => va_P D vwCl (xX K r f_14 z g (sI K r f_14 z g ++ tx)) H ∧ va_D A (xX K r f_14 z g (sI K r f_14 z g ++ tx)) ∧ (xI f_14 z) ∧ (gOK K g.2 tt) ∧ (xEk [12, 13, 14, 32, 38, 44, 49, 50, 832, 838, 844, 849, 850] f a g f_14 z g)) (va_up a_13 106 (va_cpy (a_13 12) (a_13 106) (0 : Int32).toNatClampNeg (0 : Int32).toNatClampNeg (8 : Int32).toNatClampNeg)) ⟨hP, hD, (xI_a hI (by decide)), hG, (xEk_a hE (by decide))⟩ (fun a_15 ea_15 hq => ?_)
  obtain ⟨hP, hD, hI, hG, hE⟩ := hq
  refine lv_aload_n hx hb dX7_copyFrom_188 rfl (lv_at hl 1 rfl) ?_
  refine va_get (D := D) (ci := 7) (v := .ref (r 13)) (C := RX7) (T := TX7) (N := 20) hx hb hg inC7 hown hK hP 1 rfl rfl 14 (by decide) (hg _ wt1_141) (fun _ h9 => h9) rfl dX7_copyFrom_189 ?_
  refine lv_iconst (v := 0) hx hb dX7_copyFrom_192 (by decide) ?_
  refine lv_aload_n hx hb dX7_copyFrom_193 rfl (lv_at hl 0 rfl) ?_
  refine va_get (D := D) (ci := 7) (v := .ref (r 107)) (C := RX7) (T := TX7) (N := 20) hx hb hg inC7 hown hK hP 95 rfl rfl 14 (by decide) (hg _ wt1_141) (fun _ h9 => h9) rfl dX7_copyFrom_194 ?_
  refine lv_iconst (v := 0) hx hb dX7_copyFrom_197 (by decide) ?_
  refine lv_bipush (v := 8) hx hb dX7_copyFrom_198 (by decide) ?_
  refine va_copyi (ty := .int) hx hb (hml.trans hl.1.symm) hown (hg _ wt4_83) (hg _ wt4_70) (hg _ wt4_69) (hg _ wt1_20) hK hP hD hS 13 107 0 0 rfl rfl rfl rfl rfl (by decide) (by decide) (by decide) (by decide +kernel) (by decide +kernel) (fun i _ => rfl) (by decide) (Nat.le_of_ble_eq_true rfl) dX7_copyFrom_200 (fun H locs hP hD hS => ?_)
  have hP : va_P D vwCl (xX K r f_14 (va_up a_15 107 (va_cpy (a_15 13) (a_15 107) (0 : Int32).toNatClampNeg (0 : Int32).toNatClampNeg (8 : Int32).toNatClampNeg)) g (sI K r f_14 (va_up a_15 107 (va_cpy (a_15 13) (a_15 107) (0 : Int32).toNatClampNeg (0 : Int32).toNatClampNeg (8 : Int32).toNatClampNeg)) g ++ tx)) H := hP
  have hD : va_D A (xX K r f_14 (va_up a_15 107 (va_cpy (a_15 13) (a_15 107) (0 : Int32).toNatClampNeg (0 : Int32).toNatClampNeg (8 : Int32).toNatClampNeg)) g (sI K r f_14 (va_up a_15 107 (va_cpy (a_15 13) (a_15 107) (0 : Int32).toNatClampNeg (0 : Int32).toNatClampNeg (8 : Int32).toNatClampNeg)) g ++ tx)) := hD
  refine k_gen (P := fun z => va_P D vwCl (xX K r f_14 z g (sI K r f_14 z g ++ tx)) H ∧ va_D A (xX K r f_14 z g (sI K r f_14 z g ++ tx)) ∧ (xI f_14 z) ∧ (gOK K g.2 tt) ∧ (xEk [12, 13, 14, 32, 38, 44, 49, 50, 832, 838, 844, 849, 850] f a g f_14 z g)) (va_up a_15 107 (va_cpy (a_15 13) (a_15 107) (0 : Int32).toNatClampNeg (0 : Int32).toNatClampNeg (8 : Int32).toNatClampNeg)) ⟨hP, hD, (xI_a hI (by decide)), hG, (xEk_a hE (by decide))⟩ (fun a_16 ea_16 hq => ?_)
  obtain ⟨hP, hD, hI, hG, hE⟩ := hq
  refine lv_aload_n hx hb dX7_copyFrom_203 rfl (lv_at hl 1 rfl) ?_
  refine va_get (D := D) (ci := 7) (v := .ref (r 14)) (C := RX7) (T := TX7) (N := 20) hx hb hg inC7 hown hK hP 1 rfl rfl 15 (by decide) (hg _ wt1_144) (fun _ h9 => h9) rfl dX7_copyFrom_204 ?_
  refine lv_iconst (v := 0) hx hb dX7_copyFrom_207 (by decide) ?_
  refine lv_aload_n hx hb dX7_copyFrom_208 rfl (lv_at hl 0 rfl) ?_
  refine va_get (D := D) (ci := 7) (v := .ref (r 108)) (C := RX7) (T := TX7) (N := 20) hx hb hg inC7 hown hK hP 95 rfl rfl 15 (by decide) (hg _ wt1_144) (fun _ h9 => h9) rfl dX7_copyFrom_209 ?_
  refine lv_iconst (v := 0) hx hb dX7_copyFrom_212 (by decide) ?_
  refine lv_bipush (v := 8) hx hb dX7_copyFrom_213 (by decide) ?_
  refine va_copyi (ty := .int) hx hb (hml.trans hl.1.symm) hown (hg _ wt4_83) (hg _ wt4_70) (hg _ wt4_69) (hg _ wt1_20) hK hP hD hS 14 108 0 0 rfl rfl rfl rfl rfl (by decide) (by decide) (by decide) (by decide +kernel) (by decide +kernel) (fun i _ => rfl) (by decide) (Nat.le_of_ble_eq_true rfl) dX7_copyFrom_215 (fun H locs hP hD hS => ?_)
  have hP : va_P D vwCl (xX K r f_14 (va_up a_16 108 (va_cpy (a_16 14) (a_16 108) (0 : Int32).toNatClampNeg (0 : Int32).toNatClampNeg (8 : Int32).toNatClampNeg)) g (sI K r f_14 (va_up a_16 108 (va_cpy (a_16 14) (a_16 108) (0 : Int32).toNatClampNeg (0 : Int32).toNatClampNeg (8 : Int32).toNatClampNeg)) g ++ tx)) H := hP
  have hD : va_D A (xX K r f_14 (va_up a_16 108 (va_cpy (a_16 14) (a_16 108) (0 : Int32).toNatClampNeg (0 : Int32).toNatClampNeg (8 : Int32).toNatClampNeg)) g (sI K r f_14 (va_up a_16 108 (va_cpy (a_16 14) (a_16 108) (0 : Int32).toNatClampNeg (0 : Int32).toNatClampNeg (8 : Int32).toNatClampNeg)) g ++ tx)) := hD
  refine k_gen (P := fun z => va_P D vwCl (xX K r f_14 z g (sI K r f_14 z g ++ tx)) H ∧ va_D A (xX K r f_14 z g (sI K r f_14 z g ++ tx)) ∧ (xI f_14 z) ∧ (gOK K g.2 tt) ∧ (xEk [12, 13, 14, 32, 38, 44, 49, 50, 832, 838, 844, 849, 850] f a g f_14 z g)) (va_up a_16 108 (va_cpy (a_16 14) (a_16 108) (0 : Int32).toNatClampNeg (0 : Int32).toNatClampNeg (8 : Int32).toNatClampNeg)) ⟨hP, hD, (xI_a hI (by decide)), hG, (xEk_a hE (by decide))⟩ (fun a_17 ea_17 hq => ?_)
  obtain ⟨hP, hD, hI, hG, hE⟩ := hq
  have hk0 : f_14 3040 = f 32 := ((show f_14 3040 = f_8 3040 from by rw [← ef_14]; rfl).trans ((show f_8 3040 = f_2 3040 from by rw [← ef_8]; rfl).trans (show f_2 3040 = s32 from by rw [← ef_2]; rfl))).trans es32
  have hk1 : f_14 3046 = f 38 := ((show f_14 3046 = f_8 3046 from by rw [← ef_14]; rfl).trans (show f_8 3046 = s38 from by rw [← ef_8]; rfl)).trans es38
  have hk2 : f_14 3052 = f 44 := (show f_14 3052 = s44 from by rw [← ef_14]; rfl).trans es44
  refine lv_iconst (v := 0) hx hb dX7_copyFrom_218 (by decide) ?_
  refine lv_istore_n (lv' := [(2, .int 0), (0, .ref (r 95)), (1, .ref (r 1))]) hx hb dX7_copyFrom_219 rfl hl (by decide) rfl (fun ls hl => ?_)
  have lp20 : ∀ (n21 : Nat) (G19 : xG) (H : Heap) (locs : List Loc) (ls : Array Slot) (y18 : Int32), (6 < y18.toInt + (n21 : Int)) → (xI f_14 a_17) → (gOK K G19.2 tt) → (xEk [12, 13, 14, 32, 38, 44, 49, 50, 832, 838, 844, 849, 850] f a g f_14 a_17 G19) → (f_14 3040 = f 32) → (f_14 3046 = f 38) → (f_14 3052 = f 44) → (kb 0 y18 6) → va_P D vwCl (xX K r f_14 a_17 G19 (sI K r f_14 a_17 G19 ++ tx)) H → va_D A (xX K r f_14 a_17 G19 (sI K r f_14 a_17 G19 ++ tx)) → va_S A s.heap H locs → lv_has ls 3 [(2, .int y18), (0, .ref (r 95)), (1, .ref (r 1))] → W p l e (rmD 2 0 0) s m ([.ref (r 95), .ref (r 1)] : List Value).toArray below meth c H locs 0 0 (kQv D (tysK K) (fun (u : xS) => xI u.1 u.2.1 ∧ gOK K u.2.2.2 tt ∧ xEk [12, 13, 14, 32, 38, 44, 49, 50, 832, 838, 844, 849, 850] f a g u.1 u.2.1 u.2.2 ∧ u.1 3040 = f 32 ∧ u.1 3046 = f 38 ∧ u.1 3052 = f 44 ∧ u.1 3057 = f 49 ∧ u.1 3058 = f 50) (fun u => xX K r u.1 u.2.1 u.2.2 (sI K r u.1 u.2.1 u.2.2 ++ tx)) A below ([.ref (r 95), .ref (r 1)] : List Value).toArray s 0 0) (F0 m 220 ls []) := by
    intro n21
    induction n21 with
    | zero =>
      intro  G19  H locs ls y18 hmlp20 hI hG hE hk0 hk1 hk2 b22 hP hD hS hl
      exact (by have h1 := b22.2; have h2 := hmlp20; omega : False).elim
    | succ n21 ihlp20 =>
      intro  G19  H locs ls y18 hmlp20 hI hG hE hk0 hk1 hk2 b22 hP hD hS hl
      refine lv_iload_n hx hb dX7_copyFrom_220 rfl (lv_at hl 0 rfl) ?_
      refine lv_bipush (v := 6) hx hb dX7_copyFrom_221 (by decide) ?_
      refine lv_icmp_ge (tgt := 244) hx hb dX7_copyFrom_223 (by decide) (fun c23 => ?_) (fun c23 => ?_)
      · have h24 := (kc_le c23)
        have b25 : kb 6 y18 6 := kr_le2 h24 kc_6 b22
        refine lv_aload_n hx hb dX7_copyFrom_244 rfl (lv_at hl 1 rfl) ?_
        refine lv_aload_n hx hb dX7_copyFrom_245 rfl (lv_at hl 2 rfl) ?_
        refine va_get (D := D) (ci := 7) (v := .int (f_14 49)) (C := RX7) (T := TX7) (N := 20) hx hb hg inC7 hown hK hP 1 rfl rfl 17 (by decide) (hg _ wt1_149) (fun _ h9 => h9) rfl dX7_copyFrom_246 ?_
        refine k_top (z := s49) ((show f_14 49 = f_8 49 from by rw [← ef_14]; rfl).trans ((show f_8 49 = f_2 49 from by rw [← ef_8]; rfl).trans ((show f_2 49 = f 49 from by rw [← ef_2]; rfl).trans es49.symm))) ?_
        refine va_put (D := D) (ci := 7) (v := .int s49) (ty := .int) (C := RX7) (T := TX7) (N := 20) hx hb hg inC7 tyX7 tyX7_ok nmX7 hown hK hP hD hS 95 rfl rfl 17 (by decide) (hg _ wt1_149) (fun _ h9 => h9) rfl (by decide +kernel) rfl rfl (Nat.le_of_ble_eq_true rfl) dX7_copyFrom_249 (fun H locs hP hD hS => ?_)
        have hP : va_P D vwCl (xX K r (upd f_14 3057 s49) a_17 G19 (sI K r (upd f_14 3057 s49) a_17 G19 ++ tx)) H := hP
        have hD : va_D A (xX K r (upd f_14 3057 s49) a_17 G19 (sI K r (upd f_14 3057 s49) a_17 G19 ++ tx)) := hD
        refine k_gen (P := fun z => va_P D vwCl (xX K r z a_17 G19 (sI K r z a_17 G19 ++ tx)) H ∧ va_D A (xX K r z a_17 G19 (sI K r z a_17 G19 ++ tx)) ∧ (xI z a_17) ∧ (gOK K G19.2 tt) ∧ (xEk [12, 13, 14, 32, 38, 44, 49, 50, 832, 838, 844, 849, 850] f a g z a_17 G19) ∧ (z 3040 = f 32) ∧ (z 3046 = f 38) ∧ (z 3052 = f 44)) (upd f_14 3057 s49) ⟨hP, hD, (xI_f hI (fI_st hI.1 3057 (kb_any _) (by decide) (by decide))), hG, (xEk_f hE (by decide)), ((pk_un (by decide)).trans hk0), ((pk_un (by decide)).trans hk1), ((pk_un (by decide)).trans hk2)⟩ (fun f_26 ef_26 hq => ?_)
        obtain ⟨hP, hD, hI, hG, hE, hk0, hk1, hk2⟩ := hq
        refine lv_aload_n hx hb dX7_copyFrom_252 rfl (lv_at hl 1 rfl) ?_
        refine lv_aload_n hx hb dX7_copyFrom_253 rfl (lv_at hl 2 rfl) ?_
        refine va_get (D := D) (ci := 7) (v := .int (f_26 50)) (C := RX7) (T := TX7) (N := 20) hx hb hg inC7 hown hK hP 1 rfl rfl 18 (by decide) (hg _ wt1_151) (fun _ h9 => h9) rfl dX7_copyFrom_254 ?_
        refine k_top (z := s50) ((show f_26 50 = f_14 50 from by rw [← ef_26]; rfl).trans ((show f_14 50 = f_8 50 from by rw [← ef_14]; rfl).trans ((show f_8 50 = f_2 50 from by rw [← ef_8]; rfl).trans ((show f_2 50 = f 50 from by rw [← ef_2]; rfl).trans es50.symm)))) ?_
        refine va_put (D := D) (ci := 7) (v := .int s50) (ty := .int) (C := RX7) (T := TX7) (N := 20) hx hb hg inC7 tyX7 tyX7_ok nmX7 hown hK hP hD hS 95 rfl rfl 18 (by decide) (hg _ wt1_151) (fun _ h9 => h9) rfl (by decide +kernel) rfl rfl (Nat.le_of_ble_eq_true rfl) dX7_copyFrom_257 (fun H locs hP hD hS => ?_)
        have hP : va_P D vwCl (xX K r (upd f_26 3058 s50) a_17 G19 (sI K r (upd f_26 3058 s50) a_17 G19 ++ tx)) H := hP
        have hD : va_D A (xX K r (upd f_26 3058 s50) a_17 G19 (sI K r (upd f_26 3058 s50) a_17 G19 ++ tx)) := hD
        refine k_gen (P := fun z => va_P D vwCl (xX K r z a_17 G19 (sI K r z a_17 G19 ++ tx)) H ∧ va_D A (xX K r z a_17 G19 (sI K r z a_17 G19 ++ tx)) ∧ (xI z a_17) ∧ (gOK K G19.2 tt) ∧ (xEk [12, 13, 14, 32, 38, 44, 49, 50, 832, 838, 844, 849, 850] f a g z a_17 G19) ∧ (z 3040 = f 32) ∧ (z 3046 = f 38) ∧ (z 3052 = f 44)) (upd f_26 3058 s50) ⟨hP, hD, (xI_f hI (fI_st hI.1 3058 (kb_any _) (by decide) (by decide))), hG, (xEk_f hE (by decide)), ((pk_un (by decide)).trans hk0), ((pk_un (by decide)).trans hk1), ((pk_un (by decide)).trans hk2)⟩ (fun f_27 ef_27 hq => ?_)
        obtain ⟨hP, hD, hI, hG, hE, hk0, hk1, hk2⟩ := hq
        exact kV_ret hx hb hr hlocks hK hS dX7_copyFrom_260 (f_27, a_17, G19) hP hD ⟨hI, hG, hE, hk0, hk1, hk2, ((((show f_27 3057 = f_26 3057 from by rw [← ef_27]; rfl).trans (show f_26 3057 = s49 from by rw [← ef_26]; rfl))).trans es49), (((show f_27 3058 = s50 from by rw [← ef_27]; rfl)).trans es50)⟩
      · have h28 := (kc_nle c23)
        have b29 : kb 0 y18 5 := kr_lt1 h28 b22 kc_6 (by decide)
        refine lv_aload_n hx hb dX7_copyFrom_226 rfl (lv_at hl 1 rfl) ?_
        refine va_get (D := D) (ci := 7) (v := .ref (r 109)) (C := RX7) (T := TX7) (N := 20) hx hb hg inC7 hown hK hP 95 rfl rfl 16 (by decide) (hg _ wt1_147) (fun _ h9 => h9) rfl dX7_copyFrom_227 ?_
        refine lv_iload_n hx hb dX7_copyFrom_230 rfl (lv_at hl 0 rfl) ?_
        refine lv_aload_n hx hb dX7_copyFrom_231 rfl (lv_at hl 2 rfl) ?_
        refine va_get (D := D) (ci := 7) (v := .ref (r 15)) (C := RX7) (T := TX7) (N := 20) hx hb hg inC7 hown hK hP 1 rfl rfl 16 (by decide) (hg _ wt1_147) (fun _ h9 => h9) rfl dX7_copyFrom_232 ?_
        refine lv_iload_n hx hb dX7_copyFrom_235 rfl (lv_at hl 0 rfl) ?_
        refine va_aldq hx hb hK hP 15 5 rfl rfl (kb_in b29 (by decide) (by decide)) dX7_copyFrom_236 ?_
        rcases hG 15 (y18.toNatClampNeg) (by decide) with hn31 | hn31
        · refine k_topn hn31 ?_
          refine va_astqN hx hb hK hP hD hS 109 5 rfl rfl (kb_in b29 (by decide) (by decide)) dX7_copyFrom_237 (fun H locs hP hD hS => ?_)
          have hP : va_P D vwCl (xX K r f_14 a_17 (G19.1, va_up G19.2 109 (va_up (G19.2 109) y18.toNatClampNeg none)) (sI K r f_14 a_17 (G19.1, va_up G19.2 109 (va_up (G19.2 109) y18.toNatClampNeg none)) ++ tx)) H := hP
          have hD : va_D A (xX K r f_14 a_17 (G19.1, va_up G19.2 109 (va_up (G19.2 109) y18.toNatClampNeg none)) (sI K r f_14 a_17 (G19.1, va_up G19.2 109 (va_up (G19.2 109) y18.toNatClampNeg none)) ++ tx)) := hD
          refine k_gen (P := fun z => va_P D vwCl (xX K r f_14 a_17 z (sI K r f_14 a_17 z ++ tx)) H ∧ va_D A (xX K r f_14 a_17 z (sI K r f_14 a_17 z ++ tx)) ∧ (xI f_14 a_17) ∧ (gOK K z.2 tt) ∧ (xEk [12, 13, 14, 32, 38, 44, 49, 50, 832, 838, 844, 849, 850] f a g f_14 a_17 z) ∧ (f_14 3040 = f 32) ∧ (f_14 3046 = f 38) ∧ (f_14 3052 = f 44)) ((G19.1, va_up G19.2 109 (va_up (G19.2 109) y18.toNatClampNeg none))) ⟨hP, hD, hI, (gOK_n hG _ _ _ (Or.inl rfl)), (xEk_q hE (by decide)), hk0, hk1, hk2⟩ (fun g_32 eg_32 hq => ?_)
          obtain ⟨hP, hD, hI, hG, hE, hk0, hk1, hk2⟩ := hq
          obtain ⟨t33, et33⟩ : ∃ z : Int32, z = y18 + Int32.ofInt 1 := ⟨_, rfl⟩
          have qt33 : t33.toInt = y18.toInt + 1 := by rw [et33]; exact km_inc b29 (by decide) (by decide)
          have b34 : kb 1 t33 6 := kb_inc (k := 1) qt33 b29
          refine lv_iinc (v := t33) (lv' := [(2, .int t33), (0, .ref (r 95)), (1, .ref (r 1))]) hx hb dX7_copyFrom_238 hl (k := 0) rfl et33.symm (by decide) rfl (fun ls hl => ?_)
          refine lv_goto (tgt := 220) hx hb dX7_copyFrom_241 (by decide) ?_
          exact ihlp20  g_32 _ _ _ t33 (km_up hmlp20 qt33) hI hG hE hk0 hk1 hk2 (kb_w b34 (by decide) (by decide)) hP hD hS (lv_sub hl [0, 1, 2] rfl)
        · obtain ⟨t30, ht30, hn31⟩ := hn31
          refine k_tops hn31 ?_
          obtain ⟨jt30_0, hjt30_0⟩ := tIn_at (tIn_w hT ht30) (k := 0) rfl
          obtain ⟨jt30_1, hjt30_1⟩ := tIn_at (tIn_w hT ht30) (k := 1) rfl
          obtain ⟨jt30_2, hjt30_2⟩ := tIn_at (tIn_w hT ht30) (k := 2) rfl
          obtain ⟨jt30_3, hjt30_3⟩ := tIn_at (tIn_w hT ht30) (k := 3) rfl
          obtain ⟨jt30_4, hjt30_4⟩ := tIn_at (tIn_w hT ht30) (k := 4) rfl
          have hnt30 : (nI t30.2.2.2).toInt = (t30.2.2.2 : Int) := kn_to (by have w1 := ht30.1; omega)
          refine va_astq hx hb hK hP hD hS 109 5 (jt30_0 + 116) 10 rfl rfl hjt30_0 rfl (kb_in b29 (by decide) (by decide)) dX7_copyFrom_237 (fun H locs hP hD hS => ?_)
          have hP : va_P D vwCl (xX K r f_14 a_17 (G19.1, va_up G19.2 109 (va_up (G19.2 109) y18.toNatClampNeg (some (t30.1 0)))) (sI K r f_14 a_17 (G19.1, va_up G19.2 109 (va_up (G19.2 109) y18.toNatClampNeg (some (t30.1 0)))) ++ tx)) H := hP
          have hD : va_D A (xX K r f_14 a_17 (G19.1, va_up G19.2 109 (va_up (G19.2 109) y18.toNatClampNeg (some (t30.1 0)))) (sI K r f_14 a_17 (G19.1, va_up G19.2 109 (va_up (G19.2 109) y18.toNatClampNeg (some (t30.1 0)))) ++ tx)) := hD
          refine k_gen (P := fun z => va_P D vwCl (xX K r f_14 a_17 z (sI K r f_14 a_17 z ++ tx)) H ∧ va_D A (xX K r f_14 a_17 z (sI K r f_14 a_17 z ++ tx)) ∧ (xI f_14 a_17) ∧ (gOK K z.2 tt) ∧ (xEk [12, 13, 14, 32, 38, 44, 49, 50, 832, 838, 844, 849, 850] f a g f_14 a_17 z) ∧ (f_14 3040 = f 32) ∧ (f_14 3046 = f 38) ∧ (f_14 3052 = f 44)) ((G19.1, va_up G19.2 109 (va_up (G19.2 109) y18.toNatClampNeg (some (t30.1 0))))) ⟨hP, hD, hI, (gOK_n hG _ _ _ (Or.inr ⟨_, ht30, rfl⟩)), (xEk_q hE (by decide)), hk0, hk1, hk2⟩ (fun g_35 eg_35 hq => ?_)
          obtain ⟨hP, hD, hI, hG, hE, hk0, hk1, hk2⟩ := hq
          obtain ⟨t36, et36⟩ : ∃ z : Int32, z = y18 + Int32.ofInt 1 := ⟨_, rfl⟩
          have qt36 : t36.toInt = y18.toInt + 1 := by rw [et36]; exact km_inc b29 (by decide) (by decide)
          have b37 : kb 1 t36 6 := kb_inc (k := 1) qt36 b29
          refine lv_iinc (v := t36) (lv' := [(2, .int t36), (0, .ref (r 95)), (1, .ref (r 1))]) hx hb dX7_copyFrom_238 hl (k := 0) rfl et36.symm (by decide) rfl (fun ls hl => ?_)
          refine lv_goto (tgt := 220) hx hb dX7_copyFrom_241 (by decide) ?_
          exact ihlp20  g_35 _ _ _ t36 (km_up hmlp20 qt36) hI hG hE hk0 hk1 hk2 (kb_w b37 (by decide) (by decide)) hP hD hS (lv_sub hl [0, 1, 2] rfl)
  exact lp20 (7)  g _ _ _ 0 (by have h1 := (kc_0); unfold kb at h1; omega) hI hG hE hk0 hk1 hk2 (kb_w kc_0 (by decide) (by decide)) hP hD hS (lv_sub hl [0, 1, 2] rfl)
set_option maxHeartbeats 4000000 in
set_option maxRecDepth 100000 in
theorem x_7_copyFromB  (l : Launch) {D : va_G} {K : Nat → ClassId} (r : Nat → Nat) (f : Nat → Int32) (a : Nat → Nat → Int32) (g : xG) (tx tt : va_W) (hT : ∀ c ∈ tt, c ∈ tx) (hI : xI f a) (hG : gOK K g.2 tt)     : kVG l yX7_copyFrom (Cond.code yX7_copyFrom cX7_copyFrom 3 none :: kG) (rmD 2 0 0) D K [.ref (r 1), .ref (r 95)] (xX K r f a g (sI K r f a g ++ tx)) (fun (u : xS) => xI u.1 u.2.1 ∧ gOK K u.2.2.2 tt ∧ xEk [12, 13, 14, 832, 838, 844, 849, 850, 3040, 3046, 3052, 3057, 3058] f a g u.1 u.2.1 u.2.2 ∧ u.1 32 = f 3040 ∧ u.1 38 = f 3046 ∧ u.1 44 = f 3052 ∧ u.1 49 = f 3057 ∧ u.1 50 = f 3058) (fun u => xX K r u.1 u.2.1 u.2.2 (sI K r u.1 u.2.1 u.2.2 ++ tx)) 0 0 := by
  refine kVG.of (cc := cX7_copyFrom) (maxL := 3) (ret := none) (by decide) rfl (Nat.le_of_ble_eq_true rfl) ?_
  intro p e s m below meth c A hx hb hr hml hown hts hlocks hnm hK hP hD hS hA hV ls hl
  have hE : xEk [12, 13, 14, 832, 838, 844, 849, 850, 3040, 3046, 3052, 3057, 3058] f a g f a g := xEk_rf
  have hg : ∀ w ∈ kG, w.before _ s = true := fun w h => hts w (List.mem_cons_of_mem _ h)
  have hown : s.vm.findClass RX7 = some m.cls := hown
  have hl : lv_has ls 3 [(0, .ref (r 1)), (1, .ref (r 95))] := hl
  obtain ⟨s3040, es3040⟩ : ∃ z : Int32, z = f 3040 := ⟨_, rfl⟩
  have b1 : kb 0 s3040 10 := kb_eq es3040 (fI_at hI.1 3040 (by decide) (by decide))
  obtain ⟨s3046, es3046⟩ : ∃ z : Int32, z = f 3046 := ⟨_, rfl⟩
  obtain ⟨s3052, es3052⟩ : ∃ z : Int32, z = f 3052 := ⟨_, rfl⟩
  obtain ⟨s3057, es3057⟩ : ∃ z : Int32, z = f 3057 := ⟨_, rfl⟩
  obtain ⟨s3058, es3058⟩ : ∃ z : Int32, z = f 3058 := ⟨_, rfl⟩
  refine lv_aload_n hx hb dX7_copyFrom_0 rfl (lv_at hl 0 rfl) ?_
  refine lv_aload_n hx hb dX7_copyFrom_1 rfl (lv_at hl 1 rfl) ?_
  refine va_get (D := D) (ci := 7) (v := .int (f 3040)) (C := RX7) (T := TX7) (N := 20) hx hb hg inC7 hown hK hP 95 rfl rfl 0 (by decide) (hg _ wt1_79) (fun _ h9 => h9) rfl dX7_copyFrom_2 ?_
  refine k_top (z := s3040) es3040.symm ?_
  refine va_put (D := D) (ci := 7) (v := .int s3040) (ty := .int) (C := RX7) (T := TX7) (N := 20) hx hb hg inC7 tyX7 tyX7_ok nmX7 hown hK hP hD hS 1 rfl rfl 0 (by decide) (hg _ wt1_79) (fun _ h9 => h9) rfl (by decide +kernel) rfl rfl (Nat.le_of_ble_eq_true rfl) dX7_copyFrom_5 (fun H locs hP hD hS => ?_)
  have hP : va_P D vwCl (xX K r (upd f 32 s3040) a g (sI K r (upd f 32 s3040) a g ++ tx)) H := hP
  have hD : va_D A (xX K r (upd f 32 s3040) a g (sI K r (upd f 32 s3040) a g ++ tx)) := hD
  refine k_gen (P := fun z => va_P D vwCl (xX K r z a g (sI K r z a g ++ tx)) H ∧ va_D A (xX K r z a g (sI K r z a g ++ tx)) ∧ (xI z a) ∧ (gOK K g.2 tt) ∧ (xEk [12, 13, 14, 832, 838, 844, 849, 850, 3040, 3046, 3052, 3057, 3058] f a g z a g)) (upd f 32 s3040) ⟨hP, hD, (xI_f hI (fI_st hI.1 32 b1 (by decide) (by decide))), hG, (xEk_f hE (by decide))⟩ (fun f_2 ef_2 hq => ?_)
  obtain ⟨hP, hD, hI, hG, hE⟩ := hq
  refine lv_aload_n hx hb dX7_copyFrom_8 rfl (lv_at hl 1 rfl) ?_
  refine va_get (D := D) (ci := 7) (v := .ref (r 96)) (C := RX7) (T := TX7) (N := 20) hx hb hg inC7 hown hK hP 95 rfl rfl 1 (by decide) (hg _ wt1_86) (fun _ h9 => h9) rfl dX7_copyFrom_9 ?_
  refine lv_iconst (v := 0) hx hb dX7_copyFrom_12 (by decide) ?_
  refine lv_aload_n hx hb dX7_copyFrom_13 rfl (lv_at hl 0 rfl) ?_
  refine va_get (D := D) (ci := 7) (v := .ref (r 2)) (C := RX7) (T := TX7) (N := 20) hx hb hg inC7 hown hK hP 1 rfl rfl 1 (by decide) (hg _ wt1_86) (fun _ h9 => h9) rfl dX7_copyFrom_14 ?_
  refine lv_iconst (v := 0) hx hb dX7_copyFrom_17 (by decide) ?_
  refine lv_bipush (v := 10) hx hb dX7_copyFrom_18 (by decide) ?_
  refine va_copyi (ty := .int) hx hb (hml.trans hl.1.symm) hown (hg _ wt4_83) (hg _ wt4_70) (hg _ wt4_69) (hg _ wt1_20) hK hP hD hS 96 2 0 0 rfl rfl rfl rfl rfl (by decide) (by decide) (by decide) (by decide +kernel) (by decide +kernel) (fun i _ => rfl) (by decide) (Nat.le_of_ble_eq_true rfl) dX7_copyFrom_20 (fun H locs hP hD hS => ?_)
  have hP : va_P D vwCl (xX K r f_2 (va_up a 2 (va_cpy (a 96) (a 2) (0 : Int32).toNatClampNeg (0 : Int32).toNatClampNeg (10 : Int32).toNatClampNeg)) g (sI K r f_2 (va_up a 2 (va_cpy (a 96) (a 2) (0 : Int32).toNatClampNeg (0 : Int32).toNatClampNeg (10 : Int32).toNatClampNeg)) g ++ tx)) H := hP
  have hD : va_D A (xX K r f_2 (va_up a 2 (va_cpy (a 96) (a 2) (0 : Int32).toNatClampNeg (0 : Int32).toNatClampNeg (10 : Int32).toNatClampNeg)) g (sI K r f_2 (va_up a 2 (va_cpy (a 96) (a 2) (0 : Int32).toNatClampNeg (0 : Int32).toNatClampNeg (10 : Int32).toNatClampNeg)) g ++ tx)) := hD
  refine k_gen (P := fun z => va_P D vwCl (xX K r f_2 z g (sI K r f_2 z g ++ tx)) H ∧ va_D A (xX K r f_2 z g (sI K r f_2 z g ++ tx)) ∧ (xI f_2 z) ∧ (gOK K g.2 tt) ∧ (xEk [12, 13, 14, 832, 838, 844, 849, 850, 3040, 3046, 3052, 3057, 3058] f a g f_2 z g)) (va_up a 2 (va_cpy (a 96) (a 2) (0 : Int32).toNatClampNeg (0 : Int32).toNatClampNeg (10 : Int32).toNatClampNeg)) ⟨hP, hD, (xI_a hI (by decide)), hG, (xEk_a hE (by decide))⟩ (fun a_3 ea_3 hq => ?_)
  obtain ⟨hP, hD, hI, hG, hE⟩ := hq
  refine lv_aload_n hx hb dX7_copyFrom_23 rfl (lv_at hl 1 rfl) ?_
  refine va_get (D := D) (ci := 7) (v := .ref (r 97)) (C := RX7) (T := TX7) (N := 20) hx hb hg inC7 hown hK hP 95 rfl rfl 2 (by decide) (hg _ wt1_89) (fun _ h9 => h9) rfl dX7_copyFrom_24 ?_
  refine lv_iconst (v := 0) hx hb dX7_copyFrom_27 (by decide) ?_
  refine lv_aload_n hx hb dX7_copyFrom_28 rfl (lv_at hl 0 rfl) ?_
  refine va_get (D := D) (ci := 7) (v := .ref (r 3)) (C := RX7) (T := TX7) (N := 20) hx hb hg inC7 hown hK hP 1 rfl rfl 2 (by decide) (hg _ wt1_89) (fun _ h9 => h9) rfl dX7_copyFrom_29 ?_
  refine lv_iconst (v := 0) hx hb dX7_copyFrom_32 (by decide) ?_
  refine lv_bipush (v := 10) hx hb dX7_copyFrom_33 (by decide) ?_
  refine va_copyi (ty := .int) hx hb (hml.trans hl.1.symm) hown (hg _ wt4_83) (hg _ wt4_70) (hg _ wt4_69) (hg _ wt1_20) hK hP hD hS 97 3 0 0 rfl rfl rfl rfl rfl (by decide) (by decide) (by decide) (by decide +kernel) (by decide +kernel) (fun i _ => rfl) (by decide) (Nat.le_of_ble_eq_true rfl) dX7_copyFrom_35 (fun H locs hP hD hS => ?_)
  have hP : va_P D vwCl (xX K r f_2 (va_up a_3 3 (va_cpy (a_3 97) (a_3 3) (0 : Int32).toNatClampNeg (0 : Int32).toNatClampNeg (10 : Int32).toNatClampNeg)) g (sI K r f_2 (va_up a_3 3 (va_cpy (a_3 97) (a_3 3) (0 : Int32).toNatClampNeg (0 : Int32).toNatClampNeg (10 : Int32).toNatClampNeg)) g ++ tx)) H := hP
  have hD : va_D A (xX K r f_2 (va_up a_3 3 (va_cpy (a_3 97) (a_3 3) (0 : Int32).toNatClampNeg (0 : Int32).toNatClampNeg (10 : Int32).toNatClampNeg)) g (sI K r f_2 (va_up a_3 3 (va_cpy (a_3 97) (a_3 3) (0 : Int32).toNatClampNeg (0 : Int32).toNatClampNeg (10 : Int32).toNatClampNeg)) g ++ tx)) := hD
  refine k_gen (P := fun z => va_P D vwCl (xX K r f_2 z g (sI K r f_2 z g ++ tx)) H ∧ va_D A (xX K r f_2 z g (sI K r f_2 z g ++ tx)) ∧ (xI f_2 z) ∧ (gOK K g.2 tt) ∧ (xEk [12, 13, 14, 832, 838, 844, 849, 850, 3040, 3046, 3052, 3057, 3058] f a g f_2 z g)) (va_up a_3 3 (va_cpy (a_3 97) (a_3 3) (0 : Int32).toNatClampNeg (0 : Int32).toNatClampNeg (10 : Int32).toNatClampNeg)) ⟨hP, hD, (xI_a hI (by decide)), hG, (xEk_a hE (by decide))⟩ (fun a_4 ea_4 hq => ?_)
  obtain ⟨hP, hD, hI, hG, hE⟩ := hq
  refine lv_aload_n hx hb dX7_copyFrom_38 rfl (lv_at hl 1 rfl) ?_
  refine va_get (D := D) (ci := 7) (v := .ref (r 98)) (C := RX7) (T := TX7) (N := 20) hx hb hg inC7 hown hK hP 95 rfl rfl 3 (by decide) (hg _ wt1_93) (fun _ h9 => h9) rfl dX7_copyFrom_39 ?_
  refine lv_iconst (v := 0) hx hb dX7_copyFrom_42 (by decide) ?_
  refine lv_aload_n hx hb dX7_copyFrom_43 rfl (lv_at hl 0 rfl) ?_
  refine va_get (D := D) (ci := 7) (v := .ref (r 4)) (C := RX7) (T := TX7) (N := 20) hx hb hg inC7 hown hK hP 1 rfl rfl 3 (by decide) (hg _ wt1_93) (fun _ h9 => h9) rfl dX7_copyFrom_44 ?_
  refine lv_iconst (v := 0) hx hb dX7_copyFrom_47 (by decide) ?_
  refine lv_bipush (v := 10) hx hb dX7_copyFrom_48 (by decide) ?_
  refine va_copyi (ty := .int) hx hb (hml.trans hl.1.symm) hown (hg _ wt4_83) (hg _ wt4_70) (hg _ wt4_69) (hg _ wt1_20) hK hP hD hS 98 4 0 0 rfl rfl rfl rfl rfl (by decide) (by decide) (by decide) (by decide +kernel) (by decide +kernel) (fun i _ => rfl) (by decide) (Nat.le_of_ble_eq_true rfl) dX7_copyFrom_50 (fun H locs hP hD hS => ?_)
  have hP : va_P D vwCl (xX K r f_2 (va_up a_4 4 (va_cpy (a_4 98) (a_4 4) (0 : Int32).toNatClampNeg (0 : Int32).toNatClampNeg (10 : Int32).toNatClampNeg)) g (sI K r f_2 (va_up a_4 4 (va_cpy (a_4 98) (a_4 4) (0 : Int32).toNatClampNeg (0 : Int32).toNatClampNeg (10 : Int32).toNatClampNeg)) g ++ tx)) H := hP
  have hD : va_D A (xX K r f_2 (va_up a_4 4 (va_cpy (a_4 98) (a_4 4) (0 : Int32).toNatClampNeg (0 : Int32).toNatClampNeg (10 : Int32).toNatClampNeg)) g (sI K r f_2 (va_up a_4 4 (va_cpy (a_4 98) (a_4 4) (0 : Int32).toNatClampNeg (0 : Int32).toNatClampNeg (10 : Int32).toNatClampNeg)) g ++ tx)) := hD
  refine k_gen (P := fun z => va_P D vwCl (xX K r f_2 z g (sI K r f_2 z g ++ tx)) H ∧ va_D A (xX K r f_2 z g (sI K r f_2 z g ++ tx)) ∧ (xI f_2 z) ∧ (gOK K g.2 tt) ∧ (xEk [12, 13, 14, 832, 838, 844, 849, 850, 3040, 3046, 3052, 3057, 3058] f a g f_2 z g)) (va_up a_4 4 (va_cpy (a_4 98) (a_4 4) (0 : Int32).toNatClampNeg (0 : Int32).toNatClampNeg (10 : Int32).toNatClampNeg)) ⟨hP, hD, (xI_a hI (by decide)), hG, (xEk_a hE (by decide))⟩ (fun a_5 ea_5 hq => ?_)
  obtain ⟨hP, hD, hI, hG, hE⟩ := hq
  refine lv_aload_n hx hb dX7_copyFrom_53 rfl (lv_at hl 1 rfl) ?_
  refine va_get (D := D) (ci := 7) (v := .ref (r 99)) (C := RX7) (T := TX7) (N := 20) hx hb hg inC7 hown hK hP 95 rfl rfl 4 (by decide) (hg _ wt1_95) (fun _ h9 => h9) rfl dX7_copyFrom_54 ?_
  refine lv_iconst (v := 0) hx hb dX7_copyFrom_57 (by decide) ?_
  refine lv_aload_n hx hb dX7_copyFrom_58 rfl (lv_at hl 0 rfl) ?_
  refine va_get (D := D) (ci := 7) (v := .ref (r 5)) (C := RX7) (T := TX7) (N := 20) hx hb hg inC7 hown hK hP 1 rfl rfl 4 (by decide) (hg _ wt1_95) (fun _ h9 => h9) rfl dX7_copyFrom_59 ?_
  refine lv_iconst (v := 0) hx hb dX7_copyFrom_62 (by decide) ?_
  refine lv_bipush (v := 10) hx hb dX7_copyFrom_63 (by decide) ?_
  refine va_copyi (ty := .int) hx hb (hml.trans hl.1.symm) hown (hg _ wt4_83) (hg _ wt4_70) (hg _ wt4_69) (hg _ wt1_20) hK hP hD hS 99 5 0 0 rfl rfl rfl rfl rfl (by decide) (by decide) (by decide) (by decide +kernel) (by decide +kernel) (fun i _ => rfl) (by decide) (Nat.le_of_ble_eq_true rfl) dX7_copyFrom_65 (fun H locs hP hD hS => ?_)
  have hP : va_P D vwCl (xX K r f_2 (va_up a_5 5 (va_cpy (a_5 99) (a_5 5) (0 : Int32).toNatClampNeg (0 : Int32).toNatClampNeg (10 : Int32).toNatClampNeg)) g (sI K r f_2 (va_up a_5 5 (va_cpy (a_5 99) (a_5 5) (0 : Int32).toNatClampNeg (0 : Int32).toNatClampNeg (10 : Int32).toNatClampNeg)) g ++ tx)) H := hP
  have hD : va_D A (xX K r f_2 (va_up a_5 5 (va_cpy (a_5 99) (a_5 5) (0 : Int32).toNatClampNeg (0 : Int32).toNatClampNeg (10 : Int32).toNatClampNeg)) g (sI K r f_2 (va_up a_5 5 (va_cpy (a_5 99) (a_5 5) (0 : Int32).toNatClampNeg (0 : Int32).toNatClampNeg (10 : Int32).toNatClampNeg)) g ++ tx)) := hD
  refine k_gen (P := fun z => va_P D vwCl (xX K r f_2 z g (sI K r f_2 z g ++ tx)) H ∧ va_D A (xX K r f_2 z g (sI K r f_2 z g ++ tx)) ∧ (xI f_2 z) ∧ (gOK K g.2 tt) ∧ (xEk [12, 13, 14, 832, 838, 844, 849, 850, 3040, 3046, 3052, 3057, 3058] f a g f_2 z g)) (va_up a_5 5 (va_cpy (a_5 99) (a_5 5) (0 : Int32).toNatClampNeg (0 : Int32).toNatClampNeg (10 : Int32).toNatClampNeg)) ⟨hP, hD, (xI_a hI (by decide)), hG, (xEk_a hE (by decide))⟩ (fun a_6 ea_6 hq => ?_)
  obtain ⟨hP, hD, hI, hG, hE⟩ := hq
  refine lv_aload_n hx hb dX7_copyFrom_68 rfl (lv_at hl 1 rfl) ?_
  refine va_get (D := D) (ci := 7) (v := .ref (r 100)) (C := RX7) (T := TX7) (N := 20) hx hb hg inC7 hown hK hP 95 rfl rfl 5 (by decide) (hg _ wt1_97) (fun _ h9 => h9) rfl dX7_copyFrom_69 ?_
  refine lv_iconst (v := 0) hx hb dX7_copyFrom_72 (by decide) ?_
  refine lv_aload_n hx hb dX7_copyFrom_73 rfl (lv_at hl 0 rfl) ?_
  refine va_get (D := D) (ci := 7) (v := .ref (r 6)) (C := RX7) (T := TX7) (N := 20) hx hb hg inC7 hown hK hP 1 rfl rfl 5 (by decide) (hg _ wt1_97) (fun _ h9 => h9) rfl dX7_copyFrom_74 ?_
  refine lv_iconst (v := 0) hx hb dX7_copyFrom_77 (by decide) ?_
  refine lv_bipush (v := 10) hx hb dX7_copyFrom_78 (by decide) ?_
  refine va_copyi (ty := .int) hx hb (hml.trans hl.1.symm) hown (hg _ wt4_83) (hg _ wt4_70) (hg _ wt4_69) (hg _ wt1_20) hK hP hD hS 100 6 0 0 rfl rfl rfl rfl rfl (by decide) (by decide) (by decide) (by decide +kernel) (by decide +kernel) (fun i _ => rfl) (by decide) (Nat.le_of_ble_eq_true rfl) dX7_copyFrom_80 (fun H locs hP hD hS => ?_)
  have hP : va_P D vwCl (xX K r f_2 (va_up a_6 6 (va_cpy (a_6 100) (a_6 6) (0 : Int32).toNatClampNeg (0 : Int32).toNatClampNeg (10 : Int32).toNatClampNeg)) g (sI K r f_2 (va_up a_6 6 (va_cpy (a_6 100) (a_6 6) (0 : Int32).toNatClampNeg (0 : Int32).toNatClampNeg (10 : Int32).toNatClampNeg)) g ++ tx)) H := hP
  have hD : va_D A (xX K r f_2 (va_up a_6 6 (va_cpy (a_6 100) (a_6 6) (0 : Int32).toNatClampNeg (0 : Int32).toNatClampNeg (10 : Int32).toNatClampNeg)) g (sI K r f_2 (va_up a_6 6 (va_cpy (a_6 100) (a_6 6) (0 : Int32).toNatClampNeg (0 : Int32).toNatClampNeg (10 : Int32).toNatClampNeg)) g ++ tx)) := hD
  refine k_gen (P := fun z => va_P D vwCl (xX K r f_2 z g (sI K r f_2 z g ++ tx)) H ∧ va_D A (xX K r f_2 z g (sI K r f_2 z g ++ tx)) ∧ (xI f_2 z) ∧ (gOK K g.2 tt) ∧ (xEk [12, 13, 14, 832, 838, 844, 849, 850, 3040, 3046, 3052, 3057, 3058] f a g f_2 z g)) (va_up a_6 6 (va_cpy (a_6 100) (a_6 6) (0 : Int32).toNatClampNeg (0 : Int32).toNatClampNeg (10 : Int32).toNatClampNeg)) ⟨hP, hD, (xI_a hI (by decide)), hG, (xEk_a hE (by decide))⟩ (fun a_7 ea_7 hq => ?_)
  obtain ⟨hP, hD, hI, hG, hE⟩ := hq
  refine lv_aload_n hx hb dX7_copyFrom_83 rfl (lv_at hl 0 rfl) ?_
  refine lv_aload_n hx hb dX7_copyFrom_84 rfl (lv_at hl 1 rfl) ?_
  refine va_get (D := D) (ci := 7) (v := .int (f_2 3046)) (C := RX7) (T := TX7) (N := 20) hx hb hg inC7 hown hK hP 95 rfl rfl 6 (by decide) (hg _ wt1_104) (fun _ h9 => h9) rfl dX7_copyFrom_85 ?_
  refine k_top (z := s3046) ((show f_2 3046 = f 3046 from by rw [← ef_2]; rfl).trans es3046.symm) ?_
  refine va_put (D := D) (ci := 7) (v := .int s3046) (ty := .int) (C := RX7) (T := TX7) (N := 20) hx hb hg inC7 tyX7 tyX7_ok nmX7 hown hK hP hD hS 1 rfl rfl 6 (by decide) (hg _ wt1_104) (fun _ h9 => h9) rfl (by decide +kernel) rfl rfl (Nat.le_of_ble_eq_true rfl) dX7_copyFrom_88 (fun H locs hP hD hS => ?_)
  have hP : va_P D vwCl (xX K r (upd f_2 38 s3046) a_7 g (sI K r (upd f_2 38 s3046) a_7 g ++ tx)) H := hP
  have hD : va_D A (xX K r (upd f_2 38 s3046) a_7 g (sI K r (upd f_2 38 s3046) a_7 g ++ tx)) := hD
  refine k_gen (P := fun z => va_P D vwCl (xX K r z a_7 g (sI K r z a_7 g ++ tx)) H ∧ va_D A (xX K r z a_7 g (sI K r z a_7 g ++ tx)) ∧ (xI z a_7) ∧ (gOK K g.2 tt) ∧ (xEk [12, 13, 14, 832, 838, 844, 849, 850, 3040, 3046, 3052, 3057, 3058] f a g z a_7 g)) (upd f_2 38 s3046) ⟨hP, hD, (xI_f hI (fI_st hI.1 38 (kb_any _) (by decide) (by decide))), hG, (xEk_f hE (by decide))⟩ (fun f_8 ef_8 hq => ?_)
  obtain ⟨hP, hD, hI, hG, hE⟩ := hq
  refine lv_aload_n hx hb dX7_copyFrom_91 rfl (lv_at hl 1 rfl) ?_
  refine va_get (D := D) (ci := 7) (v := .ref (r 101)) (C := RX7) (T := TX7) (N := 20) hx hb hg inC7 hown hK hP 95 rfl rfl 7 (by decide) (hg _ wt1_110) (fun _ h9 => h9) rfl dX7_copyFrom_92 ?_
  refine lv_iconst (v := 0) hx hb dX7_copyFrom_95 (by decide) ?_
  refine lv_aload_n hx hb dX7_copyFrom_96 rfl (lv_at hl 0 rfl) ?_
  refine va_get (D := D) (ci := 7) (v := .ref (r 7)) (C := RX7) (T := TX7) (N := 20) hx hb hg inC7 hown hK hP 1 rfl rfl 7 (by decide) (hg _ wt1_110) (fun _ h9 => h9) rfl dX7_copyFrom_97 ?_
  refine lv_iconst (v := 0) hx hb dX7_copyFrom_100 (by decide) ?_
  refine lv_bipush (v := 6) hx hb dX7_copyFrom_101 (by decide) ?_
  refine va_copyi (ty := .int) hx hb (hml.trans hl.1.symm) hown (hg _ wt4_83) (hg _ wt4_70) (hg _ wt4_69) (hg _ wt1_20) hK hP hD hS 101 7 0 0 rfl rfl rfl rfl rfl (by decide) (by decide) (by decide) (by decide +kernel) (by decide +kernel) (fun i _ => rfl) (by decide) (Nat.le_of_ble_eq_true rfl) dX7_copyFrom_103 (fun H locs hP hD hS => ?_)
  have hP : va_P D vwCl (xX K r f_8 (va_up a_7 7 (va_cpy (a_7 101) (a_7 7) (0 : Int32).toNatClampNeg (0 : Int32).toNatClampNeg (6 : Int32).toNatClampNeg)) g (sI K r f_8 (va_up a_7 7 (va_cpy (a_7 101) (a_7 7) (0 : Int32).toNatClampNeg (0 : Int32).toNatClampNeg (6 : Int32).toNatClampNeg)) g ++ tx)) H := hP
  have hD : va_D A (xX K r f_8 (va_up a_7 7 (va_cpy (a_7 101) (a_7 7) (0 : Int32).toNatClampNeg (0 : Int32).toNatClampNeg (6 : Int32).toNatClampNeg)) g (sI K r f_8 (va_up a_7 7 (va_cpy (a_7 101) (a_7 7) (0 : Int32).toNatClampNeg (0 : Int32).toNatClampNeg (6 : Int32).toNatClampNeg)) g ++ tx)) := hD
  refine k_gen (P := fun z => va_P D vwCl (xX K r f_8 z g (sI K r f_8 z g ++ tx)) H ∧ va_D A (xX K r f_8 z g (sI K r f_8 z g ++ tx)) ∧ (xI f_8 z) ∧ (gOK K g.2 tt) ∧ (xEk [12, 13, 14, 832, 838, 844, 849, 850, 3040, 3046, 3052, 3057, 3058] f a g f_8 z g)) (va_up a_7 7 (va_cpy (a_7 101) (a_7 7) (0 : Int32).toNatClampNeg (0 : Int32).toNatClampNeg (6 : Int32).toNatClampNeg)) ⟨hP, hD, (xI_a hI (by decide)), hG, (xEk_a hE (by decide))⟩ (fun a_9 ea_9 hq => ?_)
  obtain ⟨hP, hD, hI, hG, hE⟩ := hq
  refine lv_aload_n hx hb dX7_copyFrom_106 rfl (lv_at hl 1 rfl) ?_
  refine va_get (D := D) (ci := 7) (v := .ref (r 102)) (C := RX7) (T := TX7) (N := 20) hx hb hg inC7 hown hK hP 95 rfl rfl 8 (by decide) (hg _ wt1_114) (fun _ h9 => h9) rfl dX7_copyFrom_107 ?_
  refine lv_iconst (v := 0) hx hb dX7_copyFrom_110 (by decide) ?_
  refine lv_aload_n hx hb dX7_copyFrom_111 rfl (lv_at hl 0 rfl) ?_
  refine va_get (D := D) (ci := 7) (v := .ref (r 8)) (C := RX7) (T := TX7) (N := 20) hx hb hg inC7 hown hK hP 1 rfl rfl 8 (by decide) (hg _ wt1_114) (fun _ h9 => h9) rfl dX7_copyFrom_112 ?_
  refine lv_iconst (v := 0) hx hb dX7_copyFrom_115 (by decide) ?_
  refine lv_bipush (v := 6) hx hb dX7_copyFrom_116 (by decide) ?_
  refine va_copyi (ty := .int) hx hb (hml.trans hl.1.symm) hown (hg _ wt4_83) (hg _ wt4_70) (hg _ wt4_69) (hg _ wt1_20) hK hP hD hS 102 8 0 0 rfl rfl rfl rfl rfl (by decide) (by decide) (by decide) (by decide +kernel) (by decide +kernel) (fun i _ => rfl) (by decide) (Nat.le_of_ble_eq_true rfl) dX7_copyFrom_118 (fun H locs hP hD hS => ?_)
  have hP : va_P D vwCl (xX K r f_8 (va_up a_9 8 (va_cpy (a_9 102) (a_9 8) (0 : Int32).toNatClampNeg (0 : Int32).toNatClampNeg (6 : Int32).toNatClampNeg)) g (sI K r f_8 (va_up a_9 8 (va_cpy (a_9 102) (a_9 8) (0 : Int32).toNatClampNeg (0 : Int32).toNatClampNeg (6 : Int32).toNatClampNeg)) g ++ tx)) H := hP
  have hD : va_D A (xX K r f_8 (va_up a_9 8 (va_cpy (a_9 102) (a_9 8) (0 : Int32).toNatClampNeg (0 : Int32).toNatClampNeg (6 : Int32).toNatClampNeg)) g (sI K r f_8 (va_up a_9 8 (va_cpy (a_9 102) (a_9 8) (0 : Int32).toNatClampNeg (0 : Int32).toNatClampNeg (6 : Int32).toNatClampNeg)) g ++ tx)) := hD
  refine k_gen (P := fun z => va_P D vwCl (xX K r f_8 z g (sI K r f_8 z g ++ tx)) H ∧ va_D A (xX K r f_8 z g (sI K r f_8 z g ++ tx)) ∧ (xI f_8 z) ∧ (gOK K g.2 tt) ∧ (xEk [12, 13, 14, 832, 838, 844, 849, 850, 3040, 3046, 3052, 3057, 3058] f a g f_8 z g)) (va_up a_9 8 (va_cpy (a_9 102) (a_9 8) (0 : Int32).toNatClampNeg (0 : Int32).toNatClampNeg (6 : Int32).toNatClampNeg)) ⟨hP, hD, (xI_a hI (by decide)), hG, (xEk_a hE (by decide))⟩ (fun a_10 ea_10 hq => ?_)
  obtain ⟨hP, hD, hI, hG, hE⟩ := hq
  refine lv_aload_n hx hb dX7_copyFrom_121 rfl (lv_at hl 1 rfl) ?_
  refine va_get (D := D) (ci := 7) (v := .ref (r 103)) (C := RX7) (T := TX7) (N := 20) hx hb hg inC7 hown hK hP 95 rfl rfl 9 (by decide) (hg _ wt1_116) (fun _ h9 => h9) rfl dX7_copyFrom_122 ?_
  refine lv_iconst (v := 0) hx hb dX7_copyFrom_125 (by decide) ?_
  refine lv_aload_n hx hb dX7_copyFrom_126 rfl (lv_at hl 0 rfl) ?_
  refine va_get (D := D) (ci := 7) (v := .ref (r 9)) (C := RX7) (T := TX7) (N := 20) hx hb hg inC7 hown hK hP 1 rfl rfl 9 (by decide) (hg _ wt1_116) (fun _ h9 => h9) rfl dX7_copyFrom_127 ?_
  refine lv_iconst (v := 0) hx hb dX7_copyFrom_130 (by decide) ?_
  refine lv_bipush (v := 6) hx hb dX7_copyFrom_131 (by decide) ?_
  refine va_copyi (ty := .int) hx hb (hml.trans hl.1.symm) hown (hg _ wt4_83) (hg _ wt4_70) (hg _ wt4_69) (hg _ wt1_20) hK hP hD hS 103 9 0 0 rfl rfl rfl rfl rfl (by decide) (by decide) (by decide) (by decide +kernel) (by decide +kernel) (fun i _ => rfl) (by decide) (Nat.le_of_ble_eq_true rfl) dX7_copyFrom_133 (fun H locs hP hD hS => ?_)
  have hP : va_P D vwCl (xX K r f_8 (va_up a_10 9 (va_cpy (a_10 103) (a_10 9) (0 : Int32).toNatClampNeg (0 : Int32).toNatClampNeg (6 : Int32).toNatClampNeg)) g (sI K r f_8 (va_up a_10 9 (va_cpy (a_10 103) (a_10 9) (0 : Int32).toNatClampNeg (0 : Int32).toNatClampNeg (6 : Int32).toNatClampNeg)) g ++ tx)) H := hP
  have hD : va_D A (xX K r f_8 (va_up a_10 9 (va_cpy (a_10 103) (a_10 9) (0 : Int32).toNatClampNeg (0 : Int32).toNatClampNeg (6 : Int32).toNatClampNeg)) g (sI K r f_8 (va_up a_10 9 (va_cpy (a_10 103) (a_10 9) (0 : Int32).toNatClampNeg (0 : Int32).toNatClampNeg (6 : Int32).toNatClampNeg)) g ++ tx)) := hD
  refine k_gen (P := fun z => va_P D vwCl (xX K r f_8 z g (sI K r f_8 z g ++ tx)) H ∧ va_D A (xX K r f_8 z g (sI K r f_8 z g ++ tx)) ∧ (xI f_8 z) ∧ (gOK K g.2 tt) ∧ (xEk [12, 13, 14, 832, 838, 844, 849, 850, 3040, 3046, 3052, 3057, 3058] f a g f_8 z g)) (va_up a_10 9 (va_cpy (a_10 103) (a_10 9) (0 : Int32).toNatClampNeg (0 : Int32).toNatClampNeg (6 : Int32).toNatClampNeg)) ⟨hP, hD, (xI_a hI (by decide)), hG, (xEk_a hE (by decide))⟩ (fun a_11 ea_11 hq => ?_)
  obtain ⟨hP, hD, hI, hG, hE⟩ := hq
  refine lv_aload_n hx hb dX7_copyFrom_136 rfl (lv_at hl 1 rfl) ?_
  refine va_get (D := D) (ci := 7) (v := .ref (r 104)) (C := RX7) (T := TX7) (N := 20) hx hb hg inC7 hown hK hP 95 rfl rfl 10 (by decide) (hg _ wt1_121) (fun _ h9 => h9) rfl dX7_copyFrom_137 ?_
  refine lv_iconst (v := 0) hx hb dX7_copyFrom_140 (by decide) ?_
  refine lv_aload_n hx hb dX7_copyFrom_141 rfl (lv_at hl 0 rfl) ?_
  refine va_get (D := D) (ci := 7) (v := .ref (r 10)) (C := RX7) (T := TX7) (N := 20) hx hb hg inC7 hown hK hP 1 rfl rfl 10 (by decide) (hg _ wt1_121) (fun _ h9 => h9) rfl dX7_copyFrom_142 ?_
  refine lv_iconst (v := 0) hx hb dX7_copyFrom_145 (by decide) ?_
  refine lv_bipush (v := 6) hx hb dX7_copyFrom_146 (by decide) ?_
  refine va_copyi (ty := .int) hx hb (hml.trans hl.1.symm) hown (hg _ wt4_83) (hg _ wt4_70) (hg _ wt4_69) (hg _ wt1_20) hK hP hD hS 104 10 0 0 rfl rfl rfl rfl rfl (by decide) (by decide) (by decide) (by decide +kernel) (by decide +kernel) (fun i _ => rfl) (by decide) (Nat.le_of_ble_eq_true rfl) dX7_copyFrom_148 (fun H locs hP hD hS => ?_)
  have hP : va_P D vwCl (xX K r f_8 (va_up a_11 10 (va_cpy (a_11 104) (a_11 10) (0 : Int32).toNatClampNeg (0 : Int32).toNatClampNeg (6 : Int32).toNatClampNeg)) g (sI K r f_8 (va_up a_11 10 (va_cpy (a_11 104) (a_11 10) (0 : Int32).toNatClampNeg (0 : Int32).toNatClampNeg (6 : Int32).toNatClampNeg)) g ++ tx)) H := hP
  have hD : va_D A (xX K r f_8 (va_up a_11 10 (va_cpy (a_11 104) (a_11 10) (0 : Int32).toNatClampNeg (0 : Int32).toNatClampNeg (6 : Int32).toNatClampNeg)) g (sI K r f_8 (va_up a_11 10 (va_cpy (a_11 104) (a_11 10) (0 : Int32).toNatClampNeg (0 : Int32).toNatClampNeg (6 : Int32).toNatClampNeg)) g ++ tx)) := hD
  refine k_gen (P := fun z => va_P D vwCl (xX K r f_8 z g (sI K r f_8 z g ++ tx)) H ∧ va_D A (xX K r f_8 z g (sI K r f_8 z g ++ tx)) ∧ (xI f_8 z) ∧ (gOK K g.2 tt) ∧ (xEk [12, 13, 14, 832, 838, 844, 849, 850, 3040, 3046, 3052, 3057, 3058] f a g f_8 z g)) (va_up a_11 10 (va_cpy (a_11 104) (a_11 10) (0 : Int32).toNatClampNeg (0 : Int32).toNatClampNeg (6 : Int32).toNatClampNeg)) ⟨hP, hD, (xI_a hI (by decide)), hG, (xEk_a hE (by decide))⟩ (fun a_12 ea_12 hq => ?_)
  obtain ⟨hP, hD, hI, hG, hE⟩ := hq
  refine lv_aload_n hx hb dX7_copyFrom_151 rfl (lv_at hl 1 rfl) ?_
  refine va_get (D := D) (ci := 7) (v := .ref (r 105)) (C := RX7) (T := TX7) (N := 20) hx hb hg inC7 hown hK hP 95 rfl rfl 11 (by decide) (hg _ wt1_127) (fun _ h9 => h9) rfl dX7_copyFrom_152 ?_
  refine lv_iconst (v := 0) hx hb dX7_copyFrom_155 (by decide) ?_
  refine lv_aload_n hx hb dX7_copyFrom_156 rfl (lv_at hl 0 rfl) ?_
  refine va_get (D := D) (ci := 7) (v := .ref (r 11)) (C := RX7) (T := TX7) (N := 20) hx hb hg inC7 hown hK hP 1 rfl rfl 11 (by decide) (hg _ wt1_127) (fun _ h9 => h9) rfl dX7_copyFrom_157 ?_
  refine lv_iconst (v := 0) hx hb dX7_copyFrom_160 (by decide) ?_
  refine lv_iconst (v := 4) hx hb dX7_copyFrom_161 (by decide) ?_
  refine va_copyi (ty := .int) hx hb (hml.trans hl.1.symm) hown (hg _ wt4_83) (hg _ wt4_70) (hg _ wt4_69) (hg _ wt1_20) hK hP hD hS 105 11 0 0 rfl rfl rfl rfl rfl (by decide) (by decide) (by decide) (by decide +kernel) (by decide +kernel) (fun i _ => rfl) (by decide) (Nat.le_of_ble_eq_true rfl) dX7_copyFrom_162 (fun H locs hP hD hS => ?_)
  have hP : va_P D vwCl (xX K r f_8 (va_up a_12 11 (va_cpy (a_12 105) (a_12 11) (0 : Int32).toNatClampNeg (0 : Int32).toNatClampNeg (4 : Int32).toNatClampNeg)) g (sI K r f_8 (va_up a_12 11 (va_cpy (a_12 105) (a_12 11) (0 : Int32).toNatClampNeg (0 : Int32).toNatClampNeg (4 : Int32).toNatClampNeg)) g ++ tx)) H := hP
  have hD : va_D A (xX K r f_8 (va_up a_12 11 (va_cpy (a_12 105) (a_12 11) (0 : Int32).toNatClampNeg (0 : Int32).toNatClampNeg (4 : Int32).toNatClampNeg)) g (sI K r f_8 (va_up a_12 11 (va_cpy (a_12 105) (a_12 11) (0 : Int32).toNatClampNeg (0 : Int32).toNatClampNeg (4 : Int32).toNatClampNeg)) g ++ tx)) := hD
  refine k_gen (P := fun z => va_P D vwCl (xX K r f_8 z g (sI K r f_8 z g ++ tx)) H ∧ va_D A (xX K r f_8 z g (sI K r f_8 z g ++ tx)) ∧ (xI f_8 z) ∧ (gOK K g.2 tt) ∧ (xEk [12, 13, 14, 832, 838, 844, 849, 850, 3040, 3046, 3052, 3057, 3058] f a g f_8 z g)) (va_up a_12 11 (va_cpy (a_12 105) (a_12 11) (0 : Int32).toNatClampNeg (0 : Int32).toNatClampNeg (4 : Int32).toNatClampNeg)) ⟨hP, hD, (xI_a hI (by decide)), hG, (xEk_a hE (by decide))⟩ (fun a_13 ea_13 hq => ?_)
  obtain ⟨hP, hD, hI, hG, hE⟩ := hq
  refine lv_aload_n hx hb dX7_copyFrom_165 rfl (lv_at hl 0 rfl) ?_
  refine lv_aload_n hx hb dX7_copyFrom_166 rfl (lv_at hl 1 rfl) ?_
  refine va_get (D := D) (ci := 7) (v := .int (f_8 3052)) (C := RX7) (T := TX7) (N := 20) hx hb hg inC7 hown hK hP 95 rfl rfl 12 (by decide) (hg _ wt1_135) (fun _ h9 => h9) rfl dX7_copyFrom_167 ?_
  refine k_top (z := s3052) ((show f_8 3052 = f_2 3052 from by rw [← ef_8]; rfl).trans ((show f_2 3052 = f 3052 from by rw [← ef_2]; rfl).trans es3052.symm)) ?_
  refine va_put (D := D) (ci := 7) (v := .int s3052) (ty := .int) (C := RX7) (T := TX7) (N := 20) hx hb hg inC7 tyX7 tyX7_ok nmX7 hown hK hP hD hS 1 rfl rfl 12 (by decide) (hg _ wt1_135) (fun _ h9 => h9) rfl (by decide +kernel) rfl rfl (Nat.le_of_ble_eq_true rfl) dX7_copyFrom_170 (fun H locs hP hD hS => ?_)
  have hP : va_P D vwCl (xX K r (upd f_8 44 s3052) a_13 g (sI K r (upd f_8 44 s3052) a_13 g ++ tx)) H := hP
  have hD : va_D A (xX K r (upd f_8 44 s3052) a_13 g (sI K r (upd f_8 44 s3052) a_13 g ++ tx)) := hD
  refine k_gen (P := fun z => va_P D vwCl (xX K r z a_13 g (sI K r z a_13 g ++ tx)) H ∧ va_D A (xX K r z a_13 g (sI K r z a_13 g ++ tx)) ∧ (xI z a_13) ∧ (gOK K g.2 tt) ∧ (xEk [12, 13, 14, 832, 838, 844, 849, 850, 3040, 3046, 3052, 3057, 3058] f a g z a_13 g)) (upd f_8 44 s3052) ⟨hP, hD, (xI_f hI (fI_st hI.1 44 (kb_any _) (by decide) (by decide))), hG, (xEk_f hE (by decide))⟩ (fun f_14 ef_14 hq => ?_)
  obtain ⟨hP, hD, hI, hG, hE⟩ := hq
  refine lv_aload_n hx hb dX7_copyFrom_173 rfl (lv_at hl 1 rfl) ?_
  refine va_get (D := D) (ci := 7) (v := .ref (r 106)) (C := RX7) (T := TX7) (N := 20) hx hb hg inC7 hown hK hP 95 rfl rfl 13 (by decide) (hg _ wt1_138) (fun _ h9 => h9) rfl dX7_copyFrom_174 ?_
  refine lv_iconst (v := 0) hx hb dX7_copyFrom_177 (by decide) ?_
  refine lv_aload_n hx hb dX7_copyFrom_178 rfl (lv_at hl 0 rfl) ?_
  refine va_get (D := D) (ci := 7) (v := .ref (r 12)) (C := RX7) (T := TX7) (N := 20) hx hb hg inC7 hown hK hP 1 rfl rfl 13 (by decide) (hg _ wt1_138) (fun _ h9 => h9) rfl dX7_copyFrom_179 ?_
  refine lv_iconst (v := 0) hx hb dX7_copyFrom_182 (by decide) ?_
  refine lv_bipush (v := 8) hx hb dX7_copyFrom_183 (by decide) ?_
  refine va_copyi (ty := .int) hx hb (hml.trans hl.1.symm) hown (hg _ wt4_83) (hg _ wt4_70) (hg _ wt4_69) (hg _ wt1_20) hK hP hD hS 106 12 0 0 rfl rfl rfl rfl rfl (by decide) (by decide) (by decide) (by decide +kernel) (by decide +kernel) (fun i _ => rfl) (by decide) (Nat.le_of_ble_eq_true rfl) dX7_copyFrom_185 (fun H locs hP hD hS => ?_)
  have hP : va_P D vwCl (xX K r f_14 (va_up a_13 12 (va_cpy (a_13 106) (a_13 12) (0 : Int32).toNatClampNeg (0 : Int32).toNatClampNeg (8 : Int32).toNatClampNeg)) g (sI K r f_14 (va_up a_13 12 (va_cpy (a_13 106) (a_13 12) (0 : Int32).toNatClampNeg (0 : Int32).toNatClampNeg (8 : Int32).toNatClampNeg)) g ++ tx)) H := hP
  have hD : va_D A (xX K r f_14 (va_up a_13 12 (va_cpy (a_13 106) (a_13 12) (0 : Int32).toNatClampNeg (0 : Int32).toNatClampNeg (8 : Int32).toNatClampNeg)) g (sI K r f_14 (va_up a_13 12 (va_cpy (a_13 106) (a_13 12) (0 : Int32).toNatClampNeg (0 : Int32).toNatClampNeg (8 : Int32).toNatClampNeg)) g ++ tx)) := hD
  refine k_gen (P := fun z => va_P D vwCl (xX K r f_14 z g (sI K r f_14 z g ++ tx)) H ∧ va_D A (xX K r f_14 z g (sI K r f_14 z g ++ tx)) ∧ (xI f_14 z) ∧ (gOK K g.2 tt) ∧ (xEk [12, 13, 14, 832, 838, 844, 849, 850, 3040, 3046, 3052, 3057, 3058] f a g f_14 z g)) (va_up a_13 12 (va_cpy (a_13 106) (a_13 12) (0 : Int32).toNatClampNeg (0 : Int32).toNatClampNeg (8 : Int32).toNatClampNeg)) ⟨hP, hD, (xI_a hI (by decide)), hG, (xEk_a hE (by decide))⟩ (fun a_15 ea_15 hq => ?_)
  obtain ⟨hP, hD, hI, hG, hE⟩ := hq
  refine lv_aload_n hx hb dX7_copyFrom_188 rfl (lv_at hl 1 rfl) ?_
  refine va_get (D := D) (ci := 7) (v := .ref (r 107)) (C := RX7) (T := TX7) (N := 20) hx hb hg inC7 hown hK hP 95 rfl rfl 14 (by decide) (hg _ wt1_141) (fun _ h9 => h9) rfl dX7_copyFrom_189 ?_
  refine lv_iconst (v := 0) hx hb dX7_copyFrom_192 (by decide) ?_
  refine lv_aload_n hx hb dX7_copyFrom_193 rfl (lv_at hl 0 rfl) ?_
  refine va_get (D := D) (ci := 7) (v := .ref (r 13)) (C := RX7) (T := TX7) (N := 20) hx hb hg inC7 hown hK hP 1 rfl rfl 14 (by decide) (hg _ wt1_141) (fun _ h9 => h9) rfl dX7_copyFrom_194 ?_
  refine lv_iconst (v := 0) hx hb dX7_copyFrom_197 (by decide) ?_
  refine lv_bipush (v := 8) hx hb dX7_copyFrom_198 (by decide) ?_
  refine va_copyi (ty := .int) hx hb (hml.trans hl.1.symm) hown (hg _ wt4_83) (hg _ wt4_70) (hg _ wt4_69) (hg _ wt1_20) hK hP hD hS 107 13 0 0 rfl rfl rfl rfl rfl (by decide) (by decide) (by decide) (by decide +kernel) (by decide +kernel) (fun i _ => rfl) (by decide) (Nat.le_of_ble_eq_true rfl) dX7_copyFrom_200 (fun H locs hP hD hS => ?_)
  have hP : va_P D vwCl (xX K r f_14 (va_up a_15 13 (va_cpy (a_15 107) (a_15 13) (0 : Int32).toNatClampNeg (0 : Int32).toNatClampNeg (8 : Int32).toNatClampNeg)) g (sI K r f_14 (va_up a_15 13 (va_cpy (a_15 107) (a_15 13) (0 : Int32).toNatClampNeg (0 : Int32).toNatClampNeg (8 : Int32).toNatClampNeg)) g ++ tx)) H := hP
  have hD : va_D A (xX K r f_14 (va_up a_15 13 (va_cpy (a_15 107) (a_15 13) (0 : Int32).toNatClampNeg (0 : Int32).toNatClampNeg (8 : Int32).toNatClampNeg)) g (sI K r f_14 (va_up a_15 13 (va_cpy (a_15 107) (a_15 13) (0 : Int32).toNatClampNeg (0 : Int32).toNatClampNeg (8 : Int32).toNatClampNeg)) g ++ tx)) := hD
  refine k_gen (P := fun z => va_P D vwCl (xX K r f_14 z g (sI K r f_14 z g ++ tx)) H ∧ va_D A (xX K r f_14 z g (sI K r f_14 z g ++ tx)) ∧ (xI f_14 z) ∧ (gOK K g.2 tt) ∧ (xEk [12, 13, 14, 832, 838, 844, 849, 850, 3040, 3046, 3052, 3057, 3058] f a g f_14 z g)) (va_up a_15 13 (va_cpy (a_15 107) (a_15 13) (0 : Int32).toNatClampNeg (0 : Int32).toNatClampNeg (8 : Int32).toNatClampNeg)) ⟨hP, hD, (xI_a hI (by decide)), hG, (xEk_a hE (by decide))⟩ (fun a_16 ea_16 hq => ?_)
  obtain ⟨hP, hD, hI, hG, hE⟩ := hq
  refine lv_aload_n hx hb dX7_copyFrom_203 rfl (lv_at hl 1 rfl) ?_
  refine va_get (D := D) (ci := 7) (v := .ref (r 108)) (C := RX7) (T := TX7) (N := 20) hx hb hg inC7 hown hK hP 95 rfl rfl 15 (by decide) (hg _ wt1_144) (fun _ h9 => h9) rfl dX7_copyFrom_204 ?_
  refine lv_iconst (v := 0) hx hb dX7_copyFrom_207 (by decide) ?_
  refine lv_aload_n hx hb dX7_copyFrom_208 rfl (lv_at hl 0 rfl) ?_
  refine va_get (D := D) (ci := 7) (v := .ref (r 14)) (C := RX7) (T := TX7) (N := 20) hx hb hg inC7 hown hK hP 1 rfl rfl 15 (by decide) (hg _ wt1_144) (fun _ h9 => h9) rfl dX7_copyFrom_209 ?_
  refine lv_iconst (v := 0) hx hb dX7_copyFrom_212 (by decide) ?_
  refine lv_bipush (v := 8) hx hb dX7_copyFrom_213 (by decide) ?_
  refine va_copyi (ty := .int) hx hb (hml.trans hl.1.symm) hown (hg _ wt4_83) (hg _ wt4_70) (hg _ wt4_69) (hg _ wt1_20) hK hP hD hS 108 14 0 0 rfl rfl rfl rfl rfl (by decide) (by decide) (by decide) (by decide +kernel) (by decide +kernel) (fun i _ => rfl) (by decide) (Nat.le_of_ble_eq_true rfl) dX7_copyFrom_215 (fun H locs hP hD hS => ?_)
  have hP : va_P D vwCl (xX K r f_14 (va_up a_16 14 (va_cpy (a_16 108) (a_16 14) (0 : Int32).toNatClampNeg (0 : Int32).toNatClampNeg (8 : Int32).toNatClampNeg)) g (sI K r f_14 (va_up a_16 14 (va_cpy (a_16 108) (a_16 14) (0 : Int32).toNatClampNeg (0 : Int32).toNatClampNeg (8 : Int32).toNatClampNeg)) g ++ tx)) H := hP
  have hD : va_D A (xX K r f_14 (va_up a_16 14 (va_cpy (a_16 108) (a_16 14) (0 : Int32).toNatClampNeg (0 : Int32).toNatClampNeg (8 : Int32).toNatClampNeg)) g (sI K r f_14 (va_up a_16 14 (va_cpy (a_16 108) (a_16 14) (0 : Int32).toNatClampNeg (0 : Int32).toNatClampNeg (8 : Int32).toNatClampNeg)) g ++ tx)) := hD
  refine k_gen (P := fun z => va_P D vwCl (xX K r f_14 z g (sI K r f_14 z g ++ tx)) H ∧ va_D A (xX K r f_14 z g (sI K r f_14 z g ++ tx)) ∧ (xI f_14 z) ∧ (gOK K g.2 tt) ∧ (xEk [12, 13, 14, 832, 838, 844, 849, 850, 3040, 3046, 3052, 3057, 3058] f a g f_14 z g)) (va_up a_16 14 (va_cpy (a_16 108) (a_16 14) (0 : Int32).toNatClampNeg (0 : Int32).toNatClampNeg (8 : Int32).toNatClampNeg)) ⟨hP, hD, (xI_a hI (by decide)), hG, (xEk_a hE (by decide))⟩ (fun a_17 ea_17 hq => ?_)
  obtain ⟨hP, hD, hI, hG, hE⟩ := hq
  have hk0 : f_14 32 = f 3040 := ((show f_14 32 = f_8 32 from by rw [← ef_14]; rfl).trans ((show f_8 32 = f_2 32 from by rw [← ef_8]; rfl).trans (show f_2 32 = s3040 from by rw [← ef_2]; rfl))).trans es3040
  have hk1 : f_14 38 = f 3046 := ((show f_14 38 = f_8 38 from by rw [← ef_14]; rfl).trans (show f_8 38 = s3046 from by rw [← ef_8]; rfl)).trans es3046
  have hk2 : f_14 44 = f 3052 := (show f_14 44 = s3052 from by rw [← ef_14]; rfl).trans es3052
  refine lv_iconst (v := 0) hx hb dX7_copyFrom_218 (by decide) ?_
  refine lv_istore_n (lv' := [(2, .int 0), (0, .ref (r 1)), (1, .ref (r 95))]) hx hb dX7_copyFrom_219 rfl hl (by decide) rfl (fun ls hl => ?_)
  have lp20 : ∀ (n21 : Nat) (G19 : xG) (H : Heap) (locs : List Loc) (ls : Array Slot) (y18 : Int32), (6 < y18.toInt + (n21 : Int)) → (xI f_14 a_17) → (gOK K G19.2 tt) → (xEk [12, 13, 14, 832, 838, 844, 849, 850, 3040, 3046, 3052, 3057, 3058] f a g f_14 a_17 G19) → (f_14 32 = f 3040) → (f_14 38 = f 3046) → (f_14 44 = f 3052) → (kb 0 y18 6) → va_P D vwCl (xX K r f_14 a_17 G19 (sI K r f_14 a_17 G19 ++ tx)) H → va_D A (xX K r f_14 a_17 G19 (sI K r f_14 a_17 G19 ++ tx)) → va_S A s.heap H locs → lv_has ls 3 [(2, .int y18), (0, .ref (r 1)), (1, .ref (r 95))] → W p l e (rmD 2 0 0) s m ([.ref (r 1), .ref (r 95)] : List Value).toArray below meth c H locs 0 0 (kQv D (tysK K) (fun (u : xS) => xI u.1 u.2.1 ∧ gOK K u.2.2.2 tt ∧ xEk [12, 13, 14, 832, 838, 844, 849, 850, 3040, 3046, 3052, 3057, 3058] f a g u.1 u.2.1 u.2.2 ∧ u.1 32 = f 3040 ∧ u.1 38 = f 3046 ∧ u.1 44 = f 3052 ∧ u.1 49 = f 3057 ∧ u.1 50 = f 3058) (fun u => xX K r u.1 u.2.1 u.2.2 (sI K r u.1 u.2.1 u.2.2 ++ tx)) A below ([.ref (r 1), .ref (r 95)] : List Value).toArray s 0 0) (F0 m 220 ls []) := by
    intro n21
    induction n21 with
    | zero =>
      intro  G19  H locs ls y18 hmlp20 hI hG hE hk0 hk1 hk2 b22 hP hD hS hl
      exact (by have h1 := b22.2; have h2 := hmlp20; omega : False).elim
    | succ n21 ihlp20 =>
      intro  G19  H locs ls y18 hmlp20 hI hG hE hk0 hk1 hk2 b22 hP hD hS hl
      refine lv_iload_n hx hb dX7_copyFrom_220 rfl (lv_at hl 0 rfl) ?_
      refine lv_bipush (v := 6) hx hb dX7_copyFrom_221 (by decide) ?_
      refine lv_icmp_ge (tgt := 244) hx hb dX7_copyFrom_223 (by decide) (fun c23 => ?_) (fun c23 => ?_)
      · have h24 := (kc_le c23)
        have b25 : kb 6 y18 6 := kr_le2 h24 kc_6 b22
        refine lv_aload_n hx hb dX7_copyFrom_244 rfl (lv_at hl 1 rfl) ?_
        refine lv_aload_n hx hb dX7_copyFrom_245 rfl (lv_at hl 2 rfl) ?_
        refine va_get (D := D) (ci := 7) (v := .int (f_14 3057)) (C := RX7) (T := TX7) (N := 20) hx hb hg inC7 hown hK hP 95 rfl rfl 17 (by decide) (hg _ wt1_149) (fun _ h9 => h9) rfl dX7_copyFrom_246 ?_
        refine k_top (z := s3057) ((show f_14 3057 = f_8 3057 from by rw [← ef_14]; rfl).trans ((show f_8 3057 = f_2 3057 from by rw [← ef_8]; rfl).trans ((show f_2 3057 = f 3057 from by rw [← ef_2]; rfl).trans es3057.symm))) ?_
        refine va_put (D := D) (ci := 7) (v := .int s3057) (ty := .int) (C := RX7) (T := TX7) (N := 20) hx hb hg inC7 tyX7 tyX7_ok nmX7 hown hK hP hD hS 1 rfl rfl 17 (by decide) (hg _ wt1_149) (fun _ h9 => h9) rfl (by decide +kernel) rfl rfl (Nat.le_of_ble_eq_true rfl) dX7_copyFrom_249 (fun H locs hP hD hS => ?_)
        have hP : va_P D vwCl (xX K r (upd f_14 49 s3057) a_17 G19 (sI K r (upd f_14 49 s3057) a_17 G19 ++ tx)) H := hP
        have hD : va_D A (xX K r (upd f_14 49 s3057) a_17 G19 (sI K r (upd f_14 49 s3057) a_17 G19 ++ tx)) := hD
        refine k_gen (P := fun z => va_P D vwCl (xX K r z a_17 G19 (sI K r z a_17 G19 ++ tx)) H ∧ va_D A (xX K r z a_17 G19 (sI K r z a_17 G19 ++ tx)) ∧ (xI z a_17) ∧ (gOK K G19.2 tt) ∧ (xEk [12, 13, 14, 832, 838, 844, 849, 850, 3040, 3046, 3052, 3057, 3058] f a g z a_17 G19) ∧ (z 32 = f 3040) ∧ (z 38 = f 3046) ∧ (z 44 = f 3052)) (upd f_14 49 s3057) ⟨hP, hD, (xI_f hI (fI_st hI.1 49 (kb_any _) (by decide) (by decide))), hG, (xEk_f hE (by decide)), ((pk_un (by decide)).trans hk0), ((pk_un (by decide)).trans hk1), ((pk_un (by decide)).trans hk2)⟩ (fun f_26 ef_26 hq => ?_)
        obtain ⟨hP, hD, hI, hG, hE, hk0, hk1, hk2⟩ := hq
        refine lv_aload_n hx hb dX7_copyFrom_252 rfl (lv_at hl 1 rfl) ?_
        refine lv_aload_n hx hb dX7_copyFrom_253 rfl (lv_at hl 2 rfl) ?_
        refine va_get (D := D) (ci := 7) (v := .int (f_26 3058)) (C := RX7) (T := TX7) (N := 20) hx hb hg inC7 hown hK hP 95 rfl rfl 18 (by decide) (hg _ wt1_151) (fun _ h9 => h9) rfl dX7_copyFrom_254 ?_
        refine k_top (z := s3058) ((show f_26 3058 = f_14 3058 from by rw [← ef_26]; rfl).trans ((show f_14 3058 = f_8 3058 from by rw [← ef_14]; rfl).trans ((show f_8 3058 = f_2 3058 from by rw [← ef_8]; rfl).trans ((show f_2 3058 = f 3058 from by rw [← ef_2]; rfl).trans es3058.symm)))) ?_
        refine va_put (D := D) (ci := 7) (v := .int s3058) (ty := .int) (C := RX7) (T := TX7) (N := 20) hx hb hg inC7 tyX7 tyX7_ok nmX7 hown hK hP hD hS 1 rfl rfl 18 (by decide) (hg _ wt1_151) (fun _ h9 => h9) rfl (by decide +kernel) rfl rfl (Nat.le_of_ble_eq_true rfl) dX7_copyFrom_257 (fun H locs hP hD hS => ?_)
        have hP : va_P D vwCl (xX K r (upd f_26 50 s3058) a_17 G19 (sI K r (upd f_26 50 s3058) a_17 G19 ++ tx)) H := hP
        have hD : va_D A (xX K r (upd f_26 50 s3058) a_17 G19 (sI K r (upd f_26 50 s3058) a_17 G19 ++ tx)) := hD
        refine k_gen (P := fun z => va_P D vwCl (xX K r z a_17 G19 (sI K r z a_17 G19 ++ tx)) H ∧ va_D A (xX K r z a_17 G19 (sI K r z a_17 G19 ++ tx)) ∧ (xI z a_17) ∧ (gOK K G19.2 tt) ∧ (xEk [12, 13, 14, 832, 838, 844, 849, 850, 3040, 3046, 3052, 3057, 3058] f a g z a_17 G19) ∧ (z 32 = f 3040) ∧ (z 38 = f 3046) ∧ (z 44 = f 3052)) (upd f_26 50 s3058) ⟨hP, hD, (xI_f hI (fI_st hI.1 50 (kb_any _) (by decide) (by decide))), hG, (xEk_f hE (by decide)), ((pk_un (by decide)).trans hk0), ((pk_un (by decide)).trans hk1), ((pk_un (by decide)).trans hk2)⟩ (fun f_27 ef_27 hq => ?_)
        obtain ⟨hP, hD, hI, hG, hE, hk0, hk1, hk2⟩ := hq
        exact kV_ret hx hb hr hlocks hK hS dX7_copyFrom_260 (f_27, a_17, G19) hP hD ⟨hI, hG, hE, hk0, hk1, hk2, ((((show f_27 49 = f_26 49 from by rw [← ef_27]; rfl).trans (show f_26 49 = s3057 from by rw [← ef_26]; rfl))).trans es3057), (((show f_27 50 = s3058 from by rw [← ef_27]; rfl)).trans es3058)⟩
      · have h28 := (kc_nle c23)
        have b29 : kb 0 y18 5 := kr_lt1 h28 b22 kc_6 (by decide)
        refine lv_aload_n hx hb dX7_copyFrom_226 rfl (lv_at hl 1 rfl) ?_
        refine va_get (D := D) (ci := 7) (v := .ref (r 15)) (C := RX7) (T := TX7) (N := 20) hx hb hg inC7 hown hK hP 1 rfl rfl 16 (by decide) (hg _ wt1_147) (fun _ h9 => h9) rfl dX7_copyFrom_227 ?_
        refine lv_iload_n hx hb dX7_copyFrom_230 rfl (lv_at hl 0 rfl) ?_
        refine lv_aload_n hx hb dX7_copyFrom_231 rfl (lv_at hl 2 rfl) ?_
        refine va_get (D := D) (ci := 7) (v := .ref (r 109)) (C := RX7) (T := TX7) (N := 20) hx hb hg inC7 hown hK hP 95 rfl rfl 16 (by decide) (hg _ wt1_147) (fun _ h9 => h9) rfl dX7_copyFrom_232 ?_
        refine lv_iload_n hx hb dX7_copyFrom_235 rfl (lv_at hl 0 rfl) ?_
        refine va_aldq hx hb hK hP 109 5 rfl rfl (kb_in b29 (by decide) (by decide)) dX7_copyFrom_236 ?_
        rcases hG 109 (y18.toNatClampNeg) (by decide) with hn31 | hn31
        · refine k_topn hn31 ?_
          refine va_astqN hx hb hK hP hD hS 15 5 rfl rfl (kb_in b29 (by decide) (by decide)) dX7_copyFrom_237 (fun H locs hP hD hS => ?_)
          have hP : va_P D vwCl (xX K r f_14 a_17 (G19.1, va_up G19.2 15 (va_up (G19.2 15) y18.toNatClampNeg none)) (sI K r f_14 a_17 (G19.1, va_up G19.2 15 (va_up (G19.2 15) y18.toNatClampNeg none)) ++ tx)) H := hP
          have hD : va_D A (xX K r f_14 a_17 (G19.1, va_up G19.2 15 (va_up (G19.2 15) y18.toNatClampNeg none)) (sI K r f_14 a_17 (G19.1, va_up G19.2 15 (va_up (G19.2 15) y18.toNatClampNeg none)) ++ tx)) := hD
          refine k_gen (P := fun z => va_P D vwCl (xX K r f_14 a_17 z (sI K r f_14 a_17 z ++ tx)) H ∧ va_D A (xX K r f_14 a_17 z (sI K r f_14 a_17 z ++ tx)) ∧ (xI f_14 a_17) ∧ (gOK K z.2 tt) ∧ (xEk [12, 13, 14, 832, 838, 844, 849, 850, 3040, 3046, 3052, 3057, 3058] f a g f_14 a_17 z) ∧ (f_14 32 = f 3040) ∧ (f_14 38 = f 3046) ∧ (f_14 44 = f 3052)) ((G19.1, va_up G19.2 15 (va_up (G19.2 15) y18.toNatClampNeg none))) ⟨hP, hD, hI, (gOK_n hG _ _ _ (Or.inl rfl)), (xEk_q hE (by decide)), hk0, hk1, hk2⟩ (fun g_32 eg_32 hq => ?_)
          obtain ⟨hP, hD, hI, hG, hE, hk0, hk1, hk2⟩ := hq
          obtain ⟨t33, et33⟩ : ∃ z : Int32, z = y18 + Int32.ofInt 1 := ⟨_, rfl⟩
          have qt33 : t33.toInt = y18.toInt + 1 := by rw [et33]; exact km_inc b29 (by decide) (by decide)
          have b34 : kb 1 t33 6 := kb_inc (k := 1) qt33 b29
          refine lv_iinc (v := t33) (lv' := [(2, .int t33), (0, .ref (r 1)), (1, .ref (r 95))]) hx hb dX7_copyFrom_238 hl (k := 0) rfl et33.symm (by decide) rfl (fun ls hl => ?_)
          refine lv_goto (tgt := 220) hx hb dX7_copyFrom_241 (by decide) ?_
          exact ihlp20  g_32 _ _ _ t33 (km_up hmlp20 qt33) hI hG hE hk0 hk1 hk2 (kb_w b34 (by decide) (by decide)) hP hD hS (lv_sub hl [0, 1, 2] rfl)
        · obtain ⟨t30, ht30, hn31⟩ := hn31
          refine k_tops hn31 ?_
          obtain ⟨jt30_0, hjt30_0⟩ := tIn_at (tIn_w hT ht30) (k := 0) rfl
          obtain ⟨jt30_1, hjt30_1⟩ := tIn_at (tIn_w hT ht30) (k := 1) rfl
          obtain ⟨jt30_2, hjt30_2⟩ := tIn_at (tIn_w hT ht30) (k := 2) rfl
          obtain ⟨jt30_3, hjt30_3⟩ := tIn_at (tIn_w hT ht30) (k := 3) rfl
          obtain ⟨jt30_4, hjt30_4⟩ := tIn_at (tIn_w hT ht30) (k := 4) rfl
          have hnt30 : (nI t30.2.2.2).toInt = (t30.2.2.2 : Int) := kn_to (by have w1 := ht30.1; omega)
          refine va_astq hx hb hK hP hD hS 15 5 (jt30_0 + 116) 10 rfl rfl hjt30_0 rfl (kb_in b29 (by decide) (by decide)) dX7_copyFrom_237 (fun H locs hP hD hS => ?_)
          have hP : va_P D vwCl (xX K r f_14 a_17 (G19.1, va_up G19.2 15 (va_up (G19.2 15) y18.toNatClampNeg (some (t30.1 0)))) (sI K r f_14 a_17 (G19.1, va_up G19.2 15 (va_up (G19.2 15) y18.toNatClampNeg (some (t30.1 0)))) ++ tx)) H := hP
          have hD : va_D A (xX K r f_14 a_17 (G19.1, va_up G19.2 15 (va_up (G19.2 15) y18.toNatClampNeg (some (t30.1 0)))) (sI K r f_14 a_17 (G19.1, va_up G19.2 15 (va_up (G19.2 15) y18.toNatClampNeg (some (t30.1 0)))) ++ tx)) := hD
          refine k_gen (P := fun z => va_P D vwCl (xX K r f_14 a_17 z (sI K r f_14 a_17 z ++ tx)) H ∧ va_D A (xX K r f_14 a_17 z (sI K r f_14 a_17 z ++ tx)) ∧ (xI f_14 a_17) ∧ (gOK K z.2 tt) ∧ (xEk [12, 13, 14, 832, 838, 844, 849, 850, 3040, 3046, 3052, 3057, 3058] f a g f_14 a_17 z) ∧ (f_14 32 = f 3040) ∧ (f_14 38 = f 3046) ∧ (f_14 44 = f 3052)) ((G19.1, va_up G19.2 15 (va_up (G19.2 15) y18.toNatClampNeg (some (t30.1 0))))) ⟨hP, hD, hI, (gOK_n hG _ _ _ (Or.inr ⟨_, ht30, rfl⟩)), (xEk_q hE (by decide)), hk0, hk1, hk2⟩ (fun g_35 eg_35 hq => ?_)
          obtain ⟨hP, hD, hI, hG, hE, hk0, hk1, hk2⟩ := hq
          obtain ⟨t36, et36⟩ : ∃ z : Int32, z = y18 + Int32.ofInt 1 := ⟨_, rfl⟩
          have qt36 : t36.toInt = y18.toInt + 1 := by rw [et36]; exact km_inc b29 (by decide) (by decide)
          have b37 : kb 1 t36 6 := kb_inc (k := 1) qt36 b29
          refine lv_iinc (v := t36) (lv' := [(2, .int t36), (0, .ref (r 1)), (1, .ref (r 95))]) hx hb dX7_copyFrom_238 hl (k := 0) rfl et36.symm (by decide) rfl (fun ls hl => ?_)
          refine lv_goto (tgt := 220) hx hb dX7_copyFrom_241 (by decide) ?_
          exact ihlp20  g_35 _ _ _ t36 (km_up hmlp20 qt36) hI hG hE hk0 hk1 hk2 (kb_w b37 (by decide) (by decide)) hP hD hS (lv_sub hl [0, 1, 2] rfl)
  exact lp20 (7)  g _ _ _ 0 (by have h1 := (kc_0); unfold kb at h1; omega) hI hG hE hk0 hk1 hk2 (kb_w kc_0 (by decide) (by decide)) hP hD hS (lv_sub hl [0, 1, 2] rfl)
