section XC
variable {E S D : Nat → Int32} {c d m n nn ix : Nat}
theorem cp_z (e : E = va_cpy S D c d m) (hc : c = 0) (hd : d = 0) (hm : m = n) : ∀ i, i < n → E i = S i := by
  intro i hi
  rw [e, pk_cpy_in (by omega) (by omega), hc, hd]
  congr 1
  omega
/-- one more reference of a copy -/
theorem rf_s {R R' S : Nat → Option Nat} {v : Option Nat} (h : ∀ i, i < nn → R i = S i) (e : ∀ i, R' i = va_up R ix v i) (hi : ix = nn) (hv : v = S nn) : ∀ i, i < nn + 1 → R' i = S i := by
  intro i h2
  rw [e i]
  unfold va_up
  by_cases q : i = ix
  · rw [if_pos q, q, hi]; exact hv
  · rw [if_neg q]; exact h i (by omega)
end XC
/-- a copied site -/
theorem sV_cp {o q o' q' : Nat} {f f' : Nat → Int32} {a a' : Nat → Nat → Int32} {k : Nat → Int32} (h : sV o q f a k) (f1 : f' o' = f o) (f2 : f' (o' + 6) = f (o + 6)) (f3 : f' (o' + 12) = f (o + 12)) (f4 : f' (o' + 17) = f (o + 17)) (f5 : f' (o' + 18) = f (o + 18)) (r0 : ∀ i, i < 10 → a' q' i = a q i) (r1 : ∀ i, i < 10 → a' (q' + 1) i = a (q + 1) i) (r2 : ∀ i, i < 10 → a' (q' + 2) i = a (q + 2) i) (r3 : ∀ i, i < 10 → a' (q' + 3) i = a (q + 3) i) (r4 : ∀ i, i < 10 → a' (q' + 4) i = a (q + 4) i) (r5 : ∀ i, i < 6 → a' (q' + 5) i = a (q + 5) i) (r6 : ∀ i, i < 6 → a' (q' + 6) i = a (q + 6) i) (r7 : ∀ i, i < 6 → a' (q' + 7) i = a (q + 7) i) (r8 : ∀ i, i < 6 → a' (q' + 8) i = a (q + 8) i) (r9 : ∀ i, i < 4 → a' (q' + 9) i = a (q + 9) i) (r10 : ∀ i, i < 8 → a' (q' + 10) i = a (q + 10) i) (r11 : ∀ i, i < 8 → a' (q' + 11) i = a (q + 11) i) (r12 : ∀ i, i < 8 → a' (q' + 12) i = a (q + 12) i) : sV o' q' f' a' k := by
  obtain ⟨⟨g1, g2, g3, g4, g5⟩, hA, hB, ⟨t0, t1, t2, t3⟩, hC⟩ := h
  refine ⟨⟨f1.trans g1, f2.trans g2, f3.trans g3, f4.trans g4, f5.trans g5⟩, fun j hj => ?_, fun j hj => ?_, ⟨(r9 0 (by decide)).trans t0, (r9 1 (by decide)).trans t1, (r9 2 (by decide)).trans t2, (r9 3 (by decide)).trans t3⟩, fun j hj => ?_⟩
  · have w := hA j hj
    exact ⟨(r0 j hj).trans w.1, (r1 j hj).trans w.2.1, (r2 j hj).trans w.2.2.1, (r3 j hj).trans w.2.2.2.1, (r4 j hj).trans w.2.2.2.2⟩
  · have w := hB j hj
    exact ⟨(r5 j hj).trans w.1, (r6 j hj).trans w.2.1, (r7 j hj).trans w.2.2.1, fun z => (r8 j hj).trans (w.2.2.2 z)⟩
  · have w := hC j hj
    exact ⟨(r10 j hj).trans w.1, (r11 j hj).trans w.2.1, (r12 j hj).trans w.2.2⟩
theorem xP_cp {kp kp' nx nx' : Int32} {R R' : Nat → Int32} {P : pS} {nb : Nat} (h : xPs kp nx R P nb) (e1 : kp' = kp) (e2 : nx' = nx) (e3 : ∀ i, i < 384 → R' i = R i) : xPs kp' nx' R' P nb := by
  obtain ⟨h1, h2, h3, h4, h5⟩ := h
  rw [e1, e2]
  refine ⟨h1, h2, h3, h4, fun j hj => eR_cg (h5 j hj) (fun q q1 q2 => e3 q (by omega))⟩
set_option maxHeartbeats 4000000 in
set_option maxRecDepth 100000 in
theorem z_copyFrom  (l : Launch) {D : va_G} {K : Nat → ClassId} (r : Nat → Nat) (f : Nat → Int32) (a : Nat → Nat → Int32) (g : xG) (tx tt : va_W) (hT : ∀ c ∈ tt, c ∈ tx) (hI : xI f a) (hG : gOK K g.2 tt)   (k : Nat → Int32) (hVw : sV 32 2 f a k) (hkk : kK k)   : kVG l yX7_copyFrom (Cond.code yX7_copyFrom cX7_copyFrom 3 none :: kG) (rmD 2 0 0) D K [.ref (r 26), .ref (r 1)] (xX K r f a g tx) (fun (u : xS) => xI u.1 u.2.1 ∧ gOK K u.2.2.2 tt ∧ xEk ([832, 838, 844, 849, 850], [27, 28, 29, 30, 31, 32, 33, 34, 35, 36, 37, 38, 39], [40]) f a g u.1 u.2.1 u.2.2 ∧ sV 832 27 u.1 u.2.1 k ∧ (∀ i, i < 6 → u.2.2.2 40 i = g.2 15 i)) (fun u => xX K r u.1 u.2.1 u.2.2 tx) 0 0 := by
  refine kVG.of (cc := cX7_copyFrom) (maxL := 3) (ret := none) (by decide) rfl (Nat.le_of_ble_eq_true rfl) ?_
  intro p e s m below meth c A hx hb hr hml hown hts hlocks hnm hK hP hD hS hA hV ls hl
  have hE : xEk ([832, 838, 844, 849, 850], [27, 28, 29, 30, 31, 32, 33, 34, 35, 36, 37, 38, 39], [40]) f a g f a g := xEk_rf
  have hg : ∀ w ∈ kG, w.before _ s = true := fun w h => hts w (List.mem_cons_of_mem _ h)
  have hown : s.vm.findClass RX7 = some m.cls := hown
  have hl : lv_has ls 3 [(0, .ref (r 26)), (1, .ref (r 1))] := hl
  obtain ⟨s32, es32⟩ : ∃ z : Int32, z = f 32 := ⟨_, rfl⟩
  have b1 : kb 0 s32 10 := kb_eq es32 (fI_at hI.1 32 (by decide) (by decide))
  obtain ⟨s38, es38⟩ : ∃ z : Int32, z = f 38 := ⟨_, rfl⟩
  obtain ⟨s44, es44⟩ : ∃ z : Int32, z = f 44 := ⟨_, rfl⟩
  obtain ⟨s49, es49⟩ : ∃ z : Int32, z = f 49 := ⟨_, rfl⟩
  obtain ⟨s50, es50⟩ : ∃ z : Int32, z = f 50 := ⟨_, rfl⟩
  refine lv_aload_n hx hb dX7_copyFrom_0 rfl (lv_at hl 0 rfl) ?_
  refine lv_aload_n hx hb dX7_copyFrom_1 rfl (lv_at hl 1 rfl) ?_
  refine va_get (D := D) (ci := 7) (v := .int (f 32)) (C := RX7) (T := TX7) (N := 20) hx hb hg inC7 hown hK hP 1 rfl rfl 0 (by decide) (hg _ wt1_79) (fun _ h9 => h9) rfl dX7_copyFrom_2 ?_
  refine k_top (z := s32) es32.symm ?_
  refine va_put (D := D) (ci := 7) (v := .int s32) (ty := .int) (C := RX7) (T := TX7) (N := 20) hx hb hg inC7 tyX7 tyX7_ok nmX7 hown hK hP hD hS 26 rfl rfl 0 (by decide) (hg _ wt1_79) (fun _ h9 => h9) rfl (by decide +kernel) rfl rfl (Nat.le_of_ble_eq_true rfl) dX7_copyFrom_5 (fun H locs hP hD hS => ?_)
  have hP : va_P D vwCl (xX K r (upd f 832 s32) a g tx) H := hP
  have hD : va_D A (xX K r (upd f 832 s32) a g tx) := hD
  refine k_gen (P := fun z => va_P D vwCl (xX K r z a g tx) H ∧ va_D A (xX K r z a g tx) ∧ (xI z a) ∧ (gOK K g.2 tt) ∧ (xEk ([832, 838, 844, 849, 850], [27, 28, 29, 30, 31, 32, 33, 34, 35, 36, 37, 38, 39], [40]) f a g z a g)) (upd f 832 s32) ⟨hP, hD, (xI_f hI (fI_st hI.1 832 b1 (by decide) (by decide))), hG, (xEk_f hE rfl)⟩ (fun f_2 ef_2 hq => ?_)
  obtain ⟨hP, hD, hI, hG, hE⟩ := hq
  refine lv_aload_n hx hb dX7_copyFrom_8 rfl (lv_at hl 1 rfl) ?_
  refine va_get (D := D) (ci := 7) (v := .ref (r 2)) (C := RX7) (T := TX7) (N := 20) hx hb hg inC7 hown hK hP 1 rfl rfl 1 (by decide) (hg _ wt1_86) (fun _ h9 => h9) rfl dX7_copyFrom_9 ?_
  refine lv_iconst (v := 0) hx hb dX7_copyFrom_12 (by decide) ?_
  refine lv_aload_n hx hb dX7_copyFrom_13 rfl (lv_at hl 0 rfl) ?_
  refine va_get (D := D) (ci := 7) (v := .ref (r 27)) (C := RX7) (T := TX7) (N := 20) hx hb hg inC7 hown hK hP 26 rfl rfl 1 (by decide) (hg _ wt1_86) (fun _ h9 => h9) rfl dX7_copyFrom_14 ?_
  refine lv_iconst (v := 0) hx hb dX7_copyFrom_17 (by decide) ?_
  refine lv_bipush (v := 10) hx hb dX7_copyFrom_18 (by decide) ?_
  refine va_copyi (ty := .int) hx hb (hml.trans hl.1.symm) hown (hg _ wt4_83) (hg _ wt4_70) (hg _ wt4_69) (hg _ wt1_20) hK hP hD hS 2 27 0 0 rfl rfl rfl rfl rfl (by decide) (by decide) (by decide) (by decide +kernel) (by decide +kernel) (fun i _ => rfl) (by decide) (Nat.le_of_ble_eq_true rfl) dX7_copyFrom_20 (fun H locs hP hD hS => ?_)
  have hP : va_P D vwCl (xX K r f_2 (va_up a 27 (va_cpy (a 2) (a 27) (0 : Int32).toNatClampNeg (0 : Int32).toNatClampNeg (10 : Int32).toNatClampNeg)) g tx) H := hP
  have hD : va_D A (xX K r f_2 (va_up a 27 (va_cpy (a 2) (a 27) (0 : Int32).toNatClampNeg (0 : Int32).toNatClampNeg (10 : Int32).toNatClampNeg)) g tx) := hD
  refine k_gen (P := fun z => va_P D vwCl (xX K r f_2 z g tx) H ∧ va_D A (xX K r f_2 z g tx) ∧ (xI f_2 z) ∧ (gOK K g.2 tt) ∧ (xEk ([832, 838, 844, 849, 850], [27, 28, 29, 30, 31, 32, 33, 34, 35, 36, 37, 38, 39], [40]) f a g f_2 z g)) (va_up a 27 (va_cpy (a 2) (a 27) (0 : Int32).toNatClampNeg (0 : Int32).toNatClampNeg (10 : Int32).toNatClampNeg)) ⟨hP, hD, (xI_a hI (by decide)), hG, (xEk_a hE rfl)⟩ (fun a_3 ea_3 hq => ?_)
  obtain ⟨hP, hD, hI, hG, hE⟩ := hq
  refine lv_aload_n hx hb dX7_copyFrom_23 rfl (lv_at hl 1 rfl) ?_
  refine va_get (D := D) (ci := 7) (v := .ref (r 3)) (C := RX7) (T := TX7) (N := 20) hx hb hg inC7 hown hK hP 1 rfl rfl 2 (by decide) (hg _ wt1_89) (fun _ h9 => h9) rfl dX7_copyFrom_24 ?_
  refine lv_iconst (v := 0) hx hb dX7_copyFrom_27 (by decide) ?_
  refine lv_aload_n hx hb dX7_copyFrom_28 rfl (lv_at hl 0 rfl) ?_
  refine va_get (D := D) (ci := 7) (v := .ref (r 28)) (C := RX7) (T := TX7) (N := 20) hx hb hg inC7 hown hK hP 26 rfl rfl 2 (by decide) (hg _ wt1_89) (fun _ h9 => h9) rfl dX7_copyFrom_29 ?_
  refine lv_iconst (v := 0) hx hb dX7_copyFrom_32 (by decide) ?_
  refine lv_bipush (v := 10) hx hb dX7_copyFrom_33 (by decide) ?_
  refine va_copyi (ty := .int) hx hb (hml.trans hl.1.symm) hown (hg _ wt4_83) (hg _ wt4_70) (hg _ wt4_69) (hg _ wt1_20) hK hP hD hS 3 28 0 0 rfl rfl rfl rfl rfl (by decide) (by decide) (by decide) (by decide +kernel) (by decide +kernel) (fun i _ => rfl) (by decide) (Nat.le_of_ble_eq_true rfl) dX7_copyFrom_35 (fun H locs hP hD hS => ?_)
  have hP : va_P D vwCl (xX K r f_2 (va_up a_3 28 (va_cpy (a_3 3) (a_3 28) (0 : Int32).toNatClampNeg (0 : Int32).toNatClampNeg (10 : Int32).toNatClampNeg)) g tx) H := hP
  have hD : va_D A (xX K r f_2 (va_up a_3 28 (va_cpy (a_3 3) (a_3 28) (0 : Int32).toNatClampNeg (0 : Int32).toNatClampNeg (10 : Int32).toNatClampNeg)) g tx) := hD
  refine k_gen (P := fun z => va_P D vwCl (xX K r f_2 z g tx) H ∧ va_D A (xX K r f_2 z g tx) ∧ (xI f_2 z) ∧ (gOK K g.2 tt) ∧ (xEk ([832, 838, 844, 849, 850], [27, 28, 29, 30, 31, 32, 33, 34, 35, 36, 37, 38, 39], [40]) f a g f_2 z g)) (va_up a_3 28 (va_cpy (a_3 3) (a_3 28) (0 : Int32).toNatClampNeg (0 : Int32).toNatClampNeg (10 : Int32).toNatClampNeg)) ⟨hP, hD, (xI_a hI (by decide)), hG, (xEk_a hE rfl)⟩ (fun a_4 ea_4 hq => ?_)
  obtain ⟨hP, hD, hI, hG, hE⟩ := hq
  refine lv_aload_n hx hb dX7_copyFrom_38 rfl (lv_at hl 1 rfl) ?_
  refine va_get (D := D) (ci := 7) (v := .ref (r 4)) (C := RX7) (T := TX7) (N := 20) hx hb hg inC7 hown hK hP 1 rfl rfl 3 (by decide) (hg _ wt1_93) (fun _ h9 => h9) rfl dX7_copyFrom_39 ?_
  refine lv_iconst (v := 0) hx hb dX7_copyFrom_42 (by decide) ?_
  refine lv_aload_n hx hb dX7_copyFrom_43 rfl (lv_at hl 0 rfl) ?_
  refine va_get (D := D) (ci := 7) (v := .ref (r 29)) (C := RX7) (T := TX7) (N := 20) hx hb hg inC7 hown hK hP 26 rfl rfl 3 (by decide) (hg _ wt1_93) (fun _ h9 => h9) rfl dX7_copyFrom_44 ?_
  refine lv_iconst (v := 0) hx hb dX7_copyFrom_47 (by decide) ?_
  refine lv_bipush (v := 10) hx hb dX7_copyFrom_48 (by decide) ?_
  refine va_copyi (ty := .int) hx hb (hml.trans hl.1.symm) hown (hg _ wt4_83) (hg _ wt4_70) (hg _ wt4_69) (hg _ wt1_20) hK hP hD hS 4 29 0 0 rfl rfl rfl rfl rfl (by decide) (by decide) (by decide) (by decide +kernel) (by decide +kernel) (fun i _ => rfl) (by decide) (Nat.le_of_ble_eq_true rfl) dX7_copyFrom_50 (fun H locs hP hD hS => ?_)
  have hP : va_P D vwCl (xX K r f_2 (va_up a_4 29 (va_cpy (a_4 4) (a_4 29) (0 : Int32).toNatClampNeg (0 : Int32).toNatClampNeg (10 : Int32).toNatClampNeg)) g tx) H := hP
  have hD : va_D A (xX K r f_2 (va_up a_4 29 (va_cpy (a_4 4) (a_4 29) (0 : Int32).toNatClampNeg (0 : Int32).toNatClampNeg (10 : Int32).toNatClampNeg)) g tx) := hD
  refine k_gen (P := fun z => va_P D vwCl (xX K r f_2 z g tx) H ∧ va_D A (xX K r f_2 z g tx) ∧ (xI f_2 z) ∧ (gOK K g.2 tt) ∧ (xEk ([832, 838, 844, 849, 850], [27, 28, 29, 30, 31, 32, 33, 34, 35, 36, 37, 38, 39], [40]) f a g f_2 z g)) (va_up a_4 29 (va_cpy (a_4 4) (a_4 29) (0 : Int32).toNatClampNeg (0 : Int32).toNatClampNeg (10 : Int32).toNatClampNeg)) ⟨hP, hD, (xI_a hI (by decide)), hG, (xEk_a hE rfl)⟩ (fun a_5 ea_5 hq => ?_)
  obtain ⟨hP, hD, hI, hG, hE⟩ := hq
  refine lv_aload_n hx hb dX7_copyFrom_53 rfl (lv_at hl 1 rfl) ?_
  refine va_get (D := D) (ci := 7) (v := .ref (r 5)) (C := RX7) (T := TX7) (N := 20) hx hb hg inC7 hown hK hP 1 rfl rfl 4 (by decide) (hg _ wt1_95) (fun _ h9 => h9) rfl dX7_copyFrom_54 ?_
  refine lv_iconst (v := 0) hx hb dX7_copyFrom_57 (by decide) ?_
  refine lv_aload_n hx hb dX7_copyFrom_58 rfl (lv_at hl 0 rfl) ?_
  refine va_get (D := D) (ci := 7) (v := .ref (r 30)) (C := RX7) (T := TX7) (N := 20) hx hb hg inC7 hown hK hP 26 rfl rfl 4 (by decide) (hg _ wt1_95) (fun _ h9 => h9) rfl dX7_copyFrom_59 ?_
  refine lv_iconst (v := 0) hx hb dX7_copyFrom_62 (by decide) ?_
  refine lv_bipush (v := 10) hx hb dX7_copyFrom_63 (by decide) ?_
  refine va_copyi (ty := .int) hx hb (hml.trans hl.1.symm) hown (hg _ wt4_83) (hg _ wt4_70) (hg _ wt4_69) (hg _ wt1_20) hK hP hD hS 5 30 0 0 rfl rfl rfl rfl rfl (by decide) (by decide) (by decide) (by decide +kernel) (by decide +kernel) (fun i _ => rfl) (by decide) (Nat.le_of_ble_eq_true rfl) dX7_copyFrom_65 (fun H locs hP hD hS => ?_)
  have hP : va_P D vwCl (xX K r f_2 (va_up a_5 30 (va_cpy (a_5 5) (a_5 30) (0 : Int32).toNatClampNeg (0 : Int32).toNatClampNeg (10 : Int32).toNatClampNeg)) g tx) H := hP
  have hD : va_D A (xX K r f_2 (va_up a_5 30 (va_cpy (a_5 5) (a_5 30) (0 : Int32).toNatClampNeg (0 : Int32).toNatClampNeg (10 : Int32).toNatClampNeg)) g tx) := hD
  refine k_gen (P := fun z => va_P D vwCl (xX K r f_2 z g tx) H ∧ va_D A (xX K r f_2 z g tx) ∧ (xI f_2 z) ∧ (gOK K g.2 tt) ∧ (xEk ([832, 838, 844, 849, 850], [27, 28, 29, 30, 31, 32, 33, 34, 35, 36, 37, 38, 39], [40]) f a g f_2 z g)) (va_up a_5 30 (va_cpy (a_5 5) (a_5 30) (0 : Int32).toNatClampNeg (0 : Int32).toNatClampNeg (10 : Int32).toNatClampNeg)) ⟨hP, hD, (xI_a hI (by decide)), hG, (xEk_a hE rfl)⟩ (fun a_6 ea_6 hq => ?_)
  obtain ⟨hP, hD, hI, hG, hE⟩ := hq
  refine lv_aload_n hx hb dX7_copyFrom_68 rfl (lv_at hl 1 rfl) ?_
  refine va_get (D := D) (ci := 7) (v := .ref (r 6)) (C := RX7) (T := TX7) (N := 20) hx hb hg inC7 hown hK hP 1 rfl rfl 5 (by decide) (hg _ wt1_97) (fun _ h9 => h9) rfl dX7_copyFrom_69 ?_
  refine lv_iconst (v := 0) hx hb dX7_copyFrom_72 (by decide) ?_
  refine lv_aload_n hx hb dX7_copyFrom_73 rfl (lv_at hl 0 rfl) ?_
  refine va_get (D := D) (ci := 7) (v := .ref (r 31)) (C := RX7) (T := TX7) (N := 20) hx hb hg inC7 hown hK hP 26 rfl rfl 5 (by decide) (hg _ wt1_97) (fun _ h9 => h9) rfl dX7_copyFrom_74 ?_
  refine lv_iconst (v := 0) hx hb dX7_copyFrom_77 (by decide) ?_
  refine lv_bipush (v := 10) hx hb dX7_copyFrom_78 (by decide) ?_
  refine va_copyi (ty := .int) hx hb (hml.trans hl.1.symm) hown (hg _ wt4_83) (hg _ wt4_70) (hg _ wt4_69) (hg _ wt1_20) hK hP hD hS 6 31 0 0 rfl rfl rfl rfl rfl (by decide) (by decide) (by decide) (by decide +kernel) (by decide +kernel) (fun i _ => rfl) (by decide) (Nat.le_of_ble_eq_true rfl) dX7_copyFrom_80 (fun H locs hP hD hS => ?_)
  have hP : va_P D vwCl (xX K r f_2 (va_up a_6 31 (va_cpy (a_6 6) (a_6 31) (0 : Int32).toNatClampNeg (0 : Int32).toNatClampNeg (10 : Int32).toNatClampNeg)) g tx) H := hP
  have hD : va_D A (xX K r f_2 (va_up a_6 31 (va_cpy (a_6 6) (a_6 31) (0 : Int32).toNatClampNeg (0 : Int32).toNatClampNeg (10 : Int32).toNatClampNeg)) g tx) := hD
  refine k_gen (P := fun z => va_P D vwCl (xX K r f_2 z g tx) H ∧ va_D A (xX K r f_2 z g tx) ∧ (xI f_2 z) ∧ (gOK K g.2 tt) ∧ (xEk ([832, 838, 844, 849, 850], [27, 28, 29, 30, 31, 32, 33, 34, 35, 36, 37, 38, 39], [40]) f a g f_2 z g)) (va_up a_6 31 (va_cpy (a_6 6) (a_6 31) (0 : Int32).toNatClampNeg (0 : Int32).toNatClampNeg (10 : Int32).toNatClampNeg)) ⟨hP, hD, (xI_a hI (by decide)), hG, (xEk_a hE rfl)⟩ (fun a_7 ea_7 hq => ?_)
  obtain ⟨hP, hD, hI, hG, hE⟩ := hq
  refine lv_aload_n hx hb dX7_copyFrom_83 rfl (lv_at hl 0 rfl) ?_
  refine lv_aload_n hx hb dX7_copyFrom_84 rfl (lv_at hl 1 rfl) ?_
  refine va_get (D := D) (ci := 7) (v := .int (f_2 38)) (C := RX7) (T := TX7) (N := 20) hx hb hg inC7 hown hK hP 1 rfl rfl 6 (by decide) (hg _ wt1_104) (fun _ h9 => h9) rfl dX7_copyFrom_85 ?_
  refine k_top (z := s38) ((show f_2 38 = f 38 from by rw [← ef_2]; rfl).trans es38.symm) ?_
  refine va_put (D := D) (ci := 7) (v := .int s38) (ty := .int) (C := RX7) (T := TX7) (N := 20) hx hb hg inC7 tyX7 tyX7_ok nmX7 hown hK hP hD hS 26 rfl rfl 6 (by decide) (hg _ wt1_104) (fun _ h9 => h9) rfl (by decide +kernel) rfl rfl (Nat.le_of_ble_eq_true rfl) dX7_copyFrom_88 (fun H locs hP hD hS => ?_)
  have hP : va_P D vwCl (xX K r (upd f_2 838 s38) a_7 g tx) H := hP
  have hD : va_D A (xX K r (upd f_2 838 s38) a_7 g tx) := hD
  refine k_gen (P := fun z => va_P D vwCl (xX K r z a_7 g tx) H ∧ va_D A (xX K r z a_7 g tx) ∧ (xI z a_7) ∧ (gOK K g.2 tt) ∧ (xEk ([832, 838, 844, 849, 850], [27, 28, 29, 30, 31, 32, 33, 34, 35, 36, 37, 38, 39], [40]) f a g z a_7 g)) (upd f_2 838 s38) ⟨hP, hD, (xI_f hI (fI_st hI.1 838 (kb_any _) (by decide) (by decide))), hG, (xEk_f hE rfl)⟩ (fun f_8 ef_8 hq => ?_)
  obtain ⟨hP, hD, hI, hG, hE⟩ := hq
  refine lv_aload_n hx hb dX7_copyFrom_91 rfl (lv_at hl 1 rfl) ?_
  refine va_get (D := D) (ci := 7) (v := .ref (r 7)) (C := RX7) (T := TX7) (N := 20) hx hb hg inC7 hown hK hP 1 rfl rfl 7 (by decide) (hg _ wt1_110) (fun _ h9 => h9) rfl dX7_copyFrom_92 ?_
  refine lv_iconst (v := 0) hx hb dX7_copyFrom_95 (by decide) ?_
  refine lv_aload_n hx hb dX7_copyFrom_96 rfl (lv_at hl 0 rfl) ?_
  refine va_get (D := D) (ci := 7) (v := .ref (r 32)) (C := RX7) (T := TX7) (N := 20) hx hb hg inC7 hown hK hP 26 rfl rfl 7 (by decide) (hg _ wt1_110) (fun _ h9 => h9) rfl dX7_copyFrom_97 ?_
  refine lv_iconst (v := 0) hx hb dX7_copyFrom_100 (by decide) ?_
  refine lv_bipush (v := 6) hx hb dX7_copyFrom_101 (by decide) ?_
  refine va_copyi (ty := .int) hx hb (hml.trans hl.1.symm) hown (hg _ wt4_83) (hg _ wt4_70) (hg _ wt4_69) (hg _ wt1_20) hK hP hD hS 7 32 0 0 rfl rfl rfl rfl rfl (by decide) (by decide) (by decide) (by decide +kernel) (by decide +kernel) (fun i _ => rfl) (by decide) (Nat.le_of_ble_eq_true rfl) dX7_copyFrom_103 (fun H locs hP hD hS => ?_)
  have hP : va_P D vwCl (xX K r f_8 (va_up a_7 32 (va_cpy (a_7 7) (a_7 32) (0 : Int32).toNatClampNeg (0 : Int32).toNatClampNeg (6 : Int32).toNatClampNeg)) g tx) H := hP
  have hD : va_D A (xX K r f_8 (va_up a_7 32 (va_cpy (a_7 7) (a_7 32) (0 : Int32).toNatClampNeg (0 : Int32).toNatClampNeg (6 : Int32).toNatClampNeg)) g tx) := hD
  refine k_gen (P := fun z => va_P D vwCl (xX K r f_8 z g tx) H ∧ va_D A (xX K r f_8 z g tx) ∧ (xI f_8 z) ∧ (gOK K g.2 tt) ∧ (xEk ([832, 838, 844, 849, 850], [27, 28, 29, 30, 31, 32, 33, 34, 35, 36, 37, 38, 39], [40]) f a g f_8 z g)) (va_up a_7 32 (va_cpy (a_7 7) (a_7 32) (0 : Int32).toNatClampNeg (0 : Int32).toNatClampNeg (6 : Int32).toNatClampNeg)) ⟨hP, hD, (xI_a hI (by decide)), hG, (xEk_a hE rfl)⟩ (fun a_9 ea_9 hq => ?_)
  obtain ⟨hP, hD, hI, hG, hE⟩ := hq
  refine lv_aload_n hx hb dX7_copyFrom_106 rfl (lv_at hl 1 rfl) ?_
  refine va_get (D := D) (ci := 7) (v := .ref (r 8)) (C := RX7) (T := TX7) (N := 20) hx hb hg inC7 hown hK hP 1 rfl rfl 8 (by decide) (hg _ wt1_114) (fun _ h9 => h9) rfl dX7_copyFrom_107 ?_
  refine lv_iconst (v := 0) hx hb dX7_copyFrom_110 (by decide) ?_
  refine lv_aload_n hx hb dX7_copyFrom_111 rfl (lv_at hl 0 rfl) ?_
  refine va_get (D := D) (ci := 7) (v := .ref (r 33)) (C := RX7) (T := TX7) (N := 20) hx hb hg inC7 hown hK hP 26 rfl rfl 8 (by decide) (hg _ wt1_114) (fun _ h9 => h9) rfl dX7_copyFrom_112 ?_
  refine lv_iconst (v := 0) hx hb dX7_copyFrom_115 (by decide) ?_
  refine lv_bipush (v := 6) hx hb dX7_copyFrom_116 (by decide) ?_
  refine va_copyi (ty := .int) hx hb (hml.trans hl.1.symm) hown (hg _ wt4_83) (hg _ wt4_70) (hg _ wt4_69) (hg _ wt1_20) hK hP hD hS 8 33 0 0 rfl rfl rfl rfl rfl (by decide) (by decide) (by decide) (by decide +kernel) (by decide +kernel) (fun i _ => rfl) (by decide) (Nat.le_of_ble_eq_true rfl) dX7_copyFrom_118 (fun H locs hP hD hS => ?_)
  have hP : va_P D vwCl (xX K r f_8 (va_up a_9 33 (va_cpy (a_9 8) (a_9 33) (0 : Int32).toNatClampNeg (0 : Int32).toNatClampNeg (6 : Int32).toNatClampNeg)) g tx) H := hP
  have hD : va_D A (xX K r f_8 (va_up a_9 33 (va_cpy (a_9 8) (a_9 33) (0 : Int32).toNatClampNeg (0 : Int32).toNatClampNeg (6 : Int32).toNatClampNeg)) g tx) := hD
  refine k_gen (P := fun z => va_P D vwCl (xX K r f_8 z g tx) H ∧ va_D A (xX K r f_8 z g tx) ∧ (xI f_8 z) ∧ (gOK K g.2 tt) ∧ (xEk ([832, 838, 844, 849, 850], [27, 28, 29, 30, 31, 32, 33, 34, 35, 36, 37, 38, 39], [40]) f a g f_8 z g)) (va_up a_9 33 (va_cpy (a_9 8) (a_9 33) (0 : Int32).toNatClampNeg (0 : Int32).toNatClampNeg (6 : Int32).toNatClampNeg)) ⟨hP, hD, (xI_a hI (by decide)), hG, (xEk_a hE rfl)⟩ (fun a_10 ea_10 hq => ?_)
  obtain ⟨hP, hD, hI, hG, hE⟩ := hq
  refine lv_aload_n hx hb dX7_copyFrom_121 rfl (lv_at hl 1 rfl) ?_
  refine va_get (D := D) (ci := 7) (v := .ref (r 9)) (C := RX7) (T := TX7) (N := 20) hx hb hg inC7 hown hK hP 1 rfl rfl 9 (by decide) (hg _ wt1_116) (fun _ h9 => h9) rfl dX7_copyFrom_122 ?_
  refine lv_iconst (v := 0) hx hb dX7_copyFrom_125 (by decide) ?_
  refine lv_aload_n hx hb dX7_copyFrom_126 rfl (lv_at hl 0 rfl) ?_
  refine va_get (D := D) (ci := 7) (v := .ref (r 34)) (C := RX7) (T := TX7) (N := 20) hx hb hg inC7 hown hK hP 26 rfl rfl 9 (by decide) (hg _ wt1_116) (fun _ h9 => h9) rfl dX7_copyFrom_127 ?_
  refine lv_iconst (v := 0) hx hb dX7_copyFrom_130 (by decide) ?_
  refine lv_bipush (v := 6) hx hb dX7_copyFrom_131 (by decide) ?_
  refine va_copyi (ty := .int) hx hb (hml.trans hl.1.symm) hown (hg _ wt4_83) (hg _ wt4_70) (hg _ wt4_69) (hg _ wt1_20) hK hP hD hS 9 34 0 0 rfl rfl rfl rfl rfl (by decide) (by decide) (by decide) (by decide +kernel) (by decide +kernel) (fun i _ => rfl) (by decide) (Nat.le_of_ble_eq_true rfl) dX7_copyFrom_133 (fun H locs hP hD hS => ?_)
  have hP : va_P D vwCl (xX K r f_8 (va_up a_10 34 (va_cpy (a_10 9) (a_10 34) (0 : Int32).toNatClampNeg (0 : Int32).toNatClampNeg (6 : Int32).toNatClampNeg)) g tx) H := hP
  have hD : va_D A (xX K r f_8 (va_up a_10 34 (va_cpy (a_10 9) (a_10 34) (0 : Int32).toNatClampNeg (0 : Int32).toNatClampNeg (6 : Int32).toNatClampNeg)) g tx) := hD
  refine k_gen (P := fun z => va_P D vwCl (xX K r f_8 z g tx) H ∧ va_D A (xX K r f_8 z g tx) ∧ (xI f_8 z) ∧ (gOK K g.2 tt) ∧ (xEk ([832, 838, 844, 849, 850], [27, 28, 29, 30, 31, 32, 33, 34, 35, 36, 37, 38, 39], [40]) f a g f_8 z g)) (va_up a_10 34 (va_cpy (a_10 9) (a_10 34) (0 : Int32).toNatClampNeg (0 : Int32).toNatClampNeg (6 : Int32).toNatClampNeg)) ⟨hP, hD, (xI_a hI (by decide)), hG, (xEk_a hE rfl)⟩ (fun a_11 ea_11 hq => ?_)
  obtain ⟨hP, hD, hI, hG, hE⟩ := hq
  refine lv_aload_n hx hb dX7_copyFrom_136 rfl (lv_at hl 1 rfl) ?_
  refine va_get (D := D) (ci := 7) (v := .ref (r 10)) (C := RX7) (T := TX7) (N := 20) hx hb hg inC7 hown hK hP 1 rfl rfl 10 (by decide) (hg _ wt1_121) (fun _ h9 => h9) rfl dX7_copyFrom_137 ?_
  refine lv_iconst (v := 0) hx hb dX7_copyFrom_140 (by decide) ?_
  refine lv_aload_n hx hb dX7_copyFrom_141 rfl (lv_at hl 0 rfl) ?_
  refine va_get (D := D) (ci := 7) (v := .ref (r 35)) (C := RX7) (T := TX7) (N := 20) hx hb hg inC7 hown hK hP 26 rfl rfl 10 (by decide) (hg _ wt1_121) (fun _ h9 => h9) rfl dX7_copyFrom_142 ?_
  refine lv_iconst (v := 0) hx hb dX7_copyFrom_145 (by decide) ?_
  refine lv_bipush (v := 6) hx hb dX7_copyFrom_146 (by decide) ?_
  refine va_copyi (ty := .int) hx hb (hml.trans hl.1.symm) hown (hg _ wt4_83) (hg _ wt4_70) (hg _ wt4_69) (hg _ wt1_20) hK hP hD hS 10 35 0 0 rfl rfl rfl rfl rfl (by decide) (by decide) (by decide) (by decide +kernel) (by decide +kernel) (fun i _ => rfl) (by decide) (Nat.le_of_ble_eq_true rfl) dX7_copyFrom_148 (fun H locs hP hD hS => ?_)
  have hP : va_P D vwCl (xX K r f_8 (va_up a_11 35 (va_cpy (a_11 10) (a_11 35) (0 : Int32).toNatClampNeg (0 : Int32).toNatClampNeg (6 : Int32).toNatClampNeg)) g tx) H := hP
  have hD : va_D A (xX K r f_8 (va_up a_11 35 (va_cpy (a_11 10) (a_11 35) (0 : Int32).toNatClampNeg (0 : Int32).toNatClampNeg (6 : Int32).toNatClampNeg)) g tx) := hD
  refine k_gen (P := fun z => va_P D vwCl (xX K r f_8 z g tx) H ∧ va_D A (xX K r f_8 z g tx) ∧ (xI f_8 z) ∧ (gOK K g.2 tt) ∧ (xEk ([832, 838, 844, 849, 850], [27, 28, 29, 30, 31, 32, 33, 34, 35, 36, 37, 38, 39], [40]) f a g f_8 z g)) (va_up a_11 35 (va_cpy (a_11 10) (a_11 35) (0 : Int32).toNatClampNeg (0 : Int32).toNatClampNeg (6 : Int32).toNatClampNeg)) ⟨hP, hD, (xI_a hI (by decide)), hG, (xEk_a hE rfl)⟩ (fun a_12 ea_12 hq => ?_)
  obtain ⟨hP, hD, hI, hG, hE⟩ := hq
  refine lv_aload_n hx hb dX7_copyFrom_151 rfl (lv_at hl 1 rfl) ?_
  refine va_get (D := D) (ci := 7) (v := .ref (r 11)) (C := RX7) (T := TX7) (N := 20) hx hb hg inC7 hown hK hP 1 rfl rfl 11 (by decide) (hg _ wt1_127) (fun _ h9 => h9) rfl dX7_copyFrom_152 ?_
  refine lv_iconst (v := 0) hx hb dX7_copyFrom_155 (by decide) ?_
  refine lv_aload_n hx hb dX7_copyFrom_156 rfl (lv_at hl 0 rfl) ?_
  refine va_get (D := D) (ci := 7) (v := .ref (r 36)) (C := RX7) (T := TX7) (N := 20) hx hb hg inC7 hown hK hP 26 rfl rfl 11 (by decide) (hg _ wt1_127) (fun _ h9 => h9) rfl dX7_copyFrom_157 ?_
  refine lv_iconst (v := 0) hx hb dX7_copyFrom_160 (by decide) ?_
  refine lv_iconst (v := 4) hx hb dX7_copyFrom_161 (by decide) ?_
  refine va_copyi (ty := .int) hx hb (hml.trans hl.1.symm) hown (hg _ wt4_83) (hg _ wt4_70) (hg _ wt4_69) (hg _ wt1_20) hK hP hD hS 11 36 0 0 rfl rfl rfl rfl rfl (by decide) (by decide) (by decide) (by decide +kernel) (by decide +kernel) (fun i _ => rfl) (by decide) (Nat.le_of_ble_eq_true rfl) dX7_copyFrom_162 (fun H locs hP hD hS => ?_)
  have hP : va_P D vwCl (xX K r f_8 (va_up a_12 36 (va_cpy (a_12 11) (a_12 36) (0 : Int32).toNatClampNeg (0 : Int32).toNatClampNeg (4 : Int32).toNatClampNeg)) g tx) H := hP
  have hD : va_D A (xX K r f_8 (va_up a_12 36 (va_cpy (a_12 11) (a_12 36) (0 : Int32).toNatClampNeg (0 : Int32).toNatClampNeg (4 : Int32).toNatClampNeg)) g tx) := hD
  refine k_gen (P := fun z => va_P D vwCl (xX K r f_8 z g tx) H ∧ va_D A (xX K r f_8 z g tx) ∧ (xI f_8 z) ∧ (gOK K g.2 tt) ∧ (xEk ([832, 838, 844, 849, 850], [27, 28, 29, 30, 31, 32, 33, 34, 35, 36, 37, 38, 39], [40]) f a g f_8 z g)) (va_up a_12 36 (va_cpy (a_12 11) (a_12 36) (0 : Int32).toNatClampNeg (0 : Int32).toNatClampNeg (4 : Int32).toNatClampNeg)) ⟨hP, hD, (xI_a hI (by decide)), hG, (xEk_a hE rfl)⟩ (fun a_13 ea_13 hq => ?_)
  obtain ⟨hP, hD, hI, hG, hE⟩ := hq
  refine lv_aload_n hx hb dX7_copyFrom_165 rfl (lv_at hl 0 rfl) ?_
  refine lv_aload_n hx hb dX7_copyFrom_166 rfl (lv_at hl 1 rfl) ?_
  refine va_get (D := D) (ci := 7) (v := .int (f_8 44)) (C := RX7) (T := TX7) (N := 20) hx hb hg inC7 hown hK hP 1 rfl rfl 12 (by decide) (hg _ wt1_135) (fun _ h9 => h9) rfl dX7_copyFrom_167 ?_
  refine k_top (z := s44) ((show f_8 44 = f_2 44 from by rw [← ef_8]; rfl).trans ((show f_2 44 = f 44 from by rw [← ef_2]; rfl).trans es44.symm)) ?_
  refine va_put (D := D) (ci := 7) (v := .int s44) (ty := .int) (C := RX7) (T := TX7) (N := 20) hx hb hg inC7 tyX7 tyX7_ok nmX7 hown hK hP hD hS 26 rfl rfl 12 (by decide) (hg _ wt1_135) (fun _ h9 => h9) rfl (by decide +kernel) rfl rfl (Nat.le_of_ble_eq_true rfl) dX7_copyFrom_170 (fun H locs hP hD hS => ?_)
  have hP : va_P D vwCl (xX K r (upd f_8 844 s44) a_13 g tx) H := hP
  have hD : va_D A (xX K r (upd f_8 844 s44) a_13 g tx) := hD
  refine k_gen (P := fun z => va_P D vwCl (xX K r z a_13 g tx) H ∧ va_D A (xX K r z a_13 g tx) ∧ (xI z a_13) ∧ (gOK K g.2 tt) ∧ (xEk ([832, 838, 844, 849, 850], [27, 28, 29, 30, 31, 32, 33, 34, 35, 36, 37, 38, 39], [40]) f a g z a_13 g)) (upd f_8 844 s44) ⟨hP, hD, (xI_f hI (fI_st hI.1 844 (kb_any _) (by decide) (by decide))), hG, (xEk_f hE rfl)⟩ (fun f_14 ef_14 hq => ?_)
  obtain ⟨hP, hD, hI, hG, hE⟩ := hq
  refine lv_aload_n hx hb dX7_copyFrom_173 rfl (lv_at hl 1 rfl) ?_
  refine va_get (D := D) (ci := 7) (v := .ref (r 12)) (C := RX7) (T := TX7) (N := 20) hx hb hg inC7 hown hK hP 1 rfl rfl 13 (by decide) (hg _ wt1_138) (fun _ h9 => h9) rfl dX7_copyFrom_174 ?_
  refine lv_iconst (v := 0) hx hb dX7_copyFrom_177 (by decide) ?_
  refine lv_aload_n hx hb dX7_copyFrom_178 rfl (lv_at hl 0 rfl) ?_
  refine va_get (D := D) (ci := 7) (v := .ref (r 37)) (C := RX7) (T := TX7) (N := 20) hx hb hg inC7 hown hK hP 26 rfl rfl 13 (by decide) (hg _ wt1_138) (fun _ h9 => h9) rfl dX7_copyFrom_179 ?_
  refine lv_iconst (v := 0) hx hb dX7_copyFrom_182 (by decide) ?_
  refine lv_bipush (v := 8) hx hb dX7_copyFrom_183 (by decide) ?_
  refine va_copyi (ty := .int) hx hb (hml.trans hl.1.symm) hown (hg _ wt4_83) (hg _ wt4_70) (hg _ wt4_69) (hg _ wt1_20) hK hP hD hS 12 37 0 0 rfl rfl rfl rfl rfl (by decide) (by decide) (by decide) (by decide +kernel) (by decide +kernel) (fun i _ => rfl) (by decide) (Nat.le_of_ble_eq_true rfl) dX7_copyFrom_185 (fun H locs hP hD hS => ?_)
  have hP : va_P D vwCl (xX K r f_14 (va_up a_13 37 (va_cpy (a_13 12) (a_13 37) (0 : Int32).toNatClampNeg (0 : Int32).toNatClampNeg (8 : Int32).toNatClampNeg)) g tx) H := hP
  have hD : va_D A (xX K r f_14 (va_up a_13 37 (va_cpy (a_13 12) (a_13 37) (0 : Int32).toNatClampNeg (0 : Int32).toNatClampNeg (8 : Int32).toNatClampNeg)) g tx) := hD
  refine k_gen (P := fun z => va_P D vwCl (xX K r f_14 z g tx) H ∧ va_D A (xX K r f_14 z g tx) ∧ (xI f_14 z) ∧ (gOK K g.2 tt) ∧ (xEk ([832, 838, 844, 849, 850], [27, 28, 29, 30, 31, 32, 33, 34, 35, 36, 37, 38, 39], [40]) f a g f_14 z g)) (va_up a_13 37 (va_cpy (a_13 12) (a_13 37) (0 : Int32).toNatClampNeg (0 : Int32).toNatClampNeg (8 : Int32).toNatClampNeg)) ⟨hP, hD, (xI_a hI (by decide)), hG, (xEk_a hE rfl)⟩ (fun a_15 ea_15 hq => ?_)
  obtain ⟨hP, hD, hI, hG, hE⟩ := hq
  refine lv_aload_n hx hb dX7_copyFrom_188 rfl (lv_at hl 1 rfl) ?_
  refine va_get (D := D) (ci := 7) (v := .ref (r 13)) (C := RX7) (T := TX7) (N := 20) hx hb hg inC7 hown hK hP 1 rfl rfl 14 (by decide) (hg _ wt1_141) (fun _ h9 => h9) rfl dX7_copyFrom_189 ?_
  refine lv_iconst (v := 0) hx hb dX7_copyFrom_192 (by decide) ?_
  refine lv_aload_n hx hb dX7_copyFrom_193 rfl (lv_at hl 0 rfl) ?_
  refine va_get (D := D) (ci := 7) (v := .ref (r 38)) (C := RX7) (T := TX7) (N := 20) hx hb hg inC7 hown hK hP 26 rfl rfl 14 (by decide) (hg _ wt1_141) (fun _ h9 => h9) rfl dX7_copyFrom_194 ?_
  refine lv_iconst (v := 0) hx hb dX7_copyFrom_197 (by decide) ?_
  refine lv_bipush (v := 8) hx hb dX7_copyFrom_198 (by decide) ?_
  refine va_copyi (ty := .int) hx hb (hml.trans hl.1.symm) hown (hg _ wt4_83) (hg _ wt4_70) (hg _ wt4_69) (hg _ wt1_20) hK hP hD hS 13 38 0 0 rfl rfl rfl rfl rfl (by decide) (by decide) (by decide) (by decide +kernel) (by decide +kernel) (fun i _ => rfl) (by decide) (Nat.le_of_ble_eq_true rfl) dX7_copyFrom_200 (fun H locs hP hD hS => ?_)
  have hP : va_P D vwCl (xX K r f_14 (va_up a_15 38 (va_cpy (a_15 13) (a_15 38) (0 : Int32).toNatClampNeg (0 : Int32).toNatClampNeg (8 : Int32).toNatClampNeg)) g tx) H := hP
  have hD : va_D A (xX K r f_14 (va_up a_15 38 (va_cpy (a_15 13) (a_15 38) (0 : Int32).toNatClampNeg (0 : Int32).toNatClampNeg (8 : Int32).toNatClampNeg)) g tx) := hD
  refine k_gen (P := fun z => va_P D vwCl (xX K r f_14 z g tx) H ∧ va_D A (xX K r f_14 z g tx) ∧ (xI f_14 z) ∧ (gOK K g.2 tt) ∧ (xEk ([832, 838, 844, 849, 850], [27, 28, 29, 30, 31, 32, 33, 34, 35, 36, 37, 38, 39], [40]) f a g f_14 z g)) (va_up a_15 38 (va_cpy (a_15 13) (a_15 38) (0 : Int32).toNatClampNeg (0 : Int32).toNatClampNeg (8 : Int32).toNatClampNeg)) ⟨hP, hD, (xI_a hI (by decide)), hG, (xEk_a hE rfl)⟩ (fun a_16 ea_16 hq => ?_)
  obtain ⟨hP, hD, hI, hG, hE⟩ := hq
  refine lv_aload_n hx hb dX7_copyFrom_203 rfl (lv_at hl 1 rfl) ?_
  refine va_get (D := D) (ci := 7) (v := .ref (r 14)) (C := RX7) (T := TX7) (N := 20) hx hb hg inC7 hown hK hP 1 rfl rfl 15 (by decide) (hg _ wt1_144) (fun _ h9 => h9) rfl dX7_copyFrom_204 ?_
  refine lv_iconst (v := 0) hx hb dX7_copyFrom_207 (by decide) ?_
  refine lv_aload_n hx hb dX7_copyFrom_208 rfl (lv_at hl 0 rfl) ?_
  refine va_get (D := D) (ci := 7) (v := .ref (r 39)) (C := RX7) (T := TX7) (N := 20) hx hb hg inC7 hown hK hP 26 rfl rfl 15 (by decide) (hg _ wt1_144) (fun _ h9 => h9) rfl dX7_copyFrom_209 ?_
  refine lv_iconst (v := 0) hx hb dX7_copyFrom_212 (by decide) ?_
  refine lv_bipush (v := 8) hx hb dX7_copyFrom_213 (by decide) ?_
  refine va_copyi (ty := .int) hx hb (hml.trans hl.1.symm) hown (hg _ wt4_83) (hg _ wt4_70) (hg _ wt4_69) (hg _ wt1_20) hK hP hD hS 14 39 0 0 rfl rfl rfl rfl rfl (by decide) (by decide) (by decide) (by decide +kernel) (by decide +kernel) (fun i _ => rfl) (by decide) (Nat.le_of_ble_eq_true rfl) dX7_copyFrom_215 (fun H locs hP hD hS => ?_)
  have hP : va_P D vwCl (xX K r f_14 (va_up a_16 39 (va_cpy (a_16 14) (a_16 39) (0 : Int32).toNatClampNeg (0 : Int32).toNatClampNeg (8 : Int32).toNatClampNeg)) g tx) H := hP
  have hD : va_D A (xX K r f_14 (va_up a_16 39 (va_cpy (a_16 14) (a_16 39) (0 : Int32).toNatClampNeg (0 : Int32).toNatClampNeg (8 : Int32).toNatClampNeg)) g tx) := hD
  refine k_gen (P := fun z => va_P D vwCl (xX K r f_14 z g tx) H ∧ va_D A (xX K r f_14 z g tx) ∧ (xI f_14 z) ∧ (gOK K g.2 tt) ∧ (xEk ([832, 838, 844, 849, 850], [27, 28, 29, 30, 31, 32, 33, 34, 35, 36, 37, 38, 39], [40]) f a g f_14 z g)) (va_up a_16 39 (va_cpy (a_16 14) (a_16 39) (0 : Int32).toNatClampNeg (0 : Int32).toNatClampNeg (8 : Int32).toNatClampNeg)) ⟨hP, hD, (xI_a hI (by decide)), hG, (xEk_a hE rfl)⟩ (fun a_17 ea_17 hq => ?_)
  obtain ⟨hP, hD, hI, hG, hE⟩ := hq
  refine lv_iconst (v := 0) hx hb dX7_copyFrom_218 (by decide) ?_
  refine lv_istore_n (lv' := [(2, .int 0), (0, .ref (r 26)), (1, .ref (r 1))]) hx hb dX7_copyFrom_219 rfl hl (by decide) rfl (fun ls hl => ?_)
  have lp20 : ∀ (n21 : Nat) (nn : Nat) (G19 : xG) (H : Heap) (locs : List Loc) (ls : Array Slot) (y18 : Int32), (6 < y18.toInt + (n21 : Int)) → (xI f_14 a_17) → (gOK K G19.2 tt) → (xEk ([832, 838, 844, 849, 850], [27, 28, 29, 30, 31, 32, 33, 34, 35, 36, 37, 38, 39], [40]) f a g f_14 a_17 G19) → (kb 0 y18 6) → (y18.toInt = (nn : Int)) → (∀ i, i < nn → G19.2 40 i = g.2 15 i) → (nn ≤ 6) → va_P D vwCl (xX K r f_14 a_17 G19 tx) H → va_D A (xX K r f_14 a_17 G19 tx) → va_S A s.heap H locs → lv_has ls 3 [(2, .int y18), (0, .ref (r 26)), (1, .ref (r 1))] → W p l e (rmD 2 0 0) s m ([.ref (r 26), .ref (r 1)] : List Value).toArray below meth c H locs 0 0 (kQv D (tysK K) (fun (u : xS) => xI u.1 u.2.1 ∧ gOK K u.2.2.2 tt ∧ xEk ([832, 838, 844, 849, 850], [27, 28, 29, 30, 31, 32, 33, 34, 35, 36, 37, 38, 39], [40]) f a g u.1 u.2.1 u.2.2 ∧ sV 832 27 u.1 u.2.1 k ∧ (∀ i, i < 6 → u.2.2.2 40 i = g.2 15 i)) (fun u => xX K r u.1 u.2.1 u.2.2 tx) A below ([.ref (r 26), .ref (r 1)] : List Value).toArray s 0 0) (F0 m 220 ls []) := by
    intro n21
    induction n21 with
    | zero =>
      intro nn G19  H locs ls y18 hmlp20 hI hG hE b22 hvlp20_0 hvlp20_1 hvlp20_2 hP hD hS hl
      exact (by have h1 := b22.2; have h2 := hmlp20; omega : False).elim
    | succ n21 ihlp20 =>
      intro nn G19  H locs ls y18 hmlp20 hI hG hE b22 hvlp20_0 hvlp20_1 hvlp20_2 hP hD hS hl
      have hnn : y18 = nI nn := nI_q hvlp20_0
      have hE9 := hE
      refine lv_iload_n hx hb dX7_copyFrom_220 rfl (lv_at hl 0 rfl) ?_
      refine lv_bipush (v := 6) hx hb dX7_copyFrom_221 (by decide) ?_
      refine lv_icmp_ge (tgt := 244) hx hb dX7_copyFrom_223 (by decide) (fun c23 => ?_) (fun c23 => ?_)
      · have h24 := (kc_le c23)
        have b25 : kb 6 y18 6 := kr_le2 h24 kc_6 b22
        refine lv_aload_n hx hb dX7_copyFrom_244 rfl (lv_at hl 1 rfl) ?_
        refine lv_aload_n hx hb dX7_copyFrom_245 rfl (lv_at hl 2 rfl) ?_
        refine va_get (D := D) (ci := 7) (v := .int (f_14 49)) (C := RX7) (T := TX7) (N := 20) hx hb hg inC7 hown hK hP 1 rfl rfl 17 (by decide) (hg _ wt1_149) (fun _ h9 => h9) rfl dX7_copyFrom_246 ?_
        refine k_top (z := s49) ((show f_14 49 = f_8 49 from by rw [← ef_14]; rfl).trans ((show f_8 49 = f_2 49 from by rw [← ef_8]; rfl).trans ((show f_2 49 = f 49 from by rw [← ef_2]; rfl).trans es49.symm))) ?_
        refine va_put (D := D) (ci := 7) (v := .int s49) (ty := .int) (C := RX7) (T := TX7) (N := 20) hx hb hg inC7 tyX7 tyX7_ok nmX7 hown hK hP hD hS 26 rfl rfl 17 (by decide) (hg _ wt1_149) (fun _ h9 => h9) rfl (by decide +kernel) rfl rfl (Nat.le_of_ble_eq_true rfl) dX7_copyFrom_249 (fun H locs hP hD hS => ?_)
        have hP : va_P D vwCl (xX K r (upd f_14 849 s49) a_17 G19 tx) H := hP
        have hD : va_D A (xX K r (upd f_14 849 s49) a_17 G19 tx) := hD
        refine k_gen (P := fun z => va_P D vwCl (xX K r z a_17 G19 tx) H ∧ va_D A (xX K r z a_17 G19 tx) ∧ (xI z a_17) ∧ (gOK K G19.2 tt) ∧ (xEk ([832, 838, 844, 849, 850], [27, 28, 29, 30, 31, 32, 33, 34, 35, 36, 37, 38, 39], [40]) f a g z a_17 G19)) (upd f_14 849 s49) ⟨hP, hD, (xI_f hI (fI_st hI.1 849 (kb_any _) (by decide) (by decide))), hG, (xEk_f hE rfl)⟩ (fun f_26 ef_26 hq => ?_)
        obtain ⟨hP, hD, hI, hG, hE⟩ := hq
        refine lv_aload_n hx hb dX7_copyFrom_252 rfl (lv_at hl 1 rfl) ?_
        refine lv_aload_n hx hb dX7_copyFrom_253 rfl (lv_at hl 2 rfl) ?_
        refine va_get (D := D) (ci := 7) (v := .int (f_26 50)) (C := RX7) (T := TX7) (N := 20) hx hb hg inC7 hown hK hP 1 rfl rfl 18 (by decide) (hg _ wt1_151) (fun _ h9 => h9) rfl dX7_copyFrom_254 ?_
        refine k_top (z := s50) ((show f_26 50 = f_14 50 from by rw [← ef_26]; rfl).trans ((show f_14 50 = f_8 50 from by rw [← ef_14]; rfl).trans ((show f_8 50 = f_2 50 from by rw [← ef_8]; rfl).trans ((show f_2 50 = f 50 from by rw [← ef_2]; rfl).trans es50.symm)))) ?_
        refine va_put (D := D) (ci := 7) (v := .int s50) (ty := .int) (C := RX7) (T := TX7) (N := 20) hx hb hg inC7 tyX7 tyX7_ok nmX7 hown hK hP hD hS 26 rfl rfl 18 (by decide) (hg _ wt1_151) (fun _ h9 => h9) rfl (by decide +kernel) rfl rfl (Nat.le_of_ble_eq_true rfl) dX7_copyFrom_257 (fun H locs hP hD hS => ?_)
        have hP : va_P D vwCl (xX K r (upd f_26 850 s50) a_17 G19 tx) H := hP
        have hD : va_D A (xX K r (upd f_26 850 s50) a_17 G19 tx) := hD
        refine k_gen (P := fun z => va_P D vwCl (xX K r z a_17 G19 tx) H ∧ va_D A (xX K r z a_17 G19 tx) ∧ (xI z a_17) ∧ (gOK K G19.2 tt) ∧ (xEk ([832, 838, 844, 849, 850], [27, 28, 29, 30, 31, 32, 33, 34, 35, 36, 37, 38, 39], [40]) f a g z a_17 G19)) (upd f_26 850 s50) ⟨hP, hD, (xI_f hI (fI_st hI.1 850 (kb_any _) (by decide) (by decide))), hG, (xEk_f hE rfl)⟩ (fun f_27 ef_27 hq => ?_)
        obtain ⟨hP, hD, hI, hG, hE⟩ := hq
        exact kV_ret hx hb hr hlocks hK hS dX7_copyFrom_260 (f_27, a_17, G19) hP hD ⟨hI, hG, hE, (sV_cp hVw ((((show f_27 832 = f_26 832 from by rw [← ef_27]; rfl).trans ((show f_26 832 = f_14 832 from by rw [← ef_26]; rfl).trans ((show f_14 832 = f_8 832 from by rw [← ef_14]; rfl).trans ((show f_8 832 = f_2 832 from by rw [← ef_8]; rfl).trans (show f_2 832 = s32 from by rw [← ef_2]; rfl)))))).trans es32) ((((show f_27 838 = f_26 838 from by rw [← ef_27]; rfl).trans ((show f_26 838 = f_14 838 from by rw [← ef_26]; rfl).trans ((show f_14 838 = f_8 838 from by rw [← ef_14]; rfl).trans (show f_8 838 = s38 from by rw [← ef_8]; rfl))))).trans es38) ((((show f_27 844 = f_26 844 from by rw [← ef_27]; rfl).trans ((show f_26 844 = f_14 844 from by rw [← ef_26]; rfl).trans (show f_14 844 = s44 from by rw [← ef_14]; rfl)))).trans es44) ((((show f_27 849 = f_26 849 from by rw [← ef_27]; rfl).trans (show f_26 849 = s49 from by rw [← ef_26]; rfl))).trans es49) (((show f_27 850 = s50 from by rw [← ef_27]; rfl)).trans es50) (fun i hi => (congrFun ((show a_17 27 = a_16 27 from by rw [← ea_17]; rfl).trans ((show a_16 27 = a_15 27 from by rw [← ea_16]; rfl).trans ((show a_15 27 = a_13 27 from by rw [← ea_15]; rfl).trans ((show a_13 27 = a_12 27 from by rw [← ea_13]; rfl).trans ((show a_12 27 = a_11 27 from by rw [← ea_12]; rfl).trans ((show a_11 27 = a_10 27 from by rw [← ea_11]; rfl).trans ((show a_10 27 = a_9 27 from by rw [← ea_10]; rfl).trans ((show a_9 27 = a_7 27 from by rw [← ea_9]; rfl).trans ((show a_7 27 = a_6 27 from by rw [← ea_7]; rfl).trans ((show a_6 27 = a_5 27 from by rw [← ea_6]; rfl).trans ((show a_5 27 = a_4 27 from by rw [← ea_5]; rfl).trans (show a_4 27 = a_3 27 from by rw [← ea_4]; rfl)))))))))))) i).trans ((cp_z (n := 10) (show a_3 27 = _ from by rw [← ea_3]; rfl) (by decide +kernel) (by decide +kernel) (by decide +kernel) i hi).trans (congrFun rfl i))) (fun i hi => (congrFun ((show a_17 28 = a_16 28 from by rw [← ea_17]; rfl).trans ((show a_16 28 = a_15 28 from by rw [← ea_16]; rfl).trans ((show a_15 28 = a_13 28 from by rw [← ea_15]; rfl).trans ((show a_13 28 = a_12 28 from by rw [← ea_13]; rfl).trans ((show a_12 28 = a_11 28 from by rw [← ea_12]; rfl).trans ((show a_11 28 = a_10 28 from by rw [← ea_11]; rfl).trans ((show a_10 28 = a_9 28 from by rw [← ea_10]; rfl).trans ((show a_9 28 = a_7 28 from by rw [← ea_9]; rfl).trans ((show a_7 28 = a_6 28 from by rw [← ea_7]; rfl).trans ((show a_6 28 = a_5 28 from by rw [← ea_6]; rfl).trans (show a_5 28 = a_4 28 from by rw [← ea_5]; rfl))))))))))) i).trans ((cp_z (n := 10) (show a_4 28 = _ from by rw [← ea_4]; rfl) (by decide +kernel) (by decide +kernel) (by decide +kernel) i hi).trans (congrFun (show a_3 3 = a 3 from by rw [← ea_3]; rfl) i))) (fun i hi => (congrFun ((show a_17 29 = a_16 29 from by rw [← ea_17]; rfl).trans ((show a_16 29 = a_15 29 from by rw [← ea_16]; rfl).trans ((show a_15 29 = a_13 29 from by rw [← ea_15]; rfl).trans ((show a_13 29 = a_12 29 from by rw [← ea_13]; rfl).trans ((show a_12 29 = a_11 29 from by rw [← ea_12]; rfl).trans ((show a_11 29 = a_10 29 from by rw [← ea_11]; rfl).trans ((show a_10 29 = a_9 29 from by rw [← ea_10]; rfl).trans ((show a_9 29 = a_7 29 from by rw [← ea_9]; rfl).trans ((show a_7 29 = a_6 29 from by rw [← ea_7]; rfl).trans (show a_6 29 = a_5 29 from by rw [← ea_6]; rfl)))))))))) i).trans ((cp_z (n := 10) (show a_5 29 = _ from by rw [← ea_5]; rfl) (by decide +kernel) (by decide +kernel) (by decide +kernel) i hi).trans (congrFun ((show a_4 4 = a_3 4 from by rw [← ea_4]; rfl).trans (show a_3 4 = a 4 from by rw [← ea_3]; rfl)) i))) (fun i hi => (congrFun ((show a_17 30 = a_16 30 from by rw [← ea_17]; rfl).trans ((show a_16 30 = a_15 30 from by rw [← ea_16]; rfl).trans ((show a_15 30 = a_13 30 from by rw [← ea_15]; rfl).trans ((show a_13 30 = a_12 30 from by rw [← ea_13]; rfl).trans ((show a_12 30 = a_11 30 from by rw [← ea_12]; rfl).trans ((show a_11 30 = a_10 30 from by rw [← ea_11]; rfl).trans ((show a_10 30 = a_9 30 from by rw [← ea_10]; rfl).trans ((show a_9 30 = a_7 30 from by rw [← ea_9]; rfl).trans (show a_7 30 = a_6 30 from by rw [← ea_7]; rfl))))))))) i).trans ((cp_z (n := 10) (show a_6 30 = _ from by rw [← ea_6]; rfl) (by decide +kernel) (by decide +kernel) (by decide +kernel) i hi).trans (congrFun ((show a_5 5 = a_4 5 from by rw [← ea_5]; rfl).trans ((show a_4 5 = a_3 5 from by rw [← ea_4]; rfl).trans (show a_3 5 = a 5 from by rw [← ea_3]; rfl))) i))) (fun i hi => (congrFun ((show a_17 31 = a_16 31 from by rw [← ea_17]; rfl).trans ((show a_16 31 = a_15 31 from by rw [← ea_16]; rfl).trans ((show a_15 31 = a_13 31 from by rw [← ea_15]; rfl).trans ((show a_13 31 = a_12 31 from by rw [← ea_13]; rfl).trans ((show a_12 31 = a_11 31 from by rw [← ea_12]; rfl).trans ((show a_11 31 = a_10 31 from by rw [← ea_11]; rfl).trans ((show a_10 31 = a_9 31 from by rw [← ea_10]; rfl).trans (show a_9 31 = a_7 31 from by rw [← ea_9]; rfl)))))))) i).trans ((cp_z (n := 10) (show a_7 31 = _ from by rw [← ea_7]; rfl) (by decide +kernel) (by decide +kernel) (by decide +kernel) i hi).trans (congrFun ((show a_6 6 = a_5 6 from by rw [← ea_6]; rfl).trans ((show a_5 6 = a_4 6 from by rw [← ea_5]; rfl).trans ((show a_4 6 = a_3 6 from by rw [← ea_4]; rfl).trans (show a_3 6 = a 6 from by rw [← ea_3]; rfl)))) i))) (fun i hi => (congrFun ((show a_17 32 = a_16 32 from by rw [← ea_17]; rfl).trans ((show a_16 32 = a_15 32 from by rw [← ea_16]; rfl).trans ((show a_15 32 = a_13 32 from by rw [← ea_15]; rfl).trans ((show a_13 32 = a_12 32 from by rw [← ea_13]; rfl).trans ((show a_12 32 = a_11 32 from by rw [← ea_12]; rfl).trans ((show a_11 32 = a_10 32 from by rw [← ea_11]; rfl).trans (show a_10 32 = a_9 32 from by rw [← ea_10]; rfl))))))) i).trans ((cp_z (n := 6) (show a_9 32 = _ from by rw [← ea_9]; rfl) (by decide +kernel) (by decide +kernel) (by decide +kernel) i hi).trans (congrFun ((show a_7 7 = a_6 7 from by rw [← ea_7]; rfl).trans ((show a_6 7 = a_5 7 from by rw [← ea_6]; rfl).trans ((show a_5 7 = a_4 7 from by rw [← ea_5]; rfl).trans ((show a_4 7 = a_3 7 from by rw [← ea_4]; rfl).trans (show a_3 7 = a 7 from by rw [← ea_3]; rfl))))) i))) (fun i hi => (congrFun ((show a_17 33 = a_16 33 from by rw [← ea_17]; rfl).trans ((show a_16 33 = a_15 33 from by rw [← ea_16]; rfl).trans ((show a_15 33 = a_13 33 from by rw [← ea_15]; rfl).trans ((show a_13 33 = a_12 33 from by rw [← ea_13]; rfl).trans ((show a_12 33 = a_11 33 from by rw [← ea_12]; rfl).trans (show a_11 33 = a_10 33 from by rw [← ea_11]; rfl)))))) i).trans ((cp_z (n := 6) (show a_10 33 = _ from by rw [← ea_10]; rfl) (by decide +kernel) (by decide +kernel) (by decide +kernel) i hi).trans (congrFun ((show a_9 8 = a_7 8 from by rw [← ea_9]; rfl).trans ((show a_7 8 = a_6 8 from by rw [← ea_7]; rfl).trans ((show a_6 8 = a_5 8 from by rw [← ea_6]; rfl).trans ((show a_5 8 = a_4 8 from by rw [← ea_5]; rfl).trans ((show a_4 8 = a_3 8 from by rw [← ea_4]; rfl).trans (show a_3 8 = a 8 from by rw [← ea_3]; rfl)))))) i))) (fun i hi => (congrFun ((show a_17 34 = a_16 34 from by rw [← ea_17]; rfl).trans ((show a_16 34 = a_15 34 from by rw [← ea_16]; rfl).trans ((show a_15 34 = a_13 34 from by rw [← ea_15]; rfl).trans ((show a_13 34 = a_12 34 from by rw [← ea_13]; rfl).trans (show a_12 34 = a_11 34 from by rw [← ea_12]; rfl))))) i).trans ((cp_z (n := 6) (show a_11 34 = _ from by rw [← ea_11]; rfl) (by decide +kernel) (by decide +kernel) (by decide +kernel) i hi).trans (congrFun ((show a_10 9 = a_9 9 from by rw [← ea_10]; rfl).trans ((show a_9 9 = a_7 9 from by rw [← ea_9]; rfl).trans ((show a_7 9 = a_6 9 from by rw [← ea_7]; rfl).trans ((show a_6 9 = a_5 9 from by rw [← ea_6]; rfl).trans ((show a_5 9 = a_4 9 from by rw [← ea_5]; rfl).trans ((show a_4 9 = a_3 9 from by rw [← ea_4]; rfl).trans (show a_3 9 = a 9 from by rw [← ea_3]; rfl))))))) i))) (fun i hi => (congrFun ((show a_17 35 = a_16 35 from by rw [← ea_17]; rfl).trans ((show a_16 35 = a_15 35 from by rw [← ea_16]; rfl).trans ((show a_15 35 = a_13 35 from by rw [← ea_15]; rfl).trans (show a_13 35 = a_12 35 from by rw [← ea_13]; rfl)))) i).trans ((cp_z (n := 6) (show a_12 35 = _ from by rw [← ea_12]; rfl) (by decide +kernel) (by decide +kernel) (by decide +kernel) i hi).trans (congrFun ((show a_11 10 = a_10 10 from by rw [← ea_11]; rfl).trans ((show a_10 10 = a_9 10 from by rw [← ea_10]; rfl).trans ((show a_9 10 = a_7 10 from by rw [← ea_9]; rfl).trans ((show a_7 10 = a_6 10 from by rw [← ea_7]; rfl).trans ((show a_6 10 = a_5 10 from by rw [← ea_6]; rfl).trans ((show a_5 10 = a_4 10 from by rw [← ea_5]; rfl).trans ((show a_4 10 = a_3 10 from by rw [← ea_4]; rfl).trans (show a_3 10 = a 10 from by rw [← ea_3]; rfl)))))))) i))) (fun i hi => (congrFun ((show a_17 36 = a_16 36 from by rw [← ea_17]; rfl).trans ((show a_16 36 = a_15 36 from by rw [← ea_16]; rfl).trans (show a_15 36 = a_13 36 from by rw [← ea_15]; rfl))) i).trans ((cp_z (n := 4) (show a_13 36 = _ from by rw [← ea_13]; rfl) (by decide +kernel) (by decide +kernel) (by decide +kernel) i hi).trans (congrFun ((show a_12 11 = a_11 11 from by rw [← ea_12]; rfl).trans ((show a_11 11 = a_10 11 from by rw [← ea_11]; rfl).trans ((show a_10 11 = a_9 11 from by rw [← ea_10]; rfl).trans ((show a_9 11 = a_7 11 from by rw [← ea_9]; rfl).trans ((show a_7 11 = a_6 11 from by rw [← ea_7]; rfl).trans ((show a_6 11 = a_5 11 from by rw [← ea_6]; rfl).trans ((show a_5 11 = a_4 11 from by rw [← ea_5]; rfl).trans ((show a_4 11 = a_3 11 from by rw [← ea_4]; rfl).trans (show a_3 11 = a 11 from by rw [← ea_3]; rfl))))))))) i))) (fun i hi => (congrFun ((show a_17 37 = a_16 37 from by rw [← ea_17]; rfl).trans (show a_16 37 = a_15 37 from by rw [← ea_16]; rfl)) i).trans ((cp_z (n := 8) (show a_15 37 = _ from by rw [← ea_15]; rfl) (by decide +kernel) (by decide +kernel) (by decide +kernel) i hi).trans (congrFun ((show a_13 12 = a_12 12 from by rw [← ea_13]; rfl).trans ((show a_12 12 = a_11 12 from by rw [← ea_12]; rfl).trans ((show a_11 12 = a_10 12 from by rw [← ea_11]; rfl).trans ((show a_10 12 = a_9 12 from by rw [← ea_10]; rfl).trans ((show a_9 12 = a_7 12 from by rw [← ea_9]; rfl).trans ((show a_7 12 = a_6 12 from by rw [← ea_7]; rfl).trans ((show a_6 12 = a_5 12 from by rw [← ea_6]; rfl).trans ((show a_5 12 = a_4 12 from by rw [← ea_5]; rfl).trans ((show a_4 12 = a_3 12 from by rw [← ea_4]; rfl).trans (show a_3 12 = a 12 from by rw [← ea_3]; rfl)))))))))) i))) (fun i hi => (congrFun (show a_17 38 = a_16 38 from by rw [← ea_17]; rfl) i).trans ((cp_z (n := 8) (show a_16 38 = _ from by rw [← ea_16]; rfl) (by decide +kernel) (by decide +kernel) (by decide +kernel) i hi).trans (congrFun ((show a_15 13 = a_13 13 from by rw [← ea_15]; rfl).trans ((show a_13 13 = a_12 13 from by rw [← ea_13]; rfl).trans ((show a_12 13 = a_11 13 from by rw [← ea_12]; rfl).trans ((show a_11 13 = a_10 13 from by rw [← ea_11]; rfl).trans ((show a_10 13 = a_9 13 from by rw [← ea_10]; rfl).trans ((show a_9 13 = a_7 13 from by rw [← ea_9]; rfl).trans ((show a_7 13 = a_6 13 from by rw [← ea_7]; rfl).trans ((show a_6 13 = a_5 13 from by rw [← ea_6]; rfl).trans ((show a_5 13 = a_4 13 from by rw [← ea_5]; rfl).trans ((show a_4 13 = a_3 13 from by rw [← ea_4]; rfl).trans (show a_3 13 = a 13 from by rw [← ea_3]; rfl))))))))))) i))) (fun i hi => (congrFun rfl i).trans ((cp_z (n := 8) (show a_17 39 = _ from by rw [← ea_17]; rfl) (by decide +kernel) (by decide +kernel) (by decide +kernel) i hi).trans (congrFun ((show a_16 14 = a_15 14 from by rw [← ea_16]; rfl).trans ((show a_15 14 = a_13 14 from by rw [← ea_15]; rfl).trans ((show a_13 14 = a_12 14 from by rw [← ea_13]; rfl).trans ((show a_12 14 = a_11 14 from by rw [← ea_12]; rfl).trans ((show a_11 14 = a_10 14 from by rw [← ea_11]; rfl).trans ((show a_10 14 = a_9 14 from by rw [← ea_10]; rfl).trans ((show a_9 14 = a_7 14 from by rw [← ea_9]; rfl).trans ((show a_7 14 = a_6 14 from by rw [← ea_7]; rfl).trans ((show a_6 14 = a_5 14 from by rw [← ea_6]; rfl).trans ((show a_5 14 = a_4 14 from by rw [← ea_5]; rfl).trans ((show a_4 14 = a_3 14 from by rw [← ea_4]; rfl).trans (show a_3 14 = a 14 from by rw [← ea_3]; rfl)))))))))))) i)))), (by have w9 := hvlp20_1; rw [show nn = 6 by have w1 := hvlp20_0; have w2 := (b25).1; have w3 := hvlp20_2; omega] at w9; exact w9)⟩
      · have h28 := (kc_nle c23)
        have b29 : kb 0 y18 5 := kr_lt1 h28 b22 kc_6 (by decide)
        refine lv_aload_n hx hb dX7_copyFrom_226 rfl (lv_at hl 1 rfl) ?_
        refine va_get (D := D) (ci := 7) (v := .ref (r 40)) (C := RX7) (T := TX7) (N := 20) hx hb hg inC7 hown hK hP 26 rfl rfl 16 (by decide) (hg _ wt1_147) (fun _ h9 => h9) rfl dX7_copyFrom_227 ?_
        refine lv_iload_n hx hb dX7_copyFrom_230 rfl (lv_at hl 0 rfl) ?_
        refine lv_aload_n hx hb dX7_copyFrom_231 rfl (lv_at hl 2 rfl) ?_
        refine va_get (D := D) (ci := 7) (v := .ref (r 15)) (C := RX7) (T := TX7) (N := 20) hx hb hg inC7 hown hK hP 1 rfl rfl 16 (by decide) (hg _ wt1_147) (fun _ h9 => h9) rfl dX7_copyFrom_232 ?_
        refine lv_iload_n hx hb dX7_copyFrom_235 rfl (lv_at hl 0 rfl) ?_
        refine va_aldq hx hb hK hP 15 5 rfl rfl (kb_in b29 (by decide) (by decide)) dX7_copyFrom_236 ?_
        rcases hG 15 (y18.toNatClampNeg) (by decide) with hn31 | hn31
        · refine k_topn hn31 ?_
          refine va_astqN hx hb hK hP hD hS 40 5 rfl rfl (kb_in b29 (by decide) (by decide)) dX7_copyFrom_237 (fun H locs hP hD hS => ?_)
          have hP : va_P D vwCl (xX K r f_14 a_17 (G19.1, va_up G19.2 40 (va_up (G19.2 40) y18.toNatClampNeg none)) tx) H := hP
          have hD : va_D A (xX K r f_14 a_17 (G19.1, va_up G19.2 40 (va_up (G19.2 40) y18.toNatClampNeg none)) tx) := hD
          refine k_gen (P := fun z => va_P D vwCl (xX K r f_14 a_17 z tx) H ∧ va_D A (xX K r f_14 a_17 z tx) ∧ (xI f_14 a_17) ∧ (gOK K z.2 tt) ∧ (xEk ([832, 838, 844, 849, 850], [27, 28, 29, 30, 31, 32, 33, 34, 35, 36, 37, 38, 39], [40]) f a g f_14 a_17 z)) ((G19.1, va_up G19.2 40 (va_up (G19.2 40) y18.toNatClampNeg none))) ⟨hP, hD, hI, (gOK_n hG _ _ _ (Or.inl rfl)), (xEk_q hE rfl)⟩ (fun g_32 eg_32 hq => ?_)
          obtain ⟨hP, hD, hI, hG, hE⟩ := hq
          obtain ⟨t33, et33⟩ : ∃ z : Int32, z = y18 + Int32.ofInt 1 := ⟨_, rfl⟩
          have qt33 : t33.toInt = y18.toInt + 1 := by rw [et33]; exact km_inc b29 (by decide) (by decide)
          have b34 : kb 1 t33 6 := kb_inc (k := 1) qt33 b29
          refine lv_iinc (v := t33) (lv' := [(2, .int t33), (0, .ref (r 26)), (1, .ref (r 1))]) hx hb dX7_copyFrom_238 hl (k := 0) rfl et33.symm (by decide) rfl (fun ls hl => ?_)
          refine lv_goto (tgt := 220) hx hb dX7_copyFrom_241 (by decide) ?_
          exact ihlp20 (nn + 1) g_32 _ _ _ t33 (km_up hmlp20 qt33) hI hG hE (kb_w b34 (by decide) (by decide)) (by have w1 := hvlp20_0; have w2 := qt33; omega) (rf_s (ix := y18.toNatClampNeg) hvlp20_1 (fun i => by rw [← eg_32]; rfl) (cl_nat hvlp20_0) (by rw [← congrFun (show G19.2 15 = g.2 15 from hE9.2.2 15 rfl) nn, ← cl_nat hvlp20_0]; exact hn31.symm)) (by have w1 := hvlp20_0; have w2 := (b29).2; omega) hP hD hS (lv_sub hl [0, 1, 2] rfl)
        · obtain ⟨t30, ht30, hn31⟩ := hn31
          refine k_tops hn31 ?_
          obtain ⟨jt30_0, hjt30_0⟩ := tIn_at (tIn_w hT ht30) (k := 0) rfl
          obtain ⟨jt30_1, hjt30_1⟩ := tIn_at (tIn_w hT ht30) (k := 1) rfl
          obtain ⟨jt30_2, hjt30_2⟩ := tIn_at (tIn_w hT ht30) (k := 2) rfl
          obtain ⟨jt30_3, hjt30_3⟩ := tIn_at (tIn_w hT ht30) (k := 3) rfl
          obtain ⟨jt30_4, hjt30_4⟩ := tIn_at (tIn_w hT ht30) (k := 4) rfl
          have hnt30 : (nI t30.2.2.2).toInt = (t30.2.2.2 : Int) := kn_to (by have w1 := ht30.1; omega)
          refine va_astq hx hb hK hP hD hS 40 5 (jt30_0 + 95) 10 rfl rfl hjt30_0 rfl (kb_in b29 (by decide) (by decide)) dX7_copyFrom_237 (fun H locs hP hD hS => ?_)
          have hP : va_P D vwCl (xX K r f_14 a_17 (G19.1, va_up G19.2 40 (va_up (G19.2 40) y18.toNatClampNeg (some (t30.1 0)))) tx) H := hP
          have hD : va_D A (xX K r f_14 a_17 (G19.1, va_up G19.2 40 (va_up (G19.2 40) y18.toNatClampNeg (some (t30.1 0)))) tx) := hD
          refine k_gen (P := fun z => va_P D vwCl (xX K r f_14 a_17 z tx) H ∧ va_D A (xX K r f_14 a_17 z tx) ∧ (xI f_14 a_17) ∧ (gOK K z.2 tt) ∧ (xEk ([832, 838, 844, 849, 850], [27, 28, 29, 30, 31, 32, 33, 34, 35, 36, 37, 38, 39], [40]) f a g f_14 a_17 z)) ((G19.1, va_up G19.2 40 (va_up (G19.2 40) y18.toNatClampNeg (some (t30.1 0))))) ⟨hP, hD, hI, (gOK_n hG _ _ _ (Or.inr ⟨_, ht30, rfl⟩)), (xEk_q hE rfl)⟩ (fun g_35 eg_35 hq => ?_)
          obtain ⟨hP, hD, hI, hG, hE⟩ := hq
          obtain ⟨t36, et36⟩ : ∃ z : Int32, z = y18 + Int32.ofInt 1 := ⟨_, rfl⟩
          have qt36 : t36.toInt = y18.toInt + 1 := by rw [et36]; exact km_inc b29 (by decide) (by decide)
          have b37 : kb 1 t36 6 := kb_inc (k := 1) qt36 b29
          refine lv_iinc (v := t36) (lv' := [(2, .int t36), (0, .ref (r 26)), (1, .ref (r 1))]) hx hb dX7_copyFrom_238 hl (k := 0) rfl et36.symm (by decide) rfl (fun ls hl => ?_)
          refine lv_goto (tgt := 220) hx hb dX7_copyFrom_241 (by decide) ?_
          exact ihlp20 (nn + 1) g_35 _ _ _ t36 (km_up hmlp20 qt36) hI hG hE (kb_w b37 (by decide) (by decide)) (by have w1 := hvlp20_0; have w2 := qt36; omega) (rf_s (ix := y18.toNatClampNeg) hvlp20_1 (fun i => by rw [← eg_35]; rfl) (cl_nat hvlp20_0) (by rw [← congrFun (show G19.2 15 = g.2 15 from hE9.2.2 15 rfl) nn, ← cl_nat hvlp20_0]; exact hn31.symm)) (by have w1 := hvlp20_0; have w2 := (b29).2; omega) hP hD hS (lv_sub hl [0, 1, 2] rfl)
  exact lp20 (7) 0 g _ _ _ 0 (by have h1 := (kc_0); unfold kb at h1; omega) hI hG hE (kb_w kc_0 (by decide) (by decide)) (by decide +kernel) (fun i h => absurd h (Nat.not_lt_zero i)) (Nat.zero_le _) hP hD hS (lv_sub hl [0, 1, 2] rfl)
set_option maxHeartbeats 4000000 in
set_option maxRecDepth 100000 in
theorem z_copyFromA  (l : Launch) {D : va_G} {K : Nat → ClassId} (r : Nat → Nat) (f : Nat → Int32) (a : Nat → Nat → Int32) (g : xG) (tx tt : va_W) (hT : ∀ c ∈ tt, c ∈ tx) (hI : xI f a) (hG : gOK K g.2 tt)   (k : Nat → Int32) (hVw : sV 832 27 f a k) (hkk : kK k)   : kVG l yX7_copyFrom (Cond.code yX7_copyFrom cX7_copyFrom 3 none :: kG) (rmD 2 0 0) D K [.ref (r 1), .ref (r 26)] (xX K r f a g tx) (fun (u : xS) => xI u.1 u.2.1 ∧ gOK K u.2.2.2 tt ∧ xEk ([32, 38, 44, 49, 50], [2, 3, 4, 5, 6, 7, 8, 9, 10, 11, 12, 13, 14], [15]) f a g u.1 u.2.1 u.2.2 ∧ sV 32 2 u.1 u.2.1 k ∧ (∀ i, i < 6 → u.2.2.2 15 i = g.2 40 i)) (fun u => xX K r u.1 u.2.1 u.2.2 tx) 0 0 := by
  refine kVG.of (cc := cX7_copyFrom) (maxL := 3) (ret := none) (by decide) rfl (Nat.le_of_ble_eq_true rfl) ?_
  intro p e s m below meth c A hx hb hr hml hown hts hlocks hnm hK hP hD hS hA hV ls hl
  have hE : xEk ([32, 38, 44, 49, 50], [2, 3, 4, 5, 6, 7, 8, 9, 10, 11, 12, 13, 14], [15]) f a g f a g := xEk_rf
  have hg : ∀ w ∈ kG, w.before _ s = true := fun w h => hts w (List.mem_cons_of_mem _ h)
  have hown : s.vm.findClass RX7 = some m.cls := hown
  have hl : lv_has ls 3 [(0, .ref (r 1)), (1, .ref (r 26))] := hl
  obtain ⟨s832, es832⟩ : ∃ z : Int32, z = f 832 := ⟨_, rfl⟩
  have b1 : kb 0 s832 10 := kb_eq es832 (fI_at hI.1 832 (by decide) (by decide))
  obtain ⟨s838, es838⟩ : ∃ z : Int32, z = f 838 := ⟨_, rfl⟩
  obtain ⟨s844, es844⟩ : ∃ z : Int32, z = f 844 := ⟨_, rfl⟩
  obtain ⟨s849, es849⟩ : ∃ z : Int32, z = f 849 := ⟨_, rfl⟩
  obtain ⟨s850, es850⟩ : ∃ z : Int32, z = f 850 := ⟨_, rfl⟩
  refine lv_aload_n hx hb dX7_copyFrom_0 rfl (lv_at hl 0 rfl) ?_
  refine lv_aload_n hx hb dX7_copyFrom_1 rfl (lv_at hl 1 rfl) ?_
  refine va_get (D := D) (ci := 7) (v := .int (f 832)) (C := RX7) (T := TX7) (N := 20) hx hb hg inC7 hown hK hP 26 rfl rfl 0 (by decide) (hg _ wt1_79) (fun _ h9 => h9) rfl dX7_copyFrom_2 ?_
  refine k_top (z := s832) es832.symm ?_
  refine va_put (D := D) (ci := 7) (v := .int s832) (ty := .int) (C := RX7) (T := TX7) (N := 20) hx hb hg inC7 tyX7 tyX7_ok nmX7 hown hK hP hD hS 1 rfl rfl 0 (by decide) (hg _ wt1_79) (fun _ h9 => h9) rfl (by decide +kernel) rfl rfl (Nat.le_of_ble_eq_true rfl) dX7_copyFrom_5 (fun H locs hP hD hS => ?_)
  have hP : va_P D vwCl (xX K r (upd f 32 s832) a g tx) H := hP
  have hD : va_D A (xX K r (upd f 32 s832) a g tx) := hD
  refine k_gen (P := fun z => va_P D vwCl (xX K r z a g tx) H ∧ va_D A (xX K r z a g tx) ∧ (xI z a) ∧ (gOK K g.2 tt) ∧ (xEk ([32, 38, 44, 49, 50], [2, 3, 4, 5, 6, 7, 8, 9, 10, 11, 12, 13, 14], [15]) f a g z a g)) (upd f 32 s832) ⟨hP, hD, (xI_f hI (fI_st hI.1 32 b1 (by decide) (by decide))), hG, (xEk_f hE rfl)⟩ (fun f_2 ef_2 hq => ?_)
  obtain ⟨hP, hD, hI, hG, hE⟩ := hq
  refine lv_aload_n hx hb dX7_copyFrom_8 rfl (lv_at hl 1 rfl) ?_
  refine va_get (D := D) (ci := 7) (v := .ref (r 27)) (C := RX7) (T := TX7) (N := 20) hx hb hg inC7 hown hK hP 26 rfl rfl 1 (by decide) (hg _ wt1_86) (fun _ h9 => h9) rfl dX7_copyFrom_9 ?_
  refine lv_iconst (v := 0) hx hb dX7_copyFrom_12 (by decide) ?_
  refine lv_aload_n hx hb dX7_copyFrom_13 rfl (lv_at hl 0 rfl) ?_
  refine va_get (D := D) (ci := 7) (v := .ref (r 2)) (C := RX7) (T := TX7) (N := 20) hx hb hg inC7 hown hK hP 1 rfl rfl 1 (by decide) (hg _ wt1_86) (fun _ h9 => h9) rfl dX7_copyFrom_14 ?_
  refine lv_iconst (v := 0) hx hb dX7_copyFrom_17 (by decide) ?_
  refine lv_bipush (v := 10) hx hb dX7_copyFrom_18 (by decide) ?_
  refine va_copyi (ty := .int) hx hb (hml.trans hl.1.symm) hown (hg _ wt4_83) (hg _ wt4_70) (hg _ wt4_69) (hg _ wt1_20) hK hP hD hS 27 2 0 0 rfl rfl rfl rfl rfl (by decide) (by decide) (by decide) (by decide +kernel) (by decide +kernel) (fun i _ => rfl) (by decide) (Nat.le_of_ble_eq_true rfl) dX7_copyFrom_20 (fun H locs hP hD hS => ?_)
  have hP : va_P D vwCl (xX K r f_2 (va_up a 2 (va_cpy (a 27) (a 2) (0 : Int32).toNatClampNeg (0 : Int32).toNatClampNeg (10 : Int32).toNatClampNeg)) g tx) H := hP
  have hD : va_D A (xX K r f_2 (va_up a 2 (va_cpy (a 27) (a 2) (0 : Int32).toNatClampNeg (0 : Int32).toNatClampNeg (10 : Int32).toNatClampNeg)) g tx) := hD
  refine k_gen (P := fun z => va_P D vwCl (xX K r f_2 z g tx) H ∧ va_D A (xX K r f_2 z g tx) ∧ (xI f_2 z) ∧ (gOK K g.2 tt) ∧ (xEk ([32, 38, 44, 49, 50], [2, 3, 4, 5, 6, 7, 8, 9, 10, 11, 12, 13, 14], [15]) f a g f_2 z g)) (va_up a 2 (va_cpy (a 27) (a 2) (0 : Int32).toNatClampNeg (0 : Int32).toNatClampNeg (10 : Int32).toNatClampNeg)) ⟨hP, hD, (xI_a hI (by decide)), hG, (xEk_a hE rfl)⟩ (fun a_3 ea_3 hq => ?_)
  obtain ⟨hP, hD, hI, hG, hE⟩ := hq
  refine lv_aload_n hx hb dX7_copyFrom_23 rfl (lv_at hl 1 rfl) ?_
  refine va_get (D := D) (ci := 7) (v := .ref (r 28)) (C := RX7) (T := TX7) (N := 20) hx hb hg inC7 hown hK hP 26 rfl rfl 2 (by decide) (hg _ wt1_89) (fun _ h9 => h9) rfl dX7_copyFrom_24 ?_
  refine lv_iconst (v := 0) hx hb dX7_copyFrom_27 (by decide) ?_
  refine lv_aload_n hx hb dX7_copyFrom_28 rfl (lv_at hl 0 rfl) ?_
  refine va_get (D := D) (ci := 7) (v := .ref (r 3)) (C := RX7) (T := TX7) (N := 20) hx hb hg inC7 hown hK hP 1 rfl rfl 2 (by decide) (hg _ wt1_89) (fun _ h9 => h9) rfl dX7_copyFrom_29 ?_
  refine lv_iconst (v := 0) hx hb dX7_copyFrom_32 (by decide) ?_
  refine lv_bipush (v := 10) hx hb dX7_copyFrom_33 (by decide) ?_
  refine va_copyi (ty := .int) hx hb (hml.trans hl.1.symm) hown (hg _ wt4_83) (hg _ wt4_70) (hg _ wt4_69) (hg _ wt1_20) hK hP hD hS 28 3 0 0 rfl rfl rfl rfl rfl (by decide) (by decide) (by decide) (by decide +kernel) (by decide +kernel) (fun i _ => rfl) (by decide) (Nat.le_of_ble_eq_true rfl) dX7_copyFrom_35 (fun H locs hP hD hS => ?_)
  have hP : va_P D vwCl (xX K r f_2 (va_up a_3 3 (va_cpy (a_3 28) (a_3 3) (0 : Int32).toNatClampNeg (0 : Int32).toNatClampNeg (10 : Int32).toNatClampNeg)) g tx) H := hP
  have hD : va_D A (xX K r f_2 (va_up a_3 3 (va_cpy (a_3 28) (a_3 3) (0 : Int32).toNatClampNeg (0 : Int32).toNatClampNeg (10 : Int32).toNatClampNeg)) g tx) := hD
  refine k_gen (P := fun z => va_P D vwCl (xX K r f_2 z g tx) H ∧ va_D A (xX K r f_2 z g tx) ∧ (xI f_2 z) ∧ (gOK K g.2 tt) ∧ (xEk ([32, 38, 44, 49, 50], [2, 3, 4, 5, 6, 7, 8, 9, 10, 11, 12, 13, 14], [15]) f a g f_2 z g)) (va_up a_3 3 (va_cpy (a_3 28) (a_3 3) (0 : Int32).toNatClampNeg (0 : Int32).toNatClampNeg (10 : Int32).toNatClampNeg)) ⟨hP, hD, (xI_a hI (by decide)), hG, (xEk_a hE rfl)⟩ (fun a_4 ea_4 hq => ?_)
  obtain ⟨hP, hD, hI, hG, hE⟩ := hq
  refine lv_aload_n hx hb dX7_copyFrom_38 rfl (lv_at hl 1 rfl) ?_
  refine va_get (D := D) (ci := 7) (v := .ref (r 29)) (C := RX7) (T := TX7) (N := 20) hx hb hg inC7 hown hK hP 26 rfl rfl 3 (by decide) (hg _ wt1_93) (fun _ h9 => h9) rfl dX7_copyFrom_39 ?_
  refine lv_iconst (v := 0) hx hb dX7_copyFrom_42 (by decide) ?_
  refine lv_aload_n hx hb dX7_copyFrom_43 rfl (lv_at hl 0 rfl) ?_
  refine va_get (D := D) (ci := 7) (v := .ref (r 4)) (C := RX7) (T := TX7) (N := 20) hx hb hg inC7 hown hK hP 1 rfl rfl 3 (by decide) (hg _ wt1_93) (fun _ h9 => h9) rfl dX7_copyFrom_44 ?_
  refine lv_iconst (v := 0) hx hb dX7_copyFrom_47 (by decide) ?_
  refine lv_bipush (v := 10) hx hb dX7_copyFrom_48 (by decide) ?_
  refine va_copyi (ty := .int) hx hb (hml.trans hl.1.symm) hown (hg _ wt4_83) (hg _ wt4_70) (hg _ wt4_69) (hg _ wt1_20) hK hP hD hS 29 4 0 0 rfl rfl rfl rfl rfl (by decide) (by decide) (by decide) (by decide +kernel) (by decide +kernel) (fun i _ => rfl) (by decide) (Nat.le_of_ble_eq_true rfl) dX7_copyFrom_50 (fun H locs hP hD hS => ?_)
  have hP : va_P D vwCl (xX K r f_2 (va_up a_4 4 (va_cpy (a_4 29) (a_4 4) (0 : Int32).toNatClampNeg (0 : Int32).toNatClampNeg (10 : Int32).toNatClampNeg)) g tx) H := hP
  have hD : va_D A (xX K r f_2 (va_up a_4 4 (va_cpy (a_4 29) (a_4 4) (0 : Int32).toNatClampNeg (0 : Int32).toNatClampNeg (10 : Int32).toNatClampNeg)) g tx) := hD
  refine k_gen (P := fun z => va_P D vwCl (xX K r f_2 z g tx) H ∧ va_D A (xX K r f_2 z g tx) ∧ (xI f_2 z) ∧ (gOK K g.2 tt) ∧ (xEk ([32, 38, 44, 49, 50], [2, 3, 4, 5, 6, 7, 8, 9, 10, 11, 12, 13, 14], [15]) f a g f_2 z g)) (va_up a_4 4 (va_cpy (a_4 29) (a_4 4) (0 : Int32).toNatClampNeg (0 : Int32).toNatClampNeg (10 : Int32).toNatClampNeg)) ⟨hP, hD, (xI_a hI (by decide)), hG, (xEk_a hE rfl)⟩ (fun a_5 ea_5 hq => ?_)
  obtain ⟨hP, hD, hI, hG, hE⟩ := hq
  refine lv_aload_n hx hb dX7_copyFrom_53 rfl (lv_at hl 1 rfl) ?_
  refine va_get (D := D) (ci := 7) (v := .ref (r 30)) (C := RX7) (T := TX7) (N := 20) hx hb hg inC7 hown hK hP 26 rfl rfl 4 (by decide) (hg _ wt1_95) (fun _ h9 => h9) rfl dX7_copyFrom_54 ?_
  refine lv_iconst (v := 0) hx hb dX7_copyFrom_57 (by decide) ?_
  refine lv_aload_n hx hb dX7_copyFrom_58 rfl (lv_at hl 0 rfl) ?_
  refine va_get (D := D) (ci := 7) (v := .ref (r 5)) (C := RX7) (T := TX7) (N := 20) hx hb hg inC7 hown hK hP 1 rfl rfl 4 (by decide) (hg _ wt1_95) (fun _ h9 => h9) rfl dX7_copyFrom_59 ?_
  refine lv_iconst (v := 0) hx hb dX7_copyFrom_62 (by decide) ?_
  refine lv_bipush (v := 10) hx hb dX7_copyFrom_63 (by decide) ?_
  refine va_copyi (ty := .int) hx hb (hml.trans hl.1.symm) hown (hg _ wt4_83) (hg _ wt4_70) (hg _ wt4_69) (hg _ wt1_20) hK hP hD hS 30 5 0 0 rfl rfl rfl rfl rfl (by decide) (by decide) (by decide) (by decide +kernel) (by decide +kernel) (fun i _ => rfl) (by decide) (Nat.le_of_ble_eq_true rfl) dX7_copyFrom_65 (fun H locs hP hD hS => ?_)
  have hP : va_P D vwCl (xX K r f_2 (va_up a_5 5 (va_cpy (a_5 30) (a_5 5) (0 : Int32).toNatClampNeg (0 : Int32).toNatClampNeg (10 : Int32).toNatClampNeg)) g tx) H := hP
  have hD : va_D A (xX K r f_2 (va_up a_5 5 (va_cpy (a_5 30) (a_5 5) (0 : Int32).toNatClampNeg (0 : Int32).toNatClampNeg (10 : Int32).toNatClampNeg)) g tx) := hD
  refine k_gen (P := fun z => va_P D vwCl (xX K r f_2 z g tx) H ∧ va_D A (xX K r f_2 z g tx) ∧ (xI f_2 z) ∧ (gOK K g.2 tt) ∧ (xEk ([32, 38, 44, 49, 50], [2, 3, 4, 5, 6, 7, 8, 9, 10, 11, 12, 13, 14], [15]) f a g f_2 z g)) (va_up a_5 5 (va_cpy (a_5 30) (a_5 5) (0 : Int32).toNatClampNeg (0 : Int32).toNatClampNeg (10 : Int32).toNatClampNeg)) ⟨hP, hD, (xI_a hI (by decide)), hG, (xEk_a hE rfl)⟩ (fun a_6 ea_6 hq => ?_)
  obtain ⟨hP, hD, hI, hG, hE⟩ := hq
  refine lv_aload_n hx hb dX7_copyFrom_68 rfl (lv_at hl 1 rfl) ?_
  refine va_get (D := D) (ci := 7) (v := .ref (r 31)) (C := RX7) (T := TX7) (N := 20) hx hb hg inC7 hown hK hP 26 rfl rfl 5 (by decide) (hg _ wt1_97) (fun _ h9 => h9) rfl dX7_copyFrom_69 ?_
  refine lv_iconst (v := 0) hx hb dX7_copyFrom_72 (by decide) ?_
  refine lv_aload_n hx hb dX7_copyFrom_73 rfl (lv_at hl 0 rfl) ?_
  refine va_get (D := D) (ci := 7) (v := .ref (r 6)) (C := RX7) (T := TX7) (N := 20) hx hb hg inC7 hown hK hP 1 rfl rfl 5 (by decide) (hg _ wt1_97) (fun _ h9 => h9) rfl dX7_copyFrom_74 ?_
  refine lv_iconst (v := 0) hx hb dX7_copyFrom_77 (by decide) ?_
  refine lv_bipush (v := 10) hx hb dX7_copyFrom_78 (by decide) ?_
  refine va_copyi (ty := .int) hx hb (hml.trans hl.1.symm) hown (hg _ wt4_83) (hg _ wt4_70) (hg _ wt4_69) (hg _ wt1_20) hK hP hD hS 31 6 0 0 rfl rfl rfl rfl rfl (by decide) (by decide) (by decide) (by decide +kernel) (by decide +kernel) (fun i _ => rfl) (by decide) (Nat.le_of_ble_eq_true rfl) dX7_copyFrom_80 (fun H locs hP hD hS => ?_)
  have hP : va_P D vwCl (xX K r f_2 (va_up a_6 6 (va_cpy (a_6 31) (a_6 6) (0 : Int32).toNatClampNeg (0 : Int32).toNatClampNeg (10 : Int32).toNatClampNeg)) g tx) H := hP
  have hD : va_D A (xX K r f_2 (va_up a_6 6 (va_cpy (a_6 31) (a_6 6) (0 : Int32).toNatClampNeg (0 : Int32).toNatClampNeg (10 : Int32).toNatClampNeg)) g tx) := hD
  refine k_gen (P := fun z => va_P D vwCl (xX K r f_2 z g tx) H ∧ va_D A (xX K r f_2 z g tx) ∧ (xI f_2 z) ∧ (gOK K g.2 tt) ∧ (xEk ([32, 38, 44, 49, 50], [2, 3, 4, 5, 6, 7, 8, 9, 10, 11, 12, 13, 14], [15]) f a g f_2 z g)) (va_up a_6 6 (va_cpy (a_6 31) (a_6 6) (0 : Int32).toNatClampNeg (0 : Int32).toNatClampNeg (10 : Int32).toNatClampNeg)) ⟨hP, hD, (xI_a hI (by decide)), hG, (xEk_a hE rfl)⟩ (fun a_7 ea_7 hq => ?_)
  obtain ⟨hP, hD, hI, hG, hE⟩ := hq
  refine lv_aload_n hx hb dX7_copyFrom_83 rfl (lv_at hl 0 rfl) ?_
  refine lv_aload_n hx hb dX7_copyFrom_84 rfl (lv_at hl 1 rfl) ?_
  refine va_get (D := D) (ci := 7) (v := .int (f_2 838)) (C := RX7) (T := TX7) (N := 20) hx hb hg inC7 hown hK hP 26 rfl rfl 6 (by decide) (hg _ wt1_104) (fun _ h9 => h9) rfl dX7_copyFrom_85 ?_
  refine k_top (z := s838) ((show f_2 838 = f 838 from by rw [← ef_2]; rfl).trans es838.symm) ?_
  refine va_put (D := D) (ci := 7) (v := .int s838) (ty := .int) (C := RX7) (T := TX7) (N := 20) hx hb hg inC7 tyX7 tyX7_ok nmX7 hown hK hP hD hS 1 rfl rfl 6 (by decide) (hg _ wt1_104) (fun _ h9 => h9) rfl (by decide +kernel) rfl rfl (Nat.le_of_ble_eq_true rfl) dX7_copyFrom_88 (fun H locs hP hD hS => ?_)
  have hP : va_P D vwCl (xX K r (upd f_2 38 s838) a_7 g tx) H := hP
  have hD : va_D A (xX K r (upd f_2 38 s838) a_7 g tx) := hD
  refine k_gen (P := fun z => va_P D vwCl (xX K r z a_7 g tx) H ∧ va_D A (xX K r z a_7 g tx) ∧ (xI z a_7) ∧ (gOK K g.2 tt) ∧ (xEk ([32, 38, 44, 49, 50], [2, 3, 4, 5, 6, 7, 8, 9, 10, 11, 12, 13, 14], [15]) f a g z a_7 g)) (upd f_2 38 s838) ⟨hP, hD, (xI_f hI (fI_st hI.1 38 (kb_any _) (by decide) (by decide))), hG, (xEk_f hE rfl)⟩ (fun f_8 ef_8 hq => ?_)
  obtain ⟨hP, hD, hI, hG, hE⟩ := hq
  refine lv_aload_n hx hb dX7_copyFrom_91 rfl (lv_at hl 1 rfl) ?_
  refine va_get (D := D) (ci := 7) (v := .ref (r 32)) (C := RX7) (T := TX7) (N := 20) hx hb hg inC7 hown hK hP 26 rfl rfl 7 (by decide) (hg _ wt1_110) (fun _ h9 => h9) rfl dX7_copyFrom_92 ?_
  refine lv_iconst (v := 0) hx hb dX7_copyFrom_95 (by decide) ?_
  refine lv_aload_n hx hb dX7_copyFrom_96 rfl (lv_at hl 0 rfl) ?_
  refine va_get (D := D) (ci := 7) (v := .ref (r 7)) (C := RX7) (T := TX7) (N := 20) hx hb hg inC7 hown hK hP 1 rfl rfl 7 (by decide) (hg _ wt1_110) (fun _ h9 => h9) rfl dX7_copyFrom_97 ?_
  refine lv_iconst (v := 0) hx hb dX7_copyFrom_100 (by decide) ?_
  refine lv_bipush (v := 6) hx hb dX7_copyFrom_101 (by decide) ?_
  refine va_copyi (ty := .int) hx hb (hml.trans hl.1.symm) hown (hg _ wt4_83) (hg _ wt4_70) (hg _ wt4_69) (hg _ wt1_20) hK hP hD hS 32 7 0 0 rfl rfl rfl rfl rfl (by decide) (by decide) (by decide) (by decide +kernel) (by decide +kernel) (fun i _ => rfl) (by decide) (Nat.le_of_ble_eq_true rfl) dX7_copyFrom_103 (fun H locs hP hD hS => ?_)
  have hP : va_P D vwCl (xX K r f_8 (va_up a_7 7 (va_cpy (a_7 32) (a_7 7) (0 : Int32).toNatClampNeg (0 : Int32).toNatClampNeg (6 : Int32).toNatClampNeg)) g tx) H := hP
  have hD : va_D A (xX K r f_8 (va_up a_7 7 (va_cpy (a_7 32) (a_7 7) (0 : Int32).toNatClampNeg (0 : Int32).toNatClampNeg (6 : Int32).toNatClampNeg)) g tx) := hD
  refine k_gen (P := fun z => va_P D vwCl (xX K r f_8 z g tx) H ∧ va_D A (xX K r f_8 z g tx) ∧ (xI f_8 z) ∧ (gOK K g.2 tt) ∧ (xEk ([32, 38, 44, 49, 50], [2, 3, 4, 5, 6, 7, 8, 9, 10, 11, 12, 13, 14], [15]) f a g f_8 z g)) (va_up a_7 7 (va_cpy (a_7 32) (a_7 7) (0 : Int32).toNatClampNeg (0 : Int32).toNatClampNeg (6 : Int32).toNatClampNeg)) ⟨hP, hD, (xI_a hI (by decide)), hG, (xEk_a hE rfl)⟩ (fun a_9 ea_9 hq => ?_)
  obtain ⟨hP, hD, hI, hG, hE⟩ := hq
  refine lv_aload_n hx hb dX7_copyFrom_106 rfl (lv_at hl 1 rfl) ?_
  refine va_get (D := D) (ci := 7) (v := .ref (r 33)) (C := RX7) (T := TX7) (N := 20) hx hb hg inC7 hown hK hP 26 rfl rfl 8 (by decide) (hg _ wt1_114) (fun _ h9 => h9) rfl dX7_copyFrom_107 ?_
  refine lv_iconst (v := 0) hx hb dX7_copyFrom_110 (by decide) ?_
  refine lv_aload_n hx hb dX7_copyFrom_111 rfl (lv_at hl 0 rfl) ?_
  refine va_get (D := D) (ci := 7) (v := .ref (r 8)) (C := RX7) (T := TX7) (N := 20) hx hb hg inC7 hown hK hP 1 rfl rfl 8 (by decide) (hg _ wt1_114) (fun _ h9 => h9) rfl dX7_copyFrom_112 ?_
  refine lv_iconst (v := 0) hx hb dX7_copyFrom_115 (by decide) ?_
  refine lv_bipush (v := 6) hx hb dX7_copyFrom_116 (by decide) ?_
  refine va_copyi (ty := .int) hx hb (hml.trans hl.1.symm) hown (hg _ wt4_83) (hg _ wt4_70) (hg _ wt4_69) (hg _ wt1_20) hK hP hD hS 33 8 0 0 rfl rfl rfl rfl rfl (by decide) (by decide) (by decide) (by decide +kernel) (by decide +kernel) (fun i _ => rfl) (by decide) (Nat.le_of_ble_eq_true rfl) dX7_copyFrom_118 (fun H locs hP hD hS => ?_)
  have hP : va_P D vwCl (xX K r f_8 (va_up a_9 8 (va_cpy (a_9 33) (a_9 8) (0 : Int32).toNatClampNeg (0 : Int32).toNatClampNeg (6 : Int32).toNatClampNeg)) g tx) H := hP
  have hD : va_D A (xX K r f_8 (va_up a_9 8 (va_cpy (a_9 33) (a_9 8) (0 : Int32).toNatClampNeg (0 : Int32).toNatClampNeg (6 : Int32).toNatClampNeg)) g tx) := hD
  refine k_gen (P := fun z => va_P D vwCl (xX K r f_8 z g tx) H ∧ va_D A (xX K r f_8 z g tx) ∧ (xI f_8 z) ∧ (gOK K g.2 tt) ∧ (xEk ([32, 38, 44, 49, 50], [2, 3, 4, 5, 6, 7, 8, 9, 10, 11, 12, 13, 14], [15]) f a g f_8 z g)) (va_up a_9 8 (va_cpy (a_9 33) (a_9 8) (0 : Int32).toNatClampNeg (0 : Int32).toNatClampNeg (6 : Int32).toNatClampNeg)) ⟨hP, hD, (xI_a hI (by decide)), hG, (xEk_a hE rfl)⟩ (fun a_10 ea_10 hq => ?_)
  obtain ⟨hP, hD, hI, hG, hE⟩ := hq
  refine lv_aload_n hx hb dX7_copyFrom_121 rfl (lv_at hl 1 rfl) ?_
  refine va_get (D := D) (ci := 7) (v := .ref (r 34)) (C := RX7) (T := TX7) (N := 20) hx hb hg inC7 hown hK hP 26 rfl rfl 9 (by decide) (hg _ wt1_116) (fun _ h9 => h9) rfl dX7_copyFrom_122 ?_
  refine lv_iconst (v := 0) hx hb dX7_copyFrom_125 (by decide) ?_
  refine lv_aload_n hx hb dX7_copyFrom_126 rfl (lv_at hl 0 rfl) ?_
  refine va_get (D := D) (ci := 7) (v := .ref (r 9)) (C := RX7) (T := TX7) (N := 20) hx hb hg inC7 hown hK hP 1 rfl rfl 9 (by decide) (hg _ wt1_116) (fun _ h9 => h9) rfl dX7_copyFrom_127 ?_
  refine lv_iconst (v := 0) hx hb dX7_copyFrom_130 (by decide) ?_
  refine lv_bipush (v := 6) hx hb dX7_copyFrom_131 (by decide) ?_
  refine va_copyi (ty := .int) hx hb (hml.trans hl.1.symm) hown (hg _ wt4_83) (hg _ wt4_70) (hg _ wt4_69) (hg _ wt1_20) hK hP hD hS 34 9 0 0 rfl rfl rfl rfl rfl (by decide) (by decide) (by decide) (by decide +kernel) (by decide +kernel) (fun i _ => rfl) (by decide) (Nat.le_of_ble_eq_true rfl) dX7_copyFrom_133 (fun H locs hP hD hS => ?_)
  have hP : va_P D vwCl (xX K r f_8 (va_up a_10 9 (va_cpy (a_10 34) (a_10 9) (0 : Int32).toNatClampNeg (0 : Int32).toNatClampNeg (6 : Int32).toNatClampNeg)) g tx) H := hP
  have hD : va_D A (xX K r f_8 (va_up a_10 9 (va_cpy (a_10 34) (a_10 9) (0 : Int32).toNatClampNeg (0 : Int32).toNatClampNeg (6 : Int32).toNatClampNeg)) g tx) := hD
  refine k_gen (P := fun z => va_P D vwCl (xX K r f_8 z g tx) H ∧ va_D A (xX K r f_8 z g tx) ∧ (xI f_8 z) ∧ (gOK K g.2 tt) ∧ (xEk ([32, 38, 44, 49, 50], [2, 3, 4, 5, 6, 7, 8, 9, 10, 11, 12, 13, 14], [15]) f a g f_8 z g)) (va_up a_10 9 (va_cpy (a_10 34) (a_10 9) (0 : Int32).toNatClampNeg (0 : Int32).toNatClampNeg (6 : Int32).toNatClampNeg)) ⟨hP, hD, (xI_a hI (by decide)), hG, (xEk_a hE rfl)⟩ (fun a_11 ea_11 hq => ?_)
  obtain ⟨hP, hD, hI, hG, hE⟩ := hq
  refine lv_aload_n hx hb dX7_copyFrom_136 rfl (lv_at hl 1 rfl) ?_
  refine va_get (D := D) (ci := 7) (v := .ref (r 35)) (C := RX7) (T := TX7) (N := 20) hx hb hg inC7 hown hK hP 26 rfl rfl 10 (by decide) (hg _ wt1_121) (fun _ h9 => h9) rfl dX7_copyFrom_137 ?_
  refine lv_iconst (v := 0) hx hb dX7_copyFrom_140 (by decide) ?_
  refine lv_aload_n hx hb dX7_copyFrom_141 rfl (lv_at hl 0 rfl) ?_
  refine va_get (D := D) (ci := 7) (v := .ref (r 10)) (C := RX7) (T := TX7) (N := 20) hx hb hg inC7 hown hK hP 1 rfl rfl 10 (by decide) (hg _ wt1_121) (fun _ h9 => h9) rfl dX7_copyFrom_142 ?_
  refine lv_iconst (v := 0) hx hb dX7_copyFrom_145 (by decide) ?_
  refine lv_bipush (v := 6) hx hb dX7_copyFrom_146 (by decide) ?_
  refine va_copyi (ty := .int) hx hb (hml.trans hl.1.symm) hown (hg _ wt4_83) (hg _ wt4_70) (hg _ wt4_69) (hg _ wt1_20) hK hP hD hS 35 10 0 0 rfl rfl rfl rfl rfl (by decide) (by decide) (by decide) (by decide +kernel) (by decide +kernel) (fun i _ => rfl) (by decide) (Nat.le_of_ble_eq_true rfl) dX7_copyFrom_148 (fun H locs hP hD hS => ?_)
  have hP : va_P D vwCl (xX K r f_8 (va_up a_11 10 (va_cpy (a_11 35) (a_11 10) (0 : Int32).toNatClampNeg (0 : Int32).toNatClampNeg (6 : Int32).toNatClampNeg)) g tx) H := hP
  have hD : va_D A (xX K r f_8 (va_up a_11 10 (va_cpy (a_11 35) (a_11 10) (0 : Int32).toNatClampNeg (0 : Int32).toNatClampNeg (6 : Int32).toNatClampNeg)) g tx) := hD
  refine k_gen (P := fun z => va_P D vwCl (xX K r f_8 z g tx) H ∧ va_D A (xX K r f_8 z g tx) ∧ (xI f_8 z) ∧ (gOK K g.2 tt) ∧ (xEk ([32, 38, 44, 49, 50], [2, 3, 4, 5, 6, 7, 8, 9, 10, 11, 12, 13, 14], [15]) f a g f_8 z g)) (va_up a_11 10 (va_cpy (a_11 35) (a_11 10) (0 : Int32).toNatClampNeg (0 : Int32).toNatClampNeg (6 : Int32).toNatClampNeg)) ⟨hP, hD, (xI_a hI (by decide)), hG, (xEk_a hE rfl)⟩ (fun a_12 ea_12 hq => ?_)
  obtain ⟨hP, hD, hI, hG, hE⟩ := hq
  refine lv_aload_n hx hb dX7_copyFrom_151 rfl (lv_at hl 1 rfl) ?_
  refine va_get (D := D) (ci := 7) (v := .ref (r 36)) (C := RX7) (T := TX7) (N := 20) hx hb hg inC7 hown hK hP 26 rfl rfl 11 (by decide) (hg _ wt1_127) (fun _ h9 => h9) rfl dX7_copyFrom_152 ?_
  refine lv_iconst (v := 0) hx hb dX7_copyFrom_155 (by decide) ?_
  refine lv_aload_n hx hb dX7_copyFrom_156 rfl (lv_at hl 0 rfl) ?_
  refine va_get (D := D) (ci := 7) (v := .ref (r 11)) (C := RX7) (T := TX7) (N := 20) hx hb hg inC7 hown hK hP 1 rfl rfl 11 (by decide) (hg _ wt1_127) (fun _ h9 => h9) rfl dX7_copyFrom_157 ?_
  refine lv_iconst (v := 0) hx hb dX7_copyFrom_160 (by decide) ?_
  refine lv_iconst (v := 4) hx hb dX7_copyFrom_161 (by decide) ?_
  refine va_copyi (ty := .int) hx hb (hml.trans hl.1.symm) hown (hg _ wt4_83) (hg _ wt4_70) (hg _ wt4_69) (hg _ wt1_20) hK hP hD hS 36 11 0 0 rfl rfl rfl rfl rfl (by decide) (by decide) (by decide) (by decide +kernel) (by decide +kernel) (fun i _ => rfl) (by decide) (Nat.le_of_ble_eq_true rfl) dX7_copyFrom_162 (fun H locs hP hD hS => ?_)
  have hP : va_P D vwCl (xX K r f_8 (va_up a_12 11 (va_cpy (a_12 36) (a_12 11) (0 : Int32).toNatClampNeg (0 : Int32).toNatClampNeg (4 : Int32).toNatClampNeg)) g tx) H := hP
  have hD : va_D A (xX K r f_8 (va_up a_12 11 (va_cpy (a_12 36) (a_12 11) (0 : Int32).toNatClampNeg (0 : Int32).toNatClampNeg (4 : Int32).toNatClampNeg)) g tx) := hD
  refine k_gen (P := fun z => va_P D vwCl (xX K r f_8 z g tx) H ∧ va_D A (xX K r f_8 z g tx) ∧ (xI f_8 z) ∧ (gOK K g.2 tt) ∧ (xEk ([32, 38, 44, 49, 50], [2, 3, 4, 5, 6, 7, 8, 9, 10, 11, 12, 13, 14], [15]) f a g f_8 z g)) (va_up a_12 11 (va_cpy (a_12 36) (a_12 11) (0 : Int32).toNatClampNeg (0 : Int32).toNatClampNeg (4 : Int32).toNatClampNeg)) ⟨hP, hD, (xI_a hI (by decide)), hG, (xEk_a hE rfl)⟩ (fun a_13 ea_13 hq => ?_)
  obtain ⟨hP, hD, hI, hG, hE⟩ := hq
  refine lv_aload_n hx hb dX7_copyFrom_165 rfl (lv_at hl 0 rfl) ?_
  refine lv_aload_n hx hb dX7_copyFrom_166 rfl (lv_at hl 1 rfl) ?_
  refine va_get (D := D) (ci := 7) (v := .int (f_8 844)) (C := RX7) (T := TX7) (N := 20) hx hb hg inC7 hown hK hP 26 rfl rfl 12 (by decide) (hg _ wt1_135) (fun _ h9 => h9) rfl dX7_copyFrom_167 ?_
  refine k_top (z := s844) ((show f_8 844 = f_2 844 from by rw [← ef_8]; rfl).trans ((show f_2 844 = f 844 from by rw [← ef_2]; rfl).trans es844.symm)) ?_
  refine va_put (D := D) (ci := 7) (v := .int s844) (ty := .int) (C := RX7) (T := TX7) (N := 20) hx hb hg inC7 tyX7 tyX7_ok nmX7 hown hK hP hD hS 1 rfl rfl 12 (by decide) (hg _ wt1_135) (fun _ h9 => h9) rfl (by decide +kernel) rfl rfl (Nat.le_of_ble_eq_true rfl) dX7_copyFrom_170 (fun H locs hP hD hS => ?_)
  have hP : va_P D vwCl (xX K r (upd f_8 44 s844) a_13 g tx) H := hP
  have hD : va_D A (xX K r (upd f_8 44 s844) a_13 g tx) := hD
  refine k_gen (P := fun z => va_P D vwCl (xX K r z a_13 g tx) H ∧ va_D A (xX K r z a_13 g tx) ∧ (xI z a_13) ∧ (gOK K g.2 tt) ∧ (xEk ([32, 38, 44, 49, 50], [2, 3, 4, 5, 6, 7, 8, 9, 10, 11, 12, 13, 14], [15]) f a g z a_13 g)) (upd f_8 44 s844) ⟨hP, hD, (xI_f hI (fI_st hI.1 44 (kb_any _) (by decide) (by decide))), hG, (xEk_f hE rfl)⟩ (fun f_14 ef_14 hq => ?_)
  obtain ⟨hP, hD, hI, hG, hE⟩ := hq
  refine lv_aload_n hx hb dX7_copyFrom_173 rfl (lv_at hl 1 rfl) ?_
  refine va_get (D := D) (ci := 7) (v := .ref (r 37)) (C := RX7) (T := TX7) (N := 20) hx hb hg inC7 hown hK hP 26 rfl rfl 13 (by decide) (hg _ wt1_138) (fun _ h9 => h9) rfl dX7_copyFrom_174 ?_
  refine lv_iconst (v := 0) hx hb dX7_copyFrom_177 (by decide) ?_
  refine lv_aload_n hx hb dX7_copyFrom_178 rfl (lv_at hl 0 rfl) ?_
  refine va_get (D := D) (ci := 7) (v := .ref (r 12)) (C := RX7) (T := TX7) (N := 20) hx hb hg inC7 hown hK hP 1 rfl rfl 13 (by decide) (hg _ wt1_138) (fun _ h9 => h9) rfl dX7_copyFrom_179 ?_
  refine lv_iconst (v := 0) hx hb dX7_copyFrom_182 (by decide) ?_
  refine lv_bipush (v := 8) hx hb dX7_copyFrom_183 (by decide) ?_
  refine va_copyi (ty := .int) hx hb (hml.trans hl.1.symm) hown (hg _ wt4_83) (hg _ wt4_70) (hg _ wt4_69) (hg _ wt1_20) hK hP hD hS 37 12 0 0 rfl rfl rfl rfl rfl (by decide) (by decide) (by decide) (by decide +kernel) (by decide +kernel) (fun i _ => rfl) (by decide) (Nat.le_of_ble_eq_true rfl) dX7_copyFrom_185 (fun H locs hP hD hS => ?_)
  have hP : va_P D vwCl (xX K r f_14 (va_up a_13 12 (va_cpy (a_13 37) (a_13 12) (0 : Int32).toNatClampNeg (0 : Int32).toNatClampNeg (8 : Int32).toNatClampNeg)) g tx) H := hP
  have hD : va_D A (xX K r f_14 (va_up a_13 12 (va_cpy (a_13 37) (a_13 12) (0 : Int32).toNatClampNeg (0 : Int32).toNatClampNeg (8 : Int32).toNatClampNeg)) g tx) := hD
  refine k_gen (P := fun z => va_P D vwCl (xX K r f_14 z g tx) H ∧ va_D A (xX K r f_14 z g tx) ∧ (xI f_14 z) ∧ (gOK K g.2 tt) ∧ (xEk ([32, 38, 44, 49, 50], [2, 3, 4, 5, 6, 7, 8, 9, 10, 11, 12, 13, 14], [15]) f a g f_14 z g)) (va_up a_13 12 (va_cpy (a_13 37) (a_13 12) (0 : Int32).toNatClampNeg (0 : Int32).toNatClampNeg (8 : Int32).toNatClampNeg)) ⟨hP, hD, (xI_a hI (by decide)), hG, (xEk_a hE rfl)⟩ (fun a_15 ea_15 hq => ?_)
  obtain ⟨hP, hD, hI, hG, hE⟩ := hq
  refine lv_aload_n hx hb dX7_copyFrom_188 rfl (lv_at hl 1 rfl) ?_
  refine va_get (D := D) (ci := 7) (v := .ref (r 38)) (C := RX7) (T := TX7) (N := 20) hx hb hg inC7 hown hK hP 26 rfl rfl 14 (by decide) (hg _ wt1_141) (fun _ h9 => h9) rfl dX7_copyFrom_189 ?_
  refine lv_iconst (v := 0) hx hb dX7_copyFrom_192 (by decide) ?_
  refine lv_aload_n hx hb dX7_copyFrom_193 rfl (lv_at hl 0 rfl) ?_
  refine va_get (D := D) (ci := 7) (v := .ref (r 13)) (C := RX7) (T := TX7) (N := 20) hx hb hg inC7 hown hK hP 1 rfl rfl 14 (by decide) (hg _ wt1_141) (fun _ h9 => h9) rfl dX7_copyFrom_194 ?_
  refine lv_iconst (v := 0) hx hb dX7_copyFrom_197 (by decide) ?_
  refine lv_bipush (v := 8) hx hb dX7_copyFrom_198 (by decide) ?_
  refine va_copyi (ty := .int) hx hb (hml.trans hl.1.symm) hown (hg _ wt4_83) (hg _ wt4_70) (hg _ wt4_69) (hg _ wt1_20) hK hP hD hS 38 13 0 0 rfl rfl rfl rfl rfl (by decide) (by decide) (by decide) (by decide +kernel) (by decide +kernel) (fun i _ => rfl) (by decide) (Nat.le_of_ble_eq_true rfl) dX7_copyFrom_200 (fun H locs hP hD hS => ?_)
  have hP : va_P D vwCl (xX K r f_14 (va_up a_15 13 (va_cpy (a_15 38) (a_15 13) (0 : Int32).toNatClampNeg (0 : Int32).toNatClampNeg (8 : Int32).toNatClampNeg)) g tx) H := hP
  have hD : va_D A (xX K r f_14 (va_up a_15 13 (va_cpy (a_15 38) (a_15 13) (0 : Int32).toNatClampNeg (0 : Int32).toNatClampNeg (8 : Int32).toNatClampNeg)) g tx) := hD
  refine k_gen (P := fun z => va_P D vwCl (xX K r f_14 z g tx) H ∧ va_D A (xX K r f_14 z g tx) ∧ (xI f_14 z) ∧ (gOK K g.2 tt) ∧ (xEk ([32, 38, 44, 49, 50], [2, 3, 4, 5, 6, 7, 8, 9, 10, 11, 12, 13, 14], [15]) f a g f_14 z g)) (va_up a_15 13 (va_cpy (a_15 38) (a_15 13) (0 : Int32).toNatClampNeg (0 : Int32).toNatClampNeg (8 : Int32).toNatClampNeg)) ⟨hP, hD, (xI_a hI (by decide)), hG, (xEk_a hE rfl)⟩ (fun a_16 ea_16 hq => ?_)
  obtain ⟨hP, hD, hI, hG, hE⟩ := hq
  refine lv_aload_n hx hb dX7_copyFrom_203 rfl (lv_at hl 1 rfl) ?_
  refine va_get (D := D) (ci := 7) (v := .ref (r 39)) (C := RX7) (T := TX7) (N := 20) hx hb hg inC7 hown hK hP 26 rfl rfl 15 (by decide) (hg _ wt1_144) (fun _ h9 => h9) rfl dX7_copyFrom_204 ?_
  refine lv_iconst (v := 0) hx hb dX7_copyFrom_207 (by decide) ?_
  refine lv_aload_n hx hb dX7_copyFrom_208 rfl (lv_at hl 0 rfl) ?_
  refine va_get (D := D) (ci := 7) (v := .ref (r 14)) (C := RX7) (T := TX7) (N := 20) hx hb hg inC7 hown hK hP 1 rfl rfl 15 (by decide) (hg _ wt1_144) (fun _ h9 => h9) rfl dX7_copyFrom_209 ?_
  refine lv_iconst (v := 0) hx hb dX7_copyFrom_212 (by decide) ?_
  refine lv_bipush (v := 8) hx hb dX7_copyFrom_213 (by decide) ?_
  refine va_copyi (ty := .int) hx hb (hml.trans hl.1.symm) hown (hg _ wt4_83) (hg _ wt4_70) (hg _ wt4_69) (hg _ wt1_20) hK hP hD hS 39 14 0 0 rfl rfl rfl rfl rfl (by decide) (by decide) (by decide) (by decide +kernel) (by decide +kernel) (fun i _ => rfl) (by decide) (Nat.le_of_ble_eq_true rfl) dX7_copyFrom_215 (fun H locs hP hD hS => ?_)
  have hP : va_P D vwCl (xX K r f_14 (va_up a_16 14 (va_cpy (a_16 39) (a_16 14) (0 : Int32).toNatClampNeg (0 : Int32).toNatClampNeg (8 : Int32).toNatClampNeg)) g tx) H := hP
  have hD : va_D A (xX K r f_14 (va_up a_16 14 (va_cpy (a_16 39) (a_16 14) (0 : Int32).toNatClampNeg (0 : Int32).toNatClampNeg (8 : Int32).toNatClampNeg)) g tx) := hD
  refine k_gen (P := fun z => va_P D vwCl (xX K r f_14 z g tx) H ∧ va_D A (xX K r f_14 z g tx) ∧ (xI f_14 z) ∧ (gOK K g.2 tt) ∧ (xEk ([32, 38, 44, 49, 50], [2, 3, 4, 5, 6, 7, 8, 9, 10, 11, 12, 13, 14], [15]) f a g f_14 z g)) (va_up a_16 14 (va_cpy (a_16 39) (a_16 14) (0 : Int32).toNatClampNeg (0 : Int32).toNatClampNeg (8 : Int32).toNatClampNeg)) ⟨hP, hD, (xI_a hI (by decide)), hG, (xEk_a hE rfl)⟩ (fun a_17 ea_17 hq => ?_)
  obtain ⟨hP, hD, hI, hG, hE⟩ := hq
  refine lv_iconst (v := 0) hx hb dX7_copyFrom_218 (by decide) ?_
  refine lv_istore_n (lv' := [(2, .int 0), (0, .ref (r 1)), (1, .ref (r 26))]) hx hb dX7_copyFrom_219 rfl hl (by decide) rfl (fun ls hl => ?_)
  have lp20 : ∀ (n21 : Nat) (nn : Nat) (G19 : xG) (H : Heap) (locs : List Loc) (ls : Array Slot) (y18 : Int32), (6 < y18.toInt + (n21 : Int)) → (xI f_14 a_17) → (gOK K G19.2 tt) → (xEk ([32, 38, 44, 49, 50], [2, 3, 4, 5, 6, 7, 8, 9, 10, 11, 12, 13, 14], [15]) f a g f_14 a_17 G19) → (kb 0 y18 6) → (y18.toInt = (nn : Int)) → (∀ i, i < nn → G19.2 15 i = g.2 40 i) → (nn ≤ 6) → va_P D vwCl (xX K r f_14 a_17 G19 tx) H → va_D A (xX K r f_14 a_17 G19 tx) → va_S A s.heap H locs → lv_has ls 3 [(2, .int y18), (0, .ref (r 1)), (1, .ref (r 26))] → W p l e (rmD 2 0 0) s m ([.ref (r 1), .ref (r 26)] : List Value).toArray below meth c H locs 0 0 (kQv D (tysK K) (fun (u : xS) => xI u.1 u.2.1 ∧ gOK K u.2.2.2 tt ∧ xEk ([32, 38, 44, 49, 50], [2, 3, 4, 5, 6, 7, 8, 9, 10, 11, 12, 13, 14], [15]) f a g u.1 u.2.1 u.2.2 ∧ sV 32 2 u.1 u.2.1 k ∧ (∀ i, i < 6 → u.2.2.2 15 i = g.2 40 i)) (fun u => xX K r u.1 u.2.1 u.2.2 tx) A below ([.ref (r 1), .ref (r 26)] : List Value).toArray s 0 0) (F0 m 220 ls []) := by
    intro n21
    induction n21 with
    | zero =>
      intro nn G19  H locs ls y18 hmlp20 hI hG hE b22 hvlp20_0 hvlp20_1 hvlp20_2 hP hD hS hl
      exact (by have h1 := b22.2; have h2 := hmlp20; omega : False).elim
    | succ n21 ihlp20 =>
      intro nn G19  H locs ls y18 hmlp20 hI hG hE b22 hvlp20_0 hvlp20_1 hvlp20_2 hP hD hS hl
      have hnn : y18 = nI nn := nI_q hvlp20_0
      have hE9 := hE
      refine lv_iload_n hx hb dX7_copyFrom_220 rfl (lv_at hl 0 rfl) ?_
      refine lv_bipush (v := 6) hx hb dX7_copyFrom_221 (by decide) ?_
      refine lv_icmp_ge (tgt := 244) hx hb dX7_copyFrom_223 (by decide) (fun c23 => ?_) (fun c23 => ?_)
      · have h24 := (kc_le c23)
        have b25 : kb 6 y18 6 := kr_le2 h24 kc_6 b22
        refine lv_aload_n hx hb dX7_copyFrom_244 rfl (lv_at hl 1 rfl) ?_
        refine lv_aload_n hx hb dX7_copyFrom_245 rfl (lv_at hl 2 rfl) ?_
        refine va_get (D := D) (ci := 7) (v := .int (f_14 849)) (C := RX7) (T := TX7) (N := 20) hx hb hg inC7 hown hK hP 26 rfl rfl 17 (by decide) (hg _ wt1_149) (fun _ h9 => h9) rfl dX7_copyFrom_246 ?_
        refine k_top (z := s849) ((show f_14 849 = f_8 849 from by rw [← ef_14]; rfl).trans ((show f_8 849 = f_2 849 from by rw [← ef_8]; rfl).trans ((show f_2 849 = f 849 from by rw [← ef_2]; rfl).trans es849.symm))) ?_
        refine va_put (D := D) (ci := 7) (v := .int s849) (ty := .int) (C := RX7) (T := TX7) (N := 20) hx hb hg inC7 tyX7 tyX7_ok nmX7 hown hK hP hD hS 1 rfl rfl 17 (by decide) (hg _ wt1_149) (fun _ h9 => h9) rfl (by decide +kernel) rfl rfl (Nat.le_of_ble_eq_true rfl) dX7_copyFrom_249 (fun H locs hP hD hS => ?_)
        have hP : va_P D vwCl (xX K r (upd f_14 49 s849) a_17 G19 tx) H := hP
        have hD : va_D A (xX K r (upd f_14 49 s849) a_17 G19 tx) := hD
        refine k_gen (P := fun z => va_P D vwCl (xX K r z a_17 G19 tx) H ∧ va_D A (xX K r z a_17 G19 tx) ∧ (xI z a_17) ∧ (gOK K G19.2 tt) ∧ (xEk ([32, 38, 44, 49, 50], [2, 3, 4, 5, 6, 7, 8, 9, 10, 11, 12, 13, 14], [15]) f a g z a_17 G19)) (upd f_14 49 s849) ⟨hP, hD, (xI_f hI (fI_st hI.1 49 (kb_any _) (by decide) (by decide))), hG, (xEk_f hE rfl)⟩ (fun f_26 ef_26 hq => ?_)
        obtain ⟨hP, hD, hI, hG, hE⟩ := hq
        refine lv_aload_n hx hb dX7_copyFrom_252 rfl (lv_at hl 1 rfl) ?_
        refine lv_aload_n hx hb dX7_copyFrom_253 rfl (lv_at hl 2 rfl) ?_
        refine va_get (D := D) (ci := 7) (v := .int (f_26 850)) (C := RX7) (T := TX7) (N := 20) hx hb hg inC7 hown hK hP 26 rfl rfl 18 (by decide) (hg _ wt1_151) (fun _ h9 => h9) rfl dX7_copyFrom_254 ?_
        refine k_top (z := s850) ((show f_26 850 = f_14 850 from by rw [← ef_26]; rfl).trans ((show f_14 850 = f_8 850 from by rw [← ef_14]; rfl).trans ((show f_8 850 = f_2 850 from by rw [← ef_8]; rfl).trans ((show f_2 850 = f 850 from by rw [← ef_2]; rfl).trans es850.symm)))) ?_
        refine va_put (D := D) (ci := 7) (v := .int s850) (ty := .int) (C := RX7) (T := TX7) (N := 20) hx hb hg inC7 tyX7 tyX7_ok nmX7 hown hK hP hD hS 1 rfl rfl 18 (by decide) (hg _ wt1_151) (fun _ h9 => h9) rfl (by decide +kernel) rfl rfl (Nat.le_of_ble_eq_true rfl) dX7_copyFrom_257 (fun H locs hP hD hS => ?_)
        have hP : va_P D vwCl (xX K r (upd f_26 50 s850) a_17 G19 tx) H := hP
        have hD : va_D A (xX K r (upd f_26 50 s850) a_17 G19 tx) := hD
        refine k_gen (P := fun z => va_P D vwCl (xX K r z a_17 G19 tx) H ∧ va_D A (xX K r z a_17 G19 tx) ∧ (xI z a_17) ∧ (gOK K G19.2 tt) ∧ (xEk ([32, 38, 44, 49, 50], [2, 3, 4, 5, 6, 7, 8, 9, 10, 11, 12, 13, 14], [15]) f a g z a_17 G19)) (upd f_26 50 s850) ⟨hP, hD, (xI_f hI (fI_st hI.1 50 (kb_any _) (by decide) (by decide))), hG, (xEk_f hE rfl)⟩ (fun f_27 ef_27 hq => ?_)
        obtain ⟨hP, hD, hI, hG, hE⟩ := hq
        exact kV_ret hx hb hr hlocks hK hS dX7_copyFrom_260 (f_27, a_17, G19) hP hD ⟨hI, hG, hE, (sV_cp hVw ((((show f_27 32 = f_26 32 from by rw [← ef_27]; rfl).trans ((show f_26 32 = f_14 32 from by rw [← ef_26]; rfl).trans ((show f_14 32 = f_8 32 from by rw [← ef_14]; rfl).trans ((show f_8 32 = f_2 32 from by rw [← ef_8]; rfl).trans (show f_2 32 = s832 from by rw [← ef_2]; rfl)))))).trans es832) ((((show f_27 38 = f_26 38 from by rw [← ef_27]; rfl).trans ((show f_26 38 = f_14 38 from by rw [← ef_26]; rfl).trans ((show f_14 38 = f_8 38 from by rw [← ef_14]; rfl).trans (show f_8 38 = s838 from by rw [← ef_8]; rfl))))).trans es838) ((((show f_27 44 = f_26 44 from by rw [← ef_27]; rfl).trans ((show f_26 44 = f_14 44 from by rw [← ef_26]; rfl).trans (show f_14 44 = s844 from by rw [← ef_14]; rfl)))).trans es844) ((((show f_27 49 = f_26 49 from by rw [← ef_27]; rfl).trans (show f_26 49 = s849 from by rw [← ef_26]; rfl))).trans es849) (((show f_27 50 = s850 from by rw [← ef_27]; rfl)).trans es850) (fun i hi => (congrFun ((show a_17 2 = a_16 2 from by rw [← ea_17]; rfl).trans ((show a_16 2 = a_15 2 from by rw [← ea_16]; rfl).trans ((show a_15 2 = a_13 2 from by rw [← ea_15]; rfl).trans ((show a_13 2 = a_12 2 from by rw [← ea_13]; rfl).trans ((show a_12 2 = a_11 2 from by rw [← ea_12]; rfl).trans ((show a_11 2 = a_10 2 from by rw [← ea_11]; rfl).trans ((show a_10 2 = a_9 2 from by rw [← ea_10]; rfl).trans ((show a_9 2 = a_7 2 from by rw [← ea_9]; rfl).trans ((show a_7 2 = a_6 2 from by rw [← ea_7]; rfl).trans ((show a_6 2 = a_5 2 from by rw [← ea_6]; rfl).trans ((show a_5 2 = a_4 2 from by rw [← ea_5]; rfl).trans (show a_4 2 = a_3 2 from by rw [← ea_4]; rfl)))))))))))) i).trans ((cp_z (n := 10) (show a_3 2 = _ from by rw [← ea_3]; rfl) (by decide +kernel) (by decide +kernel) (by decide +kernel) i hi).trans (congrFun rfl i))) (fun i hi => (congrFun ((show a_17 3 = a_16 3 from by rw [← ea_17]; rfl).trans ((show a_16 3 = a_15 3 from by rw [← ea_16]; rfl).trans ((show a_15 3 = a_13 3 from by rw [← ea_15]; rfl).trans ((show a_13 3 = a_12 3 from by rw [← ea_13]; rfl).trans ((show a_12 3 = a_11 3 from by rw [← ea_12]; rfl).trans ((show a_11 3 = a_10 3 from by rw [← ea_11]; rfl).trans ((show a_10 3 = a_9 3 from by rw [← ea_10]; rfl).trans ((show a_9 3 = a_7 3 from by rw [← ea_9]; rfl).trans ((show a_7 3 = a_6 3 from by rw [← ea_7]; rfl).trans ((show a_6 3 = a_5 3 from by rw [← ea_6]; rfl).trans (show a_5 3 = a_4 3 from by rw [← ea_5]; rfl))))))))))) i).trans ((cp_z (n := 10) (show a_4 3 = _ from by rw [← ea_4]; rfl) (by decide +kernel) (by decide +kernel) (by decide +kernel) i hi).trans (congrFun (show a_3 28 = a 28 from by rw [← ea_3]; rfl) i))) (fun i hi => (congrFun ((show a_17 4 = a_16 4 from by rw [← ea_17]; rfl).trans ((show a_16 4 = a_15 4 from by rw [← ea_16]; rfl).trans ((show a_15 4 = a_13 4 from by rw [← ea_15]; rfl).trans ((show a_13 4 = a_12 4 from by rw [← ea_13]; rfl).trans ((show a_12 4 = a_11 4 from by rw [← ea_12]; rfl).trans ((show a_11 4 = a_10 4 from by rw [← ea_11]; rfl).trans ((show a_10 4 = a_9 4 from by rw [← ea_10]; rfl).trans ((show a_9 4 = a_7 4 from by rw [← ea_9]; rfl).trans ((show a_7 4 = a_6 4 from by rw [← ea_7]; rfl).trans (show a_6 4 = a_5 4 from by rw [← ea_6]; rfl)))))))))) i).trans ((cp_z (n := 10) (show a_5 4 = _ from by rw [← ea_5]; rfl) (by decide +kernel) (by decide +kernel) (by decide +kernel) i hi).trans (congrFun ((show a_4 29 = a_3 29 from by rw [← ea_4]; rfl).trans (show a_3 29 = a 29 from by rw [← ea_3]; rfl)) i))) (fun i hi => (congrFun ((show a_17 5 = a_16 5 from by rw [← ea_17]; rfl).trans ((show a_16 5 = a_15 5 from by rw [← ea_16]; rfl).trans ((show a_15 5 = a_13 5 from by rw [← ea_15]; rfl).trans ((show a_13 5 = a_12 5 from by rw [← ea_13]; rfl).trans ((show a_12 5 = a_11 5 from by rw [← ea_12]; rfl).trans ((show a_11 5 = a_10 5 from by rw [← ea_11]; rfl).trans ((show a_10 5 = a_9 5 from by rw [← ea_10]; rfl).trans ((show a_9 5 = a_7 5 from by rw [← ea_9]; rfl).trans (show a_7 5 = a_6 5 from by rw [← ea_7]; rfl))))))))) i).trans ((cp_z (n := 10) (show a_6 5 = _ from by rw [← ea_6]; rfl) (by decide +kernel) (by decide +kernel) (by decide +kernel) i hi).trans (congrFun ((show a_5 30 = a_4 30 from by rw [← ea_5]; rfl).trans ((show a_4 30 = a_3 30 from by rw [← ea_4]; rfl).trans (show a_3 30 = a 30 from by rw [← ea_3]; rfl))) i))) (fun i hi => (congrFun ((show a_17 6 = a_16 6 from by rw [← ea_17]; rfl).trans ((show a_16 6 = a_15 6 from by rw [← ea_16]; rfl).trans ((show a_15 6 = a_13 6 from by rw [← ea_15]; rfl).trans ((show a_13 6 = a_12 6 from by rw [← ea_13]; rfl).trans ((show a_12 6 = a_11 6 from by rw [← ea_12]; rfl).trans ((show a_11 6 = a_10 6 from by rw [← ea_11]; rfl).trans ((show a_10 6 = a_9 6 from by rw [← ea_10]; rfl).trans (show a_9 6 = a_7 6 from by rw [← ea_9]; rfl)))))))) i).trans ((cp_z (n := 10) (show a_7 6 = _ from by rw [← ea_7]; rfl) (by decide +kernel) (by decide +kernel) (by decide +kernel) i hi).trans (congrFun ((show a_6 31 = a_5 31 from by rw [← ea_6]; rfl).trans ((show a_5 31 = a_4 31 from by rw [← ea_5]; rfl).trans ((show a_4 31 = a_3 31 from by rw [← ea_4]; rfl).trans (show a_3 31 = a 31 from by rw [← ea_3]; rfl)))) i))) (fun i hi => (congrFun ((show a_17 7 = a_16 7 from by rw [← ea_17]; rfl).trans ((show a_16 7 = a_15 7 from by rw [← ea_16]; rfl).trans ((show a_15 7 = a_13 7 from by rw [← ea_15]; rfl).trans ((show a_13 7 = a_12 7 from by rw [← ea_13]; rfl).trans ((show a_12 7 = a_11 7 from by rw [← ea_12]; rfl).trans ((show a_11 7 = a_10 7 from by rw [← ea_11]; rfl).trans (show a_10 7 = a_9 7 from by rw [← ea_10]; rfl))))))) i).trans ((cp_z (n := 6) (show a_9 7 = _ from by rw [← ea_9]; rfl) (by decide +kernel) (by decide +kernel) (by decide +kernel) i hi).trans (congrFun ((show a_7 32 = a_6 32 from by rw [← ea_7]; rfl).trans ((show a_6 32 = a_5 32 from by rw [← ea_6]; rfl).trans ((show a_5 32 = a_4 32 from by rw [← ea_5]; rfl).trans ((show a_4 32 = a_3 32 from by rw [← ea_4]; rfl).trans (show a_3 32 = a 32 from by rw [← ea_3]; rfl))))) i))) (fun i hi => (congrFun ((show a_17 8 = a_16 8 from by rw [← ea_17]; rfl).trans ((show a_16 8 = a_15 8 from by rw [← ea_16]; rfl).trans ((show a_15 8 = a_13 8 from by rw [← ea_15]; rfl).trans ((show a_13 8 = a_12 8 from by rw [← ea_13]; rfl).trans ((show a_12 8 = a_11 8 from by rw [← ea_12]; rfl).trans (show a_11 8 = a_10 8 from by rw [← ea_11]; rfl)))))) i).trans ((cp_z (n := 6) (show a_10 8 = _ from by rw [← ea_10]; rfl) (by decide +kernel) (by decide +kernel) (by decide +kernel) i hi).trans (congrFun ((show a_9 33 = a_7 33 from by rw [← ea_9]; rfl).trans ((show a_7 33 = a_6 33 from by rw [← ea_7]; rfl).trans ((show a_6 33 = a_5 33 from by rw [← ea_6]; rfl).trans ((show a_5 33 = a_4 33 from by rw [← ea_5]; rfl).trans ((show a_4 33 = a_3 33 from by rw [← ea_4]; rfl).trans (show a_3 33 = a 33 from by rw [← ea_3]; rfl)))))) i))) (fun i hi => (congrFun ((show a_17 9 = a_16 9 from by rw [← ea_17]; rfl).trans ((show a_16 9 = a_15 9 from by rw [← ea_16]; rfl).trans ((show a_15 9 = a_13 9 from by rw [← ea_15]; rfl).trans ((show a_13 9 = a_12 9 from by rw [← ea_13]; rfl).trans (show a_12 9 = a_11 9 from by rw [← ea_12]; rfl))))) i).trans ((cp_z (n := 6) (show a_11 9 = _ from by rw [← ea_11]; rfl) (by decide +kernel) (by decide +kernel) (by decide +kernel) i hi).trans (congrFun ((show a_10 34 = a_9 34 from by rw [← ea_10]; rfl).trans ((show a_9 34 = a_7 34 from by rw [← ea_9]; rfl).trans ((show a_7 34 = a_6 34 from by rw [← ea_7]; rfl).trans ((show a_6 34 = a_5 34 from by rw [← ea_6]; rfl).trans ((show a_5 34 = a_4 34 from by rw [← ea_5]; rfl).trans ((show a_4 34 = a_3 34 from by rw [← ea_4]; rfl).trans (show a_3 34 = a 34 from by rw [← ea_3]; rfl))))))) i))) (fun i hi => (congrFun ((show a_17 10 = a_16 10 from by rw [← ea_17]; rfl).trans ((show a_16 10 = a_15 10 from by rw [← ea_16]; rfl).trans ((show a_15 10 = a_13 10 from by rw [← ea_15]; rfl).trans (show a_13 10 = a_12 10 from by rw [← ea_13]; rfl)))) i).trans ((cp_z (n := 6) (show a_12 10 = _ from by rw [← ea_12]; rfl) (by decide +kernel) (by decide +kernel) (by decide +kernel) i hi).trans (congrFun ((show a_11 35 = a_10 35 from by rw [← ea_11]; rfl).trans ((show a_10 35 = a_9 35 from by rw [← ea_10]; rfl).trans ((show a_9 35 = a_7 35 from by rw [← ea_9]; rfl).trans ((show a_7 35 = a_6 35 from by rw [← ea_7]; rfl).trans ((show a_6 35 = a_5 35 from by rw [← ea_6]; rfl).trans ((show a_5 35 = a_4 35 from by rw [← ea_5]; rfl).trans ((show a_4 35 = a_3 35 from by rw [← ea_4]; rfl).trans (show a_3 35 = a 35 from by rw [← ea_3]; rfl)))))))) i))) (fun i hi => (congrFun ((show a_17 11 = a_16 11 from by rw [← ea_17]; rfl).trans ((show a_16 11 = a_15 11 from by rw [← ea_16]; rfl).trans (show a_15 11 = a_13 11 from by rw [← ea_15]; rfl))) i).trans ((cp_z (n := 4) (show a_13 11 = _ from by rw [← ea_13]; rfl) (by decide +kernel) (by decide +kernel) (by decide +kernel) i hi).trans (congrFun ((show a_12 36 = a_11 36 from by rw [← ea_12]; rfl).trans ((show a_11 36 = a_10 36 from by rw [← ea_11]; rfl).trans ((show a_10 36 = a_9 36 from by rw [← ea_10]; rfl).trans ((show a_9 36 = a_7 36 from by rw [← ea_9]; rfl).trans ((show a_7 36 = a_6 36 from by rw [← ea_7]; rfl).trans ((show a_6 36 = a_5 36 from by rw [← ea_6]; rfl).trans ((show a_5 36 = a_4 36 from by rw [← ea_5]; rfl).trans ((show a_4 36 = a_3 36 from by rw [← ea_4]; rfl).trans (show a_3 36 = a 36 from by rw [← ea_3]; rfl))))))))) i))) (fun i hi => (congrFun ((show a_17 12 = a_16 12 from by rw [← ea_17]; rfl).trans (show a_16 12 = a_15 12 from by rw [← ea_16]; rfl)) i).trans ((cp_z (n := 8) (show a_15 12 = _ from by rw [← ea_15]; rfl) (by decide +kernel) (by decide +kernel) (by decide +kernel) i hi).trans (congrFun ((show a_13 37 = a_12 37 from by rw [← ea_13]; rfl).trans ((show a_12 37 = a_11 37 from by rw [← ea_12]; rfl).trans ((show a_11 37 = a_10 37 from by rw [← ea_11]; rfl).trans ((show a_10 37 = a_9 37 from by rw [← ea_10]; rfl).trans ((show a_9 37 = a_7 37 from by rw [← ea_9]; rfl).trans ((show a_7 37 = a_6 37 from by rw [← ea_7]; rfl).trans ((show a_6 37 = a_5 37 from by rw [← ea_6]; rfl).trans ((show a_5 37 = a_4 37 from by rw [← ea_5]; rfl).trans ((show a_4 37 = a_3 37 from by rw [← ea_4]; rfl).trans (show a_3 37 = a 37 from by rw [← ea_3]; rfl)))))))))) i))) (fun i hi => (congrFun (show a_17 13 = a_16 13 from by rw [← ea_17]; rfl) i).trans ((cp_z (n := 8) (show a_16 13 = _ from by rw [← ea_16]; rfl) (by decide +kernel) (by decide +kernel) (by decide +kernel) i hi).trans (congrFun ((show a_15 38 = a_13 38 from by rw [← ea_15]; rfl).trans ((show a_13 38 = a_12 38 from by rw [← ea_13]; rfl).trans ((show a_12 38 = a_11 38 from by rw [← ea_12]; rfl).trans ((show a_11 38 = a_10 38 from by rw [← ea_11]; rfl).trans ((show a_10 38 = a_9 38 from by rw [← ea_10]; rfl).trans ((show a_9 38 = a_7 38 from by rw [← ea_9]; rfl).trans ((show a_7 38 = a_6 38 from by rw [← ea_7]; rfl).trans ((show a_6 38 = a_5 38 from by rw [← ea_6]; rfl).trans ((show a_5 38 = a_4 38 from by rw [← ea_5]; rfl).trans ((show a_4 38 = a_3 38 from by rw [← ea_4]; rfl).trans (show a_3 38 = a 38 from by rw [← ea_3]; rfl))))))))))) i))) (fun i hi => (congrFun rfl i).trans ((cp_z (n := 8) (show a_17 14 = _ from by rw [← ea_17]; rfl) (by decide +kernel) (by decide +kernel) (by decide +kernel) i hi).trans (congrFun ((show a_16 39 = a_15 39 from by rw [← ea_16]; rfl).trans ((show a_15 39 = a_13 39 from by rw [← ea_15]; rfl).trans ((show a_13 39 = a_12 39 from by rw [← ea_13]; rfl).trans ((show a_12 39 = a_11 39 from by rw [← ea_12]; rfl).trans ((show a_11 39 = a_10 39 from by rw [← ea_11]; rfl).trans ((show a_10 39 = a_9 39 from by rw [← ea_10]; rfl).trans ((show a_9 39 = a_7 39 from by rw [← ea_9]; rfl).trans ((show a_7 39 = a_6 39 from by rw [← ea_7]; rfl).trans ((show a_6 39 = a_5 39 from by rw [← ea_6]; rfl).trans ((show a_5 39 = a_4 39 from by rw [← ea_5]; rfl).trans ((show a_4 39 = a_3 39 from by rw [← ea_4]; rfl).trans (show a_3 39 = a 39 from by rw [← ea_3]; rfl)))))))))))) i)))), (by have w9 := hvlp20_1; rw [show nn = 6 by have w1 := hvlp20_0; have w2 := (b25).1; have w3 := hvlp20_2; omega] at w9; exact w9)⟩
      · have h28 := (kc_nle c23)
        have b29 : kb 0 y18 5 := kr_lt1 h28 b22 kc_6 (by decide)
        refine lv_aload_n hx hb dX7_copyFrom_226 rfl (lv_at hl 1 rfl) ?_
        refine va_get (D := D) (ci := 7) (v := .ref (r 15)) (C := RX7) (T := TX7) (N := 20) hx hb hg inC7 hown hK hP 1 rfl rfl 16 (by decide) (hg _ wt1_147) (fun _ h9 => h9) rfl dX7_copyFrom_227 ?_
        refine lv_iload_n hx hb dX7_copyFrom_230 rfl (lv_at hl 0 rfl) ?_
        refine lv_aload_n hx hb dX7_copyFrom_231 rfl (lv_at hl 2 rfl) ?_
        refine va_get (D := D) (ci := 7) (v := .ref (r 40)) (C := RX7) (T := TX7) (N := 20) hx hb hg inC7 hown hK hP 26 rfl rfl 16 (by decide) (hg _ wt1_147) (fun _ h9 => h9) rfl dX7_copyFrom_232 ?_
        refine lv_iload_n hx hb dX7_copyFrom_235 rfl (lv_at hl 0 rfl) ?_
        refine va_aldq hx hb hK hP 40 5 rfl rfl (kb_in b29 (by decide) (by decide)) dX7_copyFrom_236 ?_
        rcases hG 40 (y18.toNatClampNeg) (by decide) with hn31 | hn31
        · refine k_topn hn31 ?_
          refine va_astqN hx hb hK hP hD hS 15 5 rfl rfl (kb_in b29 (by decide) (by decide)) dX7_copyFrom_237 (fun H locs hP hD hS => ?_)
          have hP : va_P D vwCl (xX K r f_14 a_17 (G19.1, va_up G19.2 15 (va_up (G19.2 15) y18.toNatClampNeg none)) tx) H := hP
          have hD : va_D A (xX K r f_14 a_17 (G19.1, va_up G19.2 15 (va_up (G19.2 15) y18.toNatClampNeg none)) tx) := hD
          refine k_gen (P := fun z => va_P D vwCl (xX K r f_14 a_17 z tx) H ∧ va_D A (xX K r f_14 a_17 z tx) ∧ (xI f_14 a_17) ∧ (gOK K z.2 tt) ∧ (xEk ([32, 38, 44, 49, 50], [2, 3, 4, 5, 6, 7, 8, 9, 10, 11, 12, 13, 14], [15]) f a g f_14 a_17 z)) ((G19.1, va_up G19.2 15 (va_up (G19.2 15) y18.toNatClampNeg none))) ⟨hP, hD, hI, (gOK_n hG _ _ _ (Or.inl rfl)), (xEk_q hE rfl)⟩ (fun g_32 eg_32 hq => ?_)
          obtain ⟨hP, hD, hI, hG, hE⟩ := hq
          obtain ⟨t33, et33⟩ : ∃ z : Int32, z = y18 + Int32.ofInt 1 := ⟨_, rfl⟩
          have qt33 : t33.toInt = y18.toInt + 1 := by rw [et33]; exact km_inc b29 (by decide) (by decide)
          have b34 : kb 1 t33 6 := kb_inc (k := 1) qt33 b29
          refine lv_iinc (v := t33) (lv' := [(2, .int t33), (0, .ref (r 1)), (1, .ref (r 26))]) hx hb dX7_copyFrom_238 hl (k := 0) rfl et33.symm (by decide) rfl (fun ls hl => ?_)
          refine lv_goto (tgt := 220) hx hb dX7_copyFrom_241 (by decide) ?_
          exact ihlp20 (nn + 1) g_32 _ _ _ t33 (km_up hmlp20 qt33) hI hG hE (kb_w b34 (by decide) (by decide)) (by have w1 := hvlp20_0; have w2 := qt33; omega) (rf_s (ix := y18.toNatClampNeg) hvlp20_1 (fun i => by rw [← eg_32]; rfl) (cl_nat hvlp20_0) (by rw [← congrFun (show G19.2 40 = g.2 40 from hE9.2.2 40 rfl) nn, ← cl_nat hvlp20_0]; exact hn31.symm)) (by have w1 := hvlp20_0; have w2 := (b29).2; omega) hP hD hS (lv_sub hl [0, 1, 2] rfl)
        · obtain ⟨t30, ht30, hn31⟩ := hn31
          refine k_tops hn31 ?_
          obtain ⟨jt30_0, hjt30_0⟩ := tIn_at (tIn_w hT ht30) (k := 0) rfl
          obtain ⟨jt30_1, hjt30_1⟩ := tIn_at (tIn_w hT ht30) (k := 1) rfl
          obtain ⟨jt30_2, hjt30_2⟩ := tIn_at (tIn_w hT ht30) (k := 2) rfl
          obtain ⟨jt30_3, hjt30_3⟩ := tIn_at (tIn_w hT ht30) (k := 3) rfl
          obtain ⟨jt30_4, hjt30_4⟩ := tIn_at (tIn_w hT ht30) (k := 4) rfl
          have hnt30 : (nI t30.2.2.2).toInt = (t30.2.2.2 : Int) := kn_to (by have w1 := ht30.1; omega)
          refine va_astq hx hb hK hP hD hS 15 5 (jt30_0 + 95) 10 rfl rfl hjt30_0 rfl (kb_in b29 (by decide) (by decide)) dX7_copyFrom_237 (fun H locs hP hD hS => ?_)
          have hP : va_P D vwCl (xX K r f_14 a_17 (G19.1, va_up G19.2 15 (va_up (G19.2 15) y18.toNatClampNeg (some (t30.1 0)))) tx) H := hP
          have hD : va_D A (xX K r f_14 a_17 (G19.1, va_up G19.2 15 (va_up (G19.2 15) y18.toNatClampNeg (some (t30.1 0)))) tx) := hD
          refine k_gen (P := fun z => va_P D vwCl (xX K r f_14 a_17 z tx) H ∧ va_D A (xX K r f_14 a_17 z tx) ∧ (xI f_14 a_17) ∧ (gOK K z.2 tt) ∧ (xEk ([32, 38, 44, 49, 50], [2, 3, 4, 5, 6, 7, 8, 9, 10, 11, 12, 13, 14], [15]) f a g f_14 a_17 z)) ((G19.1, va_up G19.2 15 (va_up (G19.2 15) y18.toNatClampNeg (some (t30.1 0))))) ⟨hP, hD, hI, (gOK_n hG _ _ _ (Or.inr ⟨_, ht30, rfl⟩)), (xEk_q hE rfl)⟩ (fun g_35 eg_35 hq => ?_)
          obtain ⟨hP, hD, hI, hG, hE⟩ := hq
          obtain ⟨t36, et36⟩ : ∃ z : Int32, z = y18 + Int32.ofInt 1 := ⟨_, rfl⟩
          have qt36 : t36.toInt = y18.toInt + 1 := by rw [et36]; exact km_inc b29 (by decide) (by decide)
          have b37 : kb 1 t36 6 := kb_inc (k := 1) qt36 b29
          refine lv_iinc (v := t36) (lv' := [(2, .int t36), (0, .ref (r 1)), (1, .ref (r 26))]) hx hb dX7_copyFrom_238 hl (k := 0) rfl et36.symm (by decide) rfl (fun ls hl => ?_)
          refine lv_goto (tgt := 220) hx hb dX7_copyFrom_241 (by decide) ?_
          exact ihlp20 (nn + 1) g_35 _ _ _ t36 (km_up hmlp20 qt36) hI hG hE (kb_w b37 (by decide) (by decide)) (by have w1 := hvlp20_0; have w2 := qt36; omega) (rf_s (ix := y18.toNatClampNeg) hvlp20_1 (fun i => by rw [← eg_35]; rfl) (cl_nat hvlp20_0) (by rw [← congrFun (show G19.2 40 = g.2 40 from hE9.2.2 40 rfl) nn, ← cl_nat hvlp20_0]; exact hn31.symm)) (by have w1 := hvlp20_0; have w2 := (b29).2; omega) hP hD hS (lv_sub hl [0, 1, 2] rfl)
  exact lp20 (7) 0 g _ _ _ 0 (by have h1 := (kc_0); unfold kb at h1; omega) hI hG hE (kb_w kc_0 (by decide) (by decide)) (by decide +kernel) (fun i h => absurd h (Nat.not_lt_zero i)) (Nat.zero_le _) hP hD hS (lv_sub hl [0, 1, 2] rfl)
set_option maxHeartbeats 4000000 in
set_option maxRecDepth 100000 in
theorem z_pcopy  (l : Launch) {D : va_G} {K : Nat → ClassId} (r : Nat → Nat) (f : Nat → Int32) (a : Nat → Nat → Int32) (g : xG) (tx tt : va_W) (hT : ∀ c ∈ tt, c ∈ tx) (hI : xI f a) (hG : gOK K g.2 tt)   (P : pS) (nb : Nat) (hp0 : xPs (f 704) (f 705) (a 23) P nb) : kVG l yX2_copyFrom (Cond.code yX2_copyFrom cX2_copyFrom 2 none :: kG) (rmD 2 0 0) D K [.ref (r 47), .ref (r 22)] (xX K r f a g tx) (fun (u : xS) => xI u.1 u.2.1 ∧ gOK K u.2.2.2 tt ∧ xEk ([1504, 1505], [48], []) f a g u.1 u.2.1 u.2.2 ∧ xPs (u.1 1504) (u.1 1505) (u.2.1 48) P nb) (fun u => xX K r u.1 u.2.1 u.2.2 tx) 0 0 := by
  refine kVG.of (cc := cX2_copyFrom) (maxL := 2) (ret := none) (by decide) rfl (Nat.le_of_ble_eq_true rfl) ?_
  intro p e s m below meth c A hx hb hr hml hown hts hlocks hnm hK hP hD hS hA hV ls hl
  have hE : xEk ([1504, 1505], [48], []) f a g f a g := xEk_rf
  have hg : ∀ w ∈ kG, w.before _ s = true := fun w h => hts w (List.mem_cons_of_mem _ h)
  have hown : s.vm.findClass RX2 = some m.cls := hown
  have hl : lv_has ls 2 [(0, .ref (r 47)), (1, .ref (r 22))] := hl
  refine lv_aload_n hx hb dX2_copyFrom_0 rfl (lv_at hl 0 rfl) ?_
  refine lv_aload_n hx hb dX2_copyFrom_1 rfl (lv_at hl 1 rfl) ?_
  refine va_get (D := D) (ci := 2) (v := .int (f 704)) (C := RX2) (T := TX2) (N := 3) hx hb hg inC2 hown hK hP 22 rfl rfl 0 (by decide) (hg _ wt1_205) (fun _ h9 => h9) rfl dX2_copyFrom_2 ?_
  refine lv_topi (fun t1 et1 => ?_)
  refine va_put (D := D) (ci := 2) (v := .int t1) (ty := .int) (C := RX2) (T := TX2) (N := 3) hx hb hg inC2 tyX2 tyX2_ok nmX2 hown hK hP hD hS 47 rfl rfl 0 (by decide) (hg _ wt1_205) (fun _ h9 => h9) rfl (by decide +kernel) rfl rfl (Nat.le_of_ble_eq_true rfl) dX2_copyFrom_5 (fun H locs hP hD hS => ?_)
  have hP : va_P D vwCl (xX K r (upd f 1504 t1) a g tx) H := hP
  have hD : va_D A (xX K r (upd f 1504 t1) a g tx) := hD
  refine k_gen (P := fun z => va_P D vwCl (xX K r z a g tx) H ∧ va_D A (xX K r z a g tx) ∧ (xI z a) ∧ (gOK K g.2 tt) ∧ (xEk ([1504, 1505], [48], []) f a g z a g)) (upd f 1504 t1) ⟨hP, hD, (xI_f hI (fI_st hI.1 1504 (kb_any _) (by decide) (by decide))), hG, (xEk_f hE rfl)⟩ (fun f_2 ef_2 hq => ?_)
  obtain ⟨hP, hD, hI, hG, hE⟩ := hq
  refine lv_aload_n hx hb dX2_copyFrom_8 rfl (lv_at hl 0 rfl) ?_
  refine lv_aload_n hx hb dX2_copyFrom_9 rfl (lv_at hl 1 rfl) ?_
  refine va_get (D := D) (ci := 2) (v := .int (f_2 705)) (C := RX2) (T := TX2) (N := 3) hx hb hg inC2 hown hK hP 22 rfl rfl 1 (by decide) (hg _ wt1_207) (fun _ h9 => h9) rfl dX2_copyFrom_10 ?_
  refine lv_topi (fun t3 et3 => ?_)
  have b4 : kb 0 t3 15 := kb_eq et3 (fI_at hI.1 705 (by decide) (by decide))
  refine va_put (D := D) (ci := 2) (v := .int t3) (ty := .int) (C := RX2) (T := TX2) (N := 3) hx hb hg inC2 tyX2 tyX2_ok nmX2 hown hK hP hD hS 47 rfl rfl 1 (by decide) (hg _ wt1_207) (fun _ h9 => h9) rfl (by decide +kernel) rfl rfl (Nat.le_of_ble_eq_true rfl) dX2_copyFrom_13 (fun H locs hP hD hS => ?_)
  have hP : va_P D vwCl (xX K r (upd f_2 1505 t3) a g tx) H := hP
  have hD : va_D A (xX K r (upd f_2 1505 t3) a g tx) := hD
  refine k_gen (P := fun z => va_P D vwCl (xX K r z a g tx) H ∧ va_D A (xX K r z a g tx) ∧ (xI z a) ∧ (gOK K g.2 tt) ∧ (xEk ([1504, 1505], [48], []) f a g z a g)) (upd f_2 1505 t3) ⟨hP, hD, (xI_f hI (fI_st hI.1 1505 b4 (by decide) (by decide))), hG, (xEk_f hE rfl)⟩ (fun f_5 ef_5 hq => ?_)
  obtain ⟨hP, hD, hI, hG, hE⟩ := hq
  refine lv_aload_n hx hb dX2_copyFrom_16 rfl (lv_at hl 1 rfl) ?_
  refine va_get (D := D) (ci := 2) (v := .ref (r 23)) (C := RX2) (T := TX2) (N := 3) hx hb hg inC2 hown hK hP 22 rfl rfl 2 (by decide) (hg _ wt1_208) (fun _ h9 => h9) rfl dX2_copyFrom_17 ?_
  refine lv_iconst (v := 0) hx hb dX2_copyFrom_20 (by decide) ?_
  refine lv_aload_n hx hb dX2_copyFrom_21 rfl (lv_at hl 0 rfl) ?_
  refine va_get (D := D) (ci := 2) (v := .ref (r 48)) (C := RX2) (T := TX2) (N := 3) hx hb hg inC2 hown hK hP 47 rfl rfl 2 (by decide) (hg _ wt1_208) (fun _ h9 => h9) rfl dX2_copyFrom_22 ?_
  refine lv_iconst (v := 0) hx hb dX2_copyFrom_25 (by decide) ?_
  refine lv_sipush (v := 384) hx hb dX2_copyFrom_26 (by decide) ?_
  refine va_copyi (ty := .int) hx hb (hml.trans hl.1.symm) hown (hg _ wt4_88) (hg _ wt4_70) (hg _ wt4_69) (hg _ wt1_20) hK hP hD hS 23 48 0 0 rfl rfl rfl rfl rfl (by decide) (by decide) (by decide) (by decide +kernel) (by decide +kernel) (fun i _ => rfl) (by decide) (Nat.le_of_ble_eq_true rfl) dX2_copyFrom_29 (fun H locs hP hD hS => ?_)
  have hP : va_P D vwCl (xX K r f_5 (va_up a 48 (va_cpy (a 23) (a 48) (0 : Int32).toNatClampNeg (0 : Int32).toNatClampNeg (384 : Int32).toNatClampNeg)) g tx) H := hP
  have hD : va_D A (xX K r f_5 (va_up a 48 (va_cpy (a 23) (a 48) (0 : Int32).toNatClampNeg (0 : Int32).toNatClampNeg (384 : Int32).toNatClampNeg)) g tx) := hD
  refine k_gen (P := fun z => va_P D vwCl (xX K r f_5 z g tx) H ∧ va_D A (xX K r f_5 z g tx) ∧ (xI f_5 z) ∧ (gOK K g.2 tt) ∧ (xEk ([1504, 1505], [48], []) f a g f_5 z g)) (va_up a 48 (va_cpy (a 23) (a 48) (0 : Int32).toNatClampNeg (0 : Int32).toNatClampNeg (384 : Int32).toNatClampNeg)) ⟨hP, hD, (xI_a hI (by decide)), hG, (xEk_a hE rfl)⟩ (fun a_6 ea_6 hq => ?_)
  obtain ⟨hP, hD, hI, hG, hE⟩ := hq
  exact kV_ret hx hb hr hlocks hK hS dX2_copyFrom_32 (f_5, a_6, g) hP hD ⟨hI, hG, hE, (xP_cp hp0 ((((show f_5 1504 = f_2 1504 from by rw [← ef_5]; rfl).trans (show f_2 1504 = t1 from by rw [← ef_2]; rfl))).trans (et1.trans rfl)) (((show f_5 1505 = t3 from by rw [← ef_5]; rfl)).trans (et3.trans (show f_2 705 = f 705 from by rw [← ef_2]; rfl))) (cp_z (n := 384) (show a_6 48 = _ from by rw [← ea_6]; rfl) (by decide +kernel) (by decide +kernel) (by decide +kernel)))⟩
set_option maxHeartbeats 4000000 in
set_option maxRecDepth 100000 in
theorem z_pcopyA  (l : Launch) {D : va_G} {K : Nat → ClassId} (r : Nat → Nat) (f : Nat → Int32) (a : Nat → Nat → Int32) (g : xG) (tx tt : va_W) (hT : ∀ c ∈ tt, c ∈ tx) (hI : xI f a) (hG : gOK K g.2 tt)   (P : pS) (nb : Nat) (hp0 : xPs (f 1504) (f 1505) (a 48) P nb) : kVG l yX2_copyFrom (Cond.code yX2_copyFrom cX2_copyFrom 2 none :: kG) (rmD 2 0 0) D K [.ref (r 22), .ref (r 47)] (xX K r f a g tx) (fun (u : xS) => xI u.1 u.2.1 ∧ gOK K u.2.2.2 tt ∧ xEk ([704, 705], [23], []) f a g u.1 u.2.1 u.2.2 ∧ xPs (u.1 704) (u.1 705) (u.2.1 23) P nb) (fun u => xX K r u.1 u.2.1 u.2.2 tx) 0 0 := by
  refine kVG.of (cc := cX2_copyFrom) (maxL := 2) (ret := none) (by decide) rfl (Nat.le_of_ble_eq_true rfl) ?_
  intro p e s m below meth c A hx hb hr hml hown hts hlocks hnm hK hP hD hS hA hV ls hl
  have hE : xEk ([704, 705], [23], []) f a g f a g := xEk_rf
  have hg : ∀ w ∈ kG, w.before _ s = true := fun w h => hts w (List.mem_cons_of_mem _ h)
  have hown : s.vm.findClass RX2 = some m.cls := hown
  have hl : lv_has ls 2 [(0, .ref (r 22)), (1, .ref (r 47))] := hl
  refine lv_aload_n hx hb dX2_copyFrom_0 rfl (lv_at hl 0 rfl) ?_
  refine lv_aload_n hx hb dX2_copyFrom_1 rfl (lv_at hl 1 rfl) ?_
  refine va_get (D := D) (ci := 2) (v := .int (f 1504)) (C := RX2) (T := TX2) (N := 3) hx hb hg inC2 hown hK hP 47 rfl rfl 0 (by decide) (hg _ wt1_205) (fun _ h9 => h9) rfl dX2_copyFrom_2 ?_
  refine lv_topi (fun t1 et1 => ?_)
  refine va_put (D := D) (ci := 2) (v := .int t1) (ty := .int) (C := RX2) (T := TX2) (N := 3) hx hb hg inC2 tyX2 tyX2_ok nmX2 hown hK hP hD hS 22 rfl rfl 0 (by decide) (hg _ wt1_205) (fun _ h9 => h9) rfl (by decide +kernel) rfl rfl (Nat.le_of_ble_eq_true rfl) dX2_copyFrom_5 (fun H locs hP hD hS => ?_)
  have hP : va_P D vwCl (xX K r (upd f 704 t1) a g tx) H := hP
  have hD : va_D A (xX K r (upd f 704 t1) a g tx) := hD
  refine k_gen (P := fun z => va_P D vwCl (xX K r z a g tx) H ∧ va_D A (xX K r z a g tx) ∧ (xI z a) ∧ (gOK K g.2 tt) ∧ (xEk ([704, 705], [23], []) f a g z a g)) (upd f 704 t1) ⟨hP, hD, (xI_f hI (fI_st hI.1 704 (kb_any _) (by decide) (by decide))), hG, (xEk_f hE rfl)⟩ (fun f_2 ef_2 hq => ?_)
  obtain ⟨hP, hD, hI, hG, hE⟩ := hq
  refine lv_aload_n hx hb dX2_copyFrom_8 rfl (lv_at hl 0 rfl) ?_
  refine lv_aload_n hx hb dX2_copyFrom_9 rfl (lv_at hl 1 rfl) ?_
  refine va_get (D := D) (ci := 2) (v := .int (f_2 1505)) (C := RX2) (T := TX2) (N := 3) hx hb hg inC2 hown hK hP 47 rfl rfl 1 (by decide) (hg _ wt1_207) (fun _ h9 => h9) rfl dX2_copyFrom_10 ?_
  refine lv_topi (fun t3 et3 => ?_)
  have b4 : kb 0 t3 15 := kb_eq et3 (fI_at hI.1 1505 (by decide) (by decide))
  refine va_put (D := D) (ci := 2) (v := .int t3) (ty := .int) (C := RX2) (T := TX2) (N := 3) hx hb hg inC2 tyX2 tyX2_ok nmX2 hown hK hP hD hS 22 rfl rfl 1 (by decide) (hg _ wt1_207) (fun _ h9 => h9) rfl (by decide +kernel) rfl rfl (Nat.le_of_ble_eq_true rfl) dX2_copyFrom_13 (fun H locs hP hD hS => ?_)
  have hP : va_P D vwCl (xX K r (upd f_2 705 t3) a g tx) H := hP
  have hD : va_D A (xX K r (upd f_2 705 t3) a g tx) := hD
  refine k_gen (P := fun z => va_P D vwCl (xX K r z a g tx) H ∧ va_D A (xX K r z a g tx) ∧ (xI z a) ∧ (gOK K g.2 tt) ∧ (xEk ([704, 705], [23], []) f a g z a g)) (upd f_2 705 t3) ⟨hP, hD, (xI_f hI (fI_st hI.1 705 b4 (by decide) (by decide))), hG, (xEk_f hE rfl)⟩ (fun f_5 ef_5 hq => ?_)
  obtain ⟨hP, hD, hI, hG, hE⟩ := hq
  refine lv_aload_n hx hb dX2_copyFrom_16 rfl (lv_at hl 1 rfl) ?_
  refine va_get (D := D) (ci := 2) (v := .ref (r 48)) (C := RX2) (T := TX2) (N := 3) hx hb hg inC2 hown hK hP 47 rfl rfl 2 (by decide) (hg _ wt1_208) (fun _ h9 => h9) rfl dX2_copyFrom_17 ?_
  refine lv_iconst (v := 0) hx hb dX2_copyFrom_20 (by decide) ?_
  refine lv_aload_n hx hb dX2_copyFrom_21 rfl (lv_at hl 0 rfl) ?_
  refine va_get (D := D) (ci := 2) (v := .ref (r 23)) (C := RX2) (T := TX2) (N := 3) hx hb hg inC2 hown hK hP 22 rfl rfl 2 (by decide) (hg _ wt1_208) (fun _ h9 => h9) rfl dX2_copyFrom_22 ?_
  refine lv_iconst (v := 0) hx hb dX2_copyFrom_25 (by decide) ?_
  refine lv_sipush (v := 384) hx hb dX2_copyFrom_26 (by decide) ?_
  refine va_copyi (ty := .int) hx hb (hml.trans hl.1.symm) hown (hg _ wt4_88) (hg _ wt4_70) (hg _ wt4_69) (hg _ wt1_20) hK hP hD hS 48 23 0 0 rfl rfl rfl rfl rfl (by decide) (by decide) (by decide) (by decide +kernel) (by decide +kernel) (fun i _ => rfl) (by decide) (Nat.le_of_ble_eq_true rfl) dX2_copyFrom_29 (fun H locs hP hD hS => ?_)
  have hP : va_P D vwCl (xX K r f_5 (va_up a 23 (va_cpy (a 48) (a 23) (0 : Int32).toNatClampNeg (0 : Int32).toNatClampNeg (384 : Int32).toNatClampNeg)) g tx) H := hP
  have hD : va_D A (xX K r f_5 (va_up a 23 (va_cpy (a 48) (a 23) (0 : Int32).toNatClampNeg (0 : Int32).toNatClampNeg (384 : Int32).toNatClampNeg)) g tx) := hD
  refine k_gen (P := fun z => va_P D vwCl (xX K r f_5 z g tx) H ∧ va_D A (xX K r f_5 z g tx) ∧ (xI f_5 z) ∧ (gOK K g.2 tt) ∧ (xEk ([704, 705], [23], []) f a g f_5 z g)) (va_up a 23 (va_cpy (a 48) (a 23) (0 : Int32).toNatClampNeg (0 : Int32).toNatClampNeg (384 : Int32).toNatClampNeg)) ⟨hP, hD, (xI_a hI (by decide)), hG, (xEk_a hE rfl)⟩ (fun a_6 ea_6 hq => ?_)
  obtain ⟨hP, hD, hI, hG, hE⟩ := hq
  exact kV_ret hx hb hr hlocks hK hS dX2_copyFrom_32 (f_5, a_6, g) hP hD ⟨hI, hG, hE, (xP_cp hp0 ((((show f_5 704 = f_2 704 from by rw [← ef_5]; rfl).trans (show f_2 704 = t1 from by rw [← ef_2]; rfl))).trans (et1.trans rfl)) (((show f_5 705 = t3 from by rw [← ef_5]; rfl)).trans (et3.trans (show f_2 1505 = f 1505 from by rw [← ef_2]; rfl))) (cp_z (n := 384) (show a_6 23 = _ from by rw [← ea_6]; rfl) (by decide +kernel) (by decide +kernel) (by decide +kernel)))⟩
