set_option maxHeartbeats 4000000 in
set_option maxRecDepth 100000 in
theorem z_xwords  (l : Launch) {D : va_G} {K : Nat → ClassId} (r : Nat → Nat) (f : Nat → Int32) (a : Nat → Nat → Int32) (g : xG) (tx tt : va_W) (hT : ∀ c ∈ tt, c ∈ tx) (hI : xI f a) (hG : gOK K g.2 tt)   (k : Nat → Int32) (hVw : sV 32 2 f a k) (hkk : kK k) (dn st : Int32) (hp0 : f 806 = dn) (hp1 : f 807 = st) : kVG l yX5_writeWords (Cond.code yX5_writeWords cX5_writeWords 2 none :: kG) (rmD 2 0 0) D K [.ref (r 25)] (xX K r f a g tx) (fun (u : xS) => xI u.1 u.2.1 ∧ gOK K u.2.2.2 tt ∧ xEk ([], [], []) f a g u.1 u.2.1 u.2.2 ∧ (∀ j, j < 26 → (u.2.2.1 49 j).toInt = oW k dn st j)) (fun u => xX K r u.1 u.2.1 u.2.2 tx) 0 0 := by
  refine kVG.of (cc := cX5_writeWords) (maxL := 2) (ret := none) (by decide) rfl (Nat.le_of_ble_eq_true rfl) ?_
  intro p e s m below meth c A hx hb hr hml hown hts hlocks hnm hK hP hD hS hA hV ls hl
  have hE : xEk ([], [], []) f a g f a g := xEk_rf
  have hg : ∀ w ∈ kG, w.before _ s = true := fun w h => hts w (List.mem_cons_of_mem _ h)
  have hown : s.vm.findClass RX5 = some m.cls := hown
  have hl : lv_has ls 2 [(0, .ref (r 25))] := hl
  refine lv_aload_n hx hb dX5_writeWords_0 rfl (lv_at hl 0 rfl) ?_
  refine va_get (D := D) (ci := 5) (v := .ref (r 49)) (C := RX5) (T := TX5) (N := 8) hx hb hg inC5 hown hK hP 25 rfl rfl 5 (by decide) (hg _ wt2_4) (fun _ h9 => h9) rfl dX5_writeWords_1 ?_
  refine lv_iconst (v := 0) hx hb dX5_writeWords_4 (by decide) ?_
  refine lv_aload_n hx hb dX5_writeWords_5 rfl (lv_at hl 0 rfl) ?_
  refine va_get (D := D) (ci := 5) (v := .ref (r 1)) (C := RX5) (T := TX5) (N := 8) hx hb hg inC5 hown hK hP 25 rfl rfl 0 (by decide) (hg _ wt1_239) (fun _ h9 => h9) rfl dX5_writeWords_6 ?_
  refine va_get (D := D) (ci := 7) (v := .ref (r 11)) (C := RX7) (T := TX7) (N := 20) hx hb hg inC7 hown hK hP 1 rfl rfl 11 (by decide) (hg _ wt1_129) (fun _ h9 => h9) rfl dX5_writeWords_9 ?_
  refine lv_iconst (v := 0) hx hb dX5_writeWords_12 (by decide) ?_
  refine va_iald hx hb hK hP 11 0 rfl rfl (kb_in kc_0 (by decide) (by decide)) dX5_writeWords_13 ?_
  refine lv_topi (fun t1 et1 => ?_)
  rw [cl_0] at et1
  have kvt1 : t1 = k 22 := et1.trans ((sv_hour hVw))
  have b2 : kb 0 t1 1000000 := kb_eq et1 (et1 ▸ kb_eq kvt1 (kK_r hkk 22 _ _ (by decide) (by decide)))
  refine lv_i2l hx hb dX5_writeWords_14 rfl ?_
  refine lv_topl (fun t3 et3 => ?_)
  have b4 : kbl 0 t3 1000000 := kbl_eq et3 (kbl_i2l b2)
  refine va_last hx hb hK hP hD hS 49 3 rfl rfl (kb_in kc_0 (by decide) (by decide)) dX5_writeWords_15 (fun H locs hP hD hS => ?_)
  rw [cl_0] at hP hD
  have hP : va_P D vwCl (xX K r f a (va_up g.1 49 (va_up (g.1 49) 0 t3), g.2) tx) H := hP
  have hD : va_D A (xX K r f a (va_up g.1 49 (va_up (g.1 49) 0 t3), g.2) tx) := hD
  refine k_gen (P := fun z => va_P D vwCl (xX K r f a z tx) H ∧ va_D A (xX K r f a z tx) ∧ (xI f a) ∧ (gOK K z.2 tt) ∧ (xEk ([], [], []) f a g f a z)) ((va_up g.1 49 (va_up (g.1 49) 0 t3), g.2)) ⟨hP, hD, hI, hG, (xEk_g hE)⟩ (fun g_5 eg_5 hq => ?_)
  obtain ⟨hP, hD, hI, hG, hE⟩ := hq
  refine lv_aload_n hx hb dX5_writeWords_16 rfl (lv_at hl 0 rfl) ?_
  refine va_get (D := D) (ci := 5) (v := .ref (r 49)) (C := RX5) (T := TX5) (N := 8) hx hb hg inC5 hown hK hP 25 rfl rfl 5 (by decide) (hg _ wt2_4) (fun _ h9 => h9) rfl dX5_writeWords_17 ?_
  refine lv_iconst (v := 1) hx hb dX5_writeWords_20 (by decide) ?_
  refine lv_aload_n hx hb dX5_writeWords_21 rfl (lv_at hl 0 rfl) ?_
  refine va_get (D := D) (ci := 5) (v := .int (f 806)) (C := RX5) (T := TX5) (N := 8) hx hb hg inC5 hown hK hP 25 rfl rfl 6 (by decide) (hg _ wt2_5) (fun _ h9 => h9) rfl dX5_writeWords_22 ?_
  refine k_top (z := dn) hp0 ?_
  refine lv_i2l hx hb dX5_writeWords_25 rfl ?_
  refine lv_topl (fun t6 et6 => ?_)
  refine va_last hx hb hK hP hD hS 49 3 rfl rfl (kb_in kc_1 (by decide) (by decide)) dX5_writeWords_26 (fun H locs hP hD hS => ?_)
  rw [cl_1] at hP hD
  have hP : va_P D vwCl (xX K r f a (va_up g_5.1 49 (va_up (g_5.1 49) 1 t6), g_5.2) tx) H := hP
  have hD : va_D A (xX K r f a (va_up g_5.1 49 (va_up (g_5.1 49) 1 t6), g_5.2) tx) := hD
  refine k_gen (P := fun z => va_P D vwCl (xX K r f a z tx) H ∧ va_D A (xX K r f a z tx) ∧ (xI f a) ∧ (gOK K z.2 tt) ∧ (xEk ([], [], []) f a g f a z)) ((va_up g_5.1 49 (va_up (g_5.1 49) 1 t6), g_5.2)) ⟨hP, hD, hI, hG, (xEk_g hE)⟩ (fun g_7 eg_7 hq => ?_)
  obtain ⟨hP, hD, hI, hG, hE⟩ := hq
  refine lv_aload_n hx hb dX5_writeWords_27 rfl (lv_at hl 0 rfl) ?_
  refine va_get (D := D) (ci := 5) (v := .ref (r 49)) (C := RX5) (T := TX5) (N := 8) hx hb hg inC5 hown hK hP 25 rfl rfl 5 (by decide) (hg _ wt2_4) (fun _ h9 => h9) rfl dX5_writeWords_28 ?_
  refine lv_iconst (v := 2) hx hb dX5_writeWords_31 (by decide) ?_
  refine lv_aload_n hx hb dX5_writeWords_32 rfl (lv_at hl 0 rfl) ?_
  refine va_get (D := D) (ci := 5) (v := .int (f 807)) (C := RX5) (T := TX5) (N := 8) hx hb hg inC5 hown hK hP 25 rfl rfl 7 (by decide) (hg _ wt2_7) (fun _ h9 => h9) rfl dX5_writeWords_33 ?_
  refine k_top (z := st) hp1 ?_
  refine lv_i2l hx hb dX5_writeWords_36 rfl ?_
  refine lv_topl (fun t8 et8 => ?_)
  refine va_last hx hb hK hP hD hS 49 3 rfl rfl (kb_in kc_2 (by decide) (by decide)) dX5_writeWords_37 (fun H locs hP hD hS => ?_)
  rw [cl_2] at hP hD
  have hP : va_P D vwCl (xX K r f a (va_up g_7.1 49 (va_up (g_7.1 49) 2 t8), g_7.2) tx) H := hP
  have hD : va_D A (xX K r f a (va_up g_7.1 49 (va_up (g_7.1 49) 2 t8), g_7.2) tx) := hD
  refine k_gen (P := fun z => va_P D vwCl (xX K r f a z tx) H ∧ va_D A (xX K r f a z tx) ∧ (xI f a) ∧ (gOK K z.2 tt) ∧ (xEk ([], [], []) f a g f a z)) ((va_up g_7.1 49 (va_up (g_7.1 49) 2 t8), g_7.2)) ⟨hP, hD, hI, hG, (xEk_g hE)⟩ (fun g_9 eg_9 hq => ?_)
  obtain ⟨hP, hD, hI, hG, hE⟩ := hq
  refine lv_aload_n hx hb dX5_writeWords_38 rfl (lv_at hl 0 rfl) ?_
  refine va_get (D := D) (ci := 5) (v := .ref (r 49)) (C := RX5) (T := TX5) (N := 8) hx hb hg inC5 hown hK hP 25 rfl rfl 5 (by decide) (hg _ wt2_4) (fun _ h9 => h9) rfl dX5_writeWords_39 ?_
  refine lv_iconst (v := 3) hx hb dX5_writeWords_42 (by decide) ?_
  refine lv_aload_n hx hb dX5_writeWords_43 rfl (lv_at hl 0 rfl) ?_
  refine va_get (D := D) (ci := 5) (v := .ref (r 1)) (C := RX5) (T := TX5) (N := 8) hx hb hg inC5 hown hK hP 25 rfl rfl 0 (by decide) (hg _ wt1_239) (fun _ h9 => h9) rfl dX5_writeWords_44 ?_
  refine kIG.callW (As := []) (rest := [.int 3, .ref (r 49)]) ⟨hx, hb, hml, hown, hg⟩ (z_upMaskN l r f a g_9 tx tt hT hI hG   k hVw hkk ) (cwV 0 hg (kgV wt4_97 wt3_44 wt3_45 wt1_2 wt3_46) rfl rfl rfl (by decide +kernel) ⟨by decide, by decide⟩) hV hK hP hD hS hA (1) 7 rfl rfl rfl hl.1 rfl (Nat.le_of_ble_eq_true rfl) dX5_writeWords_47 ⟨Nat.le_refl _, Nat.le_refl _⟩ (fun v11 u12 H locs hw10 hP hD hS => ?_)
  have hP : va_P D vwCl (xX K r f a g_9 tx) H := hP
  have hD : va_D A (xX K r f a g_9 tx) := hD
  refine kN.callS (As := [.int v11]) (rest := [.int 3, .ref (r 49)]) ⟨hx, hb, hml, hown, hg⟩ (z_bitCount l v11 hw10.1) (va_cwS 1 hg (kgS wt4_98 wt4_99 wt1_21 wt4_100) rfl rfl rfl (by decide +kernel) ⟨by decide, by decide⟩) hP hS rfl hl.1 rfl (Nat.le_of_ble_eq_true rfl) dX5_writeWords_50 ⟨Nat.le_refl _, Nat.le_refl _⟩ (fun v14 H locs hw13 hP hS => ?_)
  have hP : va_P D vwCl (xX K r f a g_9 tx) H := hP
  refine lv_i2l hx hb dX5_writeWords_53 rfl ?_
  refine lv_topl (fun t15 et15 => ?_)
  have b16 : kbl 0 t15 63 := kbl_eq et15 (kbl_i2l hw13.1)
  refine va_last hx hb hK hP hD hS 49 3 rfl rfl (kb_in kc_3 (by decide) (by decide)) dX5_writeWords_54 (fun H locs hP hD hS => ?_)
  rw [cl_3] at hP hD
  have hP : va_P D vwCl (xX K r f a (va_up g_9.1 49 (va_up (g_9.1 49) 3 t15), g_9.2) tx) H := hP
  have hD : va_D A (xX K r f a (va_up g_9.1 49 (va_up (g_9.1 49) 3 t15), g_9.2) tx) := hD
  refine k_gen (P := fun z => va_P D vwCl (xX K r f a z tx) H ∧ va_D A (xX K r f a z tx) ∧ (xI f a) ∧ (gOK K z.2 tt) ∧ (xEk ([], [], []) f a g f a z)) ((va_up g_9.1 49 (va_up (g_9.1 49) 3 t15), g_9.2)) ⟨hP, hD, hI, hG, (xEk_g hE)⟩ (fun g_17 eg_17 hq => ?_)
  obtain ⟨hP, hD, hI, hG, hE⟩ := hq
  have hw4 : ∀ j, j < 4 + 0 → (g_17.1 49 j).toInt = oW k dn st j := by
    intro j hj
    rcases (show j = 0 ∨ j = 1 ∨ j = 2 ∨ j = 3 by omega) with e | e | e | e
    · rw [e, show g_17.1 49 0 = g_9.1 49 0 from by rw [← eg_17]; rfl, show g_9.1 49 0 = g_7.1 49 0 from by rw [← eg_9]; rfl, show g_7.1 49 0 = g_5.1 49 0 from by rw [← eg_7]; rfl, show g_5.1 49 0 = t3 from by rw [← eg_5]; rfl, et3]; exact (kt_i2l _).trans (congrArg Int32.toInt kvt1)
    · rw [e, show g_17.1 49 1 = g_9.1 49 1 from by rw [← eg_17]; rfl, show g_9.1 49 1 = g_7.1 49 1 from by rw [← eg_9]; rfl, show g_7.1 49 1 = t6 from by rw [← eg_7]; rfl, et6]; exact (kt_i2l _).trans rfl
    · rw [e, show g_17.1 49 2 = g_9.1 49 2 from by rw [← eg_17]; rfl, show g_9.1 49 2 = t8 from by rw [← eg_9]; rfl, et8]; exact (kt_i2l _).trans rfl
    · rw [e, show g_17.1 49 3 = t15 from by rw [← eg_17]; rfl, et15]; exact (kt_i2l _).trans (by rw [hw13.2, hw10.2]; rfl)
  refine lv_iconst (v := 0) hx hb dX5_writeWords_55 (by decide) ?_
  refine lv_istore_n (lv' := [(1, .int 0), (0, .ref (r 25))]) hx hb dX5_writeWords_56 rfl hl (by decide) rfl (fun ls hl => ?_)
  have lp20 : ∀ (n21 : Nat) (nn : Nat) (G19 : xG) (H : Heap) (locs : List Loc) (ls : Array Slot) (y18 : Int32), (10 < y18.toInt + (n21 : Int)) → (xI f a) → (gOK K G19.2 tt) → (xEk ([], [], []) f a g f a G19) → (kb 0 y18 10) → (y18.toInt = (nn : Int)) → (∀ j, j < 4 + nn → (G19.1 49 j).toInt = oW k dn st j) → (nn ≤ 10) → va_P D vwCl (xX K r f a G19 tx) H → va_D A (xX K r f a G19 tx) → va_S A s.heap H locs → lv_has ls 2 [(1, .int y18), (0, .ref (r 25))] → W p l e (rmD 2 0 0) s m ([.ref (r 25)] : List Value).toArray below meth c H locs 0 0 (kQv D (tysK K) (fun (u : xS) => xI u.1 u.2.1 ∧ gOK K u.2.2.2 tt ∧ xEk ([], [], []) f a g u.1 u.2.1 u.2.2 ∧ (∀ j, j < 26 → (u.2.2.1 49 j).toInt = oW k dn st j)) (fun u => xX K r u.1 u.2.1 u.2.2 tx) A below ([.ref (r 25)] : List Value).toArray s 0 0) (F0 m 57 ls []) := by
    intro n21
    induction n21 with
    | zero =>
      intro nn G19  H locs ls y18 hmlp20 hI hG hE b22 hvlp20_0 hvlp20_1 hvlp20_2 hP hD hS hl
      exact (by have h1 := b22.2; have h2 := hmlp20; omega : False).elim
    | succ n21 ihlp20 =>
      intro nn G19  H locs ls y18 hmlp20 hI hG hE b22 hvlp20_0 hvlp20_1 hvlp20_2 hP hD hS hl
      have hnn : y18 = nI nn := nI_q hvlp20_0
      refine lv_iload_n hx hb dX5_writeWords_57 rfl (lv_at hl 0 rfl) ?_
      refine lv_bipush (v := 10) hx hb dX5_writeWords_58 (by decide) ?_
      refine lv_icmp_ge (tgt := 104) hx hb dX5_writeWords_60 (by decide) (fun c23 => ?_) (fun c23 => ?_)
      · have h24 := (kc_le c23)
        have b25 : kb 10 y18 10 := kr_le2 h24 kc_10 b22
        have hw14 : ∀ j, j < 14 + 0 → (G19.1 49 j).toInt = oW k dn st j := by have w9 := hvlp20_1; rw [show nn = 10 by have w1 := hvlp20_0; have w2 := (b25).1; have w3 := hvlp20_2; omega] at w9; exact w9
        refine lv_iconst (v := 0) hx hb dX5_writeWords_104 (by decide) ?_
        refine lv_istore_n (lv' := [(1, .int 0), (0, .ref (r 25))]) hx hb dX5_writeWords_105 rfl hl (by decide) rfl (fun ls hl => ?_)
        have lp28 : ∀ (n29 : Nat) (mm : Nat) (G27 : xG) (H : Heap) (locs : List Loc) (ls : Array Slot) (y26 : Int32), (6 < y26.toInt + (n29 : Int)) → (xI f a) → (gOK K G27.2 tt) → (xEk ([], [], []) f a g f a G27) → (kb 0 y26 6) → (y26.toInt = (mm : Int)) → (∀ j, j < 14 + mm → (G27.1 49 j).toInt = oW k dn st j) → (∀ j, 20 ≤ j → j < 20 + mm → (G27.1 49 j).toInt = oW k dn st j) → (mm ≤ 6) → va_P D vwCl (xX K r f a G27 tx) H → va_D A (xX K r f a G27 tx) → va_S A s.heap H locs → lv_has ls 2 [(1, .int y26), (0, .ref (r 25))] → W p l e (rmD 2 0 0) s m ([.ref (r 25)] : List Value).toArray below meth c H locs 0 0 (kQv D (tysK K) (fun (u : xS) => xI u.1 u.2.1 ∧ gOK K u.2.2.2 tt ∧ xEk ([], [], []) f a g u.1 u.2.1 u.2.2 ∧ (∀ j, j < 26 → (u.2.2.1 49 j).toInt = oW k dn st j)) (fun u => xX K r u.1 u.2.1 u.2.2 tx) A below ([.ref (r 25)] : List Value).toArray s 0 0) (F0 m 106 ls []) := by
          intro n29
          induction n29 with
          | zero =>
            intro mm G27  H locs ls y26 hmlp28 hI hG hE b30 hvlp28_0 hvlp28_1 hvlp28_2 hvlp28_3 hP hD hS hl
            exact (by have h1 := b30.2; have h2 := hmlp28; omega : False).elim
          | succ n29 ihlp28 =>
            intro mm G27  H locs ls y26 hmlp28 hI hG hE b30 hvlp28_0 hvlp28_1 hvlp28_2 hvlp28_3 hP hD hS hl
            have hnn : y26 = nI mm := nI_q hvlp28_0
            refine lv_iload_n hx hb dX5_writeWords_106 rfl (lv_at hl 0 rfl) ?_
            refine lv_bipush (v := 6) hx hb dX5_writeWords_107 (by decide) ?_
            refine lv_icmp_ge (tgt := 190) hx hb dX5_writeWords_109 (by decide) (fun c31 => ?_) (fun c31 => ?_)
            · have h32 := (kc_le c31)
              have b33 : kb 6 y26 6 := kr_le2 h32 kc_6 b30
              exact kV_ret hx hb hr hlocks hK hS dX5_writeWords_190 (f, a, G27) hP hD ⟨hI, hG, hE, (fun j hj => by have hm : mm = 6 := (by have w1 := hvlp28_0; have w2 := (b33).1; have w3 := hvlp28_3; omega); have h1 := hvlp28_1; have h2 := hvlp28_2; rw [hm] at h1 h2; by_cases c : j < 20; (exact h1 j (by omega)); (exact h2 j (by omega) (by omega)))⟩
            · have h34 := (kc_nle c31)
              have b35 : kb 0 y26 5 := kr_lt1 h34 b30 kc_6 (by decide)
              refine lv_aload_n hx hb dX5_writeWords_112 rfl (lv_at hl 1 rfl) ?_
              refine va_get (D := D) (ci := 5) (v := .ref (r 49)) (C := RX5) (T := TX5) (N := 8) hx hb hg inC5 hown hK hP 25 rfl rfl 5 (by decide) (hg _ wt2_4) (fun _ h9 => h9) rfl dX5_writeWords_113 ?_
              refine lv_bipush (v := 14) hx hb dX5_writeWords_116 (by decide) ?_
              refine lv_iload_n hx hb dX5_writeWords_118 rfl (lv_at hl 0 rfl) ?_
              refine lv_iadd hx hb dX5_writeWords_119 ?_
              refine lv_topi (fun t36 et36 => ?_)
              have b37 : kb 14 t36 19 := kb_eq et36 (kb_add kc_14 b35 (by decide) (by decide))
              have qt36 : t36.toInt = 14 + y26.toInt := by rw [et36]; exact kt_cadd kc_14 b35 (by decide) (by decide)
              refine lv_aload_n hx hb dX5_writeWords_120 rfl (lv_at hl 1 rfl) ?_
              refine va_get (D := D) (ci := 5) (v := .ref (r 1)) (C := RX5) (T := TX5) (N := 8) hx hb hg inC5 hown hK hP 25 rfl rfl 0 (by decide) (hg _ wt1_239) (fun _ h9 => h9) rfl dX5_writeWords_121 ?_
              refine lv_iload_n hx hb dX5_writeWords_124 rfl (lv_at hl 0 rfl) ?_
              refine kIG.callW (As := [.int y26]) (rest := [.int t36, .ref (r 49)]) ⟨hx, hb, hml, hown, hg⟩ (z_hasBuilderN l r f a G27 tx tt hT hI hG y26  k hVw hkk ) (cwV 1 hg (kgV wt4_106 wt3_68 wt3_69 wt1_2 wt3_70) rfl rfl rfl (by decide +kernel) ⟨by decide, by decide⟩) hV hK hP hD hS hA (1) 7 rfl rfl rfl hl.1 rfl (Nat.le_of_ble_eq_true rfl) dX5_writeWords_125 ⟨Nat.le_refl _, Nat.le_refl _⟩ (fun v39 u40 H locs hw38 hP hD hS => ?_)
              have hP : va_P D vwCl (xX K r f a G27 tx) H := hP
              have hD : va_D A (xX K r f a G27 tx) := hD
              by_cases hh41 : 0 ≤ y26.toInt ∧ y26.toInt < (k 103).toInt
              · refine k_top (z := 1) (hw38.2.trans (if_pos hh41)) ?_
                have b42 : kb 0 y26 5 := ⟨hh41.1, by have w1 := hh41.2; have w2 := (kK_r hkk 103 0 6 (by decide) (by decide)).2; omega⟩
                refine lv_if_eq (tgt := 144) hx hb dX5_writeWords_128 (by decide) (fun c43 => ?_) (fun c43 => ?_)
                · exact kb_dj c43 kc_1 kc_0 (by decide)
                · refine lv_aload_n hx hb dX5_writeWords_131 rfl (lv_at hl 1 rfl) ?_
                  refine va_get (D := D) (ci := 5) (v := .ref (r 1)) (C := RX5) (T := TX5) (N := 8) hx hb hg inC5 hown hK hP 25 rfl rfl 0 (by decide) (hg _ wt1_239) (fun _ h9 => h9) rfl dX5_writeWords_132 ?_
                  refine va_get (D := D) (ci := 7) (v := .ref (r 9)) (C := RX7) (T := TX7) (N := 20) hx hb hg inC7 hown hK hP 1 rfl rfl 9 (by decide) (hg _ wt1_119) (fun _ h9 => h9) rfl dX5_writeWords_135 ?_
                  refine lv_iload_n hx hb dX5_writeWords_138 rfl (lv_at hl 0 rfl) ?_
                  refine va_iald hx hb hK hP 9 0 rfl rfl (kb_in b42 (by decide) (by decide)) dX5_writeWords_139 ?_
                  refine lv_topi (fun t44 et44 => ?_)
                  have kvt44 : t44 = k (10 + y26.toNatClampNeg) := et44.trans ((sv_tired hVw (kb_clt b42 (by decide) (by decide))))
                  have b45 : kb 0 t44 99 := kb_eq et44 (et44 ▸ kb_eq kvt44 (kK_s hkk 10 6 _ _ (by decide) (by decide) (kb_clt b42 (by decide) (by decide))))
                  refine lv_i2l hx hb dX5_writeWords_140 rfl ?_
                  refine lv_topl (fun t46 et46 => ?_)
                  have b47 : kbl 0 t46 99 := kbl_eq et46 (kbl_i2l b45)
                  refine lv_goto (tgt := 147) hx hb dX5_writeWords_141 (by decide) ?_
                  refine va_last hx hb hK hP hD hS 49 3 rfl rfl (kb_in b37 (by decide) (by decide)) dX5_writeWords_147 (fun H locs hP hD hS => ?_)
                  have hP : va_P D vwCl (xX K r f a (va_up G27.1 49 (va_up (G27.1 49) t36.toNatClampNeg t46), G27.2) tx) H := hP
                  have hD : va_D A (xX K r f a (va_up G27.1 49 (va_up (G27.1 49) t36.toNatClampNeg t46), G27.2) tx) := hD
                  refine k_gen (P := fun z => va_P D vwCl (xX K r f a z tx) H ∧ va_D A (xX K r f a z tx) ∧ (xI f a) ∧ (gOK K z.2 tt) ∧ (xEk ([], [], []) f a g f a z)) ((va_up G27.1 49 (va_up (G27.1 49) t36.toNatClampNeg t46), G27.2)) ⟨hP, hD, hI, hG, (xEk_g hE)⟩ (fun g_48 eg_48 hq => ?_)
                  obtain ⟨hP, hD, hI, hG, hE⟩ := hq
                  refine lv_aload_n hx hb dX5_writeWords_148 rfl (lv_at hl 1 rfl) ?_
                  refine va_get (D := D) (ci := 5) (v := .ref (r 49)) (C := RX5) (T := TX5) (N := 8) hx hb hg inC5 hown hK hP 25 rfl rfl 5 (by decide) (hg _ wt2_4) (fun _ h9 => h9) rfl dX5_writeWords_149 ?_
                  refine lv_bipush (v := 20) hx hb dX5_writeWords_152 (by decide) ?_
                  refine lv_iload_n hx hb dX5_writeWords_154 rfl (lv_at hl 0 rfl) ?_
                  refine lv_iadd hx hb dX5_writeWords_155 ?_
                  refine lv_topi (fun t49 et49 => ?_)
                  have b50 : kb 20 t49 25 := kb_eq et49 (kb_add kc_20 b42 (by decide) (by decide))
                  have qt49 : t49.toInt = 20 + y26.toInt := by rw [et49]; exact kt_cadd kc_20 b42 (by decide) (by decide)
                  refine lv_aload_n hx hb dX5_writeWords_156 rfl (lv_at hl 1 rfl) ?_
                  refine va_get (D := D) (ci := 5) (v := .ref (r 1)) (C := RX5) (T := TX5) (N := 8) hx hb hg inC5 hown hK hP 25 rfl rfl 0 (by decide) (hg _ wt1_239) (fun _ h9 => h9) rfl dX5_writeWords_157 ?_
                  refine lv_iload_n hx hb dX5_writeWords_160 rfl (lv_at hl 0 rfl) ?_
                  refine kIG.callW (As := [.int y26]) (rest := [.int t49, .ref (r 49)]) ⟨hx, hb, hml, hown, hg⟩ (z_hasBuilderN l r f a g_48 tx tt hT hI hG y26  k hVw hkk ) (cwV 1 hg (kgV wt4_106 wt3_68 wt3_69 wt1_2 wt3_70) rfl rfl rfl (by decide +kernel) ⟨by decide, by decide⟩) hV hK hP hD hS hA (1) 7 rfl rfl rfl hl.1 rfl (Nat.le_of_ble_eq_true rfl) dX5_writeWords_161 ⟨Nat.le_refl _, Nat.le_refl _⟩ (fun v52 u53 H locs hw51 hP hD hS => ?_)
                  have hP : va_P D vwCl (xX K r f a g_48 tx) H := hP
                  have hD : va_D A (xX K r f a g_48 tx) := hD
                  refine k_top (z := 1) (hw51.2.trans (if_pos hh41)) ?_
                  refine lv_if_eq (tgt := 180) hx hb dX5_writeWords_164 (by decide) (fun c55 => ?_) (fun c55 => ?_)
                  · exact kb_dj c55 kc_1 kc_0 (by decide)
                  · refine lv_aload_n hx hb dX5_writeWords_167 rfl (lv_at hl 1 rfl) ?_
                    refine va_get (D := D) (ci := 5) (v := .ref (r 1)) (C := RX5) (T := TX5) (N := 8) hx hb hg inC5 hown hK hP 25 rfl rfl 0 (by decide) (hg _ wt1_239) (fun _ h9 => h9) rfl dX5_writeWords_168 ?_
                    refine va_get (D := D) (ci := 7) (v := .ref (r 10)) (C := RX7) (T := TX7) (N := 20) hx hb hg inC7 hown hK hP 1 rfl rfl 10 (by decide) (hg _ wt1_125) (fun _ h9 => h9) rfl dX5_writeWords_171 ?_
                    refine lv_iload_n hx hb dX5_writeWords_174 rfl (lv_at hl 0 rfl) ?_
                    refine va_iald hx hb hK hP 10 0 rfl rfl (kb_in b42 (by decide) (by decide)) dX5_writeWords_175 ?_
                    refine lv_topi (fun t56 et56 => ?_)
                    have kvt56 : t56 = k (16 + y26.toNatClampNeg) := et56.trans ((sv_place hVw (kb_clt b42 (by decide) (by decide)) (by have w1 := hh41; have w5 := kb_cl b42 (by decide); omega)))
                    have b57 : kb (-1) t56 9 := kb_eq et56 (et56 ▸ kb_eq kvt56 (kK_s hkk 16 6 _ _ (by decide) (by decide) (kb_clt b42 (by decide) (by decide))))
                    refine lv_i2l hx hb dX5_writeWords_176 rfl ?_
                    refine lv_topl (fun t58 et58 => ?_)
                    have b59 : kbl (-1) t58 9 := kbl_eq et58 (kbl_i2l b57)
                    refine lv_goto (tgt := 183) hx hb dX5_writeWords_177 (by decide) ?_
                    refine va_last hx hb hK hP hD hS 49 3 rfl rfl (kb_in b50 (by decide) (by decide)) dX5_writeWords_183 (fun H locs hP hD hS => ?_)
                    have hP : va_P D vwCl (xX K r f a (va_up g_48.1 49 (va_up (g_48.1 49) t49.toNatClampNeg t58), g_48.2) tx) H := hP
                    have hD : va_D A (xX K r f a (va_up g_48.1 49 (va_up (g_48.1 49) t49.toNatClampNeg t58), g_48.2) tx) := hD
                    refine k_gen (P := fun z => va_P D vwCl (xX K r f a z tx) H ∧ va_D A (xX K r f a z tx) ∧ (xI f a) ∧ (gOK K z.2 tt) ∧ (xEk ([], [], []) f a g f a z)) ((va_up g_48.1 49 (va_up (g_48.1 49) t49.toNatClampNeg t58), g_48.2)) ⟨hP, hD, hI, hG, (xEk_g hE)⟩ (fun g_60 eg_60 hq => ?_)
                    obtain ⟨hP, hD, hI, hG, hE⟩ := hq
                    obtain ⟨t61, et61⟩ : ∃ z : Int32, z = y26 + Int32.ofInt 1 := ⟨_, rfl⟩
                    have qt61 : t61.toInt = y26.toInt + 1 := by rw [et61]; exact km_inc b42 (by decide) (by decide)
                    have b62 : kb 1 t61 6 := kb_inc (k := 1) qt61 b42
                    refine lv_iinc (v := t61) (lv' := [(1, .int t61), (0, .ref (r 25))]) hx hb dX5_writeWords_184 hl (k := 0) rfl et61.symm (by decide) rfl (fun ls hl => ?_)
                    refine lv_goto (tgt := 106) hx hb dX5_writeWords_187 (by decide) ?_
                    exact ihlp28 (mm + 1) g_60 _ _ _ t61 (km_up hmlp28 qt61) hI hG hE (kb_w b62 (by decide) (by decide)) (by have w1 := hvlp28_0; have w2 := qt61; omega) (by rw [show 14 + (mm + 1) = 14 + mm + 1 by omega]; exact fun j hj => by rw [show g_60.1 49 j = g_48.1 49 j from by rw [← eg_60]; show (if j = t49.toNatClampNeg then _ else _) = _; rw [if_neg (by have w1 := hvlp28_0; have w2 := qt49; unfold Int32.toNatClampNeg; omega)]]; exact st_w hvlp28_1 (fun j => by rw [← eg_48]; rfl) (by have w1 := hvlp28_0; have w2 := qt36; unfold Int32.toNatClampNeg; omega) (((show (t46 : Int64).toInt = (if ((mm : Nat) : Int) < (k 103).toInt then (k (10 + mm)).toInt else -1) from by rw [et46, kt_i2l, kvt44, cl_nat hvlp28_0, if_pos (by have w1 := hvlp28_0; have w2 := hh41; omega)])).trans (oW_t (by have w2 := (b42).2; have w1 := hvlp28_0; omega)).symm) j hj) (fun j h1 h2 => by rw [show g_60.1 49 j = (if j = t49.toNatClampNeg then t58 else g_48.1 49 j) from by rw [← eg_60]; rfl]; by_cases c : j = 20 + mm; (rw [if_pos (by have w1 := hvlp28_0; have w2 := qt49; unfold Int32.toNatClampNeg; omega), c]; exact ((show (t58 : Int64).toInt = (if ((mm : Nat) : Int) < (k 103).toInt then (k (16 + mm)).toInt else -1) from by rw [et58, kt_i2l, kvt56, cl_nat hvlp28_0, if_pos (by have w1 := hvlp28_0; have w2 := hh41; omega)])).trans (oW_a (by have w2 := (b42).2; have w1 := hvlp28_0; omega)).symm); (rw [if_neg (by have w1 := hvlp28_0; have w2 := qt49; unfold Int32.toNatClampNeg; omega), show g_48.1 49 j = G27.1 49 j from by rw [← eg_48]; show (if j = t36.toNatClampNeg then _ else _) = _; rw [if_neg (by have w1 := hvlp28_0; have w2 := qt36; have w3 := (b42).2; unfold Int32.toNatClampNeg; omega)]]; exact hvlp28_2 j h1 (by omega))) (by have w1 := hvlp28_0; have w2 := (b42).2; omega) hP hD hS (lv_sub hl [0, 1] rfl)
              · refine k_top (z := 0) (hw38.2.trans (if_neg hh41)) ?_
                refine lv_if_eq (tgt := 144) hx hb dX5_writeWords_128 (by decide) (fun c63 => ?_) (fun c63 => ?_)
                · refine lv_ldc2 (v := (-1)) hx hb hown (hg _ wt4_105) dX5_writeWords_144 ?_
                  refine va_last hx hb hK hP hD hS 49 3 rfl rfl (kb_in b37 (by decide) (by decide)) dX5_writeWords_147 (fun H locs hP hD hS => ?_)
                  have hP : va_P D vwCl (xX K r f a (va_up G27.1 49 (va_up (G27.1 49) t36.toNatClampNeg (-1)), G27.2) tx) H := hP
                  have hD : va_D A (xX K r f a (va_up G27.1 49 (va_up (G27.1 49) t36.toNatClampNeg (-1)), G27.2) tx) := hD
                  refine k_gen (P := fun z => va_P D vwCl (xX K r f a z tx) H ∧ va_D A (xX K r f a z tx) ∧ (xI f a) ∧ (gOK K z.2 tt) ∧ (xEk ([], [], []) f a g f a z)) ((va_up G27.1 49 (va_up (G27.1 49) t36.toNatClampNeg (-1)), G27.2)) ⟨hP, hD, hI, hG, (xEk_g hE)⟩ (fun g_64 eg_64 hq => ?_)
                  obtain ⟨hP, hD, hI, hG, hE⟩ := hq
                  refine lv_aload_n hx hb dX5_writeWords_148 rfl (lv_at hl 1 rfl) ?_
                  refine va_get (D := D) (ci := 5) (v := .ref (r 49)) (C := RX5) (T := TX5) (N := 8) hx hb hg inC5 hown hK hP 25 rfl rfl 5 (by decide) (hg _ wt2_4) (fun _ h9 => h9) rfl dX5_writeWords_149 ?_
                  refine lv_bipush (v := 20) hx hb dX5_writeWords_152 (by decide) ?_
                  refine lv_iload_n hx hb dX5_writeWords_154 rfl (lv_at hl 0 rfl) ?_
                  refine lv_iadd hx hb dX5_writeWords_155 ?_
                  refine lv_topi (fun t65 et65 => ?_)
                  have b66 : kb 20 t65 25 := kb_eq et65 (kb_add kc_20 b35 (by decide) (by decide))
                  have qt65 : t65.toInt = 20 + y26.toInt := by rw [et65]; exact kt_cadd kc_20 b35 (by decide) (by decide)
                  refine lv_aload_n hx hb dX5_writeWords_156 rfl (lv_at hl 1 rfl) ?_
                  refine va_get (D := D) (ci := 5) (v := .ref (r 1)) (C := RX5) (T := TX5) (N := 8) hx hb hg inC5 hown hK hP 25 rfl rfl 0 (by decide) (hg _ wt1_239) (fun _ h9 => h9) rfl dX5_writeWords_157 ?_
                  refine lv_iload_n hx hb dX5_writeWords_160 rfl (lv_at hl 0 rfl) ?_
                  refine kIG.callW (As := [.int y26]) (rest := [.int t65, .ref (r 49)]) ⟨hx, hb, hml, hown, hg⟩ (z_hasBuilderN l r f a g_64 tx tt hT hI hG y26  k hVw hkk ) (cwV 1 hg (kgV wt4_106 wt3_68 wt3_69 wt1_2 wt3_70) rfl rfl rfl (by decide +kernel) ⟨by decide, by decide⟩) hV hK hP hD hS hA (1) 7 rfl rfl rfl hl.1 rfl (Nat.le_of_ble_eq_true rfl) dX5_writeWords_161 ⟨Nat.le_refl _, Nat.le_refl _⟩ (fun v68 u69 H locs hw67 hP hD hS => ?_)
                  have hP : va_P D vwCl (xX K r f a g_64 tx) H := hP
                  have hD : va_D A (xX K r f a g_64 tx) := hD
                  by_cases hh70 : 0 ≤ y26.toInt ∧ y26.toInt < (k 103).toInt
                  · refine k_top (z := 1) (hw67.2.trans (if_pos hh70)) ?_
                    have b71 : kb 0 y26 5 := ⟨hh70.1, by have w1 := hh70.2; have w2 := (kK_r hkk 103 0 6 (by decide) (by decide)).2; omega⟩
                    refine lv_if_eq (tgt := 180) hx hb dX5_writeWords_164 (by decide) (fun c72 => ?_) (fun c72 => ?_)
                    · exact kb_dj c72 kc_1 kc_0 (by decide)
                    · refine lv_aload_n hx hb dX5_writeWords_167 rfl (lv_at hl 1 rfl) ?_
                      refine va_get (D := D) (ci := 5) (v := .ref (r 1)) (C := RX5) (T := TX5) (N := 8) hx hb hg inC5 hown hK hP 25 rfl rfl 0 (by decide) (hg _ wt1_239) (fun _ h9 => h9) rfl dX5_writeWords_168 ?_
                      refine va_get (D := D) (ci := 7) (v := .ref (r 10)) (C := RX7) (T := TX7) (N := 20) hx hb hg inC7 hown hK hP 1 rfl rfl 10 (by decide) (hg _ wt1_125) (fun _ h9 => h9) rfl dX5_writeWords_171 ?_
                      refine lv_iload_n hx hb dX5_writeWords_174 rfl (lv_at hl 0 rfl) ?_
                      refine va_iald hx hb hK hP 10 0 rfl rfl (kb_in b71 (by decide) (by decide)) dX5_writeWords_175 ?_
                      refine lv_topi (fun t73 et73 => ?_)
                      have kvt73 : t73 = k (16 + y26.toNatClampNeg) := et73.trans ((sv_place hVw (kb_clt b71 (by decide) (by decide)) (by have w1 := hh70; have w5 := kb_cl b71 (by decide); omega)))
                      have b74 : kb (-1) t73 9 := kb_eq et73 (et73 ▸ kb_eq kvt73 (kK_s hkk 16 6 _ _ (by decide) (by decide) (kb_clt b71 (by decide) (by decide))))
                      refine lv_i2l hx hb dX5_writeWords_176 rfl ?_
                      refine lv_topl (fun t75 et75 => ?_)
                      have b76 : kbl (-1) t75 9 := kbl_eq et75 (kbl_i2l b74)
                      refine lv_goto (tgt := 183) hx hb dX5_writeWords_177 (by decide) ?_
                      refine va_last hx hb hK hP hD hS 49 3 rfl rfl (kb_in b66 (by decide) (by decide)) dX5_writeWords_183 (fun H locs hP hD hS => ?_)
                      have hP : va_P D vwCl (xX K r f a (va_up g_64.1 49 (va_up (g_64.1 49) t65.toNatClampNeg t75), g_64.2) tx) H := hP
                      have hD : va_D A (xX K r f a (va_up g_64.1 49 (va_up (g_64.1 49) t65.toNatClampNeg t75), g_64.2) tx) := hD
                      refine k_gen (P := fun z => va_P D vwCl (xX K r f a z tx) H ∧ va_D A (xX K r f a z tx) ∧ (xI f a) ∧ (gOK K z.2 tt) ∧ (xEk ([], [], []) f a g f a z)) ((va_up g_64.1 49 (va_up (g_64.1 49) t65.toNatClampNeg t75), g_64.2)) ⟨hP, hD, hI, hG, (xEk_g hE)⟩ (fun g_77 eg_77 hq => ?_)
                      obtain ⟨hP, hD, hI, hG, hE⟩ := hq
                      obtain ⟨t78, et78⟩ : ∃ z : Int32, z = y26 + Int32.ofInt 1 := ⟨_, rfl⟩
                      have qt78 : t78.toInt = y26.toInt + 1 := by rw [et78]; exact km_inc b71 (by decide) (by decide)
                      have b79 : kb 1 t78 6 := kb_inc (k := 1) qt78 b71
                      refine lv_iinc (v := t78) (lv' := [(1, .int t78), (0, .ref (r 25))]) hx hb dX5_writeWords_184 hl (k := 0) rfl et78.symm (by decide) rfl (fun ls hl => ?_)
                      refine lv_goto (tgt := 106) hx hb dX5_writeWords_187 (by decide) ?_
                      exact ihlp28 (mm + 1) g_77 _ _ _ t78 (km_up hmlp28 qt78) hI hG hE (kb_w b79 (by decide) (by decide)) (by have w1 := hvlp28_0; have w2 := qt78; omega) (by rw [show 14 + (mm + 1) = 14 + mm + 1 by omega]; exact fun j hj => by rw [show g_77.1 49 j = g_64.1 49 j from by rw [← eg_77]; show (if j = t65.toNatClampNeg then _ else _) = _; rw [if_neg (by have w1 := hvlp28_0; have w2 := qt65; unfold Int32.toNatClampNeg; omega)]]; exact st_w hvlp28_1 (fun j => by rw [← eg_64]; rfl) (by have w1 := hvlp28_0; have w2 := qt36; unfold Int32.toNatClampNeg; omega) (((show ((-1) : Int64).toInt = (if ((mm : Nat) : Int) < (k 103).toInt then (k (10 + mm)).toInt else -1) from by rw [if_neg (fun w9 => hh41 ⟨by have w1 := hvlp28_0; omega, by have w1 := hvlp28_0; omega⟩)]; decide +kernel)).trans (oW_t (by have w2 := (b71).2; have w1 := hvlp28_0; omega)).symm) j hj) (fun j h1 h2 => by rw [show g_77.1 49 j = (if j = t65.toNatClampNeg then t75 else g_64.1 49 j) from by rw [← eg_77]; rfl]; by_cases c : j = 20 + mm; (rw [if_pos (by have w1 := hvlp28_0; have w2 := qt65; unfold Int32.toNatClampNeg; omega), c]; exact ((show (t75 : Int64).toInt = (if ((mm : Nat) : Int) < (k 103).toInt then (k (16 + mm)).toInt else -1) from by rw [et75, kt_i2l, kvt73, cl_nat hvlp28_0, if_pos (by have w1 := hvlp28_0; have w2 := hh70; omega)])).trans (oW_a (by have w2 := (b71).2; have w1 := hvlp28_0; omega)).symm); (rw [if_neg (by have w1 := hvlp28_0; have w2 := qt65; unfold Int32.toNatClampNeg; omega), show g_64.1 49 j = G27.1 49 j from by rw [← eg_64]; show (if j = t36.toNatClampNeg then _ else _) = _; rw [if_neg (by have w1 := hvlp28_0; have w2 := qt36; have w3 := (b71).2; unfold Int32.toNatClampNeg; omega)]]; exact hvlp28_2 j h1 (by omega))) (by have w1 := hvlp28_0; have w2 := (b71).2; omega) hP hD hS (lv_sub hl [0, 1] rfl)
                  · refine k_top (z := 0) (hw67.2.trans (if_neg hh70)) ?_
                    refine lv_if_eq (tgt := 180) hx hb dX5_writeWords_164 (by decide) (fun c80 => ?_) (fun c80 => ?_)
                    · refine lv_ldc2 (v := (-1)) hx hb hown (hg _ wt4_105) dX5_writeWords_180 ?_
                      refine va_last hx hb hK hP hD hS 49 3 rfl rfl (kb_in b66 (by decide) (by decide)) dX5_writeWords_183 (fun H locs hP hD hS => ?_)
                      have hP : va_P D vwCl (xX K r f a (va_up g_64.1 49 (va_up (g_64.1 49) t65.toNatClampNeg (-1)), g_64.2) tx) H := hP
                      have hD : va_D A (xX K r f a (va_up g_64.1 49 (va_up (g_64.1 49) t65.toNatClampNeg (-1)), g_64.2) tx) := hD
                      refine k_gen (P := fun z => va_P D vwCl (xX K r f a z tx) H ∧ va_D A (xX K r f a z tx) ∧ (xI f a) ∧ (gOK K z.2 tt) ∧ (xEk ([], [], []) f a g f a z)) ((va_up g_64.1 49 (va_up (g_64.1 49) t65.toNatClampNeg (-1)), g_64.2)) ⟨hP, hD, hI, hG, (xEk_g hE)⟩ (fun g_81 eg_81 hq => ?_)
                      obtain ⟨hP, hD, hI, hG, hE⟩ := hq
                      obtain ⟨t82, et82⟩ : ∃ z : Int32, z = y26 + Int32.ofInt 1 := ⟨_, rfl⟩
                      have qt82 : t82.toInt = y26.toInt + 1 := by rw [et82]; exact km_inc b35 (by decide) (by decide)
                      have b83 : kb 1 t82 6 := kb_inc (k := 1) qt82 b35
                      refine lv_iinc (v := t82) (lv' := [(1, .int t82), (0, .ref (r 25))]) hx hb dX5_writeWords_184 hl (k := 0) rfl et82.symm (by decide) rfl (fun ls hl => ?_)
                      refine lv_goto (tgt := 106) hx hb dX5_writeWords_187 (by decide) ?_
                      exact ihlp28 (mm + 1) g_81 _ _ _ t82 (km_up hmlp28 qt82) hI hG hE (kb_w b83 (by decide) (by decide)) (by have w1 := hvlp28_0; have w2 := qt82; omega) (by rw [show 14 + (mm + 1) = 14 + mm + 1 by omega]; exact fun j hj => by rw [show g_81.1 49 j = g_64.1 49 j from by rw [← eg_81]; show (if j = t65.toNatClampNeg then _ else _) = _; rw [if_neg (by have w1 := hvlp28_0; have w2 := qt65; unfold Int32.toNatClampNeg; omega)]]; exact st_w hvlp28_1 (fun j => by rw [← eg_64]; rfl) (by have w1 := hvlp28_0; have w2 := qt36; unfold Int32.toNatClampNeg; omega) (((show ((-1) : Int64).toInt = (if ((mm : Nat) : Int) < (k 103).toInt then (k (10 + mm)).toInt else -1) from by rw [if_neg (fun w9 => hh70 ⟨by have w1 := hvlp28_0; omega, by have w1 := hvlp28_0; omega⟩)]; decide +kernel)).trans (oW_t (by have w2 := (b35).2; have w1 := hvlp28_0; omega)).symm) j hj) (fun j h1 h2 => by rw [show g_81.1 49 j = (if j = t65.toNatClampNeg then (-1) else g_64.1 49 j) from by rw [← eg_81]; rfl]; by_cases c : j = 20 + mm; (rw [if_pos (by have w1 := hvlp28_0; have w2 := qt65; unfold Int32.toNatClampNeg; omega), c]; exact ((show ((-1) : Int64).toInt = (if ((mm : Nat) : Int) < (k 103).toInt then (k (16 + mm)).toInt else -1) from by rw [if_neg (fun w9 => hh70 ⟨by have w1 := hvlp28_0; omega, by have w1 := hvlp28_0; omega⟩)]; decide +kernel)).trans (oW_a (by have w2 := (b35).2; have w1 := hvlp28_0; omega)).symm); (rw [if_neg (by have w1 := hvlp28_0; have w2 := qt65; unfold Int32.toNatClampNeg; omega), show g_64.1 49 j = G27.1 49 j from by rw [← eg_64]; show (if j = t36.toNatClampNeg then _ else _) = _; rw [if_neg (by have w1 := hvlp28_0; have w2 := qt36; have w3 := (b35).2; unfold Int32.toNatClampNeg; omega)]]; exact hvlp28_2 j h1 (by omega))) (by have w1 := hvlp28_0; have w2 := (b35).2; omega) hP hD hS (lv_sub hl [0, 1] rfl)
                    · exact kb_nsame c80 kc_0 kc_0
                · exact kb_nsame c63 kc_0 kc_0
        exact lp28 (7) 0 G19 _ _ _ 0 (by have h1 := (kc_0); unfold kb at h1; omega) hI hG hE (kb_w kc_0 (by decide) (by decide)) (by decide +kernel) (hw14) (fun j h1 h2 => absurd h2 (by omega)) (Nat.zero_le _) hP hD hS (lv_sub hl [0, 1] rfl)
      · have h84 := (kc_nle c23)
        have b85 : kb 0 y18 9 := kr_lt1 h84 b22 kc_10 (by decide)
        refine lv_aload_n hx hb dX5_writeWords_63 rfl (lv_at hl 1 rfl) ?_
        refine va_get (D := D) (ci := 5) (v := .ref (r 49)) (C := RX5) (T := TX5) (N := 8) hx hb hg inC5 hown hK hP 25 rfl rfl 5 (by decide) (hg _ wt2_4) (fun _ h9 => h9) rfl dX5_writeWords_64 ?_
        refine lv_iconst (v := 4) hx hb dX5_writeWords_67 (by decide) ?_
        refine lv_iload_n hx hb dX5_writeWords_68 rfl (lv_at hl 0 rfl) ?_
        refine lv_iadd hx hb dX5_writeWords_69 ?_
        refine lv_topi (fun t86 et86 => ?_)
        have b87 : kb 4 t86 13 := kb_eq et86 (kb_add kc_4 b85 (by decide) (by decide))
        have qt86 : t86.toInt = 4 + y18.toInt := by rw [et86]; exact kt_cadd kc_4 b85 (by decide) (by decide)
        refine lv_aload_n hx hb dX5_writeWords_70 rfl (lv_at hl 1 rfl) ?_
        refine va_get (D := D) (ci := 5) (v := .ref (r 1)) (C := RX5) (T := TX5) (N := 8) hx hb hg inC5 hown hK hP 25 rfl rfl 0 (by decide) (hg _ wt1_239) (fun _ h9 => h9) rfl dX5_writeWords_71 ?_
        refine lv_iload_n hx hb dX5_writeWords_74 rfl (lv_at hl 0 rfl) ?_
        refine kIG.callW (As := [.int y18]) (rest := [.int t86, .ref (r 49)]) ⟨hx, hb, hml, hown, hg⟩ (z_hasPartN l r f a G19 tx tt hT hI hG y18  k hVw hkk ) (cwV 1 hg (kgV wt4_104 wt3_36 wt3_37 wt1_2 wt3_38) rfl rfl rfl (by decide +kernel) ⟨by decide, by decide⟩) hV hK hP hD hS hA (1) 7 rfl rfl rfl hl.1 rfl (Nat.le_of_ble_eq_true rfl) dX5_writeWords_75 ⟨Nat.le_refl _, Nat.le_refl _⟩ (fun v89 u90 H locs hw88 hP hD hS => ?_)
        have hP : va_P D vwCl (xX K r f a G19 tx) H := hP
        have hD : va_D A (xX K r f a G19 tx) := hD
        by_cases hh91 : 0 ≤ y18.toInt ∧ y18.toInt < (k 102).toInt
        · refine k_top (z := 1) (hw88.2.trans (if_pos hh91)) ?_
          have b92 : kb 0 y18 9 := ⟨hh91.1, by have w1 := hh91.2; have w2 := (kK_r hkk 102 0 10 (by decide) (by decide)).2; omega⟩
          refine lv_if_eq (tgt := 94) hx hb dX5_writeWords_78 (by decide) (fun c93 => ?_) (fun c93 => ?_)
          · exact kb_dj c93 kc_1 kc_0 (by decide)
          · refine lv_aload_n hx hb dX5_writeWords_81 rfl (lv_at hl 1 rfl) ?_
            refine va_get (D := D) (ci := 5) (v := .ref (r 1)) (C := RX5) (T := TX5) (N := 8) hx hb hg inC5 hown hK hP 25 rfl rfl 0 (by decide) (hg _ wt1_239) (fun _ h9 => h9) rfl dX5_writeWords_82 ?_
            refine va_get (D := D) (ci := 7) (v := .ref (r 6)) (C := RX7) (T := TX7) (N := 20) hx hb hg inC7 hown hK hP 1 rfl rfl 5 (by decide) (hg _ wt1_102) (fun _ h9 => h9) rfl dX5_writeWords_85 ?_
            refine lv_iload_n hx hb dX5_writeWords_88 rfl (lv_at hl 0 rfl) ?_
            refine va_iald hx hb hK hP 6 0 rfl rfl (kb_in b92 (by decide) (by decide)) dX5_writeWords_89 ?_
            refine lv_topi (fun t94 et94 => ?_)
            have kvt94 : t94 = k (0 + y18.toNatClampNeg) := et94.trans ((sv_left hVw (kb_clt b92 (by decide) (by decide))))
            have b95 : kb 0 t94 99 := kb_eq et94 (et94 ▸ kb_eq kvt94 (kK_s hkk 0 10 _ _ (by decide) (by decide) (kb_clt b92 (by decide) (by decide))))
            refine lv_i2l hx hb dX5_writeWords_90 rfl ?_
            refine lv_topl (fun t96 et96 => ?_)
            have b97 : kbl 0 t96 99 := kbl_eq et96 (kbl_i2l b95)
            refine lv_goto (tgt := 97) hx hb dX5_writeWords_91 (by decide) ?_
            refine va_last hx hb hK hP hD hS 49 3 rfl rfl (kb_in b87 (by decide) (by decide)) dX5_writeWords_97 (fun H locs hP hD hS => ?_)
            have hP : va_P D vwCl (xX K r f a (va_up G19.1 49 (va_up (G19.1 49) t86.toNatClampNeg t96), G19.2) tx) H := hP
            have hD : va_D A (xX K r f a (va_up G19.1 49 (va_up (G19.1 49) t86.toNatClampNeg t96), G19.2) tx) := hD
            refine k_gen (P := fun z => va_P D vwCl (xX K r f a z tx) H ∧ va_D A (xX K r f a z tx) ∧ (xI f a) ∧ (gOK K z.2 tt) ∧ (xEk ([], [], []) f a g f a z)) ((va_up G19.1 49 (va_up (G19.1 49) t86.toNatClampNeg t96), G19.2)) ⟨hP, hD, hI, hG, (xEk_g hE)⟩ (fun g_98 eg_98 hq => ?_)
            obtain ⟨hP, hD, hI, hG, hE⟩ := hq
            obtain ⟨t99, et99⟩ : ∃ z : Int32, z = y18 + Int32.ofInt 1 := ⟨_, rfl⟩
            have qt99 : t99.toInt = y18.toInt + 1 := by rw [et99]; exact km_inc b92 (by decide) (by decide)
            have b100 : kb 1 t99 10 := kb_inc (k := 1) qt99 b92
            refine lv_iinc (v := t99) (lv' := [(1, .int t99), (0, .ref (r 25))]) hx hb dX5_writeWords_98 hl (k := 0) rfl et99.symm (by decide) rfl (fun ls hl => ?_)
            refine lv_goto (tgt := 57) hx hb dX5_writeWords_101 (by decide) ?_
            exact ihlp20 (nn + 1) g_98 _ _ _ t99 (km_up hmlp20 qt99) hI hG hE (kb_w b100 (by decide) (by decide)) (by have w1 := hvlp20_0; have w2 := qt99; omega) (by rw [show 4 + (nn + 1) = 4 + nn + 1 by omega]; exact st_w hvlp20_1 (fun j => by rw [← eg_98]; rfl) (by have w1 := hvlp20_0; have w2 := qt86; unfold Int32.toNatClampNeg; omega) (((show (t96 : Int64).toInt = (if ((nn : Nat) : Int) < (k 102).toInt then (k (0 + nn)).toInt else -1) from by rw [et96, kt_i2l, kvt94, cl_nat hvlp20_0, if_pos (by have w1 := hvlp20_0; have w2 := hh91; omega)])).trans (oW_l (by have w2 := (b92).2; have w1 := hvlp20_0; omega)).symm)) (by have w1 := hvlp20_0; have w2 := (b92).2; omega) hP hD hS (lv_sub hl [0, 1] rfl)
        · refine k_top (z := 0) (hw88.2.trans (if_neg hh91)) ?_
          refine lv_if_eq (tgt := 94) hx hb dX5_writeWords_78 (by decide) (fun c101 => ?_) (fun c101 => ?_)
          · refine lv_ldc2 (v := (-1)) hx hb hown (hg _ wt4_105) dX5_writeWords_94 ?_
            refine va_last hx hb hK hP hD hS 49 3 rfl rfl (kb_in b87 (by decide) (by decide)) dX5_writeWords_97 (fun H locs hP hD hS => ?_)
            have hP : va_P D vwCl (xX K r f a (va_up G19.1 49 (va_up (G19.1 49) t86.toNatClampNeg (-1)), G19.2) tx) H := hP
            have hD : va_D A (xX K r f a (va_up G19.1 49 (va_up (G19.1 49) t86.toNatClampNeg (-1)), G19.2) tx) := hD
            refine k_gen (P := fun z => va_P D vwCl (xX K r f a z tx) H ∧ va_D A (xX K r f a z tx) ∧ (xI f a) ∧ (gOK K z.2 tt) ∧ (xEk ([], [], []) f a g f a z)) ((va_up G19.1 49 (va_up (G19.1 49) t86.toNatClampNeg (-1)), G19.2)) ⟨hP, hD, hI, hG, (xEk_g hE)⟩ (fun g_102 eg_102 hq => ?_)
            obtain ⟨hP, hD, hI, hG, hE⟩ := hq
            obtain ⟨t103, et103⟩ : ∃ z : Int32, z = y18 + Int32.ofInt 1 := ⟨_, rfl⟩
            have qt103 : t103.toInt = y18.toInt + 1 := by rw [et103]; exact km_inc b85 (by decide) (by decide)
            have b104 : kb 1 t103 10 := kb_inc (k := 1) qt103 b85
            refine lv_iinc (v := t103) (lv' := [(1, .int t103), (0, .ref (r 25))]) hx hb dX5_writeWords_98 hl (k := 0) rfl et103.symm (by decide) rfl (fun ls hl => ?_)
            refine lv_goto (tgt := 57) hx hb dX5_writeWords_101 (by decide) ?_
            exact ihlp20 (nn + 1) g_102 _ _ _ t103 (km_up hmlp20 qt103) hI hG hE (kb_w b104 (by decide) (by decide)) (by have w1 := hvlp20_0; have w2 := qt103; omega) (by rw [show 4 + (nn + 1) = 4 + nn + 1 by omega]; exact st_w hvlp20_1 (fun j => by rw [← eg_102]; rfl) (by have w1 := hvlp20_0; have w2 := qt86; unfold Int32.toNatClampNeg; omega) (((show ((-1) : Int64).toInt = (if ((nn : Nat) : Int) < (k 102).toInt then (k (0 + nn)).toInt else -1) from by rw [if_neg (fun w9 => hh91 ⟨by have w1 := hvlp20_0; omega, by have w1 := hvlp20_0; omega⟩)]; decide +kernel)).trans (oW_l (by have w2 := (b85).2; have w1 := hvlp20_0; omega)).symm)) (by have w1 := hvlp20_0; have w2 := (b85).2; omega) hP hD hS (lv_sub hl [0, 1] rfl)
          · exact kb_nsame c101 kc_0 kc_0
  exact lp20 (11) 0 g_17 _ _ _ 0 (by have h1 := (kc_0); unfold kb at h1; omega) hI hG hE (kb_w kc_0 (by decide) (by decide)) (by decide +kernel) (hw4) (Nat.zero_le _) hP hD hS (lv_sub hl [0, 1] rfl)
