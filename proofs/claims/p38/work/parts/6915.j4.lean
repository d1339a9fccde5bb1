set_option maxHeartbeats 4000000 in
set_option maxRecDepth 100000 in
theorem z_bitCount (l : Launch) (x : Int32) (bx : kb 0 x 1023)  : kN l yJ6_bitCount_0f7a4 (Cond.code yJ6_bitCount_0f7a4 cJ6_bitCount_0f7a4 1 (some .int) :: kG) (rmD 1 0 0) [.int x] (fun v => kb 0 v 63 ∧ v.toInt = (pop x.toInt.toNat : Int)) := by
  refine kN.of (cc := cJ6_bitCount_0f7a4) (maxL := 1) (ret := (some .int)) (by decide) rfl (Nat.le_of_ble_eq_true rfl) ?_
  intro p e s m below meth c hx hb hr hml hown hts hlocks hS ls hl
  have hg : ∀ w ∈ kG, w.before _ s = true := fun w h => hts w (List.mem_cons_of_mem _ h)
  have hown : s.vm.findClass RJ6 = some m.cls := hown
  have hl : lv_has ls 1 [(0, .int x)] := hl
  refine lv_iload_n hx hb dJ6_bitCount_0f7a4_0 rfl (lv_at hl 0 rfl) ?_
  refine lv_iload_n hx hb dJ6_bitCount_0f7a4_1 rfl (lv_at hl 0 rfl) ?_
  refine lv_iconst (v := 1) hx hb dJ6_bitCount_0f7a4_2 (by decide) ?_
  obtain ⟨t1, et1⟩ : ∃ z : Int32, (Int32.toUInt32 x >>> (Int32.toUInt32 1 &&& Int32.toUInt32 31)).toInt32 = z := ⟨_, rfl⟩
  refine lv_iushr (v := t1) hx hb dJ6_bitCount_0f7a4_3 et1 ?_
  refine lv_ldcw (v := (1431655765)) hx hb hown (hg _ wt4_101) dJ6_bitCount_0f7a4_4 ?_
  refine lv_iand hx hb dJ6_bitCount_0f7a4_7 ?_
  refine lv_topi (fun t2 et2 => ?_)
  refine lv_isub hx hb dJ6_bitCount_0f7a4_8 ?_
  refine lv_topi (fun t3 et3 => ?_)
  refine lv_istore_n (lv' := [(0, .int t3)]) hx hb dJ6_bitCount_0f7a4_9 rfl hl (by decide) rfl (fun ls hl => ?_)
  refine lv_iload_n hx hb dJ6_bitCount_0f7a4_10 rfl (lv_at hl 0 rfl) ?_
  refine lv_ldcw (v := (858993459)) hx hb hown (hg _ wt4_102) dJ6_bitCount_0f7a4_11 ?_
  refine lv_iand hx hb dJ6_bitCount_0f7a4_14 ?_
  refine lv_topi (fun t4 et4 => ?_)
  refine lv_iload_n hx hb dJ6_bitCount_0f7a4_15 rfl (lv_at hl 0 rfl) ?_
  refine lv_iconst (v := 2) hx hb dJ6_bitCount_0f7a4_16 (by decide) ?_
  obtain ⟨t5, et5⟩ : ∃ z : Int32, (Int32.toUInt32 t3 >>> (Int32.toUInt32 2 &&& Int32.toUInt32 31)).toInt32 = z := ⟨_, rfl⟩
  refine lv_iushr (v := t5) hx hb dJ6_bitCount_0f7a4_17 et5 ?_
  refine lv_ldcw (v := (858993459)) hx hb hown (hg _ wt4_102) dJ6_bitCount_0f7a4_18 ?_
  refine lv_iand hx hb dJ6_bitCount_0f7a4_21 ?_
  refine lv_topi (fun t6 et6 => ?_)
  refine lv_iadd hx hb dJ6_bitCount_0f7a4_22 ?_
  refine lv_topi (fun t7 et7 => ?_)
  refine lv_istore_n (lv' := [(0, .int t7)]) hx hb dJ6_bitCount_0f7a4_23 rfl hl (by decide) rfl (fun ls hl => ?_)
  refine lv_iload_n hx hb dJ6_bitCount_0f7a4_24 rfl (lv_at hl 0 rfl) ?_
  refine lv_iload_n hx hb dJ6_bitCount_0f7a4_25 rfl (lv_at hl 0 rfl) ?_
  refine lv_iconst (v := 4) hx hb dJ6_bitCount_0f7a4_26 (by decide) ?_
  obtain ⟨t8, et8⟩ : ∃ z : Int32, (Int32.toUInt32 t7 >>> (Int32.toUInt32 4 &&& Int32.toUInt32 31)).toInt32 = z := ⟨_, rfl⟩
  refine lv_iushr (v := t8) hx hb dJ6_bitCount_0f7a4_27 et8 ?_
  refine lv_iadd hx hb dJ6_bitCount_0f7a4_28 ?_
  refine lv_topi (fun t9 et9 => ?_)
  refine lv_ldcw (v := (252645135)) hx hb hown (hg _ wt4_103) dJ6_bitCount_0f7a4_29 ?_
  refine lv_iand hx hb dJ6_bitCount_0f7a4_32 ?_
  refine lv_topi (fun t10 et10 => ?_)
  refine lv_istore_n (lv' := [(0, .int t10)]) hx hb dJ6_bitCount_0f7a4_33 rfl hl (by decide) rfl (fun ls hl => ?_)
  refine lv_iload_n hx hb dJ6_bitCount_0f7a4_34 rfl (lv_at hl 0 rfl) ?_
  refine lv_iload_n hx hb dJ6_bitCount_0f7a4_35 rfl (lv_at hl 0 rfl) ?_
  refine lv_bipush (v := 8) hx hb dJ6_bitCount_0f7a4_36 (by decide) ?_
  obtain ⟨t11, et11⟩ : ∃ z : Int32, (Int32.toUInt32 t10 >>> (Int32.toUInt32 8 &&& Int32.toUInt32 31)).toInt32 = z := ⟨_, rfl⟩
  refine lv_iushr (v := t11) hx hb dJ6_bitCount_0f7a4_38 et11 ?_
  refine lv_iadd hx hb dJ6_bitCount_0f7a4_39 ?_
  refine lv_topi (fun t12 et12 => ?_)
  refine lv_istore_n (lv' := [(0, .int t12)]) hx hb dJ6_bitCount_0f7a4_40 rfl hl (by decide) rfl (fun ls hl => ?_)
  refine lv_iload_n hx hb dJ6_bitCount_0f7a4_41 rfl (lv_at hl 0 rfl) ?_
  refine lv_iload_n hx hb dJ6_bitCount_0f7a4_42 rfl (lv_at hl 0 rfl) ?_
  refine lv_bipush (v := 16) hx hb dJ6_bitCount_0f7a4_43 (by decide) ?_
  obtain ⟨t13, et13⟩ : ∃ z : Int32, (Int32.toUInt32 t12 >>> (Int32.toUInt32 16 &&& Int32.toUInt32 31)).toInt32 = z := ⟨_, rfl⟩
  refine lv_iushr (v := t13) hx hb dJ6_bitCount_0f7a4_45 et13 ?_
  refine lv_iadd hx hb dJ6_bitCount_0f7a4_46 ?_
  refine lv_topi (fun t14 et14 => ?_)
  refine lv_istore_n (lv' := [(0, .int t14)]) hx hb dJ6_bitCount_0f7a4_47 rfl hl (by decide) rfl (fun ls hl => ?_)
  refine lv_iload_n hx hb dJ6_bitCount_0f7a4_48 rfl (lv_at hl 0 rfl) ?_
  refine lv_bipush (v := 63) hx hb dJ6_bitCount_0f7a4_49 (by decide) ?_
  refine lv_iand hx hb dJ6_bitCount_0f7a4_51 ?_
  refine lv_topi (fun t15 et15 => ?_)
  have b16 : kb 0 t15 63 := kb_eq et15 (kb_and 6 (by decide) (by decide))
  exact kN_ret (v := t15) hx hb hr hlocks rfl hS dJ6_bitCount_0f7a4_52 (⟨b16, (by obtain ⟨n, en, hn, -⟩ := kn_nat bx (by decide); have w2 := bx.2; have w3 : (bcJ (nI n)).toInt = (pop n : Int) := bcJ_v ⟨n, by omega⟩; rw [← en] at w3; rw [show x.toInt.toNat = n by omega, ← w3, et15, et14, ← et13, et12, ← et11, et10, et9, ← et8, et7, et6, ← et5, et4, et3, et2, ← et1]; rfl)⟩)
set_option maxHeartbeats 4000000 in
set_option maxRecDepth 100000 in
theorem z_workOneTickN  (l : Launch) {D : va_G} {K : Nat → ClassId} (r : Nat → Nat) (f : Nat → Int32) (a : Nat → Nat → Int32) (g : xG) (tx tt : va_W) (hT : ∀ c ∈ tt, c ∈ tx) (hI : xI f a) (hG : gOK K g.2 tt)   (k : Nat → Int32) (hVw : sV 32 2 f a k) (hkk : kK k) (DD : Nat → tE) (hL : lC K tt (g.2 15) k DD)  (hp0 : (k 22).toInt ≤ 5000) : kIG l yX7_workOneTick (Cond.code yX7_workOneTick cX7_workOneTick 4 (some .int) :: kG) (rmD 4 0 0) D K [.ref (r 1)] (xX K r f a g tx) (fun v (u : xS) => kb 0 v 63 ∧ xI u.1 u.2.1 ∧ gOK K u.2.2.2 tt ∧ xEk ([], [6, 9, 10, 11, 19, 20], []) f a g u.1 u.2.1 u.2.2 ∧ sV 32 2 u.1 u.2.1 (tkF DD k) ∧ v.toInt = tkR k (tkF DD k)) (fun u => xX K r u.1 u.2.1 u.2.2 tx) 0 0 := by
  refine kIE.of (cc := cX7_workOneTick) (maxL := 4) (ret := (some .int)) (by decide) rfl (Nat.le_of_ble_eq_true rfl) ?_
  intro p e s m below meth c A hx hb hr hml hown hts hlocks hnm hK hP hD hS hA hV ls hl
  have hE : xEk ([], [6, 9, 10, 11, 19, 20], []) f a g f a g := xEk_rf
  have hg : ∀ w ∈ kG, w.before _ s = true := fun w h => hts w (List.mem_cons_of_mem _ h)
  have hown : s.vm.findClass RX7 = some m.cls := hown
  have hl : lv_has ls 4 [(0, .ref (r 1))] := hl
  have hk0 : sV 32 2 f a k := hVw
  have hk1 : a 11 = a 11 := rfl
  refine lv_iconst (v := 0) hx hb dX7_workOneTick_0 (by decide) ?_
  refine lv_istore_n (lv' := [(1, .int 0), (0, .ref (r 1))]) hx hb dX7_workOneTick_1 rfl hl (by decide) rfl (fun ls hl => ?_)
  have lp5 : ∀ (n6 : Nat) (nn : Nat) (F2 : Nat → Int32) (B3 : Nat → Nat → Int32) (G4 : xG) (H : Heap) (locs : List Loc) (ls : Array Slot) (y1 : Int32), (6 < y1.toInt + (n6 : Int)) → (xI F2 B3) → (gOK K G4.2 tt) → (xEk ([], [6, 9, 10, 11, 19, 20], []) f a g F2 B3 G4) → (sV 32 2 F2 B3 k) → (B3 11 = a 11) → (kb 0 y1 6) → (y1.toInt = (nn : Int)) → (∀ q, q < nn → ¬ k (16 + q) = -1 → (B3 19 q).toInt = tkW DD k 0 q) → (∀ q, q < nn → ¬ k (16 + q) = -1 → (B3 20 q).toInt = tkW DD k 1 q) → (nn ≤ kBn k) → va_P D vwCl (xX K r F2 B3 G4 tx) H → va_D A (xX K r F2 B3 G4 tx) → va_S A s.heap H locs → lv_has ls 4 [(1, .int y1), (0, .ref (r 1))] → W p l e (rmD 4 0 0) s m ([.ref (r 1)] : List Value).toArray below meth c H locs 0 0 (kQi D (tysK K) (fun v (u : xS) => kb 0 v 63 ∧ xI u.1 u.2.1 ∧ gOK K u.2.2.2 tt ∧ xEk ([], [6, 9, 10, 11, 19, 20], []) f a g u.1 u.2.1 u.2.2 ∧ sV 32 2 u.1 u.2.1 (tkF DD k) ∧ v.toInt = tkR k (tkF DD k)) (fun u => xX K r u.1 u.2.1 u.2.2 tx) A below ([.ref (r 1)] : List Value).toArray s 0 0) (F0 m 2 ls []) := by
    intro n6
    induction n6 with
    | zero =>
      intro nn F2 B3 G4  H locs ls y1 hmlp5 hI hG hE hk0 hk1 b7 hvlp5_0 hvlp5_1 hvlp5_2 hvlp5_3 hP hD hS hl
      exact (by have h1 := b7.2; have h2 := hmlp5; omega : False).elim
    | succ n6 ihlp5 =>
      intro nn F2 B3 G4  H locs ls y1 hmlp5 hI hG hE hk0 hk1 b7 hvlp5_0 hvlp5_1 hvlp5_2 hvlp5_3 hP hD hS hl
      have hnn : y1 = nI nn := nI_q hvlp5_0
      refine lv_iload_n hx hb dX7_workOneTick_2 rfl (lv_at hl 0 rfl) ?_
      refine lv_aload_n hx hb dX7_workOneTick_3 rfl (lv_at hl 1 rfl) ?_
      refine va_get (D := D) (ci := 7) (v := .int (F2 38)) (C := RX7) (T := TX7) (N := 20) hx hb hg inC7 hown hK hP 1 rfl rfl 6 (by decide) (hg _ wt1_104) (fun _ h9 => h9) rfl dX7_workOneTick_4 ?_
      refine lv_topi (fun t8 et8 => ?_)
      have kvt8 : t8 = k 103 := et8.trans ((hE.1 38 rfl).trans (sv_builders hVw))
      have kvit8 : t8.toInt = (k 103).toInt := congrArg Int32.toInt kvt8
      have b9 : kb 0 t8 6 := kb_eq kvt8 (kK_r hkk 103 _ _ (by decide) (by decide))
      refine lv_icmp_ge (tgt := 77) hx hb dX7_workOneTick_7 (by decide) (fun c10 => ?_) (fun c10 => ?_)
      · have h11 := (kc_le c10)
        have hnb := (by have w1 := hvlp5_0; have w3 := (show t8.toInt = (kBn k : Int) from kvit8.trans (kBn_b hkk).2); have w4 := hvlp5_3; have w9 := (kBn_b hkk).1; have w2 := kc_le c10; omega : nn = kBn k)
        have hw1 : ∀ q, q < kBn k → ¬ k (16 + q) = -1 → (B3 19 q).toInt = tkW DD k 0 q := by rw [← hnb]; exact hvlp5_1
        have hw2 : ∀ q, q < kBn k → ¬ k (16 + q) = -1 → (B3 20 q).toInt = tkW DD k 1 q := by rw [← hnb]; exact hvlp5_2
        refine lv_aload_n hx hb dX7_workOneTick_77 rfl (lv_at hl 1 rfl) ?_
        refine kIG.callW (As := []) (rest := []) ⟨hx, hb, hml, hown, hg⟩ (z_upMaskN l r F2 B3 G4 tx tt hT hI hG   k hk0 hkk ) (cwV 0 hg (kgV wt3_43 wt3_44 wt3_45 wt1_2 wt3_46) rfl rfl rfl (by decide +kernel) ⟨by decide, by decide⟩) hV hK hP hD hS hA (1) 7 rfl rfl rfl hl.1 rfl (Nat.le_of_ble_eq_true rfl) dX7_workOneTick_78 ⟨Nat.le_refl _, Nat.le_refl _⟩ (fun v13 u14 H locs hw12 hP hD hS => ?_)
        have hP : va_P D vwCl (xX K r F2 B3 G4 tx) H := hP
        have hD : va_D A (xX K r F2 B3 G4 tx) := hD
        refine lv_istore_n (lv' := [(1, .int v13), (0, .ref (r 1))]) hx hb dX7_workOneTick_81 rfl hl (by decide) rfl (fun ls hl => ?_)
        have hS1 := hk0
        have hr6 : ∀ i, i < 10 → B3 6 i = k (0 + i) := fun i hi => sv_left hk0 hi
        have hr9 : ∀ i, i < 6 → B3 9 i = k (10 + i) := fun i hi => sv_tired hk0 hi
        have hr10 : ∀ i, i < 6 → i < kBn k → B3 10 i = k (16 + i) := fun i hi h2 => sv_place hk0 hi (by have w1 := (kBn_b hkk).2; omega)
        have hk0 := hk1
        refine lv_iconst (v := 0) hx hb dX7_workOneTick_82 (by decide) ?_
        refine lv_istore_n (lv' := [(2, .int 0), (1, .int v13), (0, .ref (r 1))]) hx hb dX7_workOneTick_83 rfl hl (by decide) rfl (fun ls hl => ?_)
        have lp17 : ∀ (n18 : Nat) (mm : Nat) (B16 : Nat → Nat → Int32) (H : Heap) (locs : List Loc) (ls : Array Slot) (y15 : Int32), (6 < y15.toInt + (n18 : Int)) → (xI F2 B16) → (gOK K G4.2 tt) → (xEk ([], [6, 9, 10, 11, 19, 20], []) f a g F2 B16 G4) → (B16 11 = a 11) → (kb 0 y15 6) → (y15.toInt = (mm : Int)) → (∀ i, i < 10 → B16 6 i = tk1 DD k mm (0 + i)) → (∀ i, i < 6 → B16 9 i = tk1 DD k mm (10 + i)) → (∀ i, i < 6 → i < kBn k → B16 10 i = k (16 + i)) → (∀ q, q < kBn k → ¬ k (16 + q) = -1 → (B16 19 q).toInt = tkW DD k 0 q) → (∀ q, q < kBn k → ¬ k (16 + q) = -1 → (B16 20 q).toInt = tkW DD k 1 q) → (mm ≤ kBn k) → va_P D vwCl (xX K r F2 B16 G4 tx) H → va_D A (xX K r F2 B16 G4 tx) → va_S A s.heap H locs → lv_has ls 4 [(2, .int y15), (1, .int v13), (0, .ref (r 1))] → W p l e (rmD 4 0 0) s m ([.ref (r 1)] : List Value).toArray below meth c H locs 0 0 (kQi D (tysK K) (fun v (u : xS) => kb 0 v 63 ∧ xI u.1 u.2.1 ∧ gOK K u.2.2.2 tt ∧ xEk ([], [6, 9, 10, 11, 19, 20], []) f a g u.1 u.2.1 u.2.2 ∧ sV 32 2 u.1 u.2.1 (tkF DD k) ∧ v.toInt = tkR k (tkF DD k)) (fun u => xX K r u.1 u.2.1 u.2.2 tx) A below ([.ref (r 1)] : List Value).toArray s 0 0) (F0 m 84 ls []) := by
          intro n18
          induction n18 with
          | zero =>
            intro mm B16  H locs ls y15 hmlp17 hI hG hE hk0 b19 hvlp17_0 hvlp17_1 hvlp17_2 hvlp17_3 hvlp17_4 hvlp17_5 hvlp17_6 hP hD hS hl
            exact (by have h1 := b19.2; have h2 := hmlp17; omega : False).elim
          | succ n18 ihlp17 =>
            intro mm B16  H locs ls y15 hmlp17 hI hG hE hk0 b19 hvlp17_0 hvlp17_1 hvlp17_2 hvlp17_3 hvlp17_4 hvlp17_5 hvlp17_6 hP hD hS hl
            have hnn : y15 = nI mm := nI_q hvlp17_0
            refine lv_iload_n hx hb dX7_workOneTick_84 rfl (lv_at hl 0 rfl) ?_
            refine lv_aload_n hx hb dX7_workOneTick_85 rfl (lv_at hl 2 rfl) ?_
            refine va_get (D := D) (ci := 7) (v := .int (F2 38)) (C := RX7) (T := TX7) (N := 20) hx hb hg inC7 hown hK hP 1 rfl rfl 6 (by decide) (hg _ wt1_104) (fun _ h9 => h9) rfl dX7_workOneTick_86 ?_
            refine k_top (z := t8) et8.symm ?_
            refine lv_icmp_ge (tgt := 193) hx hb dX7_workOneTick_89 (by decide) (fun c20 => ?_) (fun c20 => ?_)
            · have h21 := (kc_le c20)
              have hmb := (by have w1 := hvlp17_0; have w3 := (show t8.toInt = (kBn k : Int) from kvit8.trans (kBn_b hkk).2); have w4 := hvlp17_6; have w9 := (kBn_b hkk).1; have w2 := kc_le c20; omega : mm = kBn k)
              have hs6 : ∀ i, i < 10 → B16 6 i = tk1 DD k (kBn k) (0 + i) := by have w9 := hvlp17_1; rw [hmb] at w9; exact w9
              have hs9 : ∀ i, i < 6 → B16 9 i = tk1 DD k (kBn k) (10 + i) := by have w9 := hvlp17_2; rw [hmb] at w9; exact w9
              have hs10 : ∀ i, i < 6 → i < kBn k → B16 10 i = tk1 DD k (kBn k) (16 + i) := fun i hi h2 => (hvlp17_3 i hi h2).trans (tk1_o _ _ _ _ (by omega) (kBn_b hkk).1 hkk).symm
              refine lv_iconst (v := 0) hx hb dX7_workOneTick_193 (by decide) ?_
              refine lv_istore_n (lv' := [(2, .int 0), (1, .int v13), (0, .ref (r 1))]) hx hb dX7_workOneTick_194 rfl hl (by decide) rfl (fun ls hl => ?_)
              have lp24 : ∀ (n25 : Nat) (n3 : Nat) (B23 : Nat → Nat → Int32) (H : Heap) (locs : List Loc) (ls : Array Slot) (y22 : Int32), (6 < y22.toInt + (n25 : Int)) → (xI F2 B23) → (gOK K G4.2 tt) → (xEk ([], [6, 9, 10, 11, 19, 20], []) f a g F2 B23 G4) → (B23 11 = a 11) → (kb 0 y22 6) → (y22.toInt = (n3 : Int)) → (∀ i, i < 10 → B23 6 i = (tk1 DD k (kBn k)) (0 + i)) → (∀ i, i < 6 → B23 9 i = (tk1 DD k (kBn k)) (10 + i)) → (∀ i, i < 6 → i < kBn k → B23 10 i = tk2 (tk1 DD k (kBn k)) n3 (16 + i)) → (n3 ≤ kBn k) → va_P D vwCl (xX K r F2 B23 G4 tx) H → va_D A (xX K r F2 B23 G4 tx) → va_S A s.heap H locs → lv_has ls 4 [(2, .int y22), (1, .int v13), (0, .ref (r 1))] → W p l e (rmD 4 0 0) s m ([.ref (r 1)] : List Value).toArray below meth c H locs 0 0 (kQi D (tysK K) (fun v (u : xS) => kb 0 v 63 ∧ xI u.1 u.2.1 ∧ gOK K u.2.2.2 tt ∧ xEk ([], [6, 9, 10, 11, 19, 20], []) f a g u.1 u.2.1 u.2.2 ∧ sV 32 2 u.1 u.2.1 (tkF DD k) ∧ v.toInt = tkR k (tkF DD k)) (fun u => xX K r u.1 u.2.1 u.2.2 tx) A below ([.ref (r 1)] : List Value).toArray s 0 0) (F0 m 195 ls []) := by
                intro n25
                induction n25 with
                | zero =>
                  intro n3 B23  H locs ls y22 hmlp24 hI hG hE hk0 b26 hvlp24_0 hvlp24_1 hvlp24_2 hvlp24_3 hvlp24_4 hP hD hS hl
                  exact (by have h1 := b26.2; have h2 := hmlp24; omega : False).elim
                | succ n25 ihlp24 =>
                  intro n3 B23  H locs ls y22 hmlp24 hI hG hE hk0 b26 hvlp24_0 hvlp24_1 hvlp24_2 hvlp24_3 hvlp24_4 hP hD hS hl
                  have hnn : y22 = nI n3 := nI_q hvlp24_0
                  refine lv_iload_n hx hb dX7_workOneTick_195 rfl (lv_at hl 0 rfl) ?_
                  refine lv_aload_n hx hb dX7_workOneTick_196 rfl (lv_at hl 2 rfl) ?_
                  refine va_get (D := D) (ci := 7) (v := .int (F2 38)) (C := RX7) (T := TX7) (N := 20) hx hb hg inC7 hown hK hP 1 rfl rfl 6 (by decide) (hg _ wt1_104) (fun _ h9 => h9) rfl dX7_workOneTick_197 ?_
                  refine k_top (z := t8) et8.symm ?_
                  refine lv_icmp_ge (tgt := 249) hx hb dX7_workOneTick_200 (by decide) (fun c27 => ?_) (fun c27 => ?_)
                  · have h28 := (kc_le c27)
                    have h3b := (by have w1 := hvlp24_0; have w3 := (show t8.toInt = (kBn k : Int) from kvit8.trans (kBn_b hkk).2); have w4 := hvlp24_4; have w9 := (kBn_b hkk).1; have w2 := kc_le c27; omega : n3 = kBn k)
                    have hq6 := hvlp24_1
                    have hq9 := hvlp24_2
                    have hq10 : ∀ i, i < 6 → i < kBn k → B23 10 i = tk2 (tk1 DD k (kBn k)) (kBn k) (16 + i) := by have w9 := hvlp24_3; rw [h3b] at w9; exact w9
                    have hqH := hk0
                    refine lv_aload_n hx hb dX7_workOneTick_249 rfl (lv_at hl 2 rfl) ?_
                    refine va_get (D := D) (ci := 7) (v := .ref (r 11)) (C := RX7) (T := TX7) (N := 20) hx hb hg inC7 hown hK hP 1 rfl rfl 11 (by decide) (hg _ wt1_127) (fun _ h9 => h9) rfl dX7_workOneTick_250 ?_
                    refine lv_iconst (v := 0) hx hb dX7_workOneTick_253 (by decide) ?_
                    refine lv_dup2_11 hx hb dX7_workOneTick_254 rfl rfl ?_
                    refine va_iald hx hb hK hP 11 0 rfl rfl (kb_in kc_0 (by decide) (by decide)) dX7_workOneTick_255 ?_
                    refine lv_topi (fun t29 et29 => ?_)
                    rw [cl_0] at et29
                    refine lv_iconst (v := 1) hx hb dX7_workOneTick_256 (by decide) ?_
                    refine lv_iadd hx hb dX7_workOneTick_257 ?_
                    refine lv_topi (fun t30 et30 => ?_)
                    refine va_iast hx hb hK hP hD hS 11 0 rfl rfl (kb_in kc_0 (by decide) (by decide)) dX7_workOneTick_258 (fun H locs hP hD hS => ?_)
                    rw [cl_0] at hP hD
                    have hP : va_P D vwCl (xX K r F2 (va_up B23 11 (upd (B23 11) 0 t30)) G4 tx) H := hP
                    have hD : va_D A (xX K r F2 (va_up B23 11 (upd (B23 11) 0 t30)) G4 tx) := hD
                    refine k_gen (P := fun z => va_P D vwCl (xX K r F2 z G4 tx) H ∧ va_D A (xX K r F2 z G4 tx) ∧ (xI F2 z) ∧ (gOK K G4.2 tt) ∧ (xEk ([], [6, 9, 10, 11, 19, 20], []) f a g F2 z G4)) (va_up B23 11 (upd (B23 11) 0 t30)) ⟨hP, hD, (xI_a hI (by decide)), hG, (xEk_a hE rfl)⟩ (fun a_31 ea_31 hq => ?_)
                    obtain ⟨hP, hD, hI, hG, hE⟩ := hq
                    have hkf : sV 32 2 F2 a_31 (tkF DD k) := sV_mk hVw (hE.1 32 rfl) (hE.1 38 rfl) (hE.1 44 rfl) (hE.1 49 rfl) (hE.1 50 rfl) (fun i hi => tkF_hi hkk hi) (fun j hj n4 n7 n8 n9 => by rcases (show j = 0 ∨ j = 1 ∨ j = 2 ∨ j = 3 ∨ j = 5 ∨ j = 6 ∨ j = 10 ∨ j = 11 ∨ j = 12 by omega) with e | e | e | e | e | e | e | e | e <;> (subst e; exact hE.2.1 _ rfl)) (fun i hi => by rw [show a_31 6 = B23 6 from (show a_31 6 = B23 6 from by rw [← ea_31]; rfl), tkF_l (by omega) (kBn_b hkk).1]; exact hq6 i hi) (fun i hi => by rw [show a_31 9 = B23 9 from (show a_31 9 = B23 9 from by rw [← ea_31]; rfl), tkF_l (by omega) (kBn_b hkk).1]; exact hq9 i hi) (fun i hi h2 => by rw [show a_31 10 = B23 10 from (show a_31 10 = B23 10 from by rw [← ea_31]; rfl), tkF_p (by omega) (by omega)]; exact hq10 i hi (by have w1 := (kBn_b hkk).2; omega)) (by rw [show a_31 11 = _ from (show a_31 11 = upd (B23 11) 0 t30 from by rw [← ea_31]; rfl), pk_us, et30, et29, hqH, sv_hour hVw]; exact pk_us.symm) (fun i hi => by rw [show a_31 11 = _ from (show a_31 11 = upd (B23 11) 0 t30 from by rw [← ea_31]; rfl), pk_un (by omega), hqH])
                    refine lv_aload_n hx hb dX7_workOneTick_259 rfl (lv_at hl 2 rfl) ?_
                    refine kIG.callW (As := []) (rest := []) ⟨hx, hb, hml, hown, hg⟩ (z_upMaskN l r F2 a_31 G4 tx tt hT hI hG   (tkF DD k) hkf (kK_tk hkk hp0) ) (cwV 0 hg (kgV wt3_43 wt3_44 wt3_45 wt1_2 wt3_46) rfl rfl rfl (by decide +kernel) ⟨by decide, by decide⟩) hV hK hP hD hS hA (1) 7 rfl rfl rfl hl.1 rfl (Nat.le_of_ble_eq_true rfl) dX7_workOneTick_260 ⟨Nat.le_refl _, Nat.le_refl _⟩ (fun v33 u34 H locs hw32 hP hD hS => ?_)
                    have hP : va_P D vwCl (xX K r F2 a_31 G4 tx) H := hP
                    have hD : va_D A (xX K r F2 a_31 G4 tx) := hD
                    refine lv_iload_n hx hb dX7_workOneTick_263 rfl (lv_at hl 1 rfl) ?_
                    refine lv_iconst (v := (-1)) hx hb dX7_workOneTick_264 (by decide) ?_
                    refine lv_ixor hx hb dX7_workOneTick_265 ?_
                    refine lv_topi (fun t35 et35 => ?_)
                    refine lv_iand hx hb dX7_workOneTick_266 ?_
                    refine lv_topi (fun t36 et36 => ?_)
                    have b37 : kb 0 t36 1023 := kb_eq et36 (and_b (n := bM (upB (tkF DD k)) (kPn (tkF DD k))) hw32.2 (bM_10 _ (kPn_b (kK_tk hkk hp0)).1))
                    refine kN.callS (As := [.int t36]) (rest := []) ⟨hx, hb, hml, hown, hg⟩ (z_bitCount l t36 b37) (va_cwS 1 hg (kgS wt4_147 wt4_99 wt1_21 wt4_100) rfl rfl rfl (by decide +kernel) ⟨by decide, by decide⟩) hP hS rfl hl.1 rfl (Nat.le_of_ble_eq_true rfl) dX7_workOneTick_267 ⟨Nat.le_refl _, Nat.le_refl _⟩ (fun v39 H locs hw38 hP hS => ?_)
                    have hP : va_P D vwCl (xX K r F2 a_31 G4 tx) H := hP
                    exact kI_ret (v := v39) hx hb hr hlocks rfl hK hS dX7_workOneTick_270 (F2, a_31, G4) hP hD ⟨hw38.1, hI, hG, hE, hkf, (by have w1 := hw38.2; rw [et36, et35, hw12.2, hw32.2] at w1; exact w1)⟩
                  · have h40 := (kc_nle c27)
                    have b41 : kb 0 y22 5 := kr_lt1 h40 b26 b9 (by decide)
                    have b42 : kb 1 t8 6 := kr_lt2 h40 b26 b9 (by decide)
                    refine lv_iload_n hx hb dX7_workOneTick_203 rfl (lv_at hl 0 rfl) ?_
                    refine lv_bipush (v := 6) hx hb dX7_workOneTick_204 (by decide) ?_
                    refine lv_icmp_ge (tgt := 249) hx hb dX7_workOneTick_206 (by decide) (fun c43 => ?_) (fun c43 => ?_)
                    · have h44 := (kc_le c43)
                      exact kb_no (kr_le1 h44 kc_6 b41) (by decide)
                    · have h45 := (kc_nle c43)
                      refine lv_aload_n hx hb dX7_workOneTick_209 rfl (lv_at hl 2 rfl) ?_
                      refine lv_aload_n hx hb dX7_workOneTick_210 rfl (lv_at hl 2 rfl) ?_
                      refine va_get (D := D) (ci := 7) (v := .ref (r 10)) (C := RX7) (T := TX7) (N := 20) hx hb hg inC7 hown hK hP 1 rfl rfl 10 (by decide) (hg _ wt1_121) (fun _ h9 => h9) rfl dX7_workOneTick_211 ?_
                      refine lv_iload_n hx hb dX7_workOneTick_214 rfl (lv_at hl 0 rfl) ?_
                      refine va_iald hx hb hK hP 10 0 rfl rfl (kb_in b41 (by decide) (by decide)) dX7_workOneTick_215 ?_
                      refine lv_topi (fun t46 et46 => ?_)
                      have hpl : t46 = (tk1 DD k (kBn k)) (16 + n3) := (show t46 = (tk1 DD k (kBn k)) (16 + n3) from et46.trans (by rw [cl_nat hvlp24_0]; exact (hvlp24_3 n3 (by have w8 := (kBn_b hkk).1; have w9 := (by have w1 := hvlp24_0; have w2 := kc_nle c27; have w3 := (show t8.toInt = (kBn k : Int) from kvit8.trans (kBn_b hkk).2); omega : n3 < kBn k); omega) (by have w1 := hvlp24_0; have w2 := kc_nle c27; have w3 := (show t8.toInt = (kBn k : Int) from kvit8.trans (kBn_b hkk).2); omega : n3 < kBn k)).trans (tk2_p _ _ _ (Nat.le_refl _))))
                      have hpk : t46 = k (16 + n3) := hpl.trans (tk1_o _ _ _ _ (by omega) (kBn_b hkk).1 hkk)
                      have b47 : kb (-1) t46 9 := kb_eq hpk (kpl hkk (by have w8 := (kBn_b hkk).1; have w9 := (by have w1 := hvlp24_0; have w2 := kc_nle c27; have w3 := (show t8.toInt = (kBn k : Int) from kvit8.trans (kBn_b hkk).2); omega : n3 < kBn k); omega))
                      refine kIG.callW (As := [.int t46]) (rest := []) ⟨hx, hb, hml, hown, hg⟩ (x_7_hasPart l r F2 B23 G4 tx tt hT hI hG t46  ) (cwV 1 hg (kgV wt3_83 wt3_36 wt3_37 wt1_2 wt3_38) rfl rfl rfl (by decide +kernel) ⟨by decide, by decide⟩) hV hK hP hD hS hA (1) 7 rfl rfl rfl hl.1 rfl (Nat.le_of_ble_eq_true rfl) dX7_workOneTick_216 ⟨Nat.le_refl _, Nat.le_refl _⟩ (fun v49 u50 H locs hw48 hP hD hS => ?_)
                      have hP : va_P D vwCl (xX K r F2 B23 G4 tx) H := hP
                      have hD : va_D A (xX K r F2 B23 G4 tx) := hD
                      refine lv_if_eq (tgt := 243) hx hb dX7_workOneTick_219 (by decide) (fun c51 => ?_) (fun c51 => ?_)
                      · have b52 : kb 0 v49 0 := kb_eq c51 kc_0
                        have hni : ¬ (0 ≤ t46.toInt ∧ t46.toInt < (k 102).toInt) := by have w1 := hw48.2.2.1 c51; rw [show F2 32 = k 102 from (hE.1 32 rfl).trans (sv_parts hVw)] at w1; exact w1
                        have hst : tk2 (tk1 DD k (kBn k)) n3 = tk2 (tk1 DD k (kBn k)) (n3 + 1) := tk2_sn hpl (Or.inl (Int32.toInt_inj.mp (by have w1 := (b47).1; have w2 := hkk.2.1 n3 (by have w8 := (kBn_b hkk).1; have w9 := (by have w1 := hvlp24_0; have w2 := kc_nle c27; have w3 := (show t8.toInt = (kBn k : Int) from kvit8.trans (kBn_b hkk).2); omega : n3 < kBn k); omega); have w3 := congrArg Int32.toInt hpk; have w4 : (-1 : Int32).toInt = -1 := (by decide +kernel); have w5 := hni; omega))) rfl rfl
                        obtain ⟨t53, et53⟩ : ∃ z : Int32, z = y22 + Int32.ofInt 1 := ⟨_, rfl⟩
                        have qt53 : t53.toInt = y22.toInt + 1 := by rw [et53]; exact km_inc b41 (by decide) (by decide)
                        have b54 : kb 1 t53 6 := kb_inc (k := 1) qt53 b41
                        refine lv_iinc (v := t53) (lv' := [(2, .int t53), (1, .int v13), (0, .ref (r 1))]) hx hb dX7_workOneTick_243 hl (k := 0) rfl et53.symm (by decide) rfl (fun ls hl => ?_)
                        refine lv_goto (tgt := 195) hx hb dX7_workOneTick_246 (by decide) ?_
                        exact ihlp24 (n3 + 1) B23 _ _ _ t53 (km_up hmlp24 qt53) hI hG hE hk0 (kb_w b54 (by decide) (by decide)) (by have w1 := hvlp24_0; have w2 := qt53; omega) (by rw [show B23 6 = B23 6 from rfl]; exact hvlp24_1) (by rw [show B23 9 = B23 9 from rfl]; exact hvlp24_2) (by rw [show B23 10 = B23 10 from rfl, ← hst]; exact hvlp24_3) ((by have w1 := hvlp24_0; have w2 := kc_nle c27; have w3 := (show t8.toInt = (kBn k : Int) from kvit8.trans (kBn_b hkk).2); omega : n3 < kBn k)) hP hD hS (lv_sub hl [0, 1, 2] rfl)
                      · have b55 : kb 1 v49 1 := kr_nel c51 hw48.1 kc_0 (by decide)
                        have h56 := hw48.2.1 c51
                        have b57 : kb 0 t46 9 := ⟨h56.1, h56.2⟩
                        have hin : 0 ≤ t46.toInt ∧ t46.toInt < (k 102).toInt := ⟨(b57).1, by have w1 := hw48.2.2.2 c51; rw [show F2 32 = k 102 from (hE.1 32 rfl).trans (sv_parts hVw)] at w1; exact w1⟩
                        have hpn : ¬ t46 = -1 := fun w9 => by have w1 := congrArg Int32.toInt w9; have w2 := hin; have w3 : (-1 : Int32).toInt = -1 := (by decide +kernel); omega
                        refine lv_aload_n hx hb dX7_workOneTick_222 rfl (lv_at hl 2 rfl) ?_
                        refine va_get (D := D) (ci := 7) (v := .ref (r 6)) (C := RX7) (T := TX7) (N := 20) hx hb hg inC7 hown hK hP 1 rfl rfl 5 (by decide) (hg _ wt1_97) (fun _ h9 => h9) rfl dX7_workOneTick_223 ?_
                        refine lv_aload_n hx hb dX7_workOneTick_226 rfl (lv_at hl 2 rfl) ?_
                        refine va_get (D := D) (ci := 7) (v := .ref (r 10)) (C := RX7) (T := TX7) (N := 20) hx hb hg inC7 hown hK hP 1 rfl rfl 10 (by decide) (hg _ wt1_121) (fun _ h9 => h9) rfl dX7_workOneTick_227 ?_
                        refine lv_iload_n hx hb dX7_workOneTick_230 rfl (lv_at hl 0 rfl) ?_
                        refine va_iald hx hb hK hP 10 0 rfl rfl (kb_in b41 (by decide) (by decide)) dX7_workOneTick_231 ?_
                        refine k_top (z := t46) et46.symm ?_
                        refine va_iald hx hb hK hP 6 0 rfl rfl (kb_in b57 (by decide) (by decide)) dX7_workOneTick_232 ?_
                        refine lv_topi (fun t58 et58 => ?_)
                        have hl3 : t58 = (tk1 DD k (kBn k)) (0 + t46.toNatClampNeg) := et58.trans (hvlp24_1 _ (kb_clt b57 (by decide) (by decide)))
                        refine lv_if_ne (tgt := 243) hx hb dX7_workOneTick_233 (by decide) (fun c59 => ?_) (fun c59 => ?_)
                        · have hst : tk2 (tk1 DD k (kBn k)) n3 = tk2 (tk1 DD k (kBn k)) (n3 + 1) := tk2_sn hpl (Or.inr (fun w9 => c59 (hl3.trans w9))) rfl rfl
                          obtain ⟨t60, et60⟩ : ∃ z : Int32, z = y22 + Int32.ofInt 1 := ⟨_, rfl⟩
                          have qt60 : t60.toInt = y22.toInt + 1 := by rw [et60]; exact km_inc b41 (by decide) (by decide)
                          have b61 : kb 1 t60 6 := kb_inc (k := 1) qt60 b41
                          refine lv_iinc (v := t60) (lv' := [(2, .int t60), (1, .int v13), (0, .ref (r 1))]) hx hb dX7_workOneTick_243 hl (k := 0) rfl et60.symm (by decide) rfl (fun ls hl => ?_)
                          refine lv_goto (tgt := 195) hx hb dX7_workOneTick_246 (by decide) ?_
                          exact ihlp24 (n3 + 1) B23 _ _ _ t60 (km_up hmlp24 qt60) hI hG hE hk0 (kb_w b61 (by decide) (by decide)) (by have w1 := hvlp24_0; have w2 := qt60; omega) (by rw [show B23 6 = B23 6 from rfl]; exact hvlp24_1) (by rw [show B23 9 = B23 9 from rfl]; exact hvlp24_2) (by rw [show B23 10 = B23 10 from rfl, ← hst]; exact hvlp24_3) ((by have w1 := hvlp24_0; have w2 := kc_nle c27; have w3 := (show t8.toInt = (kBn k : Int) from kvit8.trans (kBn_b hkk).2); omega : n3 < kBn k)) hP hD hS (lv_sub hl [0, 1, 2] rfl)
                        · have b62 : kb 0 t58 0 := kb_eq c59 kc_0
                          refine lv_aload_n hx hb dX7_workOneTick_236 rfl (lv_at hl 2 rfl) ?_
                          refine va_get (D := D) (ci := 7) (v := .ref (r 10)) (C := RX7) (T := TX7) (N := 20) hx hb hg inC7 hown hK hP 1 rfl rfl 10 (by decide) (hg _ wt1_121) (fun _ h9 => h9) rfl dX7_workOneTick_237 ?_
                          refine lv_iload_n hx hb dX7_workOneTick_240 rfl (lv_at hl 0 rfl) ?_
                          refine lv_iconst (v := (-1)) hx hb dX7_workOneTick_241 (by decide) ?_
                          refine va_iast hx hb hK hP hD hS 10 0 rfl rfl (kb_in b41 (by decide) (by decide)) dX7_workOneTick_242 (fun H locs hP hD hS => ?_)
                          have hP : va_P D vwCl (xX K r F2 (va_up B23 10 (upd (B23 10) y22.toNatClampNeg (-1))) G4 tx) H := hP
                          have hD : va_D A (xX K r F2 (va_up B23 10 (upd (B23 10) y22.toNatClampNeg (-1))) G4 tx) := hD
                          refine k_gen (P := fun z => va_P D vwCl (xX K r F2 z G4 tx) H ∧ va_D A (xX K r F2 z G4 tx) ∧ (xI F2 z) ∧ (gOK K G4.2 tt) ∧ (xEk ([], [6, 9, 10, 11, 19, 20], []) f a g F2 z G4) ∧ (z 11 = a 11)) (va_up B23 10 (upd (B23 10) y22.toNatClampNeg (-1))) ⟨hP, hD, (xI_a hI (by decide)), hG, (xEk_a hE rfl), hk0⟩ (fun a_63 ea_63 hq => ?_)
                          obtain ⟨hP, hD, hI, hG, hE, hk0⟩ := hq
                          have hst : upd (tk2 (tk1 DD k (kBn k)) n3) (16 + n3) (-1) = tk2 (tk1 DD k (kBn k)) (n3 + 1) := tk2_sy hpn hpl (hl3.symm.trans c59) rfl rfl rfl
                          obtain ⟨t64, et64⟩ : ∃ z : Int32, z = y22 + Int32.ofInt 1 := ⟨_, rfl⟩
                          have qt64 : t64.toInt = y22.toInt + 1 := by rw [et64]; exact km_inc b41 (by decide) (by decide)
                          have b65 : kb 1 t64 6 := kb_inc (k := 1) qt64 b41
                          refine lv_iinc (v := t64) (lv' := [(2, .int t64), (1, .int v13), (0, .ref (r 1))]) hx hb dX7_workOneTick_243 hl (k := 0) rfl et64.symm (by decide) rfl (fun ls hl => ?_)
                          refine lv_goto (tgt := 195) hx hb dX7_workOneTick_246 (by decide) ?_
                          exact ihlp24 (n3 + 1) a_63 _ _ _ t64 (km_up hmlp24 qt64) hI hG hE hk0 (kb_w b65 (by decide) (by decide)) (by have w1 := hvlp24_0; have w2 := qt64; omega) (by rw [show a_63 6 = B23 6 from (show a_63 6 = B23 6 from by rw [← ea_63]; rfl)]; exact hvlp24_1) (by rw [show a_63 9 = B23 9 from (show a_63 9 = B23 9 from by rw [← ea_63]; rfl)]; exact hvlp24_2) (tp_y hvlp24_3 (show a_63 10 = upd (B23 10) y22.toNatClampNeg (-1) from by rw [← ea_63]; rfl) (cl_nat hvlp24_0) hst) ((by have w1 := hvlp24_0; have w2 := kc_nle c27; have w3 := (show t8.toInt = (kBn k : Int) from kvit8.trans (kBn_b hkk).2); omega : n3 < kBn k)) hP hD hS (lv_sub hl [0, 1, 2] rfl)
              exact lp24 (7) 0 B16 _ _ _ 0 (by have h1 := (kc_0); unfold kb at h1; omega) hI hG hE hk0 (kb_w kc_0 (by decide) (by decide)) (by decide +kernel) (hs6) (hs9) (hs10) (Nat.zero_le _) hP hD hS (lv_sub hl [0, 1, 2] rfl)
            · have h66 := (kc_nle c20)
              have b67 : kb 0 y15 5 := kr_lt1 h66 b19 b9 (by decide)
              have b68 : kb 1 t8 6 := kr_lt2 h66 b19 b9 (by decide)
              refine lv_iload_n hx hb dX7_workOneTick_92 rfl (lv_at hl 0 rfl) ?_
              refine lv_bipush (v := 6) hx hb dX7_workOneTick_93 (by decide) ?_
              refine lv_icmp_ge (tgt := 193) hx hb dX7_workOneTick_95 (by decide) (fun c69 => ?_) (fun c69 => ?_)
              · have h70 := (kc_le c69)
                exact kb_no (kr_le1 h70 kc_6 b67) (by decide)
              · have h71 := (kc_nle c69)
                refine lv_aload_n hx hb dX7_workOneTick_98 rfl (lv_at hl 2 rfl) ?_
                refine va_get (D := D) (ci := 7) (v := .ref (r 10)) (C := RX7) (T := TX7) (N := 20) hx hb hg inC7 hown hK hP 1 rfl rfl 10 (by decide) (hg _ wt1_121) (fun _ h9 => h9) rfl dX7_workOneTick_99 ?_
                refine lv_iload_n hx hb dX7_workOneTick_102 rfl (lv_at hl 0 rfl) ?_
                refine va_iald hx hb hK hP 10 0 rfl rfl (kb_in b67 (by decide) (by decide)) dX7_workOneTick_103 ?_
                refine lv_topi (fun t72 et72 => ?_)
                refine lv_istore_n (lv' := [(3, .int t72), (2, .int y15), (1, .int v13), (0, .ref (r 1))]) hx hb dX7_workOneTick_104 rfl hl (by decide) rfl (fun ls hl => ?_)
                have hpl : t72 = k (16 + mm) := (show t72 = k (16 + mm) from et72.trans (by rw [cl_nat hvlp17_0]; exact hvlp17_3 mm (by have w8 := (kBn_b hkk).1; have w9 := (by have w1 := hvlp17_0; have w2 := kc_nle c20; have w3 := (show t8.toInt = (kBn k : Int) from kvit8.trans (kBn_b hkk).2); omega : mm < kBn k); omega) (by have w1 := hvlp17_0; have w2 := kc_nle c20; have w3 := (show t8.toInt = (kBn k : Int) from kvit8.trans (kBn_b hkk).2); omega : mm < kBn k)))
                have b73 : kb (-1) t72 9 := kb_eq hpl (kpl hkk (by have w8 := (kBn_b hkk).1; have w9 := (by have w1 := hvlp17_0; have w2 := kc_nle c20; have w3 := (show t8.toInt = (kBn k : Int) from kvit8.trans (kBn_b hkk).2); omega : mm < kBn k); omega))
                refine lv_aload_n hx hb dX7_workOneTick_105 rfl (lv_at hl 3 rfl) ?_
                refine lv_iload_n hx hb dX7_workOneTick_106 rfl (lv_at hl 0 rfl) ?_
                refine kIG.callW (As := [.int t72]) (rest := []) ⟨hx, hb, hml, hown, hg⟩ (x_7_hasPart l r F2 B16 G4 tx tt hT hI hG t72  ) (cwV 1 hg (kgV wt3_83 wt3_36 wt3_37 wt1_2 wt3_38) rfl rfl rfl (by decide +kernel) ⟨by decide, by decide⟩) hV hK hP hD hS hA (1) 7 rfl rfl rfl hl.1 rfl (Nat.le_of_ble_eq_true rfl) dX7_workOneTick_107 ⟨Nat.le_refl _, Nat.le_refl _⟩ (fun v75 u76 H locs hw74 hP hD hS => ?_)
                have hP : va_P D vwCl (xX K r F2 B16 G4 tx) H := hP
                have hD : va_D A (xX K r F2 B16 G4 tx) := hD
                refine lv_if_eq (tgt := 169) hx hb dX7_workOneTick_110 (by decide) (fun c77 => ?_) (fun c77 => ?_)
                · have b78 : kb 0 v75 0 := kb_eq c77 kc_0
                  have hni : ¬ (0 ≤ t72.toInt ∧ t72.toInt < (k 102).toInt) := by have w1 := hw74.2.2.1 c77; rw [show F2 32 = k 102 from (hE.1 32 rfl).trans (sv_parts hVw)] at w1; exact w1
                  have hpn : k (16 + mm) = -1 := (hpl.symm.trans (Int32.toInt_inj.mp (by have w1 := (b73).1; have w2 := hkk.2.1 mm (by have w8 := (kBn_b hkk).1; have w9 := (by have w1 := hvlp17_0; have w2 := kc_nle c20; have w3 := (show t8.toInt = (kBn k : Int) from kvit8.trans (kBn_b hkk).2); omega : mm < kBn k); omega); have w3 := congrArg Int32.toInt hpl; have w4 : (-1 : Int32).toInt = -1 := (by decide +kernel); have w5 := hni; omega)))
                  refine lv_aload_n hx hb dX7_workOneTick_169 rfl (lv_at hl 3 rfl) ?_
                  refine va_get (D := D) (ci := 7) (v := .ref (r 9)) (C := RX7) (T := TX7) (N := 20) hx hb hg inC7 hown hK hP 1 rfl rfl 9 (by decide) (hg _ wt1_116) (fun _ h9 => h9) rfl dX7_workOneTick_170 ?_
                  refine lv_iload_n hx hb dX7_workOneTick_173 rfl (lv_at hl 1 rfl) ?_
                  refine lv_iconst (v := 0) hx hb dX7_workOneTick_174 (by decide) ?_
                  refine lv_aload_n hx hb dX7_workOneTick_175 rfl (lv_at hl 3 rfl) ?_
                  refine va_get (D := D) (ci := 7) (v := .ref (r 9)) (C := RX7) (T := TX7) (N := 20) hx hb hg inC7 hown hK hP 1 rfl rfl 9 (by decide) (hg _ wt1_116) (fun _ h9 => h9) rfl dX7_workOneTick_176 ?_
                  refine lv_iload_n hx hb dX7_workOneTick_179 rfl (lv_at hl 1 rfl) ?_
                  refine va_iald hx hb hK hP 9 0 rfl rfl (kb_in b67 (by decide) (by decide)) dX7_workOneTick_180 ?_
                  refine lv_topi (fun t79 et79 => ?_)
                  have hlx : t79 = tk1 DD k mm (10 + mm) := et79.trans (by rw [cl_nat hvlp17_0]; exact hvlp17_2 mm (by have w8 := (kBn_b hkk).1; have w9 := (by have w1 := hvlp17_0; have w2 := kc_nle c20; have w3 := (show t8.toInt = (kBn k : Int) from kvit8.trans (kBn_b hkk).2); omega : mm < kBn k); omega))
                  have hbx : kb 0 t79 99 := kb_eq hlx (tk1_b hkk mm (by have w9 := (by have w1 := hvlp17_0; have w2 := kc_nle c20; have w3 := (show t8.toInt = (kBn k : Int) from kvit8.trans (kBn_b hkk).2); omega : mm < kBn k); omega) _ (by have w8 := (kBn_b hkk).1; have w9 := (by have w1 := hvlp17_0; have w2 := kc_nle c20; have w3 := (show t8.toInt = (kBn k : Int) from kvit8.trans (kBn_b hkk).2); omega : mm < kBn k); omega))
                  have b80 : kb 0 t79 99 := hbx
                  refine lv_iconst (v := 2) hx hb dX7_workOneTick_181 (by decide) ?_
                  refine lv_isub hx hb dX7_workOneTick_182 ?_
                  refine lv_topi (fun t81 et81 => ?_)
                  have b82 : kb (-2) t81 97 := kb_eq et81 (kb_sub b80 kc_2 (by decide) (by decide))
                  have qt81 : t81.toInt = t79.toInt - 2 := by rw [et81]; exact kt_subc b80 kc_2 (by decide) (by decide)
                  refine va_mmax hx hb (hml.trans hl.1.symm) hown (hg _ wt3_54) (hg _ wt2_38) (hg _ wt1_9) (hg _ wt2_39) (by decide) (Nat.le_of_ble_eq_true rfl) (by decide) (by decide) dX7_workOneTick_183 ?_
                  refine lv_topi (fun t83 et83 => ?_)
                  have b84 : kb 0 t83 97 := kb_eq et83 (kb_mx kc_0 b82 (by decide) (by decide) (by decide) (by decide))
                  refine va_iast hx hb hK hP hD hS 9 0 rfl rfl (kb_in b67 (by decide) (by decide)) dX7_workOneTick_186 (fun H locs hP hD hS => ?_)
                  have hP : va_P D vwCl (xX K r F2 (va_up B16 9 (upd (B16 9) y15.toNatClampNeg t83)) G4 tx) H := hP
                  have hD : va_D A (xX K r F2 (va_up B16 9 (upd (B16 9) y15.toNatClampNeg t83)) G4 tx) := hD
                  refine k_gen (P := fun z => va_P D vwCl (xX K r F2 z G4 tx) H ∧ va_D A (xX K r F2 z G4 tx) ∧ (xI F2 z) ∧ (gOK K G4.2 tt) ∧ (xEk ([], [6, 9, 10, 11, 19, 20], []) f a g F2 z G4) ∧ (z 11 = a 11)) (va_up B16 9 (upd (B16 9) y15.toNatClampNeg t83)) ⟨hP, hD, (xI_a hI (by decide)), hG, (xEk_a hE rfl), hk0⟩ (fun a_85 ea_85 hq => ?_)
                  obtain ⟨hP, hD, hI, hG, hE, hk0⟩ := hq
                  have hst : upd (tk1 DD k mm) (10 + mm) t83 = tk1 DD k (mm + 1) := tk1_cn hpn hlx hbx (by rw [et83, mx_v]; have w1 := qt81; have w2 : (0 : Int32).toInt = 0 := (by decide +kernel); omega)
                  obtain ⟨t86, et86⟩ : ∃ z : Int32, z = y15 + Int32.ofInt 1 := ⟨_, rfl⟩
                  have qt86 : t86.toInt = y15.toInt + 1 := by rw [et86]; exact km_inc b67 (by decide) (by decide)
                  have b87 : kb 1 t86 6 := kb_inc (k := 1) qt86 b67
                  refine lv_iinc (v := t86) (lv' := [(2, .int t86), (3, .int t72), (1, .int v13), (0, .ref (r 1))]) hx hb dX7_workOneTick_187 hl (k := 1) rfl et86.symm (by decide) rfl (fun ls hl => ?_)
                  refine lv_goto (tgt := 84) hx hb dX7_workOneTick_190 (by decide) ?_
                  exact ihlp17 (mm + 1) a_85 _ _ _ t86 (km_up hmlp17 qt86) hI hG hE hk0 (kb_w b87 (by decide) (by decide)) (by have w1 := hvlp17_0; have w2 := qt86; omega) (by rw [show a_85 6 = B16 6 from (show a_85 6 = B16 6 from by rw [← ea_85]; rfl)]; exact tc_L0 hvlp17_1 hst) (tc_T hvlp17_2 (show a_85 9 = upd (B16 9) y15.toNatClampNeg t83 from by rw [← ea_85]; rfl) (cl_nat hvlp17_0) hst) (by rw [show a_85 10 = B16 10 from (show a_85 10 = B16 10 from by rw [← ea_85]; rfl)]; exact hvlp17_3) (by rw [show a_85 19 = B16 19 from (show a_85 19 = B16 19 from by rw [← ea_85]; rfl)]; exact hvlp17_4) (by rw [show a_85 20 = B16 20 from (show a_85 20 = B16 20 from by rw [← ea_85]; rfl)]; exact hvlp17_5) ((by have w1 := hvlp17_0; have w2 := kc_nle c20; have w3 := (show t8.toInt = (kBn k : Int) from kvit8.trans (kBn_b hkk).2); omega : mm < kBn k)) hP hD hS (lv_sub hl [0, 2, 3] rfl)
                · have b88 : kb 1 v75 1 := kr_nel c77 hw74.1 kc_0 (by decide)
                  have h89 := hw74.2.1 c77
                  have b90 : kb 0 t72 9 := ⟨h89.1, h89.2⟩
                  have hin : 0 ≤ t72.toInt ∧ t72.toInt < (k 102).toInt := ⟨(b90).1, by have w1 := hw74.2.2.2 c77; rw [show F2 32 = k 102 from (hE.1 32 rfl).trans (sv_parts hVw)] at w1; exact w1⟩
                  have hpn : ¬ k (16 + mm) = -1 := fun w9 => by have w1 := congrArg Int32.toInt (hpl.trans w9); have w2 := hin; have w3 : (-1 : Int32).toInt = -1 := (by decide +kernel); omega
                  refine lv_aload_n hx hb dX7_workOneTick_113 rfl (lv_at hl 3 rfl) ?_
                  refine va_get (D := D) (ci := 7) (v := .ref (r 6)) (C := RX7) (T := TX7) (N := 20) hx hb hg inC7 hown hK hP 1 rfl rfl 5 (by decide) (hg _ wt1_97) (fun _ h9 => h9) rfl dX7_workOneTick_114 ?_
                  refine lv_iload_n hx hb dX7_workOneTick_117 rfl (lv_at hl 0 rfl) ?_
                  refine lv_iconst (v := 0) hx hb dX7_workOneTick_118 (by decide) ?_
                  refine lv_aload_n hx hb dX7_workOneTick_119 rfl (lv_at hl 3 rfl) ?_
                  refine va_get (D := D) (ci := 7) (v := .ref (r 6)) (C := RX7) (T := TX7) (N := 20) hx hb hg inC7 hown hK hP 1 rfl rfl 5 (by decide) (hg _ wt1_97) (fun _ h9 => h9) rfl dX7_workOneTick_120 ?_
                  refine lv_iload_n hx hb dX7_workOneTick_123 rfl (lv_at hl 0 rfl) ?_
                  refine va_iald hx hb hK hP 6 0 rfl rfl (kb_in b90 (by decide) (by decide)) dX7_workOneTick_124 ?_
                  refine lv_topi (fun t91 et91 => ?_)
                  have hly : t91 = tk1 DD k mm (0 + t72.toNatClampNeg) := et91.trans (hvlp17_1 _ (kb_clt b90 (by decide) (by decide)))
                  have b92 : kb 0 t91 99 := kb_eq hly (tk1_b hkk mm (by have w9 := (by have w1 := hvlp17_0; have w2 := kc_nle c20; have w3 := (show t8.toInt = (kBn k : Int) from kvit8.trans (kBn_b hkk).2); omega : mm < kBn k); omega) _ (by have w9 := kb_clt b90 (n := 10) (by decide) (by decide); omega))
                  refine lv_aload_n hx hb dX7_workOneTick_125 rfl (lv_at hl 3 rfl) ?_
                  refine va_get (D := D) (ci := 7) (v := .ref (r 16)) (C := RX7) (T := TX7) (N := 20) hx hb hg inC7 hown hK hP 1 rfl rfl 19 (by decide) (hg _ wt1_154) (fun _ h9 => h9) rfl dX7_workOneTick_126 ?_
                  refine va_get (D := D) (ci := 8) (v := .ref (r 19)) (C := RX8) (T := TX8) (N := 5) hx hb hg inC8 hown hK hP 16 rfl rfl 2 (by decide) (hg _ wt1_59) (fun _ h9 => h9) rfl dX7_workOneTick_129 ?_
                  refine lv_iload_n hx hb dX7_workOneTick_132 rfl (lv_at hl 1 rfl) ?_
                  refine va_iald hx hb hK hP 19 0 rfl rfl (kb_in b67 (by decide) (by decide)) dX7_workOneTick_133 ?_
                  refine lv_topi (fun t93 et93 => ?_)
                  have hlw : t93.toInt = tkW DD k 0 mm := by rw [show t93 = B16 19 (y15.toNatClampNeg) from et93, cl_nat hvlp17_0]; exact hvlp17_4 mm (by have w1 := hvlp17_0; have w2 := kc_nle c20; have w3 := (show t8.toInt = (kBn k : Int) from kvit8.trans (kBn_b hkk).2); omega : mm < kBn k) hpn
                  have b94 : kb 0 t93 20 := ⟨by have w1 := ask_b (DD := DD) hkk (kd := 0) (b := nI mm) (p := k (16 + mm)) (kb_nI (N := 5) (by have w8 := (kBn_b hkk).1; have w9 := (by have w1 := hvlp17_0; have w2 := kc_nle c20; have w3 := (show t8.toInt = (kBn k : Int) from kvit8.trans (kBn_b hkk).2); omega : mm < kBn k); omega) (by decide)) ⟨by decide, by decide⟩; unfold tkW at hlw; omega, by have w1 := ask_b (DD := DD) hkk (kd := 0) (b := nI mm) (p := k (16 + mm)) (kb_nI (N := 5) (by have w8 := (kBn_b hkk).1; have w9 := (by have w1 := hvlp17_0; have w2 := kc_nle c20; have w3 := (show t8.toInt = (kBn k : Int) from kvit8.trans (kBn_b hkk).2); omega : mm < kBn k); omega) (by decide)) ⟨by decide, by decide⟩; unfold tkW at hlw; omega⟩
                  refine lv_isub hx hb dX7_workOneTick_134 ?_
                  refine lv_topi (fun t95 et95 => ?_)
                  have b96 : kb (-20) t95 99 := kb_eq et95 (kb_sub b92 b94 (by decide) (by decide))
                  have qt95 : t95.toInt = t91.toInt - t93.toInt := by rw [et95]; exact kt_sub b92 b94 (by decide) (by decide)
                  refine va_mmax hx hb (hml.trans hl.1.symm) hown (hg _ wt3_54) (hg _ wt2_38) (hg _ wt1_9) (hg _ wt2_39) (by decide) (Nat.le_of_ble_eq_true rfl) (by decide) (by decide) dX7_workOneTick_135 ?_
                  refine lv_topi (fun t97 et97 => ?_)
                  have b98 : kb 0 t97 99 := kb_eq et97 (kb_mx kc_0 b96 (by decide) (by decide) (by decide) (by decide))
                  refine va_iast hx hb hK hP hD hS 6 0 rfl rfl (kb_in b90 (by decide) (by decide)) dX7_workOneTick_138 (fun H locs hP hD hS => ?_)
                  have hP : va_P D vwCl (xX K r F2 (va_up B16 6 (upd (B16 6) t72.toNatClampNeg t97)) G4 tx) H := hP
                  have hD : va_D A (xX K r F2 (va_up B16 6 (upd (B16 6) t72.toNatClampNeg t97)) G4 tx) := hD
                  refine k_gen (P := fun z => va_P D vwCl (xX K r F2 z G4 tx) H ∧ va_D A (xX K r F2 z G4 tx) ∧ (xI F2 z) ∧ (gOK K G4.2 tt) ∧ (xEk ([], [6, 9, 10, 11, 19, 20], []) f a g F2 z G4) ∧ (z 11 = a 11)) (va_up B16 6 (upd (B16 6) t72.toNatClampNeg t97)) ⟨hP, hD, (xI_a hI (by decide)), hG, (xEk_a hE rfl), hk0⟩ (fun a_99 ea_99 hq => ?_)
                  obtain ⟨hP, hD, hI, hG, hE, hk0⟩ := hq
                  refine lv_aload_n hx hb dX7_workOneTick_139 rfl (lv_at hl 3 rfl) ?_
                  refine va_get (D := D) (ci := 7) (v := .ref (r 9)) (C := RX7) (T := TX7) (N := 20) hx hb hg inC7 hown hK hP 1 rfl rfl 9 (by decide) (hg _ wt1_116) (fun _ h9 => h9) rfl dX7_workOneTick_140 ?_
                  refine lv_iload_n hx hb dX7_workOneTick_143 rfl (lv_at hl 1 rfl) ?_
                  refine lv_bipush (v := 99) hx hb dX7_workOneTick_144 (by decide) ?_
                  refine lv_aload_n hx hb dX7_workOneTick_146 rfl (lv_at hl 3 rfl) ?_
                  refine va_get (D := D) (ci := 7) (v := .ref (r 9)) (C := RX7) (T := TX7) (N := 20) hx hb hg inC7 hown hK hP 1 rfl rfl 9 (by decide) (hg _ wt1_116) (fun _ h9 => h9) rfl dX7_workOneTick_147 ?_
                  refine lv_iload_n hx hb dX7_workOneTick_150 rfl (lv_at hl 1 rfl) ?_
                  refine va_iald hx hb hK hP 9 0 rfl rfl (kb_in b67 (by decide) (by decide)) dX7_workOneTick_151 ?_
                  refine lv_topi (fun t100 et100 => ?_)
                  have hlx : t100 = tk1 DD k mm (10 + mm) := (et100.trans (congrFun (show a_99 9 = B16 9 from by rw [← ea_99]; rfl) (y15.toNatClampNeg))).trans (by rw [cl_nat hvlp17_0]; exact hvlp17_2 mm (by have w8 := (kBn_b hkk).1; have w9 := (by have w1 := hvlp17_0; have w2 := kc_nle c20; have w3 := (show t8.toInt = (kBn k : Int) from kvit8.trans (kBn_b hkk).2); omega : mm < kBn k); omega))
                  have hbx : kb 0 t100 99 := kb_eq hlx (tk1_b hkk mm (by have w9 := (by have w1 := hvlp17_0; have w2 := kc_nle c20; have w3 := (show t8.toInt = (kBn k : Int) from kvit8.trans (kBn_b hkk).2); omega : mm < kBn k); omega) _ (by have w8 := (kBn_b hkk).1; have w9 := (by have w1 := hvlp17_0; have w2 := kc_nle c20; have w3 := (show t8.toInt = (kBn k : Int) from kvit8.trans (kBn_b hkk).2); omega : mm < kBn k); omega))
                  have b101 : kb 0 t100 99 := hbx
                  refine lv_aload_n hx hb dX7_workOneTick_152 rfl (lv_at hl 3 rfl) ?_
                  refine va_get (D := D) (ci := 7) (v := .ref (r 16)) (C := RX7) (T := TX7) (N := 20) hx hb hg inC7 hown hK hP 1 rfl rfl 19 (by decide) (hg _ wt1_154) (fun _ h9 => h9) rfl dX7_workOneTick_153 ?_
                  refine va_get (D := D) (ci := 8) (v := .ref (r 20)) (C := RX8) (T := TX8) (N := 5) hx hb hg inC8 hown hK hP 16 rfl rfl 3 (by decide) (hg _ wt1_61) (fun _ h9 => h9) rfl dX7_workOneTick_156 ?_
                  refine lv_iload_n hx hb dX7_workOneTick_159 rfl (lv_at hl 1 rfl) ?_
                  refine va_iald hx hb hK hP 20 0 rfl rfl (kb_in b67 (by decide) (by decide)) dX7_workOneTick_160 ?_
                  refine lv_topi (fun t102 et102 => ?_)
                  have hld : t102.toInt = tkW DD k 1 mm := by rw [show t102 = B16 20 (y15.toNatClampNeg) from (et102.trans (congrFun (show a_99 20 = B16 20 from by rw [← ea_99]; rfl) (y15.toNatClampNeg))), cl_nat hvlp17_0]; exact hvlp17_5 mm (by have w1 := hvlp17_0; have w2 := kc_nle c20; have w3 := (show t8.toInt = (kBn k : Int) from kvit8.trans (kBn_b hkk).2); omega : mm < kBn k) hpn
                  have b103 : kb 0 t102 20 := ⟨by have w1 := ask_b (DD := DD) hkk (kd := 1) (b := nI mm) (p := k (16 + mm)) (kb_nI (N := 5) (by have w8 := (kBn_b hkk).1; have w9 := (by have w1 := hvlp17_0; have w2 := kc_nle c20; have w3 := (show t8.toInt = (kBn k : Int) from kvit8.trans (kBn_b hkk).2); omega : mm < kBn k); omega) (by decide)) ⟨by decide, by decide⟩; unfold tkW at hld; omega, by have w1 := ask_b (DD := DD) hkk (kd := 1) (b := nI mm) (p := k (16 + mm)) (kb_nI (N := 5) (by have w8 := (kBn_b hkk).1; have w9 := (by have w1 := hvlp17_0; have w2 := kc_nle c20; have w3 := (show t8.toInt = (kBn k : Int) from kvit8.trans (kBn_b hkk).2); omega : mm < kBn k); omega) (by decide)) ⟨by decide, by decide⟩; unfold tkW at hld; omega⟩
                  refine lv_iadd hx hb dX7_workOneTick_161 ?_
                  refine lv_topi (fun t104 et104 => ?_)
                  have b105 : kb 0 t104 119 := kb_eq et104 (kb_add b101 b103 (by decide) (by decide))
                  have qt104 : t104.toInt = t100.toInt + t102.toInt := by rw [et104]; exact kt_add b101 b103 (by decide) (by decide)
                  refine va_mmin hx hb (hml.trans hl.1.symm) hown (hg _ wt3_51) (hg _ wt3_52) (hg _ wt1_9) (hg _ wt3_53) (by decide) (Nat.le_of_ble_eq_true rfl) (by decide) (by decide) dX7_workOneTick_162 ?_
                  refine lv_topi (fun t106 et106 => ?_)
                  have b107 : kb 0 t106 99 := kb_eq et106 (kb_mn kc_99 b105 (by decide) (by decide) (by decide) (by decide))
                  refine va_iast hx hb hK hP hD hS 9 0 rfl rfl (kb_in b67 (by decide) (by decide)) dX7_workOneTick_165 (fun H locs hP hD hS => ?_)
                  have hP : va_P D vwCl (xX K r F2 (va_up a_99 9 (upd (a_99 9) y15.toNatClampNeg t106)) G4 tx) H := hP
                  have hD : va_D A (xX K r F2 (va_up a_99 9 (upd (a_99 9) y15.toNatClampNeg t106)) G4 tx) := hD
                  refine k_gen (P := fun z => va_P D vwCl (xX K r F2 z G4 tx) H ∧ va_D A (xX K r F2 z G4 tx) ∧ (xI F2 z) ∧ (gOK K G4.2 tt) ∧ (xEk ([], [6, 9, 10, 11, 19, 20], []) f a g F2 z G4) ∧ (z 11 = a 11)) (va_up a_99 9 (upd (a_99 9) y15.toNatClampNeg t106)) ⟨hP, hD, (xI_a hI (by decide)), hG, (xEk_a hE rfl), hk0⟩ (fun a_108 ea_108 hq => ?_)
                  obtain ⟨hP, hD, hI, hG, hE, hk0⟩ := hq
                  refine lv_goto (tgt := 187) hx hb dX7_workOneTick_166 (by decide) ?_
                  have hst : upd (upd (tk1 DD k mm) (0 + t72.toNatClampNeg) t97) (10 + mm) t106 = tk1 DD k (mm + 1) := tk1_cy hpn hpl hly hlw (by rw [et97, mx_v]; have w1 := qt95; have w2 : (0 : Int32).toInt = 0 := (by decide +kernel); omega) hlx hbx hld (b103).1 (by rw [et106, mn_v]; have w1 := qt104; have w2 : (99 : Int32).toInt = 99 := (by decide +kernel); omega)
                  obtain ⟨t109, et109⟩ : ∃ z : Int32, z = y15 + Int32.ofInt 1 := ⟨_, rfl⟩
                  have qt109 : t109.toInt = y15.toInt + 1 := by rw [et109]; exact km_inc b67 (by decide) (by decide)
                  have b110 : kb 1 t109 6 := kb_inc (k := 1) qt109 b67
                  refine lv_iinc (v := t109) (lv' := [(2, .int t109), (3, .int t72), (1, .int v13), (0, .ref (r 1))]) hx hb dX7_workOneTick_187 hl (k := 1) rfl et109.symm (by decide) rfl (fun ls hl => ?_)
                  refine lv_goto (tgt := 84) hx hb dX7_workOneTick_190 (by decide) ?_
                  exact ihlp17 (mm + 1) a_108 _ _ _ t109 (km_up hmlp17 qt109) hI hG hE hk0 (kb_w b110 (by decide) (by decide)) (by have w1 := hvlp17_0; have w2 := qt109; omega) (tc_L hvlp17_1 ((show a_108 6 = a_99 6 from by rw [← ea_108]; rfl).trans (show a_99 6 = upd (B16 6) t72.toNatClampNeg t97 from by rw [← ea_99]; rfl)) hst) (tc_T1 hvlp17_2 ((show a_108 9 = upd (a_99 9) y15.toNatClampNeg t106 from by rw [← ea_108]; rfl).trans (congrArg (fun zz_ => upd zz_ y15.toNatClampNeg t106) (show a_99 9 = B16 9 from by rw [← ea_99]; rfl))) (cl_nat hvlp17_0) (kb_clt b90 (by decide) (by decide)) hst) (by rw [show a_108 10 = B16 10 from ((show a_108 10 = a_99 10 from by rw [← ea_108]; rfl).trans (show a_99 10 = B16 10 from by rw [← ea_99]; rfl))]; exact hvlp17_3) (by rw [show a_108 19 = B16 19 from ((show a_108 19 = a_99 19 from by rw [← ea_108]; rfl).trans (show a_99 19 = B16 19 from by rw [← ea_99]; rfl))]; exact hvlp17_4) (by rw [show a_108 20 = B16 20 from ((show a_108 20 = a_99 20 from by rw [← ea_108]; rfl).trans (show a_99 20 = B16 20 from by rw [← ea_99]; rfl))]; exact hvlp17_5) ((by have w1 := hvlp17_0; have w2 := kc_nle c20; have w3 := (show t8.toInt = (kBn k : Int) from kvit8.trans (kBn_b hkk).2); omega : mm < kBn k)) hP hD hS (lv_sub hl [0, 2, 3] rfl)
        exact lp17 (7) 0 B3 _ _ _ 0 (by have h1 := (kc_0); unfold kb at h1; omega) hI hG hE hk0 (kb_w kc_0 (by decide) (by decide)) (by decide +kernel) (hr6) (hr9) (hr10) (hw1) (hw2) (Nat.zero_le _) hP hD hS (lv_sub hl [0, 1, 2] rfl)
      · have h111 := (kc_nle c10)
        have b112 : kb 0 y1 5 := kr_lt1 h111 b7 b9 (by decide)
        have b113 : kb 1 t8 6 := kr_lt2 h111 b7 b9 (by decide)
        refine lv_iload_n hx hb dX7_workOneTick_10 rfl (lv_at hl 0 rfl) ?_
        refine lv_bipush (v := 6) hx hb dX7_workOneTick_11 (by decide) ?_
        refine lv_icmp_ge (tgt := 77) hx hb dX7_workOneTick_13 (by decide) (fun c114 => ?_) (fun c114 => ?_)
        · have h115 := (kc_le c114)
          exact kb_no (kr_le1 h115 kc_6 b112) (by decide)
        · have h116 := (kc_nle c114)
          refine lv_aload_n hx hb dX7_workOneTick_16 rfl (lv_at hl 1 rfl) ?_
          refine lv_aload_n hx hb dX7_workOneTick_17 rfl (lv_at hl 1 rfl) ?_
          refine va_get (D := D) (ci := 7) (v := .ref (r 10)) (C := RX7) (T := TX7) (N := 20) hx hb hg inC7 hown hK hP 1 rfl rfl 10 (by decide) (hg _ wt1_121) (fun _ h9 => h9) rfl dX7_workOneTick_18 ?_
          refine lv_iload_n hx hb dX7_workOneTick_21 rfl (lv_at hl 0 rfl) ?_
          refine va_iald hx hb hK hP 10 0 rfl rfl (kb_in b112 (by decide) (by decide)) dX7_workOneTick_22 ?_
          refine lv_topi (fun t117 et117 => ?_)
          have kvt117 : t117 = k (16 + y1.toNatClampNeg) := et117.trans ((sv_place hk0 (kb_clt b112 (by decide) (by decide)) (by have w1 := hvlp5_0; have w2 := kc_nle c10; have w3 := kvit8; have w4 := (b112).1; have w5 := kb_cl b112 (by decide); omega)))
          have b118 : kb (-1) t117 9 := kb_eq et117 (et117 ▸ kb_eq kvt117 (kK_s hkk 16 6 _ _ (by decide) (by decide) (kb_clt b112 (by decide) (by decide))))
          refine kIG.callW (As := [.int t117]) (rest := []) ⟨hx, hb, hml, hown, hg⟩ (z_hasPartN l r F2 B3 G4 tx tt hT hI hG t117  k hk0 hkk ) (cwV 1 hg (kgV wt3_83 wt3_36 wt3_37 wt1_2 wt3_38) rfl rfl rfl (by decide +kernel) ⟨by decide, by decide⟩) hV hK hP hD hS hA (1) 7 rfl rfl rfl hl.1 rfl (Nat.le_of_ble_eq_true rfl) dX7_workOneTick_23 ⟨Nat.le_refl _, Nat.le_refl _⟩ (fun v120 u121 H locs hw119 hP hD hS => ?_)
          have hP : va_P D vwCl (xX K r F2 B3 G4 tx) H := hP
          have hD : va_D A (xX K r F2 B3 G4 tx) := hD
          by_cases hh122 : 0 ≤ t117.toInt ∧ t117.toInt < (k 102).toInt
          · refine k_top (z := 1) (hw119.2.trans (if_pos hh122)) ?_
            have b123 : kb 0 t117 9 := ⟨hh122.1, by have w1 := hh122.2; have w2 := (kK_r hkk 102 0 10 (by decide) (by decide)).2; omega⟩
            refine lv_if_eq (tgt := 71) hx hb dX7_workOneTick_26 (by decide) (fun c124 => ?_) (fun c124 => ?_)
            · exact kb_dj c124 kc_1 kc_0 (by decide)
            · refine lv_aload_n hx hb dX7_workOneTick_29 rfl (lv_at hl 1 rfl) ?_
              refine va_get (D := D) (ci := 7) (v := .ref (r 16)) (C := RX7) (T := TX7) (N := 20) hx hb hg inC7 hown hK hP 1 rfl rfl 19 (by decide) (hg _ wt1_154) (fun _ h9 => h9) rfl dX7_workOneTick_30 ?_
              refine va_get (D := D) (ci := 8) (v := .ref (r 19)) (C := RX8) (T := TX8) (N := 5) hx hb hg inC8 hown hK hP 16 rfl rfl 2 (by decide) (hg _ wt1_59) (fun _ h9 => h9) rfl dX7_workOneTick_33 ?_
              refine lv_iload_n hx hb dX7_workOneTick_36 rfl (lv_at hl 0 rfl) ?_
              refine lv_aload_n hx hb dX7_workOneTick_37 rfl (lv_at hl 1 rfl) ?_
              refine lv_iconst (v := 0) hx hb dX7_workOneTick_38 (by decide) ?_
              refine lv_iload_n hx hb dX7_workOneTick_39 rfl (lv_at hl 0 rfl) ?_
              refine lv_aload_n hx hb dX7_workOneTick_40 rfl (lv_at hl 1 rfl) ?_
              refine va_get (D := D) (ci := 7) (v := .ref (r 10)) (C := RX7) (T := TX7) (N := 20) hx hb hg inC7 hown hK hP 1 rfl rfl 10 (by decide) (hg _ wt1_121) (fun _ h9 => h9) rfl dX7_workOneTick_41 ?_
              refine lv_iload_n hx hb dX7_workOneTick_44 rfl (lv_at hl 0 rfl) ?_
              refine va_iald hx hb hK hP 10 0 rfl rfl (kb_in b112 (by decide) (by decide)) dX7_workOneTick_45 ?_
              refine k_top (z := t117) et117.symm ?_
              refine kIG.callW (As := [.int 0, .int y1, .int t117]) (rest := [.int y1, .ref (r 19)]) ⟨hx, hb, hml, hown, hg⟩ (z_askedN l r F2 B3 G4 tx tt hT hI hG 0 y1 t117 (kb_w kc_0 (by decide) (by decide)) b112 b123 k hk0 hkk DD (lC_cg hL (hE.2.2 15 rfl)) ⟨(b112).1, by have w2 := kc_nle c10; have w3 := kvit8; omega⟩ hh122) (cwV 3 hg (kgV wt4_146 wt3_78 wt3_79 wt1_2 wt3_80) rfl rfl rfl (by decide +kernel) ⟨by decide, by decide⟩) hV hK hP hD hS hA (1) 7 rfl rfl rfl hl.1 rfl (Nat.le_of_ble_eq_true rfl) dX7_workOneTick_46 ⟨Nat.le_refl _, Nat.le_refl _⟩ (fun v126 u127 H locs hw125 hP hD hS => ?_)
              obtain ⟨f128, a129, g130⟩ := u127
              have hP : va_P D vwCl (xX K r f128 a129 g130 tx) H := hP
              have hD : va_D A (xX K r f128 a129 g130 tx) := hD
              have hI : xI f128 a129 := hw125.2.1
              have hG : gOK K g130.2 tt := hw125.2.2.1
              have eE131 : xEk ([], [], []) F2 B3 G4 f128 a129 g130 := hw125.2.2.2.1
              have hE : xEk ([], [6, 9, 10, 11, 19, 20], []) f a g f128 a129 g130 := xEk_tr hE (xEk_w (by decide +kernel) eE131)
              have hk0 : sV 32 2 f128 a129 k := (sV_E hk0 eE131 (by decide +kernel) (by decide +kernel))
              have hk1 : a129 11 = a 11 := ((eE131.2.1 11 rfl).trans hk1)
              refine va_iast hx hb hK hP hD hS 19 0 rfl rfl (kb_in b112 (by decide) (by decide)) dX7_workOneTick_49 (fun H locs hP hD hS => ?_)
              have hP : va_P D vwCl (xX K r f128 (va_up a129 19 (upd (a129 19) y1.toNatClampNeg v126)) g130 tx) H := hP
              have hD : va_D A (xX K r f128 (va_up a129 19 (upd (a129 19) y1.toNatClampNeg v126)) g130 tx) := hD
              refine k_gen (P := fun z => va_P D vwCl (xX K r f128 z g130 tx) H ∧ va_D A (xX K r f128 z g130 tx) ∧ (xI f128 z) ∧ (gOK K g130.2 tt) ∧ (xEk ([], [6, 9, 10, 11, 19, 20], []) f a g f128 z g130) ∧ (sV 32 2 f128 z k) ∧ (z 11 = a 11)) (va_up a129 19 (upd (a129 19) y1.toNatClampNeg v126)) ⟨hP, hD, (xI_a hI (by decide)), hG, (xEk_a hE rfl), (sV_a hk0 (by decide)), hk1⟩ (fun a_132 ea_132 hq => ?_)
              obtain ⟨hP, hD, hI, hG, hE, hk0, hk1⟩ := hq
              refine lv_aload_n hx hb dX7_workOneTick_50 rfl (lv_at hl 1 rfl) ?_
              refine va_get (D := D) (ci := 7) (v := .ref (r 16)) (C := RX7) (T := TX7) (N := 20) hx hb hg inC7 hown hK hP 1 rfl rfl 19 (by decide) (hg _ wt1_154) (fun _ h9 => h9) rfl dX7_workOneTick_51 ?_
              refine va_get (D := D) (ci := 8) (v := .ref (r 20)) (C := RX8) (T := TX8) (N := 5) hx hb hg inC8 hown hK hP 16 rfl rfl 3 (by decide) (hg _ wt1_61) (fun _ h9 => h9) rfl dX7_workOneTick_54 ?_
              refine lv_iload_n hx hb dX7_workOneTick_57 rfl (lv_at hl 0 rfl) ?_
              refine lv_aload_n hx hb dX7_workOneTick_58 rfl (lv_at hl 1 rfl) ?_
              refine lv_iconst (v := 1) hx hb dX7_workOneTick_59 (by decide) ?_
              refine lv_iload_n hx hb dX7_workOneTick_60 rfl (lv_at hl 0 rfl) ?_
              refine lv_aload_n hx hb dX7_workOneTick_61 rfl (lv_at hl 1 rfl) ?_
              refine va_get (D := D) (ci := 7) (v := .ref (r 10)) (C := RX7) (T := TX7) (N := 20) hx hb hg inC7 hown hK hP 1 rfl rfl 10 (by decide) (hg _ wt1_121) (fun _ h9 => h9) rfl dX7_workOneTick_62 ?_
              refine lv_iload_n hx hb dX7_workOneTick_65 rfl (lv_at hl 0 rfl) ?_
              refine va_iald hx hb hK hP 10 0 rfl rfl (kb_in b112 (by decide) (by decide)) dX7_workOneTick_66 ?_
              refine k_top (z := t117) ((show a_132 10 y1.toNatClampNeg = a129 10 y1.toNatClampNeg from by rw [← ea_132]; rfl).trans ((congrFun (eE131.2.1 10 rfl) (y1.toNatClampNeg)).trans et117.symm)) ?_
              refine kIG.callW (As := [.int 1, .int y1, .int t117]) (rest := [.int y1, .ref (r 20)]) ⟨hx, hb, hml, hown, hg⟩ (z_askedN l r f128 a_132 g130 tx tt hT hI hG 1 y1 t117 (kb_w kc_1 (by decide) (by decide)) b112 b123 k hk0 hkk DD (lC_cg hL (hE.2.2 15 rfl)) ⟨(b112).1, by have w2 := kc_nle c10; have w3 := kvit8; omega⟩ hh122) (cwV 3 hg (kgV wt4_146 wt3_78 wt3_79 wt1_2 wt3_80) rfl rfl rfl (by decide +kernel) ⟨by decide, by decide⟩) hV hK hP hD hS hA (1) 7 rfl rfl rfl hl.1 rfl (Nat.le_of_ble_eq_true rfl) dX7_workOneTick_67 ⟨Nat.le_refl _, Nat.le_refl _⟩ (fun v134 u135 H locs hw133 hP hD hS => ?_)
              obtain ⟨f136, a137, g138⟩ := u135
              have hP : va_P D vwCl (xX K r f136 a137 g138 tx) H := hP
              have hD : va_D A (xX K r f136 a137 g138 tx) := hD
              have hI : xI f136 a137 := hw133.2.1
              have hG : gOK K g138.2 tt := hw133.2.2.1
              have eE139 : xEk ([], [], []) f128 a_132 g130 f136 a137 g138 := hw133.2.2.2.1
              have hE : xEk ([], [6, 9, 10, 11, 19, 20], []) f a g f136 a137 g138 := xEk_tr hE (xEk_w (by decide +kernel) eE139)
              have hk0 : sV 32 2 f136 a137 k := (sV_E hk0 eE139 (by decide +kernel) (by decide +kernel))
              have hk1 : a137 11 = a 11 := ((eE139.2.1 11 rfl).trans hk1)
              refine va_iast hx hb hK hP hD hS 20 0 rfl rfl (kb_in b112 (by decide) (by decide)) dX7_workOneTick_70 (fun H locs hP hD hS => ?_)
              have hP : va_P D vwCl (xX K r f136 (va_up a137 20 (upd (a137 20) y1.toNatClampNeg v134)) g138 tx) H := hP
              have hD : va_D A (xX K r f136 (va_up a137 20 (upd (a137 20) y1.toNatClampNeg v134)) g138 tx) := hD
              refine k_gen (P := fun z => va_P D vwCl (xX K r f136 z g138 tx) H ∧ va_D A (xX K r f136 z g138 tx) ∧ (xI f136 z) ∧ (gOK K g138.2 tt) ∧ (xEk ([], [6, 9, 10, 11, 19, 20], []) f a g f136 z g138) ∧ (sV 32 2 f136 z k) ∧ (z 11 = a 11)) (va_up a137 20 (upd (a137 20) y1.toNatClampNeg v134)) ⟨hP, hD, (xI_a hI (by decide)), hG, (xEk_a hE rfl), (sV_a hk0 (by decide)), hk1⟩ (fun a_140 ea_140 hq => ?_)
              obtain ⟨hP, hD, hI, hG, hE, hk0, hk1⟩ := hq
              obtain ⟨t141, et141⟩ : ∃ z : Int32, z = y1 + Int32.ofInt 1 := ⟨_, rfl⟩
              have qt141 : t141.toInt = y1.toInt + 1 := by rw [et141]; exact km_inc b112 (by decide) (by decide)
              have b142 : kb 1 t141 6 := kb_inc (k := 1) qt141 b112
              refine lv_iinc (v := t141) (lv' := [(1, .int t141), (0, .ref (r 1))]) hx hb dX7_workOneTick_71 hl (k := 0) rfl et141.symm (by decide) rfl (fun ls hl => ?_)
              refine lv_goto (tgt := 2) hx hb dX7_workOneTick_74 (by decide) ?_
              exact ihlp5 (nn + 1) f136 a_140 g138 _ _ _ t141 (km_up hmlp5 qt141) hI hG hE hk0 hk1 (kb_w b142 (by decide) (by decide)) (by have w1 := hvlp5_0; have w2 := qt141; omega) (fun q hq hn => by rw [show a_140 19 = _ from ((show a_140 19 = a137 19 from by rw [← ea_140]; rfl).trans ((eE139.2.1 19 rfl).trans ((show a_132 19 = upd (a129 19) y1.toNatClampNeg v126 from by rw [← ea_132]; rfl).trans (congrArg (fun zz_ => upd zz_ y1.toNatClampNeg v126) (eE131.2.1 19 rfl)))))]; by_cases c : q = nn; (rw [c, ← cl_nat hvlp5_0, pk_us, cl_nat hvlp5_0]; exact (hw125.2.2.2.2.trans (by rw [hnn, show (0 : Int32).toInt.toNat = 0 from by decide +kernel, (show t117 = k (16 + nn) from kvt117.trans (congrArg k (by rw [cl_nat hvlp5_0])))]; rfl))); (rw [pk_un (by rw [cl_nat hvlp5_0]; exact c)]; exact hvlp5_1 q (by omega) hn)) (fun q hq hn => by rw [show a_140 20 = _ from ((show a_140 20 = upd (a137 20) y1.toNatClampNeg v134 from by rw [← ea_140]; rfl).trans (congrArg (fun zz_ => upd zz_ y1.toNatClampNeg v134) ((eE139.2.1 20 rfl).trans ((show a_132 20 = a129 20 from by rw [← ea_132]; rfl).trans (eE131.2.1 20 rfl)))))]; by_cases c : q = nn; (rw [c, ← cl_nat hvlp5_0, pk_us, cl_nat hvlp5_0]; exact (hw133.2.2.2.2.trans (by rw [hnn, show (1 : Int32).toInt.toNat = 1 from by decide +kernel, (show t117 = k (16 + nn) from kvt117.trans (congrArg k (by rw [cl_nat hvlp5_0])))]; rfl))); (rw [pk_un (by rw [cl_nat hvlp5_0]; exact c)]; exact hvlp5_2 q (by omega) hn)) ((by have w1 := hvlp5_0; have w2 := kc_nle c10; have w3 := (show t8.toInt = (kBn k : Int) from kvit8.trans (kBn_b hkk).2); omega : nn < kBn k)) hP hD hS (lv_sub hl [0, 1] rfl)
          · refine k_top (z := 0) (hw119.2.trans (if_neg hh122)) ?_
            refine lv_if_eq (tgt := 71) hx hb dX7_workOneTick_26 (by decide) (fun c143 => ?_) (fun c143 => ?_)
            · obtain ⟨t144, et144⟩ : ∃ z : Int32, z = y1 + Int32.ofInt 1 := ⟨_, rfl⟩
              have qt144 : t144.toInt = y1.toInt + 1 := by rw [et144]; exact km_inc b112 (by decide) (by decide)
              have b145 : kb 1 t144 6 := kb_inc (k := 1) qt144 b112
              refine lv_iinc (v := t144) (lv' := [(1, .int t144), (0, .ref (r 1))]) hx hb dX7_workOneTick_71 hl (k := 0) rfl et144.symm (by decide) rfl (fun ls hl => ?_)
              refine lv_goto (tgt := 2) hx hb dX7_workOneTick_74 (by decide) ?_
              exact ihlp5 (nn + 1) F2 B3 G4 _ _ _ t144 (km_up hmlp5 qt144) hI hG hE hk0 hk1 (kb_w b145 (by decide) (by decide)) (by have w1 := hvlp5_0; have w2 := qt144; omega) (fun q hq hn => by by_cases c : q = nn; (exact absurd (by rw [c]; exact ((show t117 = k (16 + nn) from kvt117.trans (congrArg k (by rw [cl_nat hvlp5_0]))).symm.trans (Int32.toInt_inj.mp (by have w1 := (b118).1; have w2 := hkk.2.1 nn (by have w8 := (kBn_b hkk).1; have w9 := (by have w1 := hvlp5_0; have w2 := kc_nle c10; have w3 := (show t8.toInt = (kBn k : Int) from kvit8.trans (kBn_b hkk).2); omega : nn < kBn k); omega); have w3 := congrArg Int32.toInt (show t117 = k (16 + nn) from kvt117.trans (congrArg k (by rw [cl_nat hvlp5_0]))); have w4 : (-1 : Int32).toInt = -1 := (by decide +kernel); have w5 := hh122; omega)))) hn); (rw [show B3 19 = B3 19 from rfl]; exact hvlp5_1 q (by omega) hn)) (fun q hq hn => by by_cases c : q = nn; (exact absurd (by rw [c]; exact ((show t117 = k (16 + nn) from kvt117.trans (congrArg k (by rw [cl_nat hvlp5_0]))).symm.trans (Int32.toInt_inj.mp (by have w1 := (b118).1; have w2 := hkk.2.1 nn (by have w8 := (kBn_b hkk).1; have w9 := (by have w1 := hvlp5_0; have w2 := kc_nle c10; have w3 := (show t8.toInt = (kBn k : Int) from kvit8.trans (kBn_b hkk).2); omega : nn < kBn k); omega); have w3 := congrArg Int32.toInt (show t117 = k (16 + nn) from kvt117.trans (congrArg k (by rw [cl_nat hvlp5_0]))); have w4 : (-1 : Int32).toInt = -1 := (by decide +kernel); have w5 := hh122; omega)))) hn); (rw [show B3 20 = B3 20 from rfl]; exact hvlp5_2 q (by omega) hn)) ((by have w1 := hvlp5_0; have w2 := kc_nle c10; have w3 := (show t8.toInt = (kBn k : Int) from kvit8.trans (kBn_b hkk).2); omega : nn < kBn k)) hP hD hS (lv_sub hl [0, 1] rfl)
            · exact kb_nsame c143 kc_0 kc_0
  exact lp5 (7) 0 f a g _ _ _ 0 (by have h1 := (kc_0); unfold kb at h1; omega) hI hG hE hk0 hk1 (kb_w kc_0 (by decide) (by decide)) (by decide +kernel) (fun q h => absurd h (Nat.not_lt_zero q)) (fun q h => absurd h (Nat.not_lt_zero q)) (Nat.zero_le _) hP hD hS (lv_sub hl [0, 1] rfl)
