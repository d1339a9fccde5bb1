theorem lC_6 {K : Nat → ClassId} {tt : va_W} {g2 g2' : Nat → Option Nat} {k k' : Nat → Int32} {DD : Nat → tE} (hk : kK k) (h : lC K tt g2 k DD) (e : ∀ i, i < 6 → g2' i = g2 i) (e5 : k' 105 = k 105) : lC K tt g2' k' DD := by
  intro i hi
  rw [e5] at hi
  have w := (kK_r hk 105 0 6 (by decide) (by decide)).2
  rw [e i (by omega)]
  exact h i hi
set_option maxHeartbeats 4000000 in
set_option maxRecDepth 100000 in
theorem z_runAll  (l : Launch) {D : va_G} {K : Nat → ClassId} (r : Nat → Nat) (f : Nat → Int32) (a : Nat → Nat → Int32) (g : xG) (tx tt : va_W) (hT : ∀ c ∈ tt, c ∈ tx) (hI : xI f a) (hG : gOK K g.2 tt)   (k : Nat → Int32) (hVw : sV 32 2 f a k) (hkk : kK k) (DD : Nat → tE) (hL : lC K tt (g.2 15) k DD) (P : pS) (Dt : tE) (hp0 : xPs (f 704) (f 705) (a 23) P (kBn k)) (hp1 : (f 1632).toInt = (Dt.1 : Int) ∧ Dt.1 ≤ 12) (hp2 : ∀ c, c < Dt.1 → clC true Dt c 400 (a 52) (a 53) (a 54) (a 55)) (hp3 : ∀ c, c < Dt.1 → (2018 ≤ (Dt.2.2.1 c).toInt ∧ (Dt.2.2.1 c).toInt ≤ 2021) ∧ 1 ≤ (Dt.2.2.2.1 c).toInt ∧ (Dt.2.2.2.1 c).toInt ≤ 20) : kIG l yX5_runAll (Cond.code yX5_runAll cX5_runAll 4 (some .int) :: kG) (rmD 7 0 0) D K [.ref (r 25), .ref (r 51)] (xX K r f a g tx) (fun v (u : xS) => kb (-2147483648) v 2147483647 ∧ xI u.1 u.2.1 ∧ gOK K u.2.2.2 tt ∧ xEk ([32, 38, 44, 49, 50, 704, 705, 806, 807, 832, 838, 844, 849, 850, 1504, 1505], [2, 3, 4, 5, 6, 7, 8, 9, 10, 11, 12, 13, 14, 19, 20, 23, 27, 28, 29, 30, 31, 32, 33, 34, 35, 36, 37, 38, 39, 48], [15, 40]) f a g u.1 u.2.1 u.2.2 ∧ ((v = -1 ∧ ∃ s : oSt, ordA DD Dt ((k, P, 0, -1) : oSt) Dt.1 = .inr s ∧ oG k s 240 ∧ sV 32 2 u.1 u.2.1 s.1 ∧ xPs (u.1 704) (u.1 705) (u.2.1 23) s.2.1 (kBn k) ∧ u.1 806 = s.2.2.1) ∨ (∃ c : Nat, v.toInt = (c : Int) ∧ ordA DD Dt ((k, P, 0, -1) : oSt) Dt.1 = .inl c ∧ sV 32 2 u.1 u.2.1 k ∧ xPs (u.1 704) (u.1 705) (u.2.1 23) P (kBn k))) ∧ (∀ i, i < 6 → u.2.2.2 15 i = g.2 15 i)) (fun u => xX K r u.1 u.2.1 u.2.2 tx) 0 0 := by
  refine kIE.of (cc := cX5_runAll) (maxL := 4) (ret := (some .int)) (by decide) rfl (Nat.le_of_ble_eq_true rfl) ?_
  intro p e s m below meth c A hx hb hr hml hown hts hlocks hnm hK hP hD hS hA hV ls hl
  have hE : xEk ([32, 38, 44, 49, 50, 704, 705, 806, 807, 832, 838, 844, 849, 850, 1504, 1505], [2, 3, 4, 5, 6, 7, 8, 9, 10, 11, 12, 13, 14, 19, 20, 23, 27, 28, 29, 30, 31, 32, 33, 34, 35, 36, 37, 38, 39, 48], [15, 40]) f a g f a g := xEk_rf
  have hg : ∀ w ∈ kG, w.before _ s = true := fun w h => hts w (List.mem_cons_of_mem _ h)
  have hown : s.vm.findClass RX5 = some m.cls := hown
  have hl : lv_has ls 4 [(0, .ref (r 25)), (1, .ref (r 51))] := hl
  have hkn : ∀ i, i < 6 → g.2 15 i = g.2 15 i := fun _ _ => rfl
  refine lv_aload_n hx hb dX5_runAll_0 rfl (lv_at hl 0 rfl) ?_
  refine va_get (D := D) (ci := 5) (v := .ref (r 26)) (C := RX5) (T := TX5) (N := 8) hx hb hg inC5 hown hK hP 25 rfl rfl 3 (by decide) (hg _ wt2_2) (fun _ h9 => h9) rfl dX5_runAll_1 ?_
  refine lv_aload_n hx hb dX5_runAll_4 rfl (lv_at hl 0 rfl) ?_
  refine va_get (D := D) (ci := 5) (v := .ref (r 1)) (C := RX5) (T := TX5) (N := 8) hx hb hg inC5 hown hK hP 25 rfl rfl 0 (by decide) (hg _ wt1_239) (fun _ h9 => h9) rfl dX5_runAll_5 ?_
  refine kVG.callW (As := [.ref (r 1)]) (rest := []) ⟨hx, hb, hml, hown, hg⟩ (z_copyFrom l r f a g tx tt hT hI hG   k hVw hkk ) (cwV 1 hg (kgV wt4_79 wt4_80 wt4_81 wt1_2 wt4_82) rfl rfl rfl (by decide +kernel) ⟨by decide, by decide⟩) hV hK hP hD hS hA (26) 7 rfl rfl rfl hl.1 rfl (Nat.le_of_ble_eq_true rfl) dX5_runAll_8 ⟨Nat.le_refl _, Nat.le_refl _⟩ (fun u3 H locs hw1 hP hD hS => ?_)
  obtain ⟨f4, a5, g6⟩ := u3
  have hP : va_P D vwCl (xX K r f4 a5 g6 tx) H := hP
  have hD : va_D A (xX K r f4 a5 g6 tx) := hD
  have hI : xI f4 a5 := hw1.1
  have hG : gOK K g6.2 tt := hw1.2.1
  have eE7 : xEk ([832, 838, 844, 849, 850], [27, 28, 29, 30, 31, 32, 33, 34, 35, 36, 37, 38, 39], [40]) f a g f4 a5 g6 := hw1.2.2.1
  have hE : xEk ([32, 38, 44, 49, 50, 704, 705, 806, 807, 832, 838, 844, 849, 850, 1504, 1505], [2, 3, 4, 5, 6, 7, 8, 9, 10, 11, 12, 13, 14, 19, 20, 23, 27, 28, 29, 30, 31, 32, 33, 34, 35, 36, 37, 38, 39, 48], [15, 40]) f a g f4 a5 g6 := xEk_tr hE (xEk_w (by decide +kernel) eE7)
  have hcA := hw1.2.2.2.1
  have hcL := hw1.2.2.2.2
  have hp0x : xPs (f4 704) (f4 705) (a5 23) P (kBn k) := xP_cg hp0 ((eE7.1 704 rfl)) ((eE7.1 705 rfl)) ((eE7.2.1 23 rfl))
  have hk0 := hcA
  refine lv_aload_n hx hb dX5_runAll_11 rfl (lv_at hl 0 rfl) ?_
  refine va_get (D := D) (ci := 5) (v := .ref (r 47)) (C := RX5) (T := TX5) (N := 8) hx hb hg inC5 hown hK hP 25 rfl rfl 4 (by decide) (hg _ wt2_3) (fun _ h9 => h9) rfl dX5_runAll_12 ?_
  refine lv_aload_n hx hb dX5_runAll_15 rfl (lv_at hl 0 rfl) ?_
  refine va_get (D := D) (ci := 5) (v := .ref (r 22)) (C := RX5) (T := TX5) (N := 8) hx hb hg inC5 hown hK hP 25 rfl rfl 1 (by decide) (hg _ wt2_0) (fun _ h9 => h9) rfl dX5_runAll_16 ?_
  refine kVG.callW (As := [.ref (r 22)]) (rest := []) ⟨hx, hb, hml, hown, hg⟩ (z_pcopy l r f4 a5 g6 tx tt hT hI hG   P (kBn k) hp0x) (cwV 1 hg (kgV wt4_84 wt4_85 wt4_86 wt1_4 wt4_87) rfl rfl rfl (by decide +kernel) ⟨by decide, by decide⟩) hV hK hP hD hS hA (47) 2 rfl rfl rfl hl.1 rfl (Nat.le_of_ble_eq_true rfl) dX5_runAll_19 ⟨Nat.le_refl _, Nat.le_refl _⟩ (fun u10 H locs hw8 hP hD hS => ?_)
  obtain ⟨f11, a12, g13⟩ := u10
  have hP : va_P D vwCl (xX K r f11 a12 g13 tx) H := hP
  have hD : va_D A (xX K r f11 a12 g13 tx) := hD
  have hI : xI f11 a12 := hw8.1
  have hG : gOK K g13.2 tt := hw8.2.1
  have eE14 : xEk ([1504, 1505], [48], []) f4 a5 g6 f11 a12 g13 := hw8.2.2.1
  have hE : xEk ([32, 38, 44, 49, 50, 704, 705, 806, 807, 832, 838, 844, 849, 850, 1504, 1505], [2, 3, 4, 5, 6, 7, 8, 9, 10, 11, 12, 13, 14, 19, 20, 23, 27, 28, 29, 30, 31, 32, 33, 34, 35, 36, 37, 38, 39, 48], [15, 40]) f a g f11 a12 g13 := xEk_tr hE (xEk_w (by decide +kernel) eE14)
  have hk0 : sV 832 27 f11 a12 k := (sV_E hk0 eE14 (by decide +kernel) (by decide +kernel))
  have hk1 := hw8.2.2.2
  have hk2 : ∀ i, i < 6 → g13.2 40 i = g.2 15 i := fun i hi => (congrFun (eE14.2.2 40 rfl) i).trans (hcL i hi)
  have hk3 : ∀ i, i < 6 → g13.2 15 i = g.2 15 i := fun i hi => (congrFun (eE14.2.2 15 rfl) i).trans (congrFun (eE7.2.2 15 rfl) i)
  have hsn : sV 32 2 f11 a12 k := sV_cg hVw ((eE14.1 32 rfl).trans (eE7.1 32 rfl)) ((eE14.1 38 rfl).trans (eE7.1 38 rfl)) ((eE14.1 44 rfl).trans (eE7.1 44 rfl)) ((eE14.1 49 rfl).trans (eE7.1 49 rfl)) ((eE14.1 50 rfl).trans (eE7.1 50 rfl)) (fun j hj => by
      rcases (show j = 0 ∨ j = 1 ∨ j = 2 ∨ j = 3 ∨ j = 4 ∨ j = 5 ∨ j = 6 ∨ j = 7 ∨ j = 8 ∨ j = 9 ∨ j = 10 ∨ j = 11 ∨ j = 12 by omega) with e | e | e | e | e | e | e | e | e | e | e | e | e
      · subst e; exact ((eE14.2.1 2 rfl).trans (eE7.2.1 2 rfl))
      · subst e; exact ((eE14.2.1 3 rfl).trans (eE7.2.1 3 rfl))
      · subst e; exact ((eE14.2.1 4 rfl).trans (eE7.2.1 4 rfl))
      · subst e; exact ((eE14.2.1 5 rfl).trans (eE7.2.1 5 rfl))
      · subst e; exact ((eE14.2.1 6 rfl).trans (eE7.2.1 6 rfl))
      · subst e; exact ((eE14.2.1 7 rfl).trans (eE7.2.1 7 rfl))
      · subst e; exact ((eE14.2.1 8 rfl).trans (eE7.2.1 8 rfl))
      · subst e; exact ((eE14.2.1 9 rfl).trans (eE7.2.1 9 rfl))
      · subst e; exact ((eE14.2.1 10 rfl).trans (eE7.2.1 10 rfl))
      · subst e; exact ((eE14.2.1 11 rfl).trans (eE7.2.1 11 rfl))
      · subst e; exact ((eE14.2.1 12 rfl).trans (eE7.2.1 12 rfl))
      · subst e; exact ((eE14.2.1 13 rfl).trans (eE7.2.1 13 rfl))
      · subst e; exact ((eE14.2.1 14 rfl).trans (eE7.2.1 14 rfl)))
  have hpn : xPs (f11 704) (f11 705) (a12 23) P (kBn k) := xP_cg hp0 (((eE14.1 704 rfl).trans (eE7.1 704 rfl))) (((eE14.1 705 rfl).trans (eE7.1 705 rfl))) (((eE14.2.1 23 rfl).trans (eE7.2.1 23 rfl)))
  refine lv_aload_n hx hb dX5_runAll_22 rfl (lv_at hl 0 rfl) ?_
  refine lv_iconst (v := 0) hx hb dX5_runAll_23 (by decide) ?_
  refine va_put (D := D) (ci := 5) (v := .int 0) (ty := .int) (C := RX5) (T := TX5) (N := 8) hx hb hg inC5 tyX5 tyX5_ok nmX5 hown hK hP hD hS 25 rfl rfl 6 (by decide) (hg _ wt2_5) (fun _ h9 => h9) rfl (by decide +kernel) rfl rfl (Nat.le_of_ble_eq_true rfl) dX5_runAll_24 (fun H locs hP hD hS => ?_)
  have hP : va_P D vwCl (xX K r (upd f11 806 0) a12 g13 tx) H := hP
  have hD : va_D A (xX K r (upd f11 806 0) a12 g13 tx) := hD
  refine k_gen (P := fun z => va_P D vwCl (xX K r z a12 g13 tx) H ∧ va_D A (xX K r z a12 g13 tx) ∧ (xI z a12) ∧ (gOK K g13.2 tt) ∧ (xEk ([32, 38, 44, 49, 50, 704, 705, 806, 807, 832, 838, 844, 849, 850, 1504, 1505], [2, 3, 4, 5, 6, 7, 8, 9, 10, 11, 12, 13, 14, 19, 20, 23, 27, 28, 29, 30, 31, 32, 33, 34, 35, 36, 37, 38, 39, 48], [15, 40]) f a g z a12 g13) ∧ (sV 832 27 z a12 k) ∧ (xPs (z 1504) (z 1505) (a12 48) P (kBn k)) ∧ (∀ i, i < 6 → g13.2 40 i = g.2 15 i) ∧ (∀ i, i < 6 → g13.2 15 i = g.2 15 i)) (upd f11 806 0) ⟨hP, hD, (xI_f hI (fI_st hI.1 806 (kb_any _) (by decide) (by decide))), hG, (xEk_f hE rfl), (sV_f hk0 (by decide) (by decide) (by decide) (by decide) (by decide)), (xP_cg hk1 (pk_un (by decide)) (pk_un (by decide)) rfl), hk2, hk3⟩ (fun f_15 ef_15 hq => ?_)
  obtain ⟨hP, hD, hI, hG, hE, hk0, hk1, hk2, hk3⟩ := hq
  refine lv_aload_n hx hb dX5_runAll_27 rfl (lv_at hl 0 rfl) ?_
  refine lv_iconst (v := (-1)) hx hb dX5_runAll_28 (by decide) ?_
  refine va_put (D := D) (ci := 5) (v := .int (-1)) (ty := .int) (C := RX5) (T := TX5) (N := 8) hx hb hg inC5 tyX5 tyX5_ok nmX5 hown hK hP hD hS 25 rfl rfl 7 (by decide) (hg _ wt2_7) (fun _ h9 => h9) rfl (by decide +kernel) rfl rfl (Nat.le_of_ble_eq_true rfl) dX5_runAll_29 (fun H locs hP hD hS => ?_)
  have hP : va_P D vwCl (xX K r (upd f_15 807 (-1)) a12 g13 tx) H := hP
  have hD : va_D A (xX K r (upd f_15 807 (-1)) a12 g13 tx) := hD
  refine k_gen (P := fun z => va_P D vwCl (xX K r z a12 g13 tx) H ∧ va_D A (xX K r z a12 g13 tx) ∧ (xI z a12) ∧ (gOK K g13.2 tt) ∧ (xEk ([32, 38, 44, 49, 50, 704, 705, 806, 807, 832, 838, 844, 849, 850, 1504, 1505], [2, 3, 4, 5, 6, 7, 8, 9, 10, 11, 12, 13, 14, 19, 20, 23, 27, 28, 29, 30, 31, 32, 33, 34, 35, 36, 37, 38, 39, 48], [15, 40]) f a g z a12 g13) ∧ (sV 832 27 z a12 k) ∧ (xPs (z 1504) (z 1505) (a12 48) P (kBn k)) ∧ (∀ i, i < 6 → g13.2 40 i = g.2 15 i) ∧ (∀ i, i < 6 → g13.2 15 i = g.2 15 i)) (upd f_15 807 (-1)) ⟨hP, hD, (xI_f hI (fI_st hI.1 807 (kb_any _) (by decide) (by decide))), hG, (xEk_f hE rfl), (sV_f hk0 (by decide) (by decide) (by decide) (by decide) (by decide)), (xP_cg hk1 (pk_un (by decide)) (pk_un (by decide)) rfl), hk2, hk3⟩ (fun f_16 ef_16 hq => ?_)
  obtain ⟨hP, hD, hI, hG, hE, hk0, hk1, hk2, hk3⟩ := hq
  refine lv_iconst (v := 0) hx hb dX5_runAll_32 (by decide) ?_
  refine lv_istore_n (lv' := [(2, .int 0), (0, .ref (r 25)), (1, .ref (r 51))]) hx hb dX5_runAll_33 rfl hl (by decide) rfl (fun ls hl => ?_)
  have lp21 : ∀ (n22 : Nat) (cc : Nat) (s_ : oSt) (F18 : Nat → Int32) (B19 : Nat → Nat → Int32) (G20 : xG) (H : Heap) (locs : List Loc) (ls : Array Slot) (y17 : Int32), (12 < y17.toInt + (n22 : Int)) → (xI F18 B19) → (gOK K G20.2 tt) → (xEk ([32, 38, 44, 49, 50, 704, 705, 806, 807, 832, 838, 844, 849, 850, 1504, 1505], [2, 3, 4, 5, 6, 7, 8, 9, 10, 11, 12, 13, 14, 19, 20, 23, 27, 28, 29, 30, 31, 32, 33, 34, 35, 36, 37, 38, 39, 48], [15, 40]) f a g F18 B19 G20) → (sV 832 27 F18 B19 k) → (xPs (F18 1504) (F18 1505) (B19 48) P (kBn k)) → (∀ i, i < 6 → G20.2 40 i = g.2 15 i) → (∀ i, i < 6 → G20.2 15 i = g.2 15 i) → (kb 0 y17 12) → (y17.toInt = (cc : Int)) → (cc ≤ Dt.1 ∧ ordA DD Dt ((k, P, 0, -1) : oSt) cc = .inr s_) → (oG k s_ (20 * (cc : Int))) → (sV 32 2 F18 B19 s_.1) → (xPs (F18 704) (F18 705) (B19 23) s_.2.1 (kBn k)) → (F18 806 = s_.2.2.1 ∧ F18 807 = s_.2.2.2) → va_P D vwCl (xX K r F18 B19 G20 tx) H → va_D A (xX K r F18 B19 G20 tx) → va_S A s.heap H locs → lv_has ls 4 [(2, .int y17), (0, .ref (r 25)), (1, .ref (r 51))] → W p l e (rmD 7 0 0) s m ([.ref (r 25), .ref (r 51)] : List Value).toArray below meth c H locs 0 0 (kQi D (tysK K) (fun v (u : xS) => kb (-2147483648) v 2147483647 ∧ xI u.1 u.2.1 ∧ gOK K u.2.2.2 tt ∧ xEk ([32, 38, 44, 49, 50, 704, 705, 806, 807, 832, 838, 844, 849, 850, 1504, 1505], [2, 3, 4, 5, 6, 7, 8, 9, 10, 11, 12, 13, 14, 19, 20, 23, 27, 28, 29, 30, 31, 32, 33, 34, 35, 36, 37, 38, 39, 48], [15, 40]) f a g u.1 u.2.1 u.2.2 ∧ ((v = -1 ∧ ∃ s : oSt, ordA DD Dt ((k, P, 0, -1) : oSt) Dt.1 = .inr s ∧ oG k s 240 ∧ sV 32 2 u.1 u.2.1 s.1 ∧ xPs (u.1 704) (u.1 705) (u.2.1 23) s.2.1 (kBn k) ∧ u.1 806 = s.2.2.1) ∨ (∃ c : Nat, v.toInt = (c : Int) ∧ ordA DD Dt ((k, P, 0, -1) : oSt) Dt.1 = .inl c ∧ sV 32 2 u.1 u.2.1 k ∧ xPs (u.1 704) (u.1 705) (u.2.1 23) P (kBn k))) ∧ (∀ i, i < 6 → u.2.2.2 15 i = g.2 15 i)) (fun u => xX K r u.1 u.2.1 u.2.2 tx) A below ([.ref (r 25), .ref (r 51)] : List Value).toArray s 0 0) (F0 m 34 ls []) := by
    intro n22
    induction n22 with
    | zero =>
      intro cc s_ F18 B19 G20  H locs ls y17 hmlp21 hI hG hE hk0 hk1 hk2 hk3 b23 hvlp21_0 hvlp21_1 hvlp21_2 hvlp21_3 hvlp21_4 hvlp21_5 hP hD hS hl
      exact (by have h1 := b23.2; have h2 := hmlp21; omega : False).elim
    | succ n22 ihlp21 =>
      intro cc s_ F18 B19 G20  H locs ls y17 hmlp21 hI hG hE hk0 hk1 hk2 hk3 b23 hvlp21_0 hvlp21_1 hvlp21_2 hvlp21_3 hvlp21_4 hvlp21_5 hP hD hS hl
      have hnn : y17 = nI cc := nI_q hvlp21_0
      have hEo := hE
      have hod := hvlp21_1
      have hog := hvlp21_2
      have hosv := hvlp21_3
      have hoxp := hvlp21_4
      have hofd := hvlp21_5
      refine lv_iload_n hx hb dX5_runAll_34 rfl (lv_at hl 0 rfl) ?_
      refine lv_aload_n hx hb dX5_runAll_35 rfl (lv_at hl 2 rfl) ?_
      refine va_get (D := D) (ci := 10) (v := .int (F18 1632)) (C := RX10) (T := TX10) (N := 6) hx hb hg inC10 hown hK hP 51 rfl rfl 0 (by decide) (hg _ wt2_41) (fun _ h9 => h9) rfl dX5_runAll_36 ?_
      refine lv_topi (fun t24 et24 => ?_)
      have b25 : kb 0 t24 12 := kb_eq et24 (fI_at hI.1 1632 (by decide) (by decide))
      refine lv_icmp_ge (tgt := 105) hx hb dX5_runAll_39 (by decide) (fun c26 => ?_) (fun c26 => ?_)
      · have h27 := (kc_le c26)
        refine lv_iconst (v := (-1)) hx hb dX5_runAll_105 (by decide) ?_
        exact kI_ret (v := (-1)) hx hb hr hlocks rfl hK hS dX5_runAll_106 (F18, B19, G20) hP hD ⟨(kb_w kc_m1 (by decide) (by decide)), hI, hG, hE, (Or.inl ⟨rfl, s_, by have w9 := hod.2; rw [show cc = Dt.1 from by have w1 := hvlp21_0; have w3 := congrArg Int32.toInt (et24.trans (hEo.1 1632 rfl)); have w4 := hp1.1; have w5 := hp1.2; have w6 := hod.1; have w2 := kc_le c26; omega] at w9; exact w9, ⟨hog.1, hog.2.1, kb_w hog.2.2.1 (by decide) (by have w1 := hod.1; have w2 := hp1.2; omega), hog.2.2.2⟩, hosv, hoxp, hofd.1⟩), hk3⟩
      · have h28 := (kc_nle c26)
        have b29 : kb 0 y17 11 := kr_lt1 h28 b23 b25 (by decide)
        have b30 : kb 1 t24 12 := kr_lt2 h28 b23 b25 (by decide)
        refine lv_iload_n hx hb dX5_runAll_42 rfl (lv_at hl 0 rfl) ?_
        refine lv_bipush (v := 12) hx hb dX5_runAll_43 (by decide) ?_
        refine lv_icmp_ge (tgt := 105) hx hb dX5_runAll_45 (by decide) (fun c31 => ?_) (fun c31 => ?_)
        · have h32 := (kc_le c31)
          exact kb_no (kr_le1 h32 kc_12 b29) (by decide)
        · have h33 := (kc_nle c31)
          refine lv_iconst (v := 0) hx hb dX5_runAll_48 (by decide) ?_
          refine lv_istore_n (lv' := [(3, .int 0), (2, .int y17), (0, .ref (r 25)), (1, .ref (r 51))]) hx hb dX5_runAll_49 rfl hl (by decide) rfl (fun ls hl => ?_)
          have lp38 : ∀ (n39 : Nat) (ii : Nat) (t_ : oSt) (F35 : Nat → Int32) (B36 : Nat → Nat → Int32) (G37 : xG) (H : Heap) (locs : List Loc) (ls : Array Slot) (y34 : Int32), (20 < y34.toInt + (n39 : Int)) → (xI F35 B36) → (gOK K G37.2 tt) → (xEk ([32, 38, 44, 49, 50, 704, 705, 806, 807, 832, 838, 844, 849, 850, 1504, 1505], [2, 3, 4, 5, 6, 7, 8, 9, 10, 11, 12, 13, 14, 19, 20, 23, 27, 28, 29, 30, 31, 32, 33, 34, 35, 36, 37, 38, 39, 48], [15, 40]) f a g F35 B36 G37) → (sV 832 27 F35 B36 k) → (xPs (F35 1504) (F35 1505) (B36 48) P (kBn k)) → (∀ i, i < 6 → G37.2 40 i = g.2 15 i) → (∀ i, i < 6 → G37.2 15 i = g.2 15 i) → (kb 0 y34 20) → (y34.toInt = (ii : Int)) → (ii ≤ (Dt.2.2.2.1 cc).toInt.toNat ∧ ordT DD Dt cc ii s_ = some t_) → (oG k t_ (20 * (cc : Int) + (ii : Int))) → (sV 32 2 F35 B36 t_.1) → (xPs (F35 704) (F35 705) (B36 23) t_.2.1 (kBn k)) → (F35 806 = t_.2.2.1 ∧ F35 807 = t_.2.2.2) → va_P D vwCl (xX K r F35 B36 G37 tx) H → va_D A (xX K r F35 B36 G37 tx) → va_S A s.heap H locs → lv_has ls 4 [(3, .int y34), (2, .int y17), (0, .ref (r 25)), (1, .ref (r 51))] → W p l e (rmD 7 0 0) s m ([.ref (r 25), .ref (r 51)] : List Value).toArray below meth c H locs 0 0 (kQi D (tysK K) (fun v (u : xS) => kb (-2147483648) v 2147483647 ∧ xI u.1 u.2.1 ∧ gOK K u.2.2.2 tt ∧ xEk ([32, 38, 44, 49, 50, 704, 705, 806, 807, 832, 838, 844, 849, 850, 1504, 1505], [2, 3, 4, 5, 6, 7, 8, 9, 10, 11, 12, 13, 14, 19, 20, 23, 27, 28, 29, 30, 31, 32, 33, 34, 35, 36, 37, 38, 39, 48], [15, 40]) f a g u.1 u.2.1 u.2.2 ∧ ((v = -1 ∧ ∃ s : oSt, ordA DD Dt ((k, P, 0, -1) : oSt) Dt.1 = .inr s ∧ oG k s 240 ∧ sV 32 2 u.1 u.2.1 s.1 ∧ xPs (u.1 704) (u.1 705) (u.2.1 23) s.2.1 (kBn k) ∧ u.1 806 = s.2.2.1) ∨ (∃ c : Nat, v.toInt = (c : Int) ∧ ordA DD Dt ((k, P, 0, -1) : oSt) Dt.1 = .inl c ∧ sV 32 2 u.1 u.2.1 k ∧ xPs (u.1 704) (u.1 705) (u.2.1 23) P (kBn k))) ∧ (∀ i, i < 6 → u.2.2.2 15 i = g.2 15 i)) (fun u => xX K r u.1 u.2.1 u.2.2 tx) A below ([.ref (r 25), .ref (r 51)] : List Value).toArray s 0 0) (F0 m 50 ls []) := by
            intro n39
            induction n39 with
            | zero =>
              intro ii t_ F35 B36 G37  H locs ls y34 hmlp38 hI hG hE hk0 hk1 hk2 hk3 b40 hvlp38_0 hvlp38_1 hvlp38_2 hvlp38_3 hvlp38_4 hvlp38_5 hP hD hS hl
              exact (by have h1 := b40.2; have h2 := hmlp38; omega : False).elim
            | succ n39 ihlp38 =>
              intro ii t_ F35 B36 G37  H locs ls y34 hmlp38 hI hG hE hk0 hk1 hk2 hk3 b40 hvlp38_0 hvlp38_1 hvlp38_2 hvlp38_3 hvlp38_4 hvlp38_5 hP hD hS hl
              have hnn : y34 = nI ii := nI_q hvlp38_0
              have hod2 := hvlp38_1
              have hog2 := hvlp38_2
              have hosv2 := hvlp38_3
              have hoxp2 := hvlp38_4
              have hofd2 := hvlp38_5
              refine lv_iload_n hx hb dX5_runAll_50 rfl (lv_at hl 0 rfl) ?_
              refine lv_aload_n hx hb dX5_runAll_51 rfl (lv_at hl 3 rfl) ?_
              refine va_get (D := D) (ci := 10) (v := .ref (r 53)) (C := RX10) (T := TX10) (N := 6) hx hb hg inC10 hown hK hP 51 rfl rfl 2 (by decide) (hg _ wt2_47) (fun _ h9 => h9) rfl dX5_runAll_52 ?_
              refine lv_iload_n hx hb dX5_runAll_55 rfl (lv_at hl 1 rfl) ?_
              refine va_iald hx hb hK hP 53 0 rfl rfl (kb_in b29 (by decide) (by decide)) dX5_runAll_56 ?_
              refine lv_topi (fun t41 et41 => ?_)
              have htm : t41 = Dt.2.2.2.1 cc := by obtain ⟨-, -, -, -, -, -, -, -, -, -, -, -, -, w5, -⟩ := hp2 cc (show cc < Dt.1 from by have w1 := hvlp21_0; have w2 := kc_nle c26; have w3 := congrArg Int32.toInt (et24.trans (hEo.1 1632 rfl)); have w4 := hp1.1; omega); rw [et41, show B36 53 = a 53 from hE.2.1 53 rfl, cl_nat hvlp21_0]; exact w5
              have b42 : kb 1 t41 20 := ⟨by rw [htm]; exact (hp3 cc (show cc < Dt.1 from by have w1 := hvlp21_0; have w2 := kc_nle c26; have w3 := congrArg Int32.toInt (et24.trans (hEo.1 1632 rfl)); have w4 := hp1.1; omega)).2.1, by rw [htm]; exact (hp3 cc (show cc < Dt.1 from by have w1 := hvlp21_0; have w2 := kc_nle c26; have w3 := congrArg Int32.toInt (et24.trans (hEo.1 1632 rfl)); have w4 := hp1.1; omega)).2.2⟩
              refine lv_icmp_ge (tgt := 99) hx hb dX5_runAll_57 (by decide) (fun c43 => ?_) (fun c43 => ?_)
              · have h44 := (kc_le c43)
                have b45 : kb 1 y34 20 := kr_le2 h44 b42 b40
                obtain ⟨t46, et46⟩ : ∃ z : Int32, z = y17 + Int32.ofInt 1 := ⟨_, rfl⟩
                have qt46 : t46.toInt = y17.toInt + 1 := by rw [et46]; exact km_inc b29 (by decide) (by decide)
                have b47 : kb 1 t46 12 := kb_inc (k := 1) qt46 b29
                refine lv_iinc (v := t46) (lv' := [(2, .int t46), (3, .int y34), (0, .ref (r 25)), (1, .ref (r 51))]) hx hb dX5_runAll_99 hl (k := 1) rfl et46.symm (by decide) rfl (fun ls hl => ?_)
                refine lv_goto (tgt := 34) hx hb dX5_runAll_102 (by decide) ?_
                exact ihlp21 (cc + 1) t_ F35 B36 G37 _ _ _ t46 (km_up hmlp21 qt46) hI hG hE hk0 hk1 hk2 hk3 (kb_w b47 (by decide) (by decide)) (by have w1 := hvlp21_0; have w2 := qt46; omega) (⟨(show cc < Dt.1 from by have w1 := hvlp21_0; have w2 := kc_nle c26; have w3 := congrArg Int32.toInt (et24.trans (hEo.1 1632 rfl)); have w4 := hp1.1; omega), oA_g hod.2 (by have w9 := hod2.2; rw [(show ii = (Dt.2.2.2.1 cc).toInt.toNat from by have w1 := hvlp38_0; have w2 := kc_le c43; rw [htm] at w2; have w3 := hod2.1; omega)] at w9; exact w9)⟩) (⟨hog2.1, hog2.2.1, kb_w hog2.2.2.1 (by decide) (by have w1 := (show ii = (Dt.2.2.2.1 cc).toInt.toNat from by have w1 := hvlp38_0; have w2 := kc_le c43; rw [htm] at w2; have w3 := hod2.1; omega); have w4 := (hp3 cc (show cc < Dt.1 from by have w1 := hvlp21_0; have w2 := kc_nle c26; have w3 := congrArg Int32.toInt (et24.trans (hEo.1 1632 rfl)); have w4 := hp1.1; omega)).2.2; omega), hog2.2.2.2⟩) (hosv2) (hoxp2) (hofd2) hP hD hS (lv_sub hl [0, 2, 3] rfl)
              · have h48 := (kc_nle c43)
                have b49 : kb 0 y34 19 := kr_lt1 h48 b40 b42 (by decide)
                refine lv_aload_n hx hb dX5_runAll_60 rfl (lv_at hl 2 rfl) ?_
                refine lv_aload_n hx hb dX5_runAll_61 rfl (lv_at hl 3 rfl) ?_
                refine lv_iload_n hx hb dX5_runAll_62 rfl (lv_at hl 1 rfl) ?_
                refine kIG.callW (As := [.ref (r 51), .int y17]) (rest := []) ⟨hx, hb, hml, hown, hg⟩ (z_runOnce l r F35 B36 G37 tx tt hT hI hG y17 b29 t_.1 hosv2 hog2.1 DD (lC_6 hkk hL hk3 (hog2.2.1 105 (by decide))) t_.2.1 Dt t_.2.2.1 t_.2.2.2 (by rw [kBn_e (hog2.2.1 103 (by decide))]; exact hoxp2) hofd2.1 hofd2.2 (kb_w hog2.2.2.1 (by decide) (by have w1 := (show cc < Dt.1 from by have w1 := hvlp21_0; have w2 := kc_nle c26; have w3 := congrArg Int32.toInt (et24.trans (hEo.1 1632 rfl)); have w4 := hp1.1; omega); have w2 := hp1.2; have w3 := hod2.1; have w4 := (hp3 cc (show cc < Dt.1 from by have w1 := hvlp21_0; have w2 := kc_nle c26; have w3 := congrArg Int32.toInt (et24.trans (hEo.1 1632 rfl)); have w4 := hp1.1; omega)).2.2; omega)) hog2.2.2.2 (by rw [(show y17.toInt.toNat = cc from by have w1 := hvlp21_0; omega), show B36 52 = a 52 from hE.2.1 52 rfl, show B36 53 = a 53 from hE.2.1 53 rfl, show B36 54 = a 54 from hE.2.1 54 rfl, show B36 55 = a 55 from hE.2.1 55 rfl]; exact hp2 cc (show cc < Dt.1 from by have w1 := hvlp21_0; have w2 := kc_nle c26; have w3 := congrArg Int32.toInt (et24.trans (hEo.1 1632 rfl)); have w4 := hp1.1; omega)) (by rw [(show y17.toInt.toNat = cc from by have w1 := hvlp21_0; omega)]; exact (hp3 cc (show cc < Dt.1 from by have w1 := hvlp21_0; have w2 := kc_nle c26; have w3 := congrArg Int32.toInt (et24.trans (hEo.1 1632 rfl)); have w4 := hp1.1; omega)).1)) (cwV 2 hg (kgV wt4_89 wt4_91 wp2_7 wt1_6 wt4_92) rfl rfl rfl (by decide +kernel) ⟨by decide, by decide⟩) hV hK hP hD hS hA (25) 5 rfl rfl rfl hl.1 rfl (Nat.le_of_ble_eq_true rfl) dX5_runAll_63 ⟨Nat.le_refl _, Nat.le_refl _⟩ (fun v51 u52 H locs hw50 hP hD hS => ?_)
                obtain ⟨f53, a54, g55⟩ := u52
                have hP : va_P D vwCl (xX K r f53 a54 g55 tx) H := hP
                have hD : va_D A (xX K r f53 a54 g55 tx) := hD
                have hI : xI f53 a54 := hw50.2.1
                have hG : gOK K g55.2 tt := hw50.2.2.1
                have eE56 : xEk ([704, 705, 806, 807], [6, 9, 10, 11, 19, 20, 23], []) F35 B36 G37 f53 a54 g55 := hw50.2.2.2.1
                have hE : xEk ([32, 38, 44, 49, 50, 704, 705, 806, 807, 832, 838, 844, 849, 850, 1504, 1505], [2, 3, 4, 5, 6, 7, 8, 9, 10, 11, 12, 13, 14, 19, 20, 23, 27, 28, 29, 30, 31, 32, 33, 34, 35, 36, 37, 38, 39, 48], [15, 40]) f a g f53 a54 g55 := xEk_tr hE (xEk_w (by decide +kernel) eE56)
                have hk0 : sV 832 27 f53 a54 k := (sV_E hk0 eE56 (by decide +kernel) (by decide +kernel))
                have hk1 : xPs (f53 1504) (f53 1505) (a54 48) P (kBn k) := (xP_cg hk1 (eE56.1 1504 rfl) (eE56.1 1505 rfl) (eE56.2.1 48 rfl))
                have hk2 : ∀ i, i < 6 → g55.2 40 i = g.2 15 i := (fun i hi => (congrFun (eE56.2.2 40 rfl) i).trans (hk2 i hi))
                have hk3 : ∀ i, i < 6 → g55.2 15 i = g.2 15 i := (fun i hi => (congrFun (eE56.2.2 15 rfl) i).trans (hk3 i hi))
                rcases hw50.2.2.2.2 with ⟨hv1, t9, ho, hs_, hp_, hd_, hf_⟩ | ⟨hv1, ho⟩
                · refine k_top (z := 1) hv1 ?_
                  rw [show y17.toInt.toNat = cc from by have w1 := hvlp21_0; omega] at ho
                  rw [kBn_e (hog2.2.1 103 (by decide))] at hp_
                  refine lv_if_ne (tgt := 93) hx hb dX5_runAll_66 (by decide) (fun c57 => ?_) (fun c57 => ?_)
                  · obtain ⟨t58, et58⟩ : ∃ z : Int32, z = y34 + Int32.ofInt 1 := ⟨_, rfl⟩
                    have qt58 : t58.toInt = y34.toInt + 1 := by rw [et58]; exact km_inc b49 (by decide) (by decide)
                    have b59 : kb 1 t58 20 := kb_inc (k := 1) qt58 b49
                    refine lv_iinc (v := t58) (lv' := [(3, .int t58), (2, .int y17), (0, .ref (r 25)), (1, .ref (r 51))]) hx hb dX5_runAll_93 hl (k := 0) rfl et58.symm (by decide) rfl (fun ls hl => ?_)
                    refine lv_goto (tgt := 50) hx hb dX5_runAll_96 (by decide) ?_
                    exact ihlp38 (ii + 1) t9 f53 a54 g55 _ _ _ t58 (km_up hmlp38 qt58) hI hG hE hk0 hk1 hk2 hk3 (kb_w b59 (by decide) (by decide)) (by have w1 := hvlp38_0; have w2 := qt58; omega) (⟨(show ii < (Dt.2.2.2.1 cc).toInt.toNat from by have w1 := hvlp38_0; have w2 := kc_nle c43; rw [htm] at w2; omega), (oT_s hod2.2).trans ho⟩) (by have w9 := oG_s (DD := DD) (D := Dt) (c := cc) hog2 (by have w1 := (show cc < Dt.1 from by have w1 := hvlp21_0; have w2 := kc_nle c26; have w3 := congrArg Int32.toInt (et24.trans (hEo.1 1632 rfl)); have w4 := hp1.1; omega); have w2 := hp1.2; have w3 := (show ii < (Dt.2.2.2.1 cc).toInt.toNat from by have w1 := hvlp38_0; have w2 := kc_nle c43; rw [htm] at w2; omega); have w4 := (hp3 cc (show cc < Dt.1 from by have w1 := hvlp21_0; have w2 := kc_nle c26; have w3 := congrArg Int32.toInt (et24.trans (hEo.1 1632 rfl)); have w4 := hp1.1; omega)).2.2; omega) ho; rw [show 20 * (cc : Int) + ((ii + 1 : Nat) : Int) = 20 * (cc : Int) + (ii : Int) + 1 by omega]; exact w9) (hs_) (hp_) (⟨hd_, hf_⟩) hP hD hS (lv_sub hl [0, 1, 2, 3] rfl)
                  · exact kb_dj c57 kc_1 kc_0 (by decide)
                · refine k_top (z := 0) hv1 ?_
                  rw [show y17.toInt.toNat = cc from by have w1 := hvlp21_0; omega] at ho
                  refine lv_if_ne (tgt := 93) hx hb dX5_runAll_66 (by decide) (fun c60 => ?_) (fun c60 => ?_)
                  · exact kb_nsame c60 kc_0 kc_0
                  · refine lv_aload_n hx hb dX5_runAll_69 rfl (lv_at hl 2 rfl) ?_
                    refine va_get (D := D) (ci := 5) (v := .ref (r 1)) (C := RX5) (T := TX5) (N := 8) hx hb hg inC5 hown hK hP 25 rfl rfl 0 (by decide) (hg _ wt1_239) (fun _ h9 => h9) rfl dX5_runAll_70 ?_
                    refine lv_aload_n hx hb dX5_runAll_73 rfl (lv_at hl 2 rfl) ?_
                    refine va_get (D := D) (ci := 5) (v := .ref (r 26)) (C := RX5) (T := TX5) (N := 8) hx hb hg inC5 hown hK hP 25 rfl rfl 3 (by decide) (hg _ wt2_2) (fun _ h9 => h9) rfl dX5_runAll_74 ?_
                    refine kVG.callW (As := [.ref (r 26)]) (rest := []) ⟨hx, hb, hml, hown, hg⟩ (z_copyFromA l r f53 a54 g55 tx tt hT hI hG   k hk0 hkk ) (cwV 1 hg (kgV wt4_79 wt4_80 wt4_81 wt1_2 wt4_82) rfl rfl rfl (by decide +kernel) ⟨by decide, by decide⟩) hV hK hP hD hS hA (1) 7 rfl rfl rfl hl.1 rfl (Nat.le_of_ble_eq_true rfl) dX5_runAll_77 ⟨Nat.le_refl _, Nat.le_refl _⟩ (fun u63 H locs hw61 hP hD hS => ?_)
                    obtain ⟨f64, a65, g66⟩ := u63
                    have hP : va_P D vwCl (xX K r f64 a65 g66 tx) H := hP
                    have hD : va_D A (xX K r f64 a65 g66 tx) := hD
                    have hI : xI f64 a65 := hw61.1
                    have hG : gOK K g66.2 tt := hw61.2.1
                    have eE67 : xEk ([32, 38, 44, 49, 50], [2, 3, 4, 5, 6, 7, 8, 9, 10, 11, 12, 13, 14], [15]) f53 a54 g55 f64 a65 g66 := hw61.2.2.1
                    have hE : xEk ([32, 38, 44, 49, 50, 704, 705, 806, 807, 832, 838, 844, 849, 850, 1504, 1505], [2, 3, 4, 5, 6, 7, 8, 9, 10, 11, 12, 13, 14, 19, 20, 23, 27, 28, 29, 30, 31, 32, 33, 34, 35, 36, 37, 38, 39, 48], [15, 40]) f a g f64 a65 g66 := xEk_tr hE (xEk_w (by decide +kernel) eE67)
                    have hk0 : sV 832 27 f64 a65 k := (sV_E hk0 eE67 (by decide +kernel) (by decide +kernel))
                    have hk1 : xPs (f64 1504) (f64 1505) (a65 48) P (kBn k) := (xP_cg hk1 (eE67.1 1504 rfl) (eE67.1 1505 rfl) (eE67.2.1 48 rfl))
                    have hk2 : ∀ i, i < 6 → g66.2 40 i = g.2 15 i := (fun i hi => (congrFun (eE67.2.2 40 rfl) i).trans (hk2 i hi))
                    have hk3 : ∀ i, i < 6 → g66.2 15 i = g.2 15 i := (fun i hi => (hw61.2.2.2.2 i hi).trans ((congrFun (eE67.2.2 40 rfl) i).symm.trans (hk2 i hi)))
                    have hback := hw61.2.2.2.1
                    refine lv_aload_n hx hb dX5_runAll_80 rfl (lv_at hl 2 rfl) ?_
                    refine va_get (D := D) (ci := 5) (v := .ref (r 22)) (C := RX5) (T := TX5) (N := 8) hx hb hg inC5 hown hK hP 25 rfl rfl 1 (by decide) (hg _ wt2_0) (fun _ h9 => h9) rfl dX5_runAll_81 ?_
                    refine lv_aload_n hx hb dX5_runAll_84 rfl (lv_at hl 2 rfl) ?_
                    refine va_get (D := D) (ci := 5) (v := .ref (r 47)) (C := RX5) (T := TX5) (N := 8) hx hb hg inC5 hown hK hP 25 rfl rfl 4 (by decide) (hg _ wt2_3) (fun _ h9 => h9) rfl dX5_runAll_85 ?_
                    refine kVG.callW (As := [.ref (r 47)]) (rest := []) ⟨hx, hb, hml, hown, hg⟩ (z_pcopyA l r f64 a65 g66 tx tt hT hI hG   P (kBn k) hk1) (cwV 1 hg (kgV wt4_84 wt4_85 wt4_86 wt1_4 wt4_87) rfl rfl rfl (by decide +kernel) ⟨by decide, by decide⟩) hV hK hP hD hS hA (22) 2 rfl rfl rfl hl.1 rfl (Nat.le_of_ble_eq_true rfl) dX5_runAll_88 ⟨Nat.le_refl _, Nat.le_refl _⟩ (fun u70 H locs hw68 hP hD hS => ?_)
                    obtain ⟨f71, a72, g73⟩ := u70
                    have hP : va_P D vwCl (xX K r f71 a72 g73 tx) H := hP
                    have hD : va_D A (xX K r f71 a72 g73 tx) := hD
                    have hI : xI f71 a72 := hw68.1
                    have hG : gOK K g73.2 tt := hw68.2.1
                    have eE74 : xEk ([704, 705], [23], []) f64 a65 g66 f71 a72 g73 := hw68.2.2.1
                    have hE : xEk ([32, 38, 44, 49, 50, 704, 705, 806, 807, 832, 838, 844, 849, 850, 1504, 1505], [2, 3, 4, 5, 6, 7, 8, 9, 10, 11, 12, 13, 14, 19, 20, 23, 27, 28, 29, 30, 31, 32, 33, 34, 35, 36, 37, 38, 39, 48], [15, 40]) f a g f71 a72 g73 := xEk_tr hE (xEk_w (by decide +kernel) eE74)
                    have hk0 : sV 832 27 f71 a72 k := (sV_E hk0 eE74 (by decide +kernel) (by decide +kernel))
                    have hk1 : xPs (f71 1504) (f71 1505) (a72 48) P (kBn k) := (xP_cg hk1 (eE74.1 1504 rfl) (eE74.1 1505 rfl) (eE74.2.1 48 rfl))
                    have hk2 : ∀ i, i < 6 → g73.2 40 i = g.2 15 i := (fun i hi => (congrFun (eE74.2.2 40 rfl) i).trans (hk2 i hi))
                    have hk3 : ∀ i, i < 6 → g73.2 15 i = g.2 15 i := (fun i hi => (congrFun (eE74.2.2 15 rfl) i).trans (hk3 i hi))
                    have hpb := hw68.2.2.2
                    refine lv_iload_n hx hb dX5_runAll_91 rfl (lv_at hl 1 rfl) ?_
                    exact kI_ret (v := y17) hx hb hr hlocks rfl hK hS dX5_runAll_92 (f71, a72, g73) hP hD ⟨(kb_w b29 (by decide) (by decide)), hI, hG, hE, (Or.inr ⟨cc, hvlp21_0, by have w9 := oT_k ((oT_s hod2.2).trans ho) ((Dt.2.2.2.1 cc).toInt.toNat - (ii + 1)); rw [show ii + 1 + ((Dt.2.2.2.1 cc).toInt.toNat - (ii + 1)) = (Dt.2.2.2.1 cc).toInt.toNat by have w1 := (show ii < (Dt.2.2.2.1 cc).toInt.toNat from by have w1 := hvlp38_0; have w2 := kc_nle c43; rw [htm] at w2; omega); omega] at w9; have w8 := oA_k (oA_f hod.2 w9) (Dt.1 - (cc + 1)); rw [show cc + 1 + (Dt.1 - (cc + 1)) = Dt.1 by have w1 := (show cc < Dt.1 from by have w1 := hvlp21_0; have w2 := kc_nle c26; have w3 := congrArg Int32.toInt (et24.trans (hEo.1 1632 rfl)); have w4 := hp1.1; omega); omega] at w8; exact w8, (sV_E hback eE74 (by decide +kernel) (by decide +kernel)), hpb⟩), hk3⟩
          exact lp38 (21) 0 s_ F18 B19 G20 _ _ _ 0 (by have h1 := (kc_0); unfold kb at h1; omega) hI hG hE hk0 hk1 hk2 hk3 (kb_w kc_0 (by decide) (by decide)) (by decide +kernel) (⟨Nat.zero_le _, rfl⟩) (by rw [show 20 * (cc : Int) + ((0 : Nat) : Int) = 20 * (cc : Int) by omega]; exact hog) (hosv) (hoxp) (hofd) hP hD hS (lv_sub hl [0, 1, 2, 3] rfl)
  exact lp21 (13) 0 ((k, P, 0, -1) : oSt) f_16 a12 g13 _ _ _ 0 (by have h1 := (kc_0); unfold kb at h1; omega) hI hG hE hk0 hk1 hk2 hk3 (kb_w kc_0 (by decide) (by decide)) (by decide +kernel) (⟨Nat.zero_le _, rfl⟩) ((oG_0 hkk)) (sV_cg hsn ((show f_16 32 = f_15 32 from by rw [← ef_16]; rfl).trans (show f_15 32 = f11 32 from by rw [← ef_15]; rfl)) ((show f_16 38 = f_15 38 from by rw [← ef_16]; rfl).trans (show f_15 38 = f11 38 from by rw [← ef_15]; rfl)) ((show f_16 44 = f_15 44 from by rw [← ef_16]; rfl).trans (show f_15 44 = f11 44 from by rw [← ef_15]; rfl)) ((show f_16 49 = f_15 49 from by rw [← ef_16]; rfl).trans (show f_15 49 = f11 49 from by rw [← ef_15]; rfl)) ((show f_16 50 = f_15 50 from by rw [← ef_16]; rfl).trans (show f_15 50 = f11 50 from by rw [← ef_15]; rfl)) (fun _ _ => rfl)) (xP_cg hpn ((show f_16 704 = f_15 704 from by rw [← ef_16]; rfl).trans (show f_15 704 = f11 704 from by rw [← ef_15]; rfl)) ((show f_16 705 = f_15 705 from by rw [← ef_16]; rfl).trans (show f_15 705 = f11 705 from by rw [← ef_15]; rfl)) rfl) (⟨((show f_16 806 = f_15 806 from by rw [← ef_16]; rfl).trans (show f_15 806 = 0 from by rw [← ef_15]; rfl)), (show f_16 807 = (-1) from by rw [← ef_16]; rfl)⟩) hP hD hS (lv_sub hl [0, 1, 2] rfl)
