theorem dX11_orders_0 : decode cX11_orders 0 = .ok (.aload_n 0, 1) := by decide +kernel
theorem dX11_orders_1 : decode cX11_orders 1 = .ok (.invokevirtual 198, 3) := by decide +kernel
theorem dX11_orders_4 : decode cX11_orders 4 = .ok (.istore_n 1, 1) := by decide +kernel
theorem dX11_orders_5 : decode cX11_orders 5 = .ok (.aload_n 0, 1) := by decide +kernel
theorem dX11_orders_6 : decode cX11_orders 6 = .ok (.iconst (-1), 1) := by decide +kernel
theorem dX11_orders_7 : decode cX11_orders 7 = .ok (.putfield 104, 3) := by decide +kernel
theorem dX11_orders_10 : decode cX11_orders 10 = .ok (.aload_n 0, 1) := by decide +kernel
theorem dX11_orders_11 : decode cX11_orders 11 = .ok (.aload_n 0, 1) := by decide +kernel
theorem dX11_orders_12 : decode cX11_orders 12 = .ok (.getfield 44, 3) := by decide +kernel
theorem dX11_orders_15 : decode cX11_orders 15 = .ok (.aload_n 0, 1) := by decide +kernel
theorem dX11_orders_16 : decode cX11_orders 16 = .ok (.getfield 86, 3) := by decide +kernel
theorem dX11_orders_19 : decode cX11_orders 19 = .ok (.iload_n 1, 1) := by decide +kernel
theorem dX11_orders_20 : decode cX11_orders 20 = .ok (.iconst 1, 1) := by decide +kernel
theorem dX11_orders_21 : decode cX11_orders 21 = .ok (.invokevirtual 207, 3) := by decide +kernel
theorem dX11_orders_24 : decode cX11_orders 24 = .ok (.putfield 98, 3) := by decide +kernel
theorem dX11_orders_27 : decode cX11_orders 27 = .ok (.aload_n 0, 1) := by decide +kernel
theorem dX11_orders_28 : decode cX11_orders 28 = .ok (.getfield 98, 3) := by decide +kernel
theorem dX11_orders_31 : decode cX11_orders 31 = .ok (.iconst (-1), 1) := by decide +kernel
theorem dX11_orders_32 : decode cX11_orders 32 = .ok (.if_icmp .eq 10, 3) := by decide +kernel
theorem dX11_orders_35 : decode cX11_orders 35 = .ok (.aload_n 0, 1) := by decide +kernel
theorem dX11_orders_36 : decode cX11_orders 36 = .ok (.bipush (-6), 2) := by decide +kernel
theorem dX11_orders_38 : decode cX11_orders 38 = .ok (.invokevirtual 114, 3) := by decide +kernel
theorem dX11_orders_41 : decode cX11_orders 41 = .ok (.ireturn, 1) := by decide +kernel
theorem dX11_orders_42 : decode cX11_orders 42 = .ok (.aload_n 0, 1) := by decide +kernel
theorem dX11_orders_43 : decode cX11_orders 43 = .ok (.aload_n 0, 1) := by decide +kernel
theorem dX11_orders_44 : decode cX11_orders 44 = .ok (.getfield 37, 3) := by decide +kernel
theorem dX11_orders_47 : decode cX11_orders 47 = .ok (.aload_n 0, 1) := by decide +kernel
theorem dX11_orders_48 : decode cX11_orders 48 = .ok (.getfield 44, 3) := by decide +kernel
theorem dX11_orders_51 : decode cX11_orders 51 = .ok (.getfield 215, 3) := by decide +kernel
theorem dX11_orders_54 : decode cX11_orders 54 = .ok (.invokevirtual 228, 3) := by decide +kernel
theorem dX11_orders_57 : decode cX11_orders 57 = .ok (.putfield 104, 3) := by decide +kernel
theorem dX11_orders_60 : decode cX11_orders 60 = .ok (.aload_n 0, 1) := by decide +kernel
theorem dX11_orders_61 : decode cX11_orders 61 = .ok (.getfield 104, 3) := by decide +kernel
theorem dX11_orders_64 : decode cX11_orders 64 = .ok (.iconst (-1), 1) := by decide +kernel
theorem dX11_orders_65 : decode cX11_orders 65 = .ok (.if_icmp .eq 10, 3) := by decide +kernel
theorem dX11_orders_68 : decode cX11_orders 68 = .ok (.aload_n 0, 1) := by decide +kernel
theorem dX11_orders_69 : decode cX11_orders 69 = .ok (.bipush (-3), 2) := by decide +kernel
theorem dX11_orders_71 : decode cX11_orders 71 = .ok (.invokevirtual 114, 3) := by decide +kernel
theorem dX11_orders_74 : decode cX11_orders 74 = .ok (.ireturn, 1) := by decide +kernel
theorem dX11_orders_75 : decode cX11_orders 75 = .ok (.aload_n 0, 1) := by decide +kernel
theorem dX11_orders_76 : decode cX11_orders 76 = .ok (.aload_n 0, 1) := by decide +kernel
theorem dX11_orders_77 : decode cX11_orders 77 = .ok (.getfield 37, 3) := by decide +kernel
theorem dX11_orders_80 : decode cX11_orders 80 = .ok (.getfield 232, 3) := by decide +kernel
theorem dX11_orders_83 : decode cX11_orders 83 = .ok (.invokevirtual 121, 3) := by decide +kernel
theorem dX11_orders_86 : decode cX11_orders 86 = .ok (.ireturn, 1) := by decide +kernel
theorem wt4_78 : Cond.code yX5_runAll cX5_runAll 4 (some .int) ∈ kG := kt4 78 rfl rfl
theorem wt4_75 : Cond.methodLink RX11 228 yX5_runAll ∈ kG := kt4 75 rfl rfl
theorem wt4_76 : Cond.instanceMethod yX5_runAll ∈ kG := kt4 76 rfl rfl
theorem wt4_77 : Cond.selects RX5 yX5_runAll yX5_runAll ∈ kG := kt4 77 rfl rfl
theorem wt2_6 : Cond.fieldLink RX11 232 "SunriseRoof$Runner" "done" "I" ∈ kG := kt2 6 rfl rfl
set_option maxHeartbeats 4000000 in
set_option maxRecDepth 100000 in
theorem z_orders  (l : Launch) {D : va_G} {K : Nat → ClassId} (r : Nat → Nat) (f : Nat → Int32) (a : Nat → Nat → Int32) (g : xG) (tx tt : va_W) (hT : ∀ c ∈ tt, c ∈ tx) (hI : xI f a) (hG : gOK K g.2 tt)   (k : Nat → Int32) (hVw : sV 32 2 f a k) (hkk : kK k) (DD : Nat → tE) (hL : lC K tt (g.2 15) k DD) (P : pS) (hp0 : xPs (f 704) (f 705) (a 23) P (kBn k)) : kIG l yX11_orders (Cond.code yX11_orders cX11_orders 2 (some .int) :: kG) (rmD 29 0 0) D K [.ref (r 0)] (xX K r f a g tx) (fun v (u : xS) => kb (-2147483648) v 2147483647 ∧ xI u.1 u.2.1 ∧ gOK K u.2.2.2 tt ∧ xEk ([12, 13, 15, 16, 32, 38, 44, 49, 50, 704, 705, 806, 807, 832, 838, 844, 849, 850, 1504, 1505, 1603, 1604, 1605, 1606, 1632, 1637, 2565, 2566, 2786], [2, 3, 4, 5, 6, 7, 8, 9, 10, 11, 12, 13, 14, 19, 20, 23, 27, 28, 29, 30, 31, 32, 33, 34, 35, 36, 37, 38, 39, 48, 52, 53, 54, 55, 56, 57, 81, 94], [15, 40]) f a g u.1 u.2.1 u.2.2 ∧ u.1 12 = 0 ∧ ordP (a 93) (f 12) (u.1 13) ∧ ((v = -6 ∧ (∃ p, txR true (a 93) (f 12).toInt.toNat false p) ∧ u.1 16 = -6 ∧ (∀ R1, rfE (a 94) R1 → rfE (u.2.1 94) (rfS (-6 : Int32).toInt R1)) ∧ u.1 15 = -1 ∧ sV 32 2 u.1 u.2.1 k ∧ xPs (u.1 704) (u.1 705) (u.2.1 23) P (kBn k)) ∨ (∃ Dt : tE, rdD true (a 93) (f 12).toInt.toNat Dt ∧ (∃ p, txR true (a 93) (f 12).toInt.toNat true p) ∧ ((∃ s : oSt, ordA DD Dt ((k, P, 0, -1) : oSt) Dt.1 = .inr s ∧ oG k s 240 ∧ v = s.2.2.1 ∧ u.1 16 = 0 ∧ (∀ R1, rfE (a 94) R1 → rfE (u.2.1 94) R1) ∧ u.1 15 = -1 ∧ sV 32 2 u.1 u.2.1 s.1 ∧ xPs (u.1 704) (u.1 705) (u.2.1 23) s.2.1 (kBn k)) ∨ (∃ c : Nat, ordA DD Dt ((k, P, 0, -1) : oSt) Dt.1 = .inl c ∧ v = -3 ∧ u.1 16 = -3 ∧ (∀ R1, rfE (a 94) R1 → rfE (u.2.1 94) (rfS (-3 : Int32).toInt R1)) ∧ (u.1 15).toInt = (c : Int) ∧ sV 32 2 u.1 u.2.1 k ∧ xPs (u.1 704) (u.1 705) (u.2.1 23) P (kBn k))))) ∧ (∀ i, i < 6 → u.2.2.2 15 i = g.2 15 i)) (fun u => xX K r u.1 u.2.1 u.2.2 tx) 0 0 := by
  refine kIE.of (cc := cX11_orders) (maxL := 2) (ret := (some .int)) (by decide) rfl (Nat.le_of_ble_eq_true rfl) ?_
  intro p e s m below meth c A hx hb hr hml hown hts hlocks hnm hK hP hD hS hA hV ls hl
  have hE : xEk ([12, 13, 15, 16, 32, 38, 44, 49, 50, 704, 705, 806, 807, 832, 838, 844, 849, 850, 1504, 1505, 1603, 1604, 1605, 1606, 1632, 1637, 2565, 2566, 2786], [2, 3, 4, 5, 6, 7, 8, 9, 10, 11, 12, 13, 14, 19, 20, 23, 27, 28, 29, 30, 31, 32, 33, 34, 35, 36, 37, 38, 39, 48, 52, 53, 54, 55, 56, 57, 81, 94], [15, 40]) f a g f a g := xEk_rf
  have hg : ∀ w ∈ kG, w.before _ s = true := fun w h => hts w (List.mem_cons_of_mem _ h)
  have hown : s.vm.findClass RX11 = some m.cls := hown
  have hl : lv_has ls 2 [(0, .ref (r 0))] := hl
  obtain ⟨c12, ec12⟩ : ∃ z : Int32, z = f 12 := ⟨_, rfl⟩
  have b1 : kb 0 c12 400 := kb_eq ec12 (fI_at hI.1 12 (by decide) (by decide))
  obtain ⟨S, hSd⟩ : ∃ z : Nat, z = (f 12).toInt.toNat := ⟨_, rfl⟩
  have hcS : c12.toInt = (S : Int) := by have w1 := (b1).1; rw [hSd, ← ec12]; omega
  refine lv_aload_n hx hb dX11_orders_0 rfl (lv_at hl 0 rfl) ?_
  refine kIG.callW (As := []) (rest := []) ⟨hx, hb, hml, hown, hg⟩ (x_11_emptyTape l r f a g tx tt hT hI hG   ) (cwV 0 hg (kgV wt3_137 wt3_139 wp1_7 wt1_1 wt3_140) rfl rfl rfl (by decide +kernel) ⟨by decide, by decide⟩) hV hK hP hD hS hA (0) 11 rfl rfl rfl hl.1 rfl (Nat.le_of_ble_eq_true rfl) dX11_orders_1 ⟨Nat.le_refl _, Nat.le_refl _⟩ (fun v3 u4 H locs hw2 hP hD hS => ?_)
  obtain ⟨f5, a6, g7⟩ := u4
  have hP : va_P D vwCl (xX K r f5 a6 g7 tx) H := hP
  have hD : va_D A (xX K r f5 a6 g7 tx) := hD
  have hI : xI f5 a6 := hw2.2.1
  have hG : gOK K g7.2 tt := hw2.2.2.1
  have eE8 : xEk ([12], [], []) f a g f5 a6 g7 := hw2.2.2.2.1
  have hE : xEk ([12, 13, 15, 16, 32, 38, 44, 49, 50, 704, 705, 806, 807, 832, 838, 844, 849, 850, 1504, 1505, 1603, 1604, 1605, 1606, 1632, 1637, 2565, 2566, 2786], [2, 3, 4, 5, 6, 7, 8, 9, 10, 11, 12, 13, 14, 19, 20, 23, 27, 28, 29, 30, 31, 32, 33, 34, 35, 36, 37, 38, 39, 48, 52, 53, 54, 55, 56, 57, 81, 94], [15, 40]) f a g f5 a6 g7 := xEk_tr hE (xEk_w (by decide +kernel) eE8)
  refine k_top (z := c12) (hw2.2.2.2.2.2.trans ec12.symm) ?_
  have hk12 : f5 12 = 0 := hw2.2.2.2.2.1
  have hk0 := hk12
  have hk1 : ∀ i, i < 6 → g7.2 15 i = g.2 15 i := fun i hi => congrFun (eE8.2.2 15 rfl) i
  refine lv_istore_n (lv' := [(1, .int c12), (0, .ref (r 0))]) hx hb dX11_orders_4 rfl hl (by decide) rfl (fun ls hl => ?_)
  refine lv_aload_n hx hb dX11_orders_5 rfl (lv_at hl 1 rfl) ?_
  refine lv_iconst (v := (-1)) hx hb dX11_orders_6 (by decide) ?_
  refine va_put (D := D) (ci := 11) (v := .int (-1)) (ty := .int) (C := RX11) (T := TX11) (N := 17) hx hb hg inC11 tyX11 tyX11_ok nmX11 hown hK hP hD hS 0 rfl rfl 15 (by decide) (hg _ wt2_201) (fun _ h9 => h9) rfl (by decide +kernel) rfl rfl (Nat.le_of_ble_eq_true rfl) dX11_orders_7 (fun H locs hP hD hS => ?_)
  have hP : va_P D vwCl (xX K r (upd f5 15 (-1)) a6 g7 tx) H := hP
  have hD : va_D A (xX K r (upd f5 15 (-1)) a6 g7 tx) := hD
  refine k_gen (P := fun z => va_P D vwCl (xX K r z a6 g7 tx) H ∧ va_D A (xX K r z a6 g7 tx) ∧ (xI z a6) ∧ (gOK K g7.2 tt) ∧ (xEk ([12, 13, 15, 16, 32, 38, 44, 49, 50, 704, 705, 806, 807, 832, 838, 844, 849, 850, 1504, 1505, 1603, 1604, 1605, 1606, 1632, 1637, 2565, 2566, 2786], [2, 3, 4, 5, 6, 7, 8, 9, 10, 11, 12, 13, 14, 19, 20, 23, 27, 28, 29, 30, 31, 32, 33, 34, 35, 36, 37, 38, 39, 48, 52, 53, 54, 55, 56, 57, 81, 94], [15, 40]) f a g z a6 g7) ∧ (z 12 = 0) ∧ (∀ i, i < 6 → g7.2 15 i = g.2 15 i)) (upd f5 15 (-1)) ⟨hP, hD, (xI_f hI (fI_st hI.1 15 (kb_any _) (by decide) (by decide))), hG, (xEk_f hE (by decide +kernel)), ((pk_un (by decide)).trans hk0), hk1⟩ (fun f_9 ef_9 hq => ?_)
  obtain ⟨hP, hD, hI, hG, hE, hk0, hk1⟩ := hq
  refine lv_aload_n hx hb dX11_orders_10 rfl (lv_at hl 1 rfl) ?_
  refine lv_aload_n hx hb dX11_orders_11 rfl (lv_at hl 1 rfl) ?_
  refine va_get (D := D) (ci := 11) (v := .ref (r 50)) (C := RX11) (T := TX11) (N := 17) hx hb hg inC11 hown hK hP 0 rfl rfl 4 (by decide) (hg _ wt2_190) (fun _ h9 => h9) rfl dX11_orders_12 ?_
  refine lv_aload_n hx hb dX11_orders_15 rfl (lv_at hl 1 rfl) ?_
  refine va_get (D := D) (ci := 11) (v := .ref (r 93)) (C := RX11) (T := TX11) (N := 17) hx hb hg inC11 hown hK hP 0 rfl rfl 10 (by decide) (hg _ wt2_196) (fun _ h9 => h9) rfl dX11_orders_16 ?_
  refine lv_iload_n hx hb dX11_orders_19 rfl (lv_at hl 0 rfl) ?_
  refine lv_iconst (v := 1) hx hb dX11_orders_20 (by decide) ?_
  refine kIG.callW (As := [.ref (r 93), .int c12, .int 1]) (rest := [.ref (r 0)]) ⟨hx, hb, hml, hown, hg⟩ (y_read l r f_9 a6 g7 tx tt hT hI hG c12 1 b1 (kb_w kc_1 (by decide) (by decide)) S true hcS (if_pos rfl).symm) (cwV 3 hg (kgV wt3_153 wt3_154 wt3_155 wt1_7 wt3_156) rfl rfl rfl (by decide +kernel) ⟨by decide, by decide⟩) hV hK hP hD hS hA (50) 4 rfl rfl rfl hl.1 rfl (Nat.le_of_ble_eq_true rfl) dX11_orders_21 ⟨Nat.le_refl _, Nat.le_refl _⟩ (fun v11 u12 H locs hw10 hP hD hS => ?_)
  obtain ⟨f13, a14, g15⟩ := u12
  have hP : va_P D vwCl (xX K r f13 a14 g15 tx) H := hP
  have hD : va_D A (xX K r f13 a14 g15 tx) := hD
  have hI : xI f13 a14 := hw10.2.1
  have hG : gOK K g15.2 tt := hw10.2.2.1
  have eE16 : xEk ([1603, 1604, 1605, 1606, 1632, 1637], [52, 53, 54, 55, 56, 57], []) f_9 a6 g7 f13 a14 g15 := hw10.2.2.2.1
  have hE : xEk ([12, 13, 15, 16, 32, 38, 44, 49, 50, 704, 705, 806, 807, 832, 838, 844, 849, 850, 1504, 1505, 1603, 1604, 1605, 1606, 1632, 1637, 2565, 2566, 2786], [2, 3, 4, 5, 6, 7, 8, 9, 10, 11, 12, 13, 14, 19, 20, 23, 27, 28, 29, 30, 31, 32, 33, 34, 35, 36, 37, 38, 39, 48, 52, 53, 54, 55, 56, 57, 81, 94], [15, 40]) f a g f13 a14 g15 := xEk_tr hE (xEk_w (by decide +kernel) eE16)
  have hk0 : f13 12 = 0 := (eE16.1 12 rfl).trans hk0
  have hk1 : ∀ i, i < 6 → g15.2 15 i = g.2 15 i := (fun i hi => (congrFun (eE16.2.2 15 rfl) i).trans (hk1 i hi))
  have hRx : ∃ b : Bool, txR true (a 93) S b v11 ∧ (b = true → ∃ N n sz : Nat, (f13 1632).toInt = (n : Int) ∧ (f13 1637).toInt = (sz : Int) ∧ sz ≤ 400 ∧ plT (a 93) S N = S ∧ (∀ i, i < N → plT (a 93) S i < S) ∧ rdF true (tkT (a 93) S) N n sz a14) := by have w1 := hw10.2.2.2.2; rw [show a6 93 = a 93 from (eE8.2.1 93 rfl)] at w1; exact w1
  obtain ⟨bR, htx, hrd⟩ := hRx
  refine va_put (D := D) (ci := 11) (v := .int v11) (ty := .int) (C := RX11) (T := TX11) (N := 17) hx hb hg inC11 tyX11 tyX11_ok nmX11 hown hK hP hD hS 0 rfl rfl 13 (by decide) (hg _ wt2_199) (fun _ h9 => h9) rfl (by decide +kernel) rfl rfl (Nat.le_of_ble_eq_true rfl) dX11_orders_24 (fun H locs hP hD hS => ?_)
  have hP : va_P D vwCl (xX K r (upd f13 13 v11) a14 g15 tx) H := hP
  have hD : va_D A (xX K r (upd f13 13 v11) a14 g15 tx) := hD
  refine k_gen (P := fun z => va_P D vwCl (xX K r z a14 g15 tx) H ∧ va_D A (xX K r z a14 g15 tx) ∧ (xI z a14) ∧ (gOK K g15.2 tt) ∧ (xEk ([12, 13, 15, 16, 32, 38, 44, 49, 50, 704, 705, 806, 807, 832, 838, 844, 849, 850, 1504, 1505, 1603, 1604, 1605, 1606, 1632, 1637, 2565, 2566, 2786], [2, 3, 4, 5, 6, 7, 8, 9, 10, 11, 12, 13, 14, 19, 20, 23, 27, 28, 29, 30, 31, 32, 33, 34, 35, 36, 37, 38, 39, 48, 52, 53, 54, 55, 56, 57, 81, 94], [15, 40]) f a g z a14 g15) ∧ (z 12 = 0) ∧ (∀ i, i < 6 → g15.2 15 i = g.2 15 i)) (upd f13 13 v11) ⟨hP, hD, (xI_f hI (fI_st hI.1 13 (kb_any _) (by decide) (by decide))), hG, (xEk_f hE (by decide +kernel)), ((pk_un (by decide)).trans hk0), hk1⟩ (fun f_17 ef_17 hq => ?_)
  obtain ⟨hP, hD, hI, hG, hE, hk0, hk1⟩ := hq
  refine lv_aload_n hx hb dX11_orders_27 rfl (lv_at hl 1 rfl) ?_
  refine va_get (D := D) (ci := 11) (v := .int (f_17 13)) (C := RX11) (T := TX11) (N := 17) hx hb hg inC11 hown hK hP 0 rfl rfl 13 (by decide) (hg _ wt2_199) (fun _ h9 => h9) rfl dX11_orders_28 ?_
  refine k_top (z := v11) (show f_17 13 = v11 from by rw [← ef_17]; rfl) ?_
  refine lv_iconst (v := (-1)) hx hb dX11_orders_31 (by decide) ?_
  refine lv_icmp_eq (tgt := 42) hx hb dX11_orders_32 (by decide) (fun c18 => ?_) (fun c18 => ?_)
  · have b19 : kb (-1) v11 (-1) := kb_eq c18 kc_m1
    obtain ⟨N, nn, sz, hn1, hsz, hs4, hpl1, hpl2, Dt, hxE, hDn, hxC⟩ := hrd (txR_y htx (by have w1 := (b1).2; omega) c18)
    have hbR : bR = true := txR_y htx (by have w1 := (b1).2; omega) c18
    refine lv_aload_n hx hb dX11_orders_42 rfl (lv_at hl 1 rfl) ?_
    refine lv_aload_n hx hb dX11_orders_43 rfl (lv_at hl 1 rfl) ?_
    refine va_get (D := D) (ci := 11) (v := .ref (r 25)) (C := RX11) (T := TX11) (N := 17) hx hb hg inC11 hown hK hP 0 rfl rfl 3 (by decide) (hg _ wt2_189) (fun _ h9 => h9) rfl dX11_orders_44 ?_
    refine lv_aload_n hx hb dX11_orders_47 rfl (lv_at hl 1 rfl) ?_
    refine va_get (D := D) (ci := 11) (v := .ref (r 50)) (C := RX11) (T := TX11) (N := 17) hx hb hg inC11 hown hK hP 0 rfl rfl 4 (by decide) (hg _ wt2_190) (fun _ h9 => h9) rfl dX11_orders_48 ?_
    refine va_get (D := D) (ci := 4) (v := .ref (r 51)) (C := RX4) (T := TX4) (N := 7) hx hb hg inC4 hown hK hP 50 rfl rfl 0 (by decide) (hg _ wt2_65) (fun _ h9 => h9) rfl dX11_orders_51 ?_
    refine kIG.callW (As := [.ref (r 51)]) (rest := [.ref (r 0)]) ⟨hx, hb, hml, hown, hg⟩ (z_runAll l r f_17 a14 g15 tx tt hT hI hG   k (show sV 32 2 f_17 a14 k from sV_cg hVw ((show f_17 32 = f13 32 from by rw [← ef_17]; rfl).trans ((eE16.1 32 rfl).trans ((show f_9 32 = f5 32 from by rw [← ef_9]; rfl).trans (eE8.1 32 rfl)))) ((show f_17 38 = f13 38 from by rw [← ef_17]; rfl).trans ((eE16.1 38 rfl).trans ((show f_9 38 = f5 38 from by rw [← ef_9]; rfl).trans (eE8.1 38 rfl)))) ((show f_17 44 = f13 44 from by rw [← ef_17]; rfl).trans ((eE16.1 44 rfl).trans ((show f_9 44 = f5 44 from by rw [← ef_9]; rfl).trans (eE8.1 44 rfl)))) ((show f_17 49 = f13 49 from by rw [← ef_17]; rfl).trans ((eE16.1 49 rfl).trans ((show f_9 49 = f5 49 from by rw [← ef_9]; rfl).trans (eE8.1 49 rfl)))) ((show f_17 50 = f13 50 from by rw [← ef_17]; rfl).trans ((eE16.1 50 rfl).trans ((show f_9 50 = f5 50 from by rw [← ef_9]; rfl).trans (eE8.1 50 rfl)))) (fun j hj => by rcases (show j = 0 ∨ j = 1 ∨ j = 2 ∨ j = 3 ∨ j = 4 ∨ j = 5 ∨ j = 6 ∨ j = 7 ∨ j = 8 ∨ j = 9 ∨ j = 10 ∨ j = 11 ∨ j = 12 by omega) with e | e | e | e | e | e | e | e | e | e | e | e | e; subst e; exact ((eE16.2.1 2 rfl).trans (eE8.2.1 2 rfl)); subst e; exact ((eE16.2.1 3 rfl).trans (eE8.2.1 3 rfl)); subst e; exact ((eE16.2.1 4 rfl).trans (eE8.2.1 4 rfl)); subst e; exact ((eE16.2.1 5 rfl).trans (eE8.2.1 5 rfl)); subst e; exact ((eE16.2.1 6 rfl).trans (eE8.2.1 6 rfl)); subst e; exact ((eE16.2.1 7 rfl).trans (eE8.2.1 7 rfl)); subst e; exact ((eE16.2.1 8 rfl).trans (eE8.2.1 8 rfl)); subst e; exact ((eE16.2.1 9 rfl).trans (eE8.2.1 9 rfl)); subst e; exact ((eE16.2.1 10 rfl).trans (eE8.2.1 10 rfl)); subst e; exact ((eE16.2.1 11 rfl).trans (eE8.2.1 11 rfl)); subst e; exact ((eE16.2.1 12 rfl).trans (eE8.2.1 12 rfl)); subst e; exact ((eE16.2.1 13 rfl).trans (eE8.2.1 13 rfl)); subst e; exact ((eE16.2.1 14 rfl).trans (eE8.2.1 14 rfl)))) hkk DD (lC_6 hkk hL hk1 rfl) P Dt (xP_cg hp0 ((show f_17 704 = f13 704 from by rw [← ef_17]; rfl).trans ((eE16.1 704 rfl).trans ((show f_9 704 = f5 704 from by rw [← ef_9]; rfl).trans (eE8.1 704 rfl)))) ((show f_17 705 = f13 705 from by rw [← ef_17]; rfl).trans ((eE16.1 705 rfl).trans ((show f_9 705 = f5 705 from by rw [← ef_9]; rfl).trans (eE8.1 705 rfl)))) ((eE16.2.1 23 rfl).trans (eE8.2.1 23 rfl))) ⟨by rw [show f_17 1632 = f13 1632 from (show f_17 1632 = f13 1632 from by rw [← ef_17]; rfl), hn1, hDn], hxE.2.1⟩ (fun c hc => by rw [show a14 52 = a14 52 from rfl, show a14 53 = a14 53 from rfl, show a14 54 = a14 54 from rfl, show a14 55 = a14 55 from rfl]; exact clC_cg (hxC c (by omega)) hs4 rfl rfl (fun _ _ _ => rfl) (fun _ _ => rfl) rfl rfl rfl rfl rfl) (fun c hc => by obtain ⟨j9, hcl, -⟩ := hxE.2.2.2 c hc; exact ⟨cl_hdr hcl, cl_tmr hcl⟩)) (cwV 1 hg (kgV wt4_75 wt4_76 wt4_77 wt1_6 wt4_78) rfl rfl rfl (by decide +kernel) ⟨by decide, by decide⟩) hV hK hP hD hS hA (25) 5 rfl rfl rfl hl.1 rfl (Nat.le_of_ble_eq_true rfl) dX11_orders_54 ⟨Nat.le_refl _, Nat.le_refl _⟩ (fun v21 u22 H locs hw20 hP hD hS => ?_)
    obtain ⟨f23, a24, g25⟩ := u22
    have hP : va_P D vwCl (xX K r f23 a24 g25 tx) H := hP
    have hD : va_D A (xX K r f23 a24 g25 tx) := hD
    have hI : xI f23 a24 := hw20.2.1
    have hG : gOK K g25.2 tt := hw20.2.2.1
    have eE26 : xEk ([32, 38, 44, 49, 50, 704, 705, 806, 807, 832, 838, 844, 849, 850, 1504, 1505], [2, 3, 4, 5, 6, 7, 8, 9, 10, 11, 12, 13, 14, 19, 20, 23, 27, 28, 29, 30, 31, 32, 33, 34, 35, 36, 37, 38, 39, 48], [15, 40]) f_17 a14 g15 f23 a24 g25 := hw20.2.2.2.1
    have hE : xEk ([12, 13, 15, 16, 32, 38, 44, 49, 50, 704, 705, 806, 807, 832, 838, 844, 849, 850, 1504, 1505, 1603, 1604, 1605, 1606, 1632, 1637, 2565, 2566, 2786], [2, 3, 4, 5, 6, 7, 8, 9, 10, 11, 12, 13, 14, 19, 20, 23, 27, 28, 29, 30, 31, 32, 33, 34, 35, 36, 37, 38, 39, 48, 52, 53, 54, 55, 56, 57, 81, 94], [15, 40]) f a g f23 a24 g25 := xEk_tr hE (xEk_w (by decide +kernel) eE26)
    have hk0 : f23 12 = 0 := (eE26.1 12 rfl).trans hk0
    have hk1 : ∀ i, i < 6 → g25.2 15 i = g.2 15 i := (fun i hi => (hw20.2.2.2.2.2 i hi).trans (hk1 i hi))
    have hra : (v21 = -1 ∧ ∃ s : oSt, ordA DD Dt ((k, P, 0, -1) : oSt) Dt.1 = .inr s ∧ oG k s 240 ∧ sV 32 2 f23 a24 s.1 ∧ xPs (f23 704) (f23 705) (a24 23) s.2.1 (kBn k) ∧ f23 806 = s.2.2.1) ∨ (∃ c : Nat, v21.toInt = (c : Int) ∧ ordA DD Dt ((k, P, 0, -1) : oSt) Dt.1 = .inl c ∧ sV 32 2 f23 a24 k ∧ xPs (f23 704) (f23 705) (a24 23) P (kBn k)) := hw20.2.2.2.2.1
    rcases hra with ⟨hv1, s_, ho, hog, hsv, hxp, hfd⟩ | ⟨cc, hcc, ho, hsv, hxp⟩
    · refine k_top (z := -1) hv1 ?_
      refine va_put (D := D) (ci := 11) (v := .int (-1)) (ty := .int) (C := RX11) (T := TX11) (N := 17) hx hb hg inC11 tyX11 tyX11_ok nmX11 hown hK hP hD hS 0 rfl rfl 15 (by decide) (hg _ wt2_201) (fun _ h9 => h9) rfl (by decide +kernel) rfl rfl (Nat.le_of_ble_eq_true rfl) dX11_orders_57 (fun H locs hP hD hS => ?_)
      have hP : va_P D vwCl (xX K r (upd f23 15 (-1)) a24 g25 tx) H := hP
      have hD : va_D A (xX K r (upd f23 15 (-1)) a24 g25 tx) := hD
      refine k_gen (P := fun z => va_P D vwCl (xX K r z a24 g25 tx) H ∧ va_D A (xX K r z a24 g25 tx) ∧ (xI z a24) ∧ (gOK K g25.2 tt) ∧ (xEk ([12, 13, 15, 16, 32, 38, 44, 49, 50, 704, 705, 806, 807, 832, 838, 844, 849, 850, 1504, 1505, 1603, 1604, 1605, 1606, 1632, 1637, 2565, 2566, 2786], [2, 3, 4, 5, 6, 7, 8, 9, 10, 11, 12, 13, 14, 19, 20, 23, 27, 28, 29, 30, 31, 32, 33, 34, 35, 36, 37, 38, 39, 48, 52, 53, 54, 55, 56, 57, 81, 94], [15, 40]) f a g z a24 g25) ∧ (z 12 = 0) ∧ (∀ i, i < 6 → g25.2 15 i = g.2 15 i)) (upd f23 15 (-1)) ⟨hP, hD, (xI_f hI (fI_st hI.1 15 (kb_any _) (by decide) (by decide))), hG, (xEk_f hE (by decide +kernel)), ((pk_un (by decide)).trans hk0), hk1⟩ (fun f_27 ef_27 hq => ?_)
      obtain ⟨hP, hD, hI, hG, hE, hk0, hk1⟩ := hq
      refine lv_aload_n hx hb dX11_orders_60 rfl (lv_at hl 1 rfl) ?_
      refine va_get (D := D) (ci := 11) (v := .int (f_27 15)) (C := RX11) (T := TX11) (N := 17) hx hb hg inC11 hown hK hP 0 rfl rfl 15 (by decide) (hg _ wt2_201) (fun _ h9 => h9) rfl dX11_orders_61 ?_
      refine k_top (z := (-1)) (show f_27 15 = (-1) from by rw [← ef_27]; rfl) ?_
      refine lv_iconst (v := (-1)) hx hb dX11_orders_64 (by decide) ?_
      refine lv_icmp_eq (tgt := 75) hx hb dX11_orders_65 (by decide) (fun c28 => ?_) (fun c28 => ?_)
      · refine lv_aload_n hx hb dX11_orders_75 rfl (lv_at hl 1 rfl) ?_
        refine lv_aload_n hx hb dX11_orders_76 rfl (lv_at hl 1 rfl) ?_
        refine va_get (D := D) (ci := 11) (v := .ref (r 25)) (C := RX11) (T := TX11) (N := 17) hx hb hg inC11 hown hK hP 0 rfl rfl 3 (by decide) (hg _ wt2_189) (fun _ h9 => h9) rfl dX11_orders_77 ?_
        refine va_get (D := D) (ci := 5) (v := .int (f_27 806)) (C := RX5) (T := TX5) (N := 8) hx hb hg inC5 hown hK hP 25 rfl rfl 6 (by decide) (hg _ wt2_6) (fun _ h9 => h9) rfl dX11_orders_80 ?_
        refine lv_topi (fun t29 et29 => ?_)
        refine kIG.callW (As := [.int t29]) (rest := []) ⟨hx, hb, hml, hown, hg⟩ (z_agreeChanged l r f_27 a24 g25 tx tt hT hI hG t29  ) (cwV 1 hg (kgV wt3_15 wt3_17 wp1_1 wt1_1 wt3_18) rfl rfl rfl (by decide +kernel) ⟨by decide, by decide⟩) hV hK hP hD hS hA (0) 11 rfl rfl rfl hl.1 rfl (Nat.le_of_ble_eq_true rfl) dX11_orders_83 ⟨Nat.le_refl _, Nat.le_refl _⟩ (fun v31 u32 H locs hw30 hP hD hS => ?_)
        obtain ⟨f33, a34, g35⟩ := u32
        have hP : va_P D vwCl (xX K r f33 a34 g35 tx) H := hP
        have hD : va_D A (xX K r f33 a34 g35 tx) := hD
        have hI : xI f33 a34 := hw30.2.1
        have hG : gOK K g35.2 tt := hw30.2.2.1
        have eE36 : xEk ([16, 2565, 2566, 2786], [81], []) f_27 a24 g25 f33 a34 g35 := hw30.2.2.2.1
        have hE : xEk ([12, 13, 15, 16, 32, 38, 44, 49, 50, 704, 705, 806, 807, 832, 838, 844, 849, 850, 1504, 1505, 1603, 1604, 1605, 1606, 1632, 1637, 2565, 2566, 2786], [2, 3, 4, 5, 6, 7, 8, 9, 10, 11, 12, 13, 14, 19, 20, 23, 27, 28, 29, 30, 31, 32, 33, 34, 35, 36, 37, 38, 39, 48, 52, 53, 54, 55, 56, 57, 81, 94], [15, 40]) f a g f33 a34 g35 := xEk_tr hE (xEk_w (by decide +kernel) eE36)
        have hk0 : f33 12 = 0 := (eE36.1 12 rfl).trans hk0
        have hk1 : ∀ i, i < 6 → g35.2 15 i = g.2 15 i := (fun i hi => (congrFun (eE36.2.2 15 rfl) i).trans (hk1 i hi))
        refine k_top (z := t29) hw30.2.2.2.2.1 ?_
        exact kI_ret (v := t29) hx hb hr hlocks rfl hK hS dX11_orders_86 (f33, a34, g35) hP hD ⟨(kb_any t29), hI, hG, hE, hk0, (show ordP (a 93) (f 12) (f33 13) from ⟨bR, by rw [((eE36.1 13 rfl).trans ((show f_27 13 = f23 13 from by rw [← ef_27]; rfl).trans ((eE26.1 13 rfl).trans (show f_17 13 = v11 from by rw [← ef_17]; rfl)))), ← hSd]; exact htx⟩), (Or.inr ⟨Dt, (by rw [← hSd]; exact rdD_i hpl1 hpl2 hxE), ⟨_, by rw [← hSd]; have w1 := htx; rw [hbR] at w1; exact w1⟩, Or.inl ⟨s_, ho, hog, (et29.trans (((show f_27 806 = f23 806 from by rw [← ef_27]; rfl)).trans hfd)), hw30.2.2.2.2.2, fun R1 hR => by show rfE (a34 94) R1; rw [show a34 94 = a 94 from ((eE36.2.1 94 rfl).trans ((eE26.2.1 94 (by decide +kernel)).trans ((eE16.2.1 94 rfl).trans (eE8.2.1 94 rfl))))]; exact hR, ((eE36.1 15 rfl).trans (show f_27 15 = (-1) from by rw [← ef_27]; rfl)), (show sV 32 2 f33 a34 s_.1 from sV_cg hsv ((eE36.1 32 rfl).trans (show f_27 32 = f23 32 from by rw [← ef_27]; rfl)) ((eE36.1 38 rfl).trans (show f_27 38 = f23 38 from by rw [← ef_27]; rfl)) ((eE36.1 44 rfl).trans (show f_27 44 = f23 44 from by rw [← ef_27]; rfl)) ((eE36.1 49 rfl).trans (show f_27 49 = f23 49 from by rw [← ef_27]; rfl)) ((eE36.1 50 rfl).trans (show f_27 50 = f23 50 from by rw [← ef_27]; rfl)) (fun j hj => by rcases (show j = 0 ∨ j = 1 ∨ j = 2 ∨ j = 3 ∨ j = 4 ∨ j = 5 ∨ j = 6 ∨ j = 7 ∨ j = 8 ∨ j = 9 ∨ j = 10 ∨ j = 11 ∨ j = 12 by omega) with e | e | e | e | e | e | e | e | e | e | e | e | e; subst e; exact (eE36.2.1 2 rfl); subst e; exact (eE36.2.1 3 rfl); subst e; exact (eE36.2.1 4 rfl); subst e; exact (eE36.2.1 5 rfl); subst e; exact (eE36.2.1 6 rfl); subst e; exact (eE36.2.1 7 rfl); subst e; exact (eE36.2.1 8 rfl); subst e; exact (eE36.2.1 9 rfl); subst e; exact (eE36.2.1 10 rfl); subst e; exact (eE36.2.1 11 rfl); subst e; exact (eE36.2.1 12 rfl); subst e; exact (eE36.2.1 13 rfl); subst e; exact (eE36.2.1 14 rfl))), (xP_cg hxp ((eE36.1 704 rfl).trans (show f_27 704 = f23 704 from by rw [← ef_27]; rfl)) ((eE36.1 705 rfl).trans (show f_27 705 = f23 705 from by rw [← ef_27]; rfl)) (eE36.2.1 23 rfl))⟩⟩), hk1⟩
      · exact kb_nsame c28 kc_m1 kc_m1
    · refine va_put (D := D) (ci := 11) (v := .int v21) (ty := .int) (C := RX11) (T := TX11) (N := 17) hx hb hg inC11 tyX11 tyX11_ok nmX11 hown hK hP hD hS 0 rfl rfl 15 (by decide) (hg _ wt2_201) (fun _ h9 => h9) rfl (by decide +kernel) rfl rfl (Nat.le_of_ble_eq_true rfl) dX11_orders_57 (fun H locs hP hD hS => ?_)
      have hP : va_P D vwCl (xX K r (upd f23 15 v21) a24 g25 tx) H := hP
      have hD : va_D A (xX K r (upd f23 15 v21) a24 g25 tx) := hD
      refine k_gen (P := fun z => va_P D vwCl (xX K r z a24 g25 tx) H ∧ va_D A (xX K r z a24 g25 tx) ∧ (xI z a24) ∧ (gOK K g25.2 tt) ∧ (xEk ([12, 13, 15, 16, 32, 38, 44, 49, 50, 704, 705, 806, 807, 832, 838, 844, 849, 850, 1504, 1505, 1603, 1604, 1605, 1606, 1632, 1637, 2565, 2566, 2786], [2, 3, 4, 5, 6, 7, 8, 9, 10, 11, 12, 13, 14, 19, 20, 23, 27, 28, 29, 30, 31, 32, 33, 34, 35, 36, 37, 38, 39, 48, 52, 53, 54, 55, 56, 57, 81, 94], [15, 40]) f a g z a24 g25) ∧ (z 12 = 0) ∧ (∀ i, i < 6 → g25.2 15 i = g.2 15 i)) (upd f23 15 v21) ⟨hP, hD, (xI_f hI (fI_st hI.1 15 (kb_any _) (by decide) (by decide))), hG, (xEk_f hE (by decide +kernel)), ((pk_un (by decide)).trans hk0), hk1⟩ (fun f_37 ef_37 hq => ?_)
      obtain ⟨hP, hD, hI, hG, hE, hk0, hk1⟩ := hq
      refine lv_aload_n hx hb dX11_orders_60 rfl (lv_at hl 1 rfl) ?_
      refine va_get (D := D) (ci := 11) (v := .int (f_37 15)) (C := RX11) (T := TX11) (N := 17) hx hb hg inC11 hown hK hP 0 rfl rfl 15 (by decide) (hg _ wt2_201) (fun _ h9 => h9) rfl dX11_orders_61 ?_
      refine k_top (z := v21) (show f_37 15 = v21 from by rw [← ef_37]; rfl) ?_
      refine lv_iconst (v := (-1)) hx hb dX11_orders_64 (by decide) ?_
      refine lv_icmp_eq (tgt := 75) hx hb dX11_orders_65 (by decide) (fun c38 => ?_) (fun c38 => ?_)
      · exact (by have w1 := congrArg Int32.toInt c38; have w2 : (-1 : Int32).toInt = -1 := (by decide +kernel); omega : False).elim
      · refine lv_aload_n hx hb dX11_orders_68 rfl (lv_at hl 1 rfl) ?_
        refine lv_bipush (v := (-3)) hx hb dX11_orders_69 (by decide) ?_
        refine kIG.callW (As := [.int (-3)]) (rest := []) ⟨hx, hb, hml, hown, hg⟩ (z_refuse l r f_37 a24 g25 tx tt hT hI hG (-3) (kb_w kc_m3 (by decide) (by decide)) (by decide +kernel)) (cwV 1 hg (kgV wt3_7 wt3_9 wp1_0 wt1_1 wt3_10) rfl rfl rfl (by decide +kernel) ⟨by decide, by decide⟩) hV hK hP hD hS hA (0) 11 rfl rfl rfl hl.1 rfl (Nat.le_of_ble_eq_true rfl) dX11_orders_71 ⟨Nat.le_refl _, Nat.le_refl _⟩ (fun v40 u41 H locs hw39 hP hD hS => ?_)
        obtain ⟨f42, a43, g44⟩ := u41
        have hP : va_P D vwCl (xX K r f42 a43 g44 tx) H := hP
        have hD : va_D A (xX K r f42 a43 g44 tx) := hD
        have hI : xI f42 a43 := hw39.2.1
        have hG : gOK K g44.2 tt := hw39.2.2.1
        have eE45 : xEk ([16], [94], []) f_37 a24 g25 f42 a43 g44 := hw39.2.2.2.1
        have hE : xEk ([12, 13, 15, 16, 32, 38, 44, 49, 50, 704, 705, 806, 807, 832, 838, 844, 849, 850, 1504, 1505, 1603, 1604, 1605, 1606, 1632, 1637, 2565, 2566, 2786], [2, 3, 4, 5, 6, 7, 8, 9, 10, 11, 12, 13, 14, 19, 20, 23, 27, 28, 29, 30, 31, 32, 33, 34, 35, 36, 37, 38, 39, 48, 52, 53, 54, 55, 56, 57, 81, 94], [15, 40]) f a g f42 a43 g44 := xEk_tr hE (xEk_w (by decide +kernel) eE45)
        have hk0 : f42 12 = 0 := (eE45.1 12 rfl).trans hk0
        have hk1 : ∀ i, i < 6 → g44.2 15 i = g.2 15 i := (fun i hi => (congrFun (eE45.2.2 15 rfl) i).trans (hk1 i hi))
        refine k_top (z := (-3)) hw39.2.2.2.2.1 ?_
        exact kI_ret (v := (-3)) hx hb hr hlocks rfl hK hS dX11_orders_74 (f42, a43, g44) hP hD ⟨(kb_w kc_m3 (by decide) (by decide)), hI, hG, hE, hk0, (show ordP (a 93) (f 12) (f42 13) from ⟨bR, by rw [((eE45.1 13 rfl).trans ((show f_37 13 = f23 13 from by rw [← ef_37]; rfl).trans ((eE26.1 13 rfl).trans (show f_17 13 = v11 from by rw [← ef_17]; rfl)))), ← hSd]; exact htx⟩), (Or.inr ⟨Dt, (by rw [← hSd]; exact rdD_i hpl1 hpl2 hxE), ⟨_, by rw [← hSd]; have w1 := htx; rw [hbR] at w1; exact w1⟩, Or.inr ⟨cc, ho, rfl, hw39.2.2.2.2.2.1, (fun R1 hR => hw39.2.2.2.2.2.2 R1 (by rw [show a24 94 = a 94 from ((eE26.2.1 94 (by decide +kernel)).trans ((eE16.2.1 94 rfl).trans (eE8.2.1 94 rfl)))]; exact hR)), ((congrArg Int32.toInt (show f42 15 = v21 from ((eE45.1 15 rfl).trans (show f_37 15 = v21 from by rw [← ef_37]; rfl)))).trans hcc), (show sV 32 2 f42 a43 k from sV_cg hsv ((eE45.1 32 rfl).trans (show f_37 32 = f23 32 from by rw [← ef_37]; rfl)) ((eE45.1 38 rfl).trans (show f_37 38 = f23 38 from by rw [← ef_37]; rfl)) ((eE45.1 44 rfl).trans (show f_37 44 = f23 44 from by rw [← ef_37]; rfl)) ((eE45.1 49 rfl).trans (show f_37 49 = f23 49 from by rw [← ef_37]; rfl)) ((eE45.1 50 rfl).trans (show f_37 50 = f23 50 from by rw [← ef_37]; rfl)) (fun j hj => by rcases (show j = 0 ∨ j = 1 ∨ j = 2 ∨ j = 3 ∨ j = 4 ∨ j = 5 ∨ j = 6 ∨ j = 7 ∨ j = 8 ∨ j = 9 ∨ j = 10 ∨ j = 11 ∨ j = 12 by omega) with e | e | e | e | e | e | e | e | e | e | e | e | e; subst e; exact (eE45.2.1 2 rfl); subst e; exact (eE45.2.1 3 rfl); subst e; exact (eE45.2.1 4 rfl); subst e; exact (eE45.2.1 5 rfl); subst e; exact (eE45.2.1 6 rfl); subst e; exact (eE45.2.1 7 rfl); subst e; exact (eE45.2.1 8 rfl); subst e; exact (eE45.2.1 9 rfl); subst e; exact (eE45.2.1 10 rfl); subst e; exact (eE45.2.1 11 rfl); subst e; exact (eE45.2.1 12 rfl); subst e; exact (eE45.2.1 13 rfl); subst e; exact (eE45.2.1 14 rfl))), (xP_cg hxp ((eE45.1 704 rfl).trans (show f_37 704 = f23 704 from by rw [← ef_37]; rfl)) ((eE45.1 705 rfl).trans (show f_37 705 = f23 705 from by rw [← ef_37]; rfl)) (eE45.2.1 23 rfl))⟩⟩), hk1⟩
  · refine lv_aload_n hx hb dX11_orders_35 rfl (lv_at hl 1 rfl) ?_
    refine lv_bipush (v := (-6)) hx hb dX11_orders_36 (by decide) ?_
    refine kIG.callW (As := [.int (-6)]) (rest := []) ⟨hx, hb, hml, hown, hg⟩ (z_refuse l r f_17 a14 g15 tx tt hT hI hG (-6) (kb_w kc_m6 (by decide) (by decide)) (by decide +kernel)) (cwV 1 hg (kgV wt3_7 wt3_9 wp1_0 wt1_1 wt3_10) rfl rfl rfl (by decide +kernel) ⟨by decide, by decide⟩) hV hK hP hD hS hA (0) 11 rfl rfl rfl hl.1 rfl (Nat.le_of_ble_eq_true rfl) dX11_orders_38 ⟨Nat.le_refl _, Nat.le_refl _⟩ (fun v47 u48 H locs hw46 hP hD hS => ?_)
    obtain ⟨f49, a50, g51⟩ := u48
    have hP : va_P D vwCl (xX K r f49 a50 g51 tx) H := hP
    have hD : va_D A (xX K r f49 a50 g51 tx) := hD
    have hI : xI f49 a50 := hw46.2.1
    have hG : gOK K g51.2 tt := hw46.2.2.1
    have eE52 : xEk ([16], [94], []) f_17 a14 g15 f49 a50 g51 := hw46.2.2.2.1
    have hE : xEk ([12, 13, 15, 16, 32, 38, 44, 49, 50, 704, 705, 806, 807, 832, 838, 844, 849, 850, 1504, 1505, 1603, 1604, 1605, 1606, 1632, 1637, 2565, 2566, 2786], [2, 3, 4, 5, 6, 7, 8, 9, 10, 11, 12, 13, 14, 19, 20, 23, 27, 28, 29, 30, 31, 32, 33, 34, 35, 36, 37, 38, 39, 48, 52, 53, 54, 55, 56, 57, 81, 94], [15, 40]) f a g f49 a50 g51 := xEk_tr hE (xEk_w (by decide +kernel) eE52)
    have hk0 : f49 12 = 0 := (eE52.1 12 rfl).trans hk0
    have hk1 : ∀ i, i < 6 → g51.2 15 i = g.2 15 i := (fun i hi => (congrFun (eE52.2.2 15 rfl) i).trans (hk1 i hi))
    refine k_top (z := (-6)) hw46.2.2.2.2.1 ?_
    exact kI_ret (v := (-6)) hx hb hr hlocks rfl hK hS dX11_orders_41 (f49, a50, g51) hP hD ⟨(kb_w kc_m6 (by decide) (by decide)), hI, hG, hE, hk0, (show ordP (a 93) (f 12) (f49 13) from ⟨bR, by rw [((eE52.1 13 rfl).trans (show f_17 13 = v11 from by rw [← ef_17]; rfl)), ← hSd]; exact htx⟩), (Or.inl ⟨rfl, ⟨_, by rw [← hSd]; have w1 := htx; rw [txR_n htx c18] at w1; exact w1⟩, hw46.2.2.2.2.2.1, (fun R1 hR => hw46.2.2.2.2.2.2 R1 (by rw [show a14 94 = a 94 from ((eE16.2.1 94 rfl).trans (eE8.2.1 94 rfl))]; exact hR)), ((eE52.1 15 rfl).trans ((show f_17 15 = f13 15 from by rw [← ef_17]; rfl).trans ((eE16.1 15 rfl).trans (show f_9 15 = (-1) from by rw [← ef_9]; rfl)))), (show sV 32 2 f49 a50 k from sV_cg hVw ((eE52.1 32 rfl).trans ((show f_17 32 = f13 32 from by rw [← ef_17]; rfl).trans ((eE16.1 32 rfl).trans ((show f_9 32 = f5 32 from by rw [← ef_9]; rfl).trans (eE8.1 32 rfl))))) ((eE52.1 38 rfl).trans ((show f_17 38 = f13 38 from by rw [← ef_17]; rfl).trans ((eE16.1 38 rfl).trans ((show f_9 38 = f5 38 from by rw [← ef_9]; rfl).trans (eE8.1 38 rfl))))) ((eE52.1 44 rfl).trans ((show f_17 44 = f13 44 from by rw [← ef_17]; rfl).trans ((eE16.1 44 rfl).trans ((show f_9 44 = f5 44 from by rw [← ef_9]; rfl).trans (eE8.1 44 rfl))))) ((eE52.1 49 rfl).trans ((show f_17 49 = f13 49 from by rw [← ef_17]; rfl).trans ((eE16.1 49 rfl).trans ((show f_9 49 = f5 49 from by rw [← ef_9]; rfl).trans (eE8.1 49 rfl))))) ((eE52.1 50 rfl).trans ((show f_17 50 = f13 50 from by rw [← ef_17]; rfl).trans ((eE16.1 50 rfl).trans ((show f_9 50 = f5 50 from by rw [← ef_9]; rfl).trans (eE8.1 50 rfl))))) (fun j hj => by rcases (show j = 0 ∨ j = 1 ∨ j = 2 ∨ j = 3 ∨ j = 4 ∨ j = 5 ∨ j = 6 ∨ j = 7 ∨ j = 8 ∨ j = 9 ∨ j = 10 ∨ j = 11 ∨ j = 12 by omega) with e | e | e | e | e | e | e | e | e | e | e | e | e; subst e; exact ((eE52.2.1 2 rfl).trans ((eE16.2.1 2 rfl).trans (eE8.2.1 2 rfl))); subst e; exact ((eE52.2.1 3 rfl).trans ((eE16.2.1 3 rfl).trans (eE8.2.1 3 rfl))); subst e; exact ((eE52.2.1 4 rfl).trans ((eE16.2.1 4 rfl).trans (eE8.2.1 4 rfl))); subst e; exact ((eE52.2.1 5 rfl).trans ((eE16.2.1 5 rfl).trans (eE8.2.1 5 rfl))); subst e; exact ((eE52.2.1 6 rfl).trans ((eE16.2.1 6 rfl).trans (eE8.2.1 6 rfl))); subst e; exact ((eE52.2.1 7 rfl).trans ((eE16.2.1 7 rfl).trans (eE8.2.1 7 rfl))); subst e; exact ((eE52.2.1 8 rfl).trans ((eE16.2.1 8 rfl).trans (eE8.2.1 8 rfl))); subst e; exact ((eE52.2.1 9 rfl).trans ((eE16.2.1 9 rfl).trans (eE8.2.1 9 rfl))); subst e; exact ((eE52.2.1 10 rfl).trans ((eE16.2.1 10 rfl).trans (eE8.2.1 10 rfl))); subst e; exact ((eE52.2.1 11 rfl).trans ((eE16.2.1 11 rfl).trans (eE8.2.1 11 rfl))); subst e; exact ((eE52.2.1 12 rfl).trans ((eE16.2.1 12 rfl).trans (eE8.2.1 12 rfl))); subst e; exact ((eE52.2.1 13 rfl).trans ((eE16.2.1 13 rfl).trans (eE8.2.1 13 rfl))); subst e; exact ((eE52.2.1 14 rfl).trans ((eE16.2.1 14 rfl).trans (eE8.2.1 14 rfl))))), xP_cg hp0 ((eE52.1 704 rfl).trans ((show f_17 704 = f13 704 from by rw [← ef_17]; rfl).trans ((eE16.1 704 rfl).trans ((show f_9 704 = f5 704 from by rw [← ef_9]; rfl).trans (eE8.1 704 rfl))))) ((eE52.1 705 rfl).trans ((show f_17 705 = f13 705 from by rw [← ef_17]; rfl).trans ((eE16.1 705 rfl).trans ((show f_9 705 = f5 705 from by rw [← ef_9]; rfl).trans (eE8.1 705 rfl))))) ((eE52.2.1 23 rfl).trans ((eE16.2.1 23 rfl).trans (eE8.2.1 23 rfl)))⟩), hk1⟩
