theorem xX_in {K : Nat → ClassId} {r : Nat → Nat} {f : Nat → Int32} {a : Nat → Nat → Int32} {g : xG} {w tx : va_W} : (w ++ xX K r f a g tx).Perm (xX K r f a g (w ++ tx)) := by
  rw [xX_app, xX_app (tx := w ++ tx)]
  exact List.perm_append_comm_assoc _ _ _
theorem dX11_law_0 : decode cX11_law 0 = .ok (.aload_n 0, 1) := by decide +kernel
theorem dX11_law_1 : decode cX11_law 1 = .ok (.invokevirtual 198, 3) := by decide +kernel
theorem dX11_law_4 : decode cX11_law 4 = .ok (.istore_n 1, 1) := by decide +kernel
theorem dX11_law_5 : decode cX11_law 5 = .ok (.aload_n 0, 1) := by decide +kernel
theorem dX11_law_6 : decode cX11_law 6 = .ok (.getfield 10, 3) := by decide +kernel
theorem dX11_law_9 : decode cX11_law 9 = .ok (.getfield 204, 3) := by decide +kernel
theorem dX11_law_12 : decode cX11_law 12 = .ok (.ifCond .lt 15, 3) := by decide +kernel
theorem dX11_law_15 : decode cX11_law 15 = .ok (.aload_n 0, 1) := by decide +kernel
theorem dX11_law_16 : decode cX11_law 16 = .ok (.getfield 10, 3) := by decide +kernel
theorem dX11_law_19 : decode cX11_law 19 = .ok (.getfield 204, 3) := by decide +kernel
theorem dX11_law_22 : decode cX11_law 22 = .ok (.bipush 6, 2) := by decide +kernel
theorem dX11_law_24 : decode cX11_law 24 = .ok (.if_icmp .lt 10, 3) := by decide +kernel
theorem dX11_law_27 : decode cX11_law 27 = .ok (.aload_n 0, 1) := by decide +kernel
theorem dX11_law_28 : decode cX11_law 28 = .ok (.bipush (-5), 2) := by decide +kernel
theorem dX11_law_30 : decode cX11_law 30 = .ok (.invokevirtual 114, 3) := by decide +kernel
theorem dX11_law_33 : decode cX11_law 33 = .ok (.ireturn, 1) := by decide +kernel
theorem dX11_law_34 : decode cX11_law 34 = .ok (.aload_n 0, 1) := by decide +kernel
theorem dX11_law_35 : decode cX11_law 35 = .ok (.aload_n 0, 1) := by decide +kernel
theorem dX11_law_36 : decode cX11_law 36 = .ok (.getfield 44, 3) := by decide +kernel
theorem dX11_law_39 : decode cX11_law 39 = .ok (.aload_n 0, 1) := by decide +kernel
theorem dX11_law_40 : decode cX11_law 40 = .ok (.getfield 86, 3) := by decide +kernel
theorem dX11_law_43 : decode cX11_law 43 = .ok (.iload_n 1, 1) := by decide +kernel
theorem dX11_law_44 : decode cX11_law 44 = .ok (.iconst 0, 1) := by decide +kernel
theorem dX11_law_45 : decode cX11_law 45 = .ok (.invokevirtual 207, 3) := by decide +kernel
theorem dX11_law_48 : decode cX11_law 48 = .ok (.putfield 98, 3) := by decide +kernel
theorem dX11_law_51 : decode cX11_law 51 = .ok (.aload_n 0, 1) := by decide +kernel
theorem dX11_law_52 : decode cX11_law 52 = .ok (.getfield 98, 3) := by decide +kernel
theorem dX11_law_55 : decode cX11_law 55 = .ok (.iconst (-1), 1) := by decide +kernel
theorem dX11_law_56 : decode cX11_law 56 = .ok (.if_icmp .eq 10, 3) := by decide +kernel
theorem dX11_law_59 : decode cX11_law 59 = .ok (.aload_n 0, 1) := by decide +kernel
theorem dX11_law_60 : decode cX11_law 60 = .ok (.bipush (-6), 2) := by decide +kernel
theorem dX11_law_62 : decode cX11_law 62 = .ok (.invokevirtual 114, 3) := by decide +kernel
theorem dX11_law_65 : decode cX11_law 65 = .ok (.ireturn, 1) := by decide +kernel
theorem dX11_law_66 : decode cX11_law 66 = .ok (.aload_n 0, 1) := by decide +kernel
theorem dX11_law_67 : decode cX11_law 67 = .ok (.getfield 10, 3) := by decide +kernel
theorem dX11_law_70 : decode cX11_law 70 = .ok (.getfield 204, 3) := by decide +kernel
theorem dX11_law_73 : decode cX11_law 73 = .ok (.istore_n 2, 1) := by decide +kernel
theorem dX11_law_74 : decode cX11_law 74 = .ok (.aload_n 0, 1) := by decide +kernel
theorem dX11_law_75 : decode cX11_law 75 = .ok (.getfield 10, 3) := by decide +kernel
theorem dX11_law_78 : decode cX11_law 78 = .ok (.getfield 211, 3) := by decide +kernel
theorem dX11_law_81 : decode cX11_law 81 = .ok (.iload_n 2, 1) := by decide +kernel
theorem dX11_law_82 : decode cX11_law 82 = .ok (.aload_n 0, 1) := by decide +kernel
theorem dX11_law_83 : decode cX11_law 83 = .ok (.getfield 44, 3) := by decide +kernel
theorem dX11_law_86 : decode cX11_law 86 = .ok (.getfield 215, 3) := by decide +kernel
theorem dX11_law_89 : decode cX11_law 89 = .ok (.invokevirtual 219, 3) := by decide +kernel
theorem dX11_law_92 : decode cX11_law 92 = .ok (.aastore, 1) := by decide +kernel
theorem dX11_law_93 : decode cX11_law 93 = .ok (.aload_n 0, 1) := by decide +kernel
theorem dX11_law_94 : decode cX11_law 94 = .ok (.getfield 10, 3) := by decide +kernel
theorem dX11_law_97 : decode cX11_law 97 = .ok (.iload_n 2, 1) := by decide +kernel
theorem dX11_law_98 : decode cX11_law 98 = .ok (.iconst 1, 1) := by decide +kernel
theorem dX11_law_99 : decode cX11_law 99 = .ok (.iadd, 1) := by decide +kernel
theorem dX11_law_100 : decode cX11_law 100 = .ok (.putfield 204, 3) := by decide +kernel
theorem dX11_law_103 : decode cX11_law 103 = .ok (.aload_n 0, 1) := by decide +kernel
theorem dX11_law_104 : decode cX11_law 104 = .ok (.iload_n 2, 1) := by decide +kernel
theorem dX11_law_105 : decode cX11_law 105 = .ok (.invokevirtual 225, 3) := by decide +kernel
theorem dX11_law_108 : decode cX11_law 108 = .ok (.ireturn, 1) := by decide +kernel
theorem wt4_65 : Cond.code yX10_copy cX10_copy 2 (some (.object "SunriseRoof$Text")) ∈ kG := kt4 65 rfl rfl
theorem wt1_148 : Cond.fieldLink RX11 211 "SunriseRoof$Site" "laws" "[LSunriseRoof$Text;" ∈ kG := kt1 148 rfl rfl
theorem wt4_62 : Cond.methodLink RX11 219 yX10_copy ∈ kG := kt4 62 rfl rfl
theorem wt4_63 : Cond.instanceMethod yX10_copy ∈ kG := kt4 63 rfl rfl
theorem wt4_64 : Cond.selects RX10 yX10_copy yX10_copy ∈ kG := kt4 64 rfl rfl
set_option maxHeartbeats 4000000 in
set_option maxRecDepth 100000 in
theorem x_11_law  (l : Launch) {D : va_G} {K : Nat → ClassId} (r : Nat → Nat) (f : Nat → Int32) (a : Nat → Nat → Int32) (g : xG) (tx tt : va_W) (hT : ∀ c ∈ tt, c ∈ tx) (hI : xI f a) (hG : gOK K g.2 tt)     : kIG l yX11_law (Cond.code yX11_law cX11_law 3 (some .int) :: kG) (rmD 29 5 467) D K [.ref (r 0)] (xX K r f a g tx) (fun v (u : xS × va_W) => kb (-2147483648) v 2147483647 ∧ xI u.1.1 u.1.2.1 ∧ gOK K u.1.2.2.2 (u.2 ++ tt) ∧ xEk [14, 32, 38, 44, 50, 832, 838, 844, 849, 850] f a g u.1.1 u.1.2.1 u.1.2.2 ∧ (u.2 = [] ∨ ∃ t : tX, u.2 = tW K t) ∧ u.1.1 12 = 0 ∧ lawPx (a 93) (f 12) v (f 49) (u.1.1 49) (f 13) (u.1.1 13)) (fun u => xX K r u.1.1 u.1.2.1 u.1.2.2 (u.2 ++ tx)) 5 467 := by
  refine kIE.of (cc := cX11_law) (maxL := 3) (ret := (some .int)) (by decide) rfl (Nat.le_of_ble_eq_true rfl) ?_
  intro p e s m below meth c A hx hb hr hml hown hts hlocks hnm hK hP hD hS hA hV ls hl
  have hE : xEk [14, 32, 38, 44, 50, 832, 838, 844, 849, 850] f a g f a g := xEk_rf
  have hg : ∀ w ∈ kG, w.before _ s = true := fun w h => hts w (List.mem_cons_of_mem _ h)
  have hown : s.vm.findClass RX11 = some m.cls := hown
  have hl : lv_has ls 3 [(0, .ref (r 0))] := hl
  obtain ⟨c12, ec12⟩ : ∃ z : Int32, z = f 12 := ⟨_, rfl⟩
  have b1 : kb 0 c12 400 := kb_eq ec12 (fI_at hI.1 12 (by decide) (by decide))
  obtain ⟨S, hSd⟩ : ∃ z : Nat, z = (f 12).toInt.toNat := ⟨_, rfl⟩
  have hcS : c12.toInt = (S : Int) := by have w1 := (b1).1; rw [hSd, ← ec12]; omega
  obtain ⟨c13, ec13⟩ : ∃ z : Int32, z = f 13 := ⟨_, rfl⟩
  obtain ⟨c49, ec49⟩ : ∃ z : Int32, z = f 49 := ⟨_, rfl⟩
  refine lv_aload_n hx hb dX11_law_0 rfl (lv_at hl 0 rfl) ?_
  refine kIG.callW (As := []) (rest := []) ⟨hx, hb, hml, hown, hg⟩ (x_11_emptyTape l r f a g tx tt hT hI hG   ) (cwV 0 hg (kgV wt3_137 wt3_139 wp1_7 wt1_1 wt3_140) rfl rfl rfl (by decide +kernel) ⟨by decide, by decide⟩) hV hK hP hD hS hA (0) 11 rfl rfl rfl hl.1 rfl (Nat.le_of_ble_eq_true rfl) dX11_law_1 ⟨by decide, by decide⟩ (fun v3 u4 H locs hw2 hP hD hS => ?_)
  obtain ⟨f5, a6, g7⟩ := u4
  have hP : va_P D vwCl (xX K r f5 a6 g7 tx) H := hP
  have hD : va_D A (xX K r f5 a6 g7 tx) := hD
  have hI : xI f5 a6 := hw2.2.1
  have hG : gOK K g7.2 tt := hw2.2.2.1
  have eE8 : xEk [13, 14, 32, 38, 44, 49, 50, 832, 838, 844, 849, 850] f a g f5 a6 g7 := hw2.2.2.2.1
  have hE : xEk [14, 32, 38, 44, 50, 832, 838, 844, 849, 850] f a g f5 a6 g7 := xEk_tr hE (xEk_w (by decide) eE8)
  refine k_top (z := c12) (hw2.2.2.2.2.2.trans ec12.symm) ?_
  have hk12 : f5 12 = 0 := hw2.2.2.2.2.1
  have hk0 := hk12
  refine lv_istore_n (lv' := [(1, .int c12), (0, .ref (r 0))]) hx hb dX11_law_4 rfl hl (by decide) rfl (fun ls hl => ?_)
  refine lv_aload_n hx hb dX11_law_5 rfl (lv_at hl 1 rfl) ?_
  refine va_get (D := D) (ci := 11) (v := .ref (r 1)) (C := RX11) (T := TX11) (N := 17) hx hb hg inC11 hown hK hP 0 rfl rfl 0 (by decide) (hg _ wt2_186) (fun _ h9 => h9) rfl dX11_law_6 ?_
  refine va_get (D := D) (ci := 7) (v := .int (f5 49)) (C := RX7) (T := TX7) (N := 20) hx hb hg inC7 hown hK hP 1 rfl rfl 17 (by decide) (hg _ wt1_150) (fun _ h9 => h9) rfl dX11_law_9 ?_
  refine k_top (z := c49) ((eE8.1 49 rfl).trans ec49.symm) ?_
  refine lv_if_lt (tgt := 27) hx hb dX11_law_12 (by decide) (fun c9 => ?_) (fun c9 => ?_)
  · have h10 := (kc_lt c9)
    have b11 : kb (-2147483648) c49 (-1) := kr_lt1 h10 (kb_any c49) kc_0 (by decide)
    refine lv_aload_n hx hb dX11_law_27 rfl (lv_at hl 1 rfl) ?_
    refine lv_bipush (v := (-5)) hx hb dX11_law_28 (by decide) ?_
    refine kIG.callW (As := [.int (-5)]) (rest := []) ⟨hx, hb, hml, hown, hg⟩ (x_11_refuse l r f5 a6 g7 tx tt hT hI hG (-5)  ) (cwV 1 hg (kgV wt3_7 wt3_9 wp1_0 wt1_1 wt3_10) rfl rfl rfl (by decide +kernel) ⟨by decide, by decide⟩) hV hK hP hD hS hA (0) 11 rfl rfl rfl hl.1 rfl (Nat.le_of_ble_eq_true rfl) dX11_law_30 ⟨by decide, by decide⟩ (fun v13 u14 H locs hw12 hP hD hS => ?_)
    obtain ⟨f15, a16, g17⟩ := u14
    have hP : va_P D vwCl (xX K r f15 a16 g17 tx) H := hP
    have hD : va_D A (xX K r f15 a16 g17 tx) := hD
    have hI : xI f15 a16 := hw12.2.1
    have hG : gOK K g17.2 tt := hw12.2.2.1
    have eE18 : xEk [12, 13, 14, 32, 38, 44, 49, 50, 832, 838, 844, 849, 850] f5 a6 g7 f15 a16 g17 := hw12.2.2.2.1
    have hE : xEk [14, 32, 38, 44, 50, 832, 838, 844, 849, 850] f a g f15 a16 g17 := xEk_tr hE (xEk_w (by decide) eE18)
    have hk0 : f15 12 = 0 := (eE18.1 12 rfl).trans hk0
    refine k_top (z := (-5)) hw12.2.2.2.2 ?_
    refine W.widen (k := 5) (n := 467) (by decide) (by decide) ?_
    exact kI_ret (v := (-5)) hx hb hr hlocks rfl hK hS dX11_law_33 ((f15, a16, g17), ([] : va_W)) hP hD ⟨(kb_w kc_m5 (by decide) (by decide)), hI, hG, hE, (Or.inl rfl), hk0, (show lawPx (a 93) (f 12) (-5) (f 49) (f15 49) (f 13) (f15 13) from Or.inl ⟨(by rw [← ec49]; have w1 := (b11).1; have w2 := (b11).2; omega), rfl, (((eE18.1 49 rfl).trans ((eE8.1 49 rfl).trans ec49.symm))).trans ec49, (((eE18.1 13 rfl).trans ((eE8.1 13 rfl).trans ec13.symm))).trans ec13⟩)⟩
  · have h19 := (kc_nlt c9)
    have b20 : kb 0 c49 2147483647 := kr_le2 h19 kc_0 (kb_any c49)
    refine lv_aload_n hx hb dX11_law_15 rfl (lv_at hl 1 rfl) ?_
    refine va_get (D := D) (ci := 11) (v := .ref (r 1)) (C := RX11) (T := TX11) (N := 17) hx hb hg inC11 hown hK hP 0 rfl rfl 0 (by decide) (hg _ wt2_186) (fun _ h9 => h9) rfl dX11_law_16 ?_
    refine va_get (D := D) (ci := 7) (v := .int (f5 49)) (C := RX7) (T := TX7) (N := 20) hx hb hg inC7 hown hK hP 1 rfl rfl 17 (by decide) (hg _ wt1_150) (fun _ h9 => h9) rfl dX11_law_19 ?_
    refine k_top (z := c49) ((eE8.1 49 rfl).trans ec49.symm) ?_
    refine lv_bipush (v := 6) hx hb dX11_law_22 (by decide) ?_
    refine lv_icmp_lt (tgt := 34) hx hb dX11_law_24 (by decide) (fun c21 => ?_) (fun c21 => ?_)
    · have h22 := (kc_lt c21)
      have b23 : kb 0 c49 5 := kr_lt1 h22 b20 kc_6 (by decide)
      refine lv_aload_n hx hb dX11_law_34 rfl (lv_at hl 1 rfl) ?_
      refine lv_aload_n hx hb dX11_law_35 rfl (lv_at hl 1 rfl) ?_
      refine va_get (D := D) (ci := 11) (v := .ref (r 50)) (C := RX11) (T := TX11) (N := 17) hx hb hg inC11 hown hK hP 0 rfl rfl 4 (by decide) (hg _ wt2_190) (fun _ h9 => h9) rfl dX11_law_36 ?_
      refine lv_aload_n hx hb dX11_law_39 rfl (lv_at hl 1 rfl) ?_
      refine va_get (D := D) (ci := 11) (v := .ref (r 93)) (C := RX11) (T := TX11) (N := 17) hx hb hg inC11 hown hK hP 0 rfl rfl 10 (by decide) (hg _ wt2_196) (fun _ h9 => h9) rfl dX11_law_40 ?_
      refine lv_iload_n hx hb dX11_law_43 rfl (lv_at hl 0 rfl) ?_
      refine lv_iconst (v := 0) hx hb dX11_law_44 (by decide) ?_
      refine kIG.callW (As := [.ref (r 93), .int c12, .int 0]) (rest := [.ref (r 0)]) ⟨hx, hb, hml, hown, hg⟩ (y_read l r f5 a6 g7 tx tt hT hI hG c12 0 b1 (kb_w kc_0 (by decide) (by decide)) S false hcS (if_neg (by decide)).symm) (cwV 3 hg (kgV wt3_153 wt3_154 wt3_155 wt1_7 wt3_156) rfl rfl rfl (by decide +kernel) ⟨by decide, by decide⟩) hV hK hP hD hS hA (50) 4 rfl rfl rfl hl.1 rfl (Nat.le_of_ble_eq_true rfl) dX11_law_45 ⟨by decide, by decide⟩ (fun v25 u26 H locs hw24 hP hD hS => ?_)
      obtain ⟨f27, a28, g29⟩ := u26
      have hP : va_P D vwCl (xX K r f27 a28 g29 tx) H := hP
      have hD : va_D A (xX K r f27 a28 g29 tx) := hD
      have hI : xI f27 a28 := hw24.2.1
      have hG : gOK K g29.2 tt := hw24.2.2.1
      have eE30 : xEk [12, 13, 14, 32, 38, 44, 49, 50, 832, 838, 844, 849, 850] f5 a6 g7 f27 a28 g29 := hw24.2.2.2.1
      have hE : xEk [14, 32, 38, 44, 50, 832, 838, 844, 849, 850] f a g f27 a28 g29 := xEk_tr hE (xEk_w (by decide) eE30)
      have hk0 : f27 12 = 0 := (eE30.1 12 rfl).trans hk0
      obtain ⟨bR, hR0⟩ := hw24.2.2.2.2
      have htx : txR false (a 93) S bR v25 := by have w1 := hR0; rw [show a6 93 = a 93 from (eE30.2.1).symm.trans hE.2.1] at w1; exact w1
      refine va_put (D := D) (ci := 11) (v := .int v25) (ty := .int) (C := RX11) (T := TX11) (N := 17) hx hb hg inC11 tyX11 tyX11_ok nmX11 hown hK hP hD hS 0 rfl rfl 13 (by decide) (hg _ wt2_199) (fun _ h9 => h9) rfl (by decide +kernel) rfl rfl (Nat.le_of_ble_eq_true rfl) dX11_law_48 (fun H locs hP hD hS => ?_)
      have hP : va_P D vwCl (xX K r (upd f27 13 v25) a28 g29 tx) H := hP
      have hD : va_D A (xX K r (upd f27 13 v25) a28 g29 tx) := hD
      refine k_gen (P := fun z => va_P D vwCl (xX K r z a28 g29 tx) H ∧ va_D A (xX K r z a28 g29 tx) ∧ (xI z a28) ∧ (gOK K g29.2 tt) ∧ (xEk [14, 32, 38, 44, 50, 832, 838, 844, 849, 850] f a g z a28 g29) ∧ (z 12 = 0)) (upd f27 13 v25) ⟨hP, hD, (xI_f hI (fI_st hI.1 13 (kb_any _) (by decide) (by decide))), hG, (xEk_f hE (by decide)), ((pk_un (by decide)).trans hk0)⟩ (fun f_31 ef_31 hq => ?_)
      obtain ⟨hP, hD, hI, hG, hE, hk0⟩ := hq
      refine lv_aload_n hx hb dX11_law_51 rfl (lv_at hl 1 rfl) ?_
      refine va_get (D := D) (ci := 11) (v := .int (f_31 13)) (C := RX11) (T := TX11) (N := 17) hx hb hg inC11 hown hK hP 0 rfl rfl 13 (by decide) (hg _ wt2_199) (fun _ h9 => h9) rfl dX11_law_52 ?_
      refine k_top (z := v25) (show f_31 13 = v25 from by rw [← ef_31]; rfl) ?_
      refine lv_iconst (v := (-1)) hx hb dX11_law_55 (by decide) ?_
      refine lv_icmp_eq (tgt := 66) hx hb dX11_law_56 (by decide) (fun c32 => ?_) (fun c32 => ?_)
      · have b33 : kb (-1) v25 (-1) := kb_eq c32 kc_m1
        refine lv_aload_n hx hb dX11_law_66 rfl (lv_at hl 1 rfl) ?_
        refine va_get (D := D) (ci := 11) (v := .ref (r 1)) (C := RX11) (T := TX11) (N := 17) hx hb hg inC11 hown hK hP 0 rfl rfl 0 (by decide) (hg _ wt2_186) (fun _ h9 => h9) rfl dX11_law_67 ?_
        refine va_get (D := D) (ci := 7) (v := .int (f_31 49)) (C := RX7) (T := TX7) (N := 20) hx hb hg inC7 hown hK hP 1 rfl rfl 17 (by decide) (hg _ wt1_150) (fun _ h9 => h9) rfl dX11_law_70 ?_
        refine k_top (z := c49) ((show f_31 49 = f27 49 from by rw [← ef_31]; rfl).trans ((eE30.1 49 rfl).trans ((eE8.1 49 rfl).trans ec49.symm))) ?_
        refine lv_istore_n (lv' := [(2, .int c49), (1, .int c12), (0, .ref (r 0))]) hx hb dX11_law_73 rfl hl (by decide) rfl (fun ls hl => ?_)
        refine lv_aload_n hx hb dX11_law_74 rfl (lv_at hl 2 rfl) ?_
        refine va_get (D := D) (ci := 11) (v := .ref (r 1)) (C := RX11) (T := TX11) (N := 17) hx hb hg inC11 hown hK hP 0 rfl rfl 0 (by decide) (hg _ wt2_186) (fun _ h9 => h9) rfl dX11_law_75 ?_
        refine va_get (D := D) (ci := 7) (v := .ref (r 15)) (C := RX7) (T := TX7) (N := 20) hx hb hg inC7 hown hK hP 1 rfl rfl 16 (by decide) (hg _ wt1_148) (fun _ h9 => h9) rfl dX11_law_78 ?_
        refine lv_iload_n hx hb dX11_law_81 rfl (lv_at hl 0 rfl) ?_
        refine lv_aload_n hx hb dX11_law_82 rfl (lv_at hl 2 rfl) ?_
        refine va_get (D := D) (ci := 11) (v := .ref (r 50)) (C := RX11) (T := TX11) (N := 17) hx hb hg inC11 hown hK hP 0 rfl rfl 4 (by decide) (hg _ wt2_190) (fun _ h9 => h9) rfl dX11_law_83 ?_
        refine va_get (D := D) (ci := 4) (v := .ref (r 51)) (C := RX4) (T := TX4) (N := 7) hx hb hg inC4 hown hK hP 50 rfl rfl 0 (by decide) (hg _ wt2_65) (fun _ h9 => h9) rfl dX11_law_86 ?_
        refine kRG.callW (As := []) (rest := [.int c49, .ref (r 15)]) ⟨hx, hb, hml, hown, hg⟩ (x_10_copy l r f_31 a28 g29 tx hI) (cwV 0 hg (kgV wt4_62 wt4_63 wt4_64 wt1_8 wt4_65) rfl rfl rfl (by decide +kernel) ⟨by decide, by decide⟩) hV hK hP hD hS hA 51 10 rfl rfl rfl hl.1 rfl (Nat.le_of_ble_eq_true rfl) dX11_law_89 ⟨by decide, by decide⟩ (fun tn H locs hw hP hD hS => ?_)
        have hP : va_P D vwCl (xX K r f_31 a28 g29 (tW K tn ++ tx)) H := va_P_pm xX_in hP
        have hD : va_D A (xX K r f_31 a28 g29 (tW K tn ++ tx)) := va_D_pm xX_in hD
        have htn : tIn K (tW K tn ++ tt) tn := ⟨hw.1, fun c hc => List.mem_append_left _ hc, hw.2.1, hw.2.2⟩
        have hG : gOK K g29.2 (tW K tn ++ tt) := gOK_w (fun c hc => List.mem_append_right _ hc) hG
        have hT : ∀ c ∈ tW K tn ++ tt, c ∈ tW K tn ++ tx := fun c hc => (List.mem_append.mp hc).elim (fun h => List.mem_append_left _ h) (fun h => List.mem_append_right _ (hT c h))
        obtain ⟨jtn_0, hjtn_0⟩ := tIn_at (tIn_w hT htn) (k := 0) rfl
        obtain ⟨jtn_1, hjtn_1⟩ := tIn_at (tIn_w hT htn) (k := 1) rfl
        obtain ⟨jtn_2, hjtn_2⟩ := tIn_at (tIn_w hT htn) (k := 2) rfl
        obtain ⟨jtn_3, hjtn_3⟩ := tIn_at (tIn_w hT htn) (k := 3) rfl
        obtain ⟨jtn_4, hjtn_4⟩ := tIn_at (tIn_w hT htn) (k := 4) rfl
        have hntn : (nI tn.2.2.2).toInt = (tn.2.2.2 : Int) := kn_to (by have w1 := htn.1; omega)
        refine va_astq hx hb hK hP hD hS 15 5 (jtn_0 + 95) 10 rfl rfl hjtn_0 rfl (kb_in b23 (by decide) (by decide)) dX11_law_92 (fun H locs hP hD hS => ?_)
        have hP : va_P D vwCl (xX K r f_31 a28 (g29.1, va_up g29.2 15 (va_up (g29.2 15) c49.toNatClampNeg (some (tn.1 0)))) (tW K tn ++ tx)) H := hP
        have hD : va_D A (xX K r f_31 a28 (g29.1, va_up g29.2 15 (va_up (g29.2 15) c49.toNatClampNeg (some (tn.1 0)))) (tW K tn ++ tx)) := hD
        refine k_gen (P := fun z => va_P D vwCl (xX K r f_31 a28 z (tW K tn ++ tx)) H ∧ va_D A (xX K r f_31 a28 z (tW K tn ++ tx)) ∧ (xI f_31 a28) ∧ (gOK K z.2 (tW K tn ++ tt)) ∧ (xEk [14, 32, 38, 44, 50, 832, 838, 844, 849, 850] f a g f_31 a28 z) ∧ (f_31 12 = 0)) ((g29.1, va_up g29.2 15 (va_up (g29.2 15) c49.toNatClampNeg (some (tn.1 0))))) ⟨hP, hD, hI, (gOK_n hG _ _ _ (Or.inr ⟨_, htn, rfl⟩)), (xEk_q hE (by decide)), hk0⟩ (fun g_34 eg_34 hq => ?_)
        obtain ⟨hP, hD, hI, hG, hE, hk0⟩ := hq
        refine lv_aload_n hx hb dX11_law_93 rfl (lv_at hl 2 rfl) ?_
        refine va_get (D := D) (ci := 11) (v := .ref (r 1)) (C := RX11) (T := TX11) (N := 17) hx hb hg inC11 hown hK hP 0 rfl rfl 0 (by decide) (hg _ wt2_186) (fun _ h9 => h9) rfl dX11_law_94 ?_
        refine lv_iload_n hx hb dX11_law_97 rfl (lv_at hl 0 rfl) ?_
        refine lv_iconst (v := 1) hx hb dX11_law_98 (by decide) ?_
        refine lv_iadd hx hb dX11_law_99 ?_
        refine lv_topi (fun t35 et35 => ?_)
        have b36 : kb 1 t35 6 := kb_eq et35 (kb_add b23 kc_1 (by decide) (by decide))
        have qt35 : t35.toInt = c49.toInt + 1 := by rw [et35]; exact kt_addc b23 kc_1 (by decide) (by decide)
        refine va_put (D := D) (ci := 7) (v := .int t35) (ty := .int) (C := RX7) (T := TX7) (N := 20) hx hb hg inC7 tyX7 tyX7_ok nmX7 hown hK hP hD hS 1 rfl rfl 17 (by decide) (hg _ wt1_150) (fun _ h9 => h9) rfl (by decide +kernel) rfl rfl (Nat.le_of_ble_eq_true rfl) dX11_law_100 (fun H locs hP hD hS => ?_)
        have hP : va_P D vwCl (xX K r (upd f_31 49 t35) a28 g_34 (tW K tn ++ tx)) H := hP
        have hD : va_D A (xX K r (upd f_31 49 t35) a28 g_34 (tW K tn ++ tx)) := hD
        refine k_gen (P := fun z => va_P D vwCl (xX K r z a28 g_34 (tW K tn ++ tx)) H ∧ va_D A (xX K r z a28 g_34 (tW K tn ++ tx)) ∧ (xI z a28) ∧ (gOK K g_34.2 (tW K tn ++ tt)) ∧ (xEk [14, 32, 38, 44, 50, 832, 838, 844, 849, 850] f a g z a28 g_34) ∧ (z 12 = 0)) (upd f_31 49 t35) ⟨hP, hD, (xI_f hI (fI_st hI.1 49 (kb_any _) (by decide) (by decide))), hG, (xEk_f hE (by decide)), ((pk_un (by decide)).trans hk0)⟩ (fun f_37 ef_37 hq => ?_)
        obtain ⟨hP, hD, hI, hG, hE, hk0⟩ := hq
        refine lv_aload_n hx hb dX11_law_103 rfl (lv_at hl 2 rfl) ?_
        refine lv_iload_n hx hb dX11_law_104 rfl (lv_at hl 0 rfl) ?_
        refine kIG.callW (As := [.int c49]) (rest := []) ⟨hx, hb, hml, hown, hg⟩ (x_11_agree l r f_37 a28 g_34 (tW K tn ++ tx) (tW K tn ++ tt) hT hI hG c49  ) (cwV 1 hg (kgV wt3_27 wt3_29 wp1_2 wt1_1 wt3_30) rfl rfl rfl (by decide +kernel) ⟨by decide, by decide⟩) hV hK hP hD hS hA (0) 11 rfl rfl rfl hl.1 rfl (Nat.le_of_ble_eq_true rfl) dX11_law_105 ⟨by decide, by decide⟩ (fun v39 u40 H locs hw38 hP hD hS => ?_)
        obtain ⟨f41, a42, g43⟩ := u40
        have hP : va_P D vwCl (xX K r f41 a42 g43 (tW K tn ++ tx)) H := hP
        have hD : va_D A (xX K r f41 a42 g43 (tW K tn ++ tx)) := hD
        have hI : xI f41 a42 := hw38.2.1
        have hG : gOK K g43.2 (tW K tn ++ tt) := hw38.2.2.1
        have eE44 : xEk [12, 13, 14, 32, 38, 44, 49, 50, 832, 838, 844, 849, 850] f_37 a28 g_34 f41 a42 g43 := hw38.2.2.2.1
        have hE : xEk [14, 32, 38, 44, 50, 832, 838, 844, 849, 850] f a g f41 a42 g43 := xEk_tr hE (xEk_w (by decide) eE44)
        have hk0 : f41 12 = 0 := (eE44.1 12 rfl).trans hk0
        refine k_top (z := c49) hw38.2.2.2.2 ?_
        refine W.widen (k := 5) (n := 467) (by decide) (by decide) ?_
        exact kI_ret (v := c49) hx hb hr hlocks rfl hK hS dX11_law_108 ((f41, a42, g43), tW K tn) hP hD ⟨(kb_w b23 (by decide) (by decide)), hI, hG, hE, (Or.inr ⟨tn, rfl⟩), hk0, (show lawPx (a 93) (f 12) c49 (f 49) (f41 49) (f 13) (f41 13) from Or.inr ⟨(by rw [← ec49]; exact ⟨(b23).1, (b23).2⟩), bR, (by rw [((eE44.1 13 rfl).trans ((show f_37 13 = f_31 13 from by rw [← ef_37]; rfl).trans (show f_31 13 = v25 from by rw [← ef_31]; rfl))), ← hSd]; exact htx), Or.inr ⟨txR_y htx (by have w1 := (b1).2; omega) c32, ec49, (by rw [((eE44.1 49 rfl).trans (show f_37 49 = t35 from by rw [← ef_37]; rfl)), ← ec49]; have w1 := qt35; omega)⟩⟩)⟩
      · refine lv_aload_n hx hb dX11_law_59 rfl (lv_at hl 1 rfl) ?_
        refine lv_bipush (v := (-6)) hx hb dX11_law_60 (by decide) ?_
        refine kIG.callW (As := [.int (-6)]) (rest := []) ⟨hx, hb, hml, hown, hg⟩ (x_11_refuse l r f_31 a28 g29 tx tt hT hI hG (-6)  ) (cwV 1 hg (kgV wt3_7 wt3_9 wp1_0 wt1_1 wt3_10) rfl rfl rfl (by decide +kernel) ⟨by decide, by decide⟩) hV hK hP hD hS hA (0) 11 rfl rfl rfl hl.1 rfl (Nat.le_of_ble_eq_true rfl) dX11_law_62 ⟨by decide, by decide⟩ (fun v46 u47 H locs hw45 hP hD hS => ?_)
        obtain ⟨f48, a49, g50⟩ := u47
        have hP : va_P D vwCl (xX K r f48 a49 g50 tx) H := hP
        have hD : va_D A (xX K r f48 a49 g50 tx) := hD
        have hI : xI f48 a49 := hw45.2.1
        have hG : gOK K g50.2 tt := hw45.2.2.1
        have eE51 : xEk [12, 13, 14, 32, 38, 44, 49, 50, 832, 838, 844, 849, 850] f_31 a28 g29 f48 a49 g50 := hw45.2.2.2.1
        have hE : xEk [14, 32, 38, 44, 50, 832, 838, 844, 849, 850] f a g f48 a49 g50 := xEk_tr hE (xEk_w (by decide) eE51)
        have hk0 : f48 12 = 0 := (eE51.1 12 rfl).trans hk0
        refine k_top (z := (-6)) hw45.2.2.2.2 ?_
        refine W.widen (k := 5) (n := 467) (by decide) (by decide) ?_
        exact kI_ret (v := (-6)) hx hb hr hlocks rfl hK hS dX11_law_65 ((f48, a49, g50), ([] : va_W)) hP hD ⟨(kb_w kc_m6 (by decide) (by decide)), hI, hG, hE, (Or.inl rfl), hk0, (show lawPx (a 93) (f 12) (-6) (f 49) (f48 49) (f 13) (f48 13) from Or.inr ⟨(by rw [← ec49]; exact ⟨(b23).1, (b23).2⟩), bR, (by rw [((eE51.1 13 rfl).trans (show f_31 13 = v25 from by rw [← ef_31]; rfl)), ← hSd]; exact htx), Or.inl ⟨txR_n htx c32, rfl, (((eE51.1 49 rfl).trans ((show f_31 49 = f27 49 from by rw [← ef_31]; rfl).trans ((eE30.1 49 rfl).trans ((eE8.1 49 rfl).trans ec49.symm))))).trans ec49⟩⟩)⟩
    · have h52 := (kc_nlt c21)
      have b53 : kb 6 c49 2147483647 := kr_le2 h52 kc_6 b20
      refine lv_aload_n hx hb dX11_law_27 rfl (lv_at hl 1 rfl) ?_
      refine lv_bipush (v := (-5)) hx hb dX11_law_28 (by decide) ?_
      refine kIG.callW (As := [.int (-5)]) (rest := []) ⟨hx, hb, hml, hown, hg⟩ (x_11_refuse l r f5 a6 g7 tx tt hT hI hG (-5)  ) (cwV 1 hg (kgV wt3_7 wt3_9 wp1_0 wt1_1 wt3_10) rfl rfl rfl (by decide +kernel) ⟨by decide, by decide⟩) hV hK hP hD hS hA (0) 11 rfl rfl rfl hl.1 rfl (Nat.le_of_ble_eq_true rfl) dX11_law_30 ⟨by decide, by decide⟩ (fun v55 u56 H locs hw54 hP hD hS => ?_)
      obtain ⟨f57, a58, g59⟩ := u56
      have hP : va_P D vwCl (xX K r f57 a58 g59 tx) H := hP
      have hD : va_D A (xX K r f57 a58 g59 tx) := hD
      have hI : xI f57 a58 := hw54.2.1
      have hG : gOK K g59.2 tt := hw54.2.2.1
      have eE60 : xEk [12, 13, 14, 32, 38, 44, 49, 50, 832, 838, 844, 849, 850] f5 a6 g7 f57 a58 g59 := hw54.2.2.2.1
      have hE : xEk [14, 32, 38, 44, 50, 832, 838, 844, 849, 850] f a g f57 a58 g59 := xEk_tr hE (xEk_w (by decide) eE60)
      have hk0 : f57 12 = 0 := (eE60.1 12 rfl).trans hk0
      refine k_top (z := (-5)) hw54.2.2.2.2 ?_
      refine W.widen (k := 5) (n := 467) (by decide) (by decide) ?_
      exact kI_ret (v := (-5)) hx hb hr hlocks rfl hK hS dX11_law_33 ((f57, a58, g59), ([] : va_W)) hP hD ⟨(kb_w kc_m5 (by decide) (by decide)), hI, hG, hE, (Or.inl rfl), hk0, (show lawPx (a 93) (f 12) (-5) (f 49) (f57 49) (f 13) (f57 13) from Or.inl ⟨(by rw [← ec49]; have w1 := (b53).1; have w2 := (b53).2; omega), rfl, (((eE60.1 49 rfl).trans ((eE8.1 49 rfl).trans ec49.symm))).trans ec49, (((eE60.1 13 rfl).trans ((eE8.1 13 rfl).trans ec13.symm))).trans ec13⟩)⟩
