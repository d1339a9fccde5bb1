set_option maxHeartbeats 4000000 in
set_option maxRecDepth 100000 in
theorem z_upMaskN  (l : Launch) {D : va_G} {K : Nat → ClassId} (r : Nat → Nat) (f : Nat → Int32) (a : Nat → Nat → Int32) (g : xG) (tx tt : va_W) (hT : ∀ c ∈ tt, c ∈ tx) (hI : xI f a) (hG : gOK K g.2 tt)   (k : Nat → Int32) (hVw : sV 32 2 f a k) (hkk : kK k)   : kIG l yX7_upMask (Cond.code yX7_upMask cX7_upMask 3 (some .int) :: kG) (rmD 1 0 0) D K [.ref (r 1)] (xX K r f a g tx) (fun v (_ : Unit) => kb 0 v 1023 ∧ v = upM k) (fun _ => xX K r f a g tx) 0 0 := by
  refine kIE.of (cc := cX7_upMask) (maxL := 3) (ret := (some .int)) (by decide) rfl (Nat.le_of_ble_eq_true rfl) ?_
  intro p e s m below meth c A hx hb hr hml hown hts hlocks hnm hK hP hD hS hA hV ls hl
  have hg : ∀ w ∈ kG, w.before _ s = true := fun w h => hts w (List.mem_cons_of_mem _ h)
  have hown : s.vm.findClass RX7 = some m.cls := hown
  have hl : lv_has ls 3 [(0, .ref (r 1))] := hl
  refine lv_iconst (v := 0) hx hb dX7_upMask_0 (by decide) ?_
  refine lv_istore_n (lv' := [(1, .int 0), (0, .ref (r 1))]) hx hb dX7_upMask_1 rfl hl (by decide) rfl (fun ls hl => ?_)
  refine lv_iconst (v := 0) hx hb dX7_upMask_2 (by decide) ?_
  refine lv_istore_n (lv' := [(2, .int 0), (1, .int 0), (0, .ref (r 1))]) hx hb dX7_upMask_3 rfl hl (by decide) rfl (fun ls hl => ?_)
  have lp3 : ∀ (n4 : Nat) (nn : Nat) (H : Heap) (locs : List Loc) (ls : Array Slot) (y1 : Int32) (y2 : Int32), (10 < y1.toInt + (n4 : Int)) → (kb 0 y1 10) → (y1.toInt = (nn : Int)) → (y2 = nI (bM (upB k) nn)) → (nn ≤ kPn k) → va_P D vwCl (xX K r f a g tx) H → va_D A (xX K r f a g tx) → va_S A s.heap H locs → lv_has ls 3 [(2, .int y1), (1, .int y2), (0, .ref (r 1))] → W p l e (rmD 1 0 0) s m ([.ref (r 1)] : List Value).toArray below meth c H locs 0 0 (kQi D (tysK K) (fun v (_ : Unit) => kb 0 v 1023 ∧ v = upM k) (fun _ => xX K r f a g tx) A below ([.ref (r 1)] : List Value).toArray s 0 0) (F0 m 4 ls []) := by
    intro n4
    induction n4 with
    | zero =>
      intro nn  H locs ls y1 y2 hmlp3 b5 hvlp3_0 hvlp3_1 hvlp3_2 hP hD hS hl
      exact (by have h1 := b5.2; have h2 := hmlp3; omega : False).elim
    | succ n4 ihlp3 =>
      intro nn  H locs ls y1 y2 hmlp3 b5 hvlp3_0 hvlp3_1 hvlp3_2 hP hD hS hl
      have hnn : y1 = nI nn := nI_q hvlp3_0
      have hmm := hvlp3_1
      refine lv_iload_n hx hb dX7_upMask_4 rfl (lv_at hl 0 rfl) ?_
      refine lv_aload_n hx hb dX7_upMask_5 rfl (lv_at hl 2 rfl) ?_
      refine va_get (D := D) (ci := 7) (v := .int (f 32)) (C := RX7) (T := TX7) (N := 20) hx hb hg inC7 hown hK hP 1 rfl rfl 0 (by decide) (hg _ wt1_79) (fun _ h9 => h9) rfl dX7_upMask_6 ?_
      refine lv_topi (fun t6 et6 => ?_)
      have b7 : kb 0 t6 10 := kb_eq et6 (fI_at hI.1 32 (by decide) (by decide))
      have kvt6 : t6 = k 102 := et6.trans ((sv_parts hVw))
      have kvit6 : t6.toInt = (k 102).toInt := congrArg Int32.toInt kvt6
      have b8 : kb 0 t6 10 := kb_eq kvt6 (kK_r hkk 102 _ _ (by decide) (by decide))
      refine lv_icmp_ge (tgt := 39) hx hb dX7_upMask_9 (by decide) (fun c9 => ?_) (fun c9 => ?_)
      · have h10 := (kc_le c9)
        refine lv_iload_n hx hb dX7_upMask_39 rfl (lv_at hl 1 rfl) ?_
        have b11 : kb 0 y2 1023 := kb_eq hmm (kb_nI (n := bM (upB k) nn) (N := 1023) (by have w1 := bM_10 (upB k) (n := nn) (by have w2 := hvlp3_2; have w3 := (kPn_b hkk).1; omega); omega) (by decide))
        exact kI_ret (v := y2) hx hb hr hlocks rfl hK hS dX7_upMask_40 () hP hD ⟨b11, (by unfold upM; rw [← (show nn = kPn k by have w1 := hvlp3_0; have w3 := (kPn_b hkk).1; have w4 := (kPn_b hkk).2; have w5 := hvlp3_2; have w2 := kc_le c9; have w6 := kvit6; omega)]; exact hmm)⟩
      · have h12 := (kc_nle c9)
        have b13 : kb 0 y1 9 := kr_lt1 h12 b5 b8 (by decide)
        have b14 : kb 1 t6 10 := kr_lt2 h12 b5 b8 (by decide)
        refine lv_iload_n hx hb dX7_upMask_12 rfl (lv_at hl 0 rfl) ?_
        refine lv_bipush (v := 10) hx hb dX7_upMask_13 (by decide) ?_
        refine lv_icmp_ge (tgt := 39) hx hb dX7_upMask_15 (by decide) (fun c15 => ?_) (fun c15 => ?_)
        · have h16 := (kc_le c15)
          exact kb_no (kr_le1 h16 kc_10 b13) (by decide)
        · have h17 := (kc_nle c15)
          refine lv_aload_n hx hb dX7_upMask_18 rfl (lv_at hl 2 rfl) ?_
          refine va_get (D := D) (ci := 7) (v := .ref (r 6)) (C := RX7) (T := TX7) (N := 20) hx hb hg inC7 hown hK hP 1 rfl rfl 5 (by decide) (hg _ wt1_97) (fun _ h9 => h9) rfl dX7_upMask_19 ?_
          refine lv_iload_n hx hb dX7_upMask_22 rfl (lv_at hl 0 rfl) ?_
          refine va_iald hx hb hK hP 6 0 rfl rfl (kb_in b13 (by decide) (by decide)) dX7_upMask_23 ?_
          refine lv_topi (fun t18 et18 => ?_)
          have kvt18 : t18 = k (0 + y1.toNatClampNeg) := et18.trans ((sv_left hVw (kb_clt b13 (by decide) (by decide))))
          have b19 : kb 0 t18 99 := kb_eq et18 (et18 ▸ kb_eq kvt18 (kK_s hkk 0 10 _ _ (by decide) (by decide) (kb_clt b13 (by decide) (by decide))))
          refine lv_if_ne (tgt := 33) hx hb dX7_upMask_24 (by decide) (fun c20 => ?_) (fun c20 => ?_)
          · have b21 : kb 1 t18 99 := kr_nel c20 b19 kc_0 (by decide)
            obtain ⟨t22, et22⟩ : ∃ z : Int32, z = y1 + Int32.ofInt 1 := ⟨_, rfl⟩
            have qt22 : t22.toInt = y1.toInt + 1 := by rw [et22]; exact km_inc b13 (by decide) (by decide)
            have b23 : kb 1 t22 10 := kb_inc (k := 1) qt22 b13
            refine lv_iinc (v := t22) (lv' := [(2, .int t22), (1, .int y2), (0, .ref (r 1))]) hx hb dX7_upMask_33 hl (k := 0) rfl et22.symm (by decide) rfl (fun ls hl => ?_)
            refine lv_goto (tgt := 4) hx hb dX7_upMask_36 (by decide) ?_
            exact ihlp3 (nn + 1) _ _ _ t22 y2 (km_up hmlp3 qt22) (kb_w b23 (by decide) (by decide)) (by have w1 := hvlp3_0; have w2 := qt22; omega) (mk_n hmm (fun w9 => c20 ((show t18 = k (0 + nn) from by rw [kvt18, cl_nat hvlp3_0]).trans (of_decide_eq_true w9)))) (by have w1 := hvlp3_0; have w2 := kc_nle c9; have w3 := kvit6; have w4 := (kPn_b hkk).2; omega) hP hD hS (lv_sub hl [0, 1, 2] rfl)
          · have b24 : kb 0 t18 0 := kb_eq c20 kc_0
            refine lv_iload_n hx hb dX7_upMask_27 rfl (lv_at hl 1 rfl) ?_
            refine lv_iconst (v := 1) hx hb dX7_upMask_28 (by decide) ?_
            refine lv_iload_n hx hb dX7_upMask_29 rfl (lv_at hl 0 rfl) ?_
            refine lv_ishl hx hb dX7_upMask_30 ?_
            refine lv_topi (fun t25 et25 => ?_)
            have b26 : kb 1 t25 512 := kb_eq et25 (kb_shl (l := 0) (h := 9) b13 (by decide))
            refine lv_ior hx hb dX7_upMask_31 ?_
            refine lv_topi (fun t27 et27 => ?_)
            refine lv_istore_n (lv' := [(1, .int t27), (2, .int y1), (0, .ref (r 1))]) hx hb dX7_upMask_32 rfl hl (by decide) rfl (fun ls hl => ?_)
            obtain ⟨t28, et28⟩ : ∃ z : Int32, z = y1 + Int32.ofInt 1 := ⟨_, rfl⟩
            have qt28 : t28.toInt = y1.toInt + 1 := by rw [et28]; exact km_inc b13 (by decide) (by decide)
            have b29 : kb 1 t28 10 := kb_inc (k := 1) qt28 b13
            refine lv_iinc (v := t28) (lv' := [(2, .int t28), (1, .int t27), (0, .ref (r 1))]) hx hb dX7_upMask_33 hl (k := 1) rfl et28.symm (by decide) rfl (fun ls hl => ?_)
            refine lv_goto (tgt := 4) hx hb dX7_upMask_36 (by decide) ?_
            exact ihlp3 (nn + 1) _ _ _ t28 t27 (km_up hmlp3 qt28) (kb_w b29 (by decide) (by decide)) (by have w1 := hvlp3_0; have w2 := qt28; omega) (mk_y (by have w1 := hvlp3_0; have w2 := (b13).2; omega) hmm hnn et25 et27 (decide_eq_true ((show t18 = k (0 + nn) from by rw [kvt18, cl_nat hvlp3_0]).symm.trans c20))) (by have w1 := hvlp3_0; have w2 := kc_nle c9; have w3 := kvit6; have w4 := (kPn_b hkk).2; omega) hP hD hS (lv_sub hl [0, 1, 2] rfl)
  exact lp3 (11) 0 _ _ _ 0 0 (by have h1 := (kc_0); unfold kb at h1; omega) (kb_w kc_0 (by decide) (by decide)) (by decide +kernel) (rfl) (Nat.zero_le _) hP hD hS (lv_sub hl [0, 1, 2] rfl)
set_option maxHeartbeats 4000000 in
set_option maxRecDepth 100000 in
theorem z_readyMaskN  (l : Launch) {D : va_G} {K : Nat → ClassId} (r : Nat → Nat) (f : Nat → Int32) (a : Nat → Nat → Int32) (g : xG) (tx tt : va_W) (hT : ∀ c ∈ tt, c ∈ tx) (hI : xI f a) (hG : gOK K g.2 tt)   (k : Nat → Int32) (hVw : sV 32 2 f a k) (hkk : kK k)   : kIG l yX7_readyMask (Cond.code yX7_readyMask cX7_readyMask 4 (some .int) :: kG) (rmD 2 0 0) D K [.ref (r 1)] (xX K r f a g tx) (fun v (_ : Unit) => kb 0 v 1023 ∧ v = rdM k) (fun _ => xX K r f a g tx) 0 0 := by
  refine kIE.of (cc := cX7_readyMask) (maxL := 4) (ret := (some .int)) (by decide) rfl (Nat.le_of_ble_eq_true rfl) ?_
  intro p e s m below meth c A hx hb hr hml hown hts hlocks hnm hK hP hD hS hA hV ls hl
  have hg : ∀ w ∈ kG, w.before _ s = true := fun w h => hts w (List.mem_cons_of_mem _ h)
  have hown : s.vm.findClass RX7 = some m.cls := hown
  have hl : lv_has ls 4 [(0, .ref (r 1))] := hl
  refine lv_aload_n hx hb dX7_readyMask_0 rfl (lv_at hl 0 rfl) ?_
  refine kIG.callW (As := []) (rest := []) ⟨hx, hb, hml, hown, hg⟩ (z_upMaskN l r f a g tx tt hT hI hG   k hVw hkk ) (cwV 0 hg (kgV wt3_43 wt3_44 wt3_45 wt1_2 wt3_46) rfl rfl rfl (by decide +kernel) ⟨by decide, by decide⟩) hV hK hP hD hS hA (1) 7 rfl rfl rfl hl.1 rfl (Nat.le_of_ble_eq_true rfl) dX7_readyMask_1 ⟨Nat.le_refl _, Nat.le_refl _⟩ (fun v2 u3 H locs hw1 hP hD hS => ?_)
  have hP : va_P D vwCl (xX K r f a g tx) H := hP
  have hD : va_D A (xX K r f a g tx) := hD
  refine lv_istore_n (lv' := [(1, .int v2), (0, .ref (r 1))]) hx hb dX7_readyMask_4 rfl hl (by decide) rfl (fun ls hl => ?_)
  refine lv_iconst (v := 0) hx hb dX7_readyMask_5 (by decide) ?_
  refine lv_istore_n (lv' := [(2, .int 0), (1, .int v2), (0, .ref (r 1))]) hx hb dX7_readyMask_6 rfl hl (by decide) rfl (fun ls hl => ?_)
  refine lv_iconst (v := 0) hx hb dX7_readyMask_7 (by decide) ?_
  refine lv_istore_n (lv' := [(3, .int 0), (2, .int 0), (1, .int v2), (0, .ref (r 1))]) hx hb dX7_readyMask_8 rfl hl (by decide) rfl (fun ls hl => ?_)
  have lp6 : ∀ (n7 : Nat) (nn : Nat) (H : Heap) (locs : List Loc) (ls : Array Slot) (y4 : Int32) (y5 : Int32), (10 < y4.toInt + (n7 : Int)) → (kb 0 y4 10) → (y4.toInt = (nn : Int)) → (y5 = nI (bM (rdB k) nn)) → (nn ≤ kPn k) → va_P D vwCl (xX K r f a g tx) H → va_D A (xX K r f a g tx) → va_S A s.heap H locs → lv_has ls 4 [(3, .int y4), (2, .int y5), (1, .int v2), (0, .ref (r 1))] → W p l e (rmD 2 0 0) s m ([.ref (r 1)] : List Value).toArray below meth c H locs 0 0 (kQi D (tysK K) (fun v (_ : Unit) => kb 0 v 1023 ∧ v = rdM k) (fun _ => xX K r f a g tx) A below ([.ref (r 1)] : List Value).toArray s 0 0) (F0 m 9 ls []) := by
    intro n7
    induction n7 with
    | zero =>
      intro nn  H locs ls y4 y5 hmlp6 b8 hvlp6_0 hvlp6_1 hvlp6_2 hP hD hS hl
      exact (by have h1 := b8.2; have h2 := hmlp6; omega : False).elim
    | succ n7 ihlp6 =>
      intro nn  H locs ls y4 y5 hmlp6 b8 hvlp6_0 hvlp6_1 hvlp6_2 hP hD hS hl
      have hnn : y4 = nI nn := nI_q hvlp6_0
      have hmm := hvlp6_1
      refine lv_iload_n hx hb dX7_readyMask_9 rfl (lv_at hl 0 rfl) ?_
      refine lv_aload_n hx hb dX7_readyMask_10 rfl (lv_at hl 3 rfl) ?_
      refine va_get (D := D) (ci := 7) (v := .int (f 32)) (C := RX7) (T := TX7) (N := 20) hx hb hg inC7 hown hK hP 1 rfl rfl 0 (by decide) (hg _ wt1_79) (fun _ h9 => h9) rfl dX7_readyMask_11 ?_
      refine lv_topi (fun t9 et9 => ?_)
      have b10 : kb 0 t9 10 := kb_eq et9 (fI_at hI.1 32 (by decide) (by decide))
      have kvt9 : t9 = k 102 := et9.trans ((sv_parts hVw))
      have kvit9 : t9.toInt = (k 102).toInt := congrArg Int32.toInt kvt9
      have b11 : kb 0 t9 10 := kb_eq kvt9 (kK_r hkk 102 _ _ (by decide) (by decide))
      refine lv_icmp_ge (tgt := 57) hx hb dX7_readyMask_14 (by decide) (fun c12 => ?_) (fun c12 => ?_)
      · have h13 := (kc_le c12)
        refine lv_iload_n hx hb dX7_readyMask_57 rfl (lv_at hl 1 rfl) ?_
        have b14 : kb 0 y5 1023 := kb_eq hmm (kb_nI (n := bM (rdB k) nn) (N := 1023) (by have w1 := bM_10 (rdB k) (n := nn) (by have w2 := hvlp6_2; have w3 := (kPn_b hkk).1; omega); omega) (by decide))
        exact kI_ret (v := y5) hx hb hr hlocks rfl hK hS dX7_readyMask_58 () hP hD ⟨b14, (by unfold rdM; rw [← (show nn = kPn k by have w1 := hvlp6_0; have w3 := (kPn_b hkk).1; have w4 := (kPn_b hkk).2; have w5 := hvlp6_2; have w2 := kc_le c12; have w6 := kvit9; omega)]; exact hmm)⟩
      · have h15 := (kc_nle c12)
        have b16 : kb 0 y4 9 := kr_lt1 h15 b8 b11 (by decide)
        have b17 : kb 1 t9 10 := kr_lt2 h15 b8 b11 (by decide)
        refine lv_iload_n hx hb dX7_readyMask_17 rfl (lv_at hl 0 rfl) ?_
        refine lv_bipush (v := 10) hx hb dX7_readyMask_18 (by decide) ?_
        refine lv_icmp_ge (tgt := 57) hx hb dX7_readyMask_20 (by decide) (fun c18 => ?_) (fun c18 => ?_)
        · have h19 := (kc_le c18)
          exact kb_no (kr_le1 h19 kc_10 b16) (by decide)
        · have h20 := (kc_nle c18)
          refine lv_aload_n hx hb dX7_readyMask_23 rfl (lv_at hl 3 rfl) ?_
          refine va_get (D := D) (ci := 7) (v := .ref (r 6)) (C := RX7) (T := TX7) (N := 20) hx hb hg inC7 hown hK hP 1 rfl rfl 5 (by decide) (hg _ wt1_97) (fun _ h9 => h9) rfl dX7_readyMask_24 ?_
          refine lv_iload_n hx hb dX7_readyMask_27 rfl (lv_at hl 0 rfl) ?_
          refine va_iald hx hb hK hP 6 0 rfl rfl (kb_in b16 (by decide) (by decide)) dX7_readyMask_28 ?_
          refine lv_topi (fun t21 et21 => ?_)
          have kvt21 : t21 = k (0 + y4.toNatClampNeg) := et21.trans ((sv_left hVw (kb_clt b16 (by decide) (by decide))))
          have b22 : kb 0 t21 99 := kb_eq et21 (et21 ▸ kb_eq kvt21 (kK_s hkk 0 10 _ _ (by decide) (by decide) (kb_clt b16 (by decide) (by decide))))
          refine lv_if_eq (tgt := 51) hx hb dX7_readyMask_29 (by decide) (fun c23 => ?_) (fun c23 => ?_)
          · have b24 : kb 0 t21 0 := kb_eq c23 kc_0
            obtain ⟨t25, et25⟩ : ∃ z : Int32, z = y4 + Int32.ofInt 1 := ⟨_, rfl⟩
            have qt25 : t25.toInt = y4.toInt + 1 := by rw [et25]; exact km_inc b16 (by decide) (by decide)
            have b26 : kb 1 t25 10 := kb_inc (k := 1) qt25 b16
            refine lv_iinc (v := t25) (lv' := [(3, .int t25), (2, .int y5), (1, .int v2), (0, .ref (r 1))]) hx hb dX7_readyMask_51 hl (k := 0) rfl et25.symm (by decide) rfl (fun ls hl => ?_)
            refine lv_goto (tgt := 9) hx hb dX7_readyMask_54 (by decide) ?_
            exact ihlp6 (nn + 1) _ _ _ t25 y5 (km_up hmlp6 qt25) (kb_w b26 (by decide) (by decide)) (by have w1 := hvlp6_0; have w2 := qt25; omega) (mk_n hmm (fun w9 => by unfold rdB at w9; rw [show upB k nn = true from decide_eq_true ((show t21 = k (0 + nn) from by rw [kvt21, cl_nat hvlp6_0]).symm.trans c23)] at w9; exact Bool.false_ne_true w9)) (by have w1 := hvlp6_0; have w2 := kc_nle c12; have w3 := kvit9; have w4 := (kPn_b hkk).2; omega) hP hD hS (lv_sub hl [0, 1, 2, 3] rfl)
          · have b27 : kb 1 t21 99 := kr_nel c23 b22 kc_0 (by decide)
            refine lv_aload_n hx hb dX7_readyMask_32 rfl (lv_at hl 3 rfl) ?_
            refine va_get (D := D) (ci := 7) (v := .ref (r 3)) (C := RX7) (T := TX7) (N := 20) hx hb hg inC7 hown hK hP 1 rfl rfl 2 (by decide) (hg _ wt1_89) (fun _ h9 => h9) rfl dX7_readyMask_33 ?_
            refine lv_iload_n hx hb dX7_readyMask_36 rfl (lv_at hl 0 rfl) ?_
            refine va_iald hx hb hK hP 3 0 rfl rfl (kb_in b16 (by decide) (by decide)) dX7_readyMask_37 ?_
            refine lv_topi (fun t28 et28 => ?_)
            have kvt28 : t28 = k (33 + y4.toNatClampNeg) := et28.trans ((sv_needs hVw (kb_clt b16 (by decide) (by decide))))
            have b29 : kb 0 t28 1023 := kb_eq et28 (et28 ▸ kb_eq kvt28 (kK_s hkk 33 10 _ _ (by decide) (by decide) (kb_clt b16 (by decide) (by decide))))
            refine lv_iload_n hx hb dX7_readyMask_38 rfl (lv_at hl 2 rfl) ?_
            refine lv_iconst (v := (-1)) hx hb dX7_readyMask_39 (by decide) ?_
            refine lv_ixor hx hb dX7_readyMask_40 ?_
            refine lv_topi (fun t30 et30 => ?_)
            refine lv_iand hx hb dX7_readyMask_41 ?_
            refine lv_topi (fun t31 et31 => ?_)
            refine lv_if_ne (tgt := 51) hx hb dX7_readyMask_42 (by decide) (fun c32 => ?_) (fun c32 => ?_)
            · obtain ⟨t33, et33⟩ : ∃ z : Int32, z = y4 + Int32.ofInt 1 := ⟨_, rfl⟩
              have qt33 : t33.toInt = y4.toInt + 1 := by rw [et33]; exact km_inc b16 (by decide) (by decide)
              have b34 : kb 1 t33 10 := kb_inc (k := 1) qt33 b16
              refine lv_iinc (v := t33) (lv' := [(3, .int t33), (2, .int y5), (1, .int v2), (0, .ref (r 1))]) hx hb dX7_readyMask_51 hl (k := 0) rfl et33.symm (by decide) rfl (fun ls hl => ?_)
              refine lv_goto (tgt := 9) hx hb dX7_readyMask_54 (by decide) ?_
              exact ihlp6 (nn + 1) _ _ _ t33 y5 (km_up hmlp6 qt33) (kb_w b34 (by decide) (by decide)) (by have w1 := hvlp6_0; have w2 := qt33; omega) (mk_n hmm (fun w9 => by unfold rdB at w9; rw [decide_eq_false (fun w8 => c32 ((show t31 = k (33 + nn) &&& (upM k ^^^ (-1)) from by rw [et31, et30, kvt28, cl_nat hvlp6_0, hw1.2]).trans w8)), Bool.and_false] at w9; cases w9)) (by have w1 := hvlp6_0; have w2 := kc_nle c12; have w3 := kvit9; have w4 := (kPn_b hkk).2; omega) hP hD hS (lv_sub hl [0, 1, 2, 3] rfl)
            · have b35 : kb 0 t31 0 := kb_eq c32 kc_0
              refine lv_iload_n hx hb dX7_readyMask_45 rfl (lv_at hl 1 rfl) ?_
              refine lv_iconst (v := 1) hx hb dX7_readyMask_46 (by decide) ?_
              refine lv_iload_n hx hb dX7_readyMask_47 rfl (lv_at hl 0 rfl) ?_
              refine lv_ishl hx hb dX7_readyMask_48 ?_
              refine lv_topi (fun t36 et36 => ?_)
              have b37 : kb 1 t36 512 := kb_eq et36 (kb_shl (l := 0) (h := 9) b16 (by decide))
              refine lv_ior hx hb dX7_readyMask_49 ?_
              refine lv_topi (fun t38 et38 => ?_)
              refine lv_istore_n (lv' := [(2, .int t38), (3, .int y4), (1, .int v2), (0, .ref (r 1))]) hx hb dX7_readyMask_50 rfl hl (by decide) rfl (fun ls hl => ?_)
              obtain ⟨t39, et39⟩ : ∃ z : Int32, z = y4 + Int32.ofInt 1 := ⟨_, rfl⟩
              have qt39 : t39.toInt = y4.toInt + 1 := by rw [et39]; exact km_inc b16 (by decide) (by decide)
              have b40 : kb 1 t39 10 := kb_inc (k := 1) qt39 b16
              refine lv_iinc (v := t39) (lv' := [(3, .int t39), (2, .int t38), (1, .int v2), (0, .ref (r 1))]) hx hb dX7_readyMask_51 hl (k := 1) rfl et39.symm (by decide) rfl (fun ls hl => ?_)
              refine lv_goto (tgt := 9) hx hb dX7_readyMask_54 (by decide) ?_
              exact ihlp6 (nn + 1) _ _ _ t39 t38 (km_up hmlp6 qt39) (kb_w b40 (by decide) (by decide)) (by have w1 := hvlp6_0; have w2 := qt39; omega) (mk_y (by have w1 := hvlp6_0; have w2 := (b16).2; omega) hmm hnn et36 et38 (by unfold rdB; rw [(show upB k nn = false from decide_eq_false (fun w9 => c23 ((show t21 = k (0 + nn) from by rw [kvt21, cl_nat hvlp6_0]).trans w9))), decide_eq_true ((show t31 = k (33 + nn) &&& (upM k ^^^ (-1)) from by rw [et31, et30, kvt28, cl_nat hvlp6_0, hw1.2]).symm.trans c32)]; rfl)) (by have w1 := hvlp6_0; have w2 := kc_nle c12; have w3 := kvit9; have w4 := (kPn_b hkk).2; omega) hP hD hS (lv_sub hl [0, 1, 2, 3] rfl)
  exact lp6 (11) 0 _ _ _ 0 0 (by have h1 := (kc_0); unfold kb at h1; omega) (kb_w kc_0 (by decide) (by decide)) (by decide +kernel) (rfl) (Nat.zero_le _) hP hD hS (lv_sub hl [0, 1, 2, 3] rfl)
