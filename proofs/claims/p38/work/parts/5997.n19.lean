def stF (k : Nat → Int32) (x : Int32) : Int32 := if x = 0 then upM k else if x = 1 then rdM k else -1
def ctF (k R : Nat → Int32) (u t x : Int32) : Int := if x = 0 then (k 102).toInt else if x = 1 then (pop (upM k).toInt.toNat : Int) else if x = 2 then (k 103).toInt else if x = 3 then (k 104).toInt else if x = 4 then (k 105).toInt else if x = 5 then u.toInt else if x = 6 then t.toInt else if x = 7 then (R 1).toInt else if x = 8 then (R 2).toInt else if x = 9 then (R 3).toInt else if x = 10 then (R 5).toInt else if x = 11 then (R 6).toInt else if x = 12 then (k 106).toInt else if x = 13 then (k 22).toInt else if x = 14 then (k 99).toInt else if x = 15 then (k 100).toInt else if x = 16 then (k 101).toInt else -1
/-- a row of parts: what is kept behind its first j -/
def rwP (A k0 : Nat → Int32) : Nat → (Nat → Int32) → Prop
  | 0, k' => k' = k0
  | j + 1, k' => ∃ kj, rwP A k0 j kj ∧ ((rOKm A j (kj 102).toInt.toNat ∧ k' = prtK kj (kj 102).toInt.toNat (A (4 * j)) (A (4 * j + 1) &&& 255) (A (4 * j + 2)) (A (4 * j + 3))) ∨ (¬ rOKm A j (kj 102).toInt.toNat ∧ k' = kj))
theorem rwP_det {A k0 : Nat → Int32} : ∀ {j : Nat} {k k' : Nat → Int32}, rwP A k0 j k → rwP A k0 j k' → k = k'
  | 0, k, k', h, h' => by
    have a : k = k0 := h
    have b : k' = k0 := h'
    rw [a, b]
  | j + 1, k, k', h, h' => by
    obtain ⟨x, hx, h⟩ := h
    obtain ⟨y, hy, h'⟩ := h'
    have e := rwP_det hx hy
    rw [← e] at h'
    rcases h with ⟨c, h⟩ | ⟨c, h⟩
    · rcases h' with ⟨_, h'⟩ | ⟨c', _⟩
      · rw [h, h']
      · exact absurd c c'
    · rcases h' with ⟨c', _⟩ | ⟨_, h'⟩
      · exact absurd c' c
      · rw [h, h']
/-- nights that can be -/
def ngtO (x y : Int32) : Prop := (0 ≤ x.toInt ∧ x.toInt ≤ 1000000) ∧ (1 ≤ y.toInt ∧ y.toInt ≤ 20)
set_option maxHeartbeats 4000000 in
set_option maxRecDepth 100000 in
theorem n_stands  (l : Launch) {D : va_G} {K : Nat → ClassId} (o : Nat) (r : Nat → Nat) (f : Nat → Int32) (a : Nat → Nat → Int32) (g : Nat → Int64) (hI : mI f a) (x : Int32)   (hp0 : kK (a 2)) : kI l yX12_stands (Cond.code yX12_stands cX12_stands 4 (some .int) :: kG) (rmD 4 0 0) D (tysK K) [.ref o, .int x] (mW K o r f a g) (fun v (_ : Unit) => kb (-2147483648) v 2147483647 ∧ v = stF (a 2) x) (fun _ => mW K o r f a g) 0 0 := by
  refine kI.of (cc := cX12_stands) (maxL := 4) (ret := (some .int)) (by decide) rfl (Nat.le_of_ble_eq_true rfl) ?_
  intro p e s m below meth c A hx hb hr hml hown hts hlocks hnm hK hP hD hS hA ls hl
  have hg : ∀ w ∈ kG, w.before _ s = true := fun w h => hts w (List.mem_cons_of_mem _ h)
  have hown : s.vm.findClass RX12 = some m.cls := hown
  have hl : lv_has ls 4 [(0, .ref o), (1, .int x)] := hl
  refine lv_iload_n hx hb dX12_stands_0 rfl (lv_at hl 1 rfl) ?_
  refine lv_iconst (v := 0) hx hb dX12_stands_1 (by decide) ?_
  refine lv_iconst (v := 1) hx hb dX12_stands_2 (by decide) ?_
  refine kN.callS (As := [.int x, .int 0, .int 1]) (rest := []) ⟨hx, hb, hml, hown, hg⟩ (m_lies l x 0 1 ) (va_cwS 3 hg (kgS wt6_69 wt6_70 wt1_14 wt6_71) rfl rfl rfl (by decide +kernel) ⟨by decide, by decide⟩) hP hS rfl hl.1 rfl (Nat.le_of_ble_eq_true rfl) dX12_stands_3 ⟨Nat.le_refl _, Nat.le_refl _⟩ (fun v2 H locs hw1 hP hS => ?_)
  refine lv_if_ne (tgt := 11) hx hb dX12_stands_6 (by decide) (fun c4 => ?_) (fun c4 => ?_)
  · have b5 : kb 1 v2 1 := kr_nel c4 hw1.1 kc_0 (by decide)
    have h6 := mLies_ne (hw1.2 ▸ c4)
    have b7 : kb 0 x 2147483647 := kr_le2 h6.1 kc_0 (kb_any x)
    have b8 : kb 0 x 1 := kr_le1 h6.2 b7 kc_1
    refine lv_iload_n hx hb dX12_stands_11 rfl (lv_at hl 1 rfl) ?_
    refine lv_if_ne (tgt := 20) hx hb dX12_stands_12 (by decide) (fun c9 => ?_) (fun c9 => ?_)
    · have b10 : kb 1 x 1 := kr_nel c9 b8 kc_0 (by decide)
      refine lv_iconst (v := 0) hx hb dX12_stands_20 (by decide) ?_
      refine lv_istore_n (lv' := [(2, .int 0), (0, .ref o), (1, .int x)]) hx hb dX12_stands_21 rfl hl (by decide) rfl (fun ls hl => ?_)
      refine lv_iconst (v := 0) hx hb dX12_stands_22 (by decide) ?_
      refine lv_istore_n (lv' := [(3, .int 0), (2, .int 0), (0, .ref o), (1, .int x)]) hx hb dX12_stands_23 rfl hl (by decide) rfl (fun ls hl => ?_)
      have lp13 : ∀ (n14 : Nat) (nn : Nat) (H : Heap) (locs : List Loc) (ls : Array Slot) (y11 : Int32) (y12 : Int32), (10 < y11.toInt + (n14 : Int)) → (kb 0 y11 10) → (y11.toInt = (nn : Int)) → (y12 = nI (bM (rdB (a 2)) nn)) → (nn ≤ kPn (a 2)) → va_P D vwCl (mW K o r f a g) H → va_D A (mW K o r f a g) → va_S A s.heap H locs → lv_has ls 4 [(3, .int y11), (2, .int y12), (0, .ref o), (1, .int x)] → W p l e (rmD 4 0 0) s m ([.ref o, .int x] : List Value).toArray below meth c H locs 0 0 (kQi D (tysK K) (fun v (_ : Unit) => kb (-2147483648) v 2147483647 ∧ v = stF (a 2) x) (fun _ => mW K o r f a g) A below ([.ref o, .int x] : List Value).toArray s 0 0) (F0 m 24 ls []) := by
        intro n14
        induction n14 with
        | zero =>
          intro nn  H locs ls y11 y12 hmlp13 b15 hvlp13_0 hvlp13_1 hvlp13_2 hP hD hS hl
          exact (by have h1 := b15.2; have h2 := hmlp13; omega : False).elim
        | succ n14 ihlp13 =>
          intro nn  H locs ls y11 y12 hmlp13 b15 hvlp13_0 hvlp13_1 hvlp13_2 hP hD hS hl
          have hnn : y11 = nI nn := nI_q hvlp13_0
          have hmm := hvlp13_1
          refine lv_iload_n hx hb dX12_stands_24 rfl (lv_at hl 0 rfl) ?_
          refine lv_aload_n hx hb dX12_stands_25 rfl (lv_at hl 2 rfl) ?_
          refine va_get (D := D) (ci := 12) (v := .ref (r 2)) (C := RX12) (T := TX12) (N := 48) hx hb hg inC12 hown hK hP 0 rfl rfl 2 (by decide) (hg _ wt5_162) (fun _ h9 => h9) rfl dX12_stands_26 ?_
          refine lv_bipush (v := 102) hx hb dX12_stands_29 (by decide) ?_
          refine va_iald hx hb hK hP 2 0 rfl rfl (kb_in kc_102 (by decide) (by decide)) dX12_stands_31 ?_
          refine lv_topi (fun t16 et16 => ?_)
          rw [cl_102] at et16
          have b17 : kb 0 t16 10 := kb_eq et16 (aI_at hI.2.1 2 102 (by decide) (by decide))
          refine lv_icmp_ge (tgt := 59) hx hb dX12_stands_32 (by decide) (fun c18 => ?_) (fun c18 => ?_)
          · have h19 := (kc_le c18)
            refine lv_iload_n hx hb dX12_stands_59 rfl (lv_at hl 1 rfl) ?_
            exact kI_ret (v := y12) hx hb hr hlocks rfl hK hS dX12_stands_60 () hP hD ⟨(kb_any y12), (by unfold stF; rw [if_neg c9, if_pos (show x = 1 from Int32.toInt_inj.mp (by have w1 := mLies_ne (hw1.2 ▸ c4); have w2 : (1 : Int32).toInt = 1 := (by decide +kernel); have w3 : (0 : Int32).toInt = 0 := (by decide +kernel); have w4 : ¬ x.toInt = 0 := (fun z => c9 (Int32.toInt_inj.mp (z.trans w3.symm))); omega))]; unfold rdM; rw [← (show nn = kPn (a 2) by have w1 := hvlp13_0; have w3 := (kPn_b hp0).1; have w4 := (kPn_b hp0).2; have w5 := hvlp13_2; have w2 := kc_le c18; have w6 := congrArg Int32.toInt et16; omega)]; exact hmm)⟩
          · have h20 := (kc_nle c18)
            have b21 : kb 0 y11 9 := kr_lt1 h20 b15 b17 (by decide)
            have b22 : kb 1 t16 10 := kr_lt2 h20 b15 b17 (by decide)
            refine lv_iload_n hx hb dX12_stands_35 rfl (lv_at hl 1 rfl) ?_
            refine lv_aload_n hx hb dX12_stands_36 rfl (lv_at hl 2 rfl) ?_
            refine lv_iload_n hx hb dX12_stands_37 rfl (lv_at hl 0 rfl) ?_
            refine kI.callV (As := [.int y11]) (rest := [.int y12]) ⟨hx, hb, hml, hown, hg⟩ (n_isReady l o r f a g hI y11 b21 hp0) (cwV 1 hg (kgV wt6_108 wt6_110 wp3_11 wt1_14 wt6_111) rfl rfl rfl (by decide +kernel) ⟨by decide, by decide⟩) hK hP hD hS hA mIs [] rfl (wr := []) rfl rfl rfl (fun i h => by cases h) 0 12 rfl rfl rfl hl.1 rfl (Nat.le_of_ble_eq_true rfl) dX12_stands_38 ⟨Nat.le_refl _, Nat.le_refl _⟩ (fun v24 u25 H locs hw23 hP hD hS => ?_)
            have hP : va_P D vwCl (mW K o r f a g) H := hP
            have hD : va_D A (mW K o r f a g) := hD
            refine lv_if_eq (tgt := 50) hx hb dX12_stands_41 (by decide) (fun c26 => ?_) (fun c26 => ?_)
            · have b27 : kb 0 v24 0 := kb_eq c26 kc_0
              refine lv_iconst (v := 0) hx hb dX12_stands_50 (by decide) ?_
              refine lv_ior hx hb dX12_stands_51 ?_
              refine lv_topi (fun t28 et28 => ?_)
              refine lv_istore_n (lv' := [(2, .int t28), (3, .int y11), (0, .ref o), (1, .int x)]) hx hb dX12_stands_52 rfl hl (by decide) rfl (fun ls hl => ?_)
              obtain ⟨t29, et29⟩ : ∃ z : Int32, z = y11 + Int32.ofInt 1 := ⟨_, rfl⟩
              have qt29 : t29.toInt = y11.toInt + 1 := by rw [et29]; exact km_inc b21 (by decide) (by decide)
              have b30 : kb 1 t29 10 := kb_inc (k := 1) qt29 b21
              refine lv_iinc (v := t29) (lv' := [(3, .int t29), (2, .int t28), (0, .ref o), (1, .int x)]) hx hb dX12_stands_53 hl (k := 1) rfl et29.symm (by decide) rfl (fun ls hl => ?_)
              refine lv_goto (tgt := 24) hx hb dX12_stands_56 (by decide) ?_
              exact ihlp13 (nn + 1) _ _ _ t29 t28 (km_up hmlp13 qt29) (kb_w b30 (by decide) (by decide)) (by have w1 := hvlp13_0; have w2 := qt29; omega) (mk_n ((show t28 = y12 from by rw [et28]; exact or_0 _).trans hmm) (bit1_n (show v24 = (if rdB (a 2) nn = true then 1 else 0) from by have w9 := hw23.2; rw [cl_nat hvlp13_0] at w9; exact w9) c26)) (by have w1 := hvlp13_0; have w2 := kc_nle c18; have w3 := congrArg Int32.toInt et16; have w4 := (kPn_b hp0).2; omega) hP hD hS (lv_sub hl [0, 1, 2, 3] rfl)
            · have b31 : kb 1 v24 1 := kr_nel c26 hw23.1 kc_0 (by decide)
              refine lv_iconst (v := 1) hx hb dX12_stands_44 (by decide) ?_
              refine lv_iload_n hx hb dX12_stands_45 rfl (lv_at hl 0 rfl) ?_
              refine lv_ishl hx hb dX12_stands_46 ?_
              refine lv_topi (fun t32 et32 => ?_)
              have b33 : kb 1 t32 512 := kb_eq et32 (kb_shl (l := 0) (h := 9) b21 (by decide))
              refine lv_goto (tgt := 51) hx hb dX12_stands_47 (by decide) ?_
              refine lv_ior hx hb dX12_stands_51 ?_
              refine lv_topi (fun t34 et34 => ?_)
              refine lv_istore_n (lv' := [(2, .int t34), (3, .int y11), (0, .ref o), (1, .int x)]) hx hb dX12_stands_52 rfl hl (by decide) rfl (fun ls hl => ?_)
              obtain ⟨t35, et35⟩ : ∃ z : Int32, z = y11 + Int32.ofInt 1 := ⟨_, rfl⟩
              have qt35 : t35.toInt = y11.toInt + 1 := by rw [et35]; exact km_inc b21 (by decide) (by decide)
              have b36 : kb 1 t35 10 := kb_inc (k := 1) qt35 b21
              refine lv_iinc (v := t35) (lv' := [(3, .int t35), (2, .int t34), (0, .ref o), (1, .int x)]) hx hb dX12_stands_53 hl (k := 1) rfl et35.symm (by decide) rfl (fun ls hl => ?_)
              refine lv_goto (tgt := 24) hx hb dX12_stands_56 (by decide) ?_
              exact ihlp13 (nn + 1) _ _ _ t35 t34 (km_up hmlp13 qt35) (kb_w b36 (by decide) (by decide)) (by have w1 := hvlp13_0; have w2 := qt35; omega) (mk_y (by have w1 := hvlp13_0; have w2 := (b21).2; omega) hmm hnn et32 et34 (bit1_y (show v24 = (if rdB (a 2) nn = true then 1 else 0) from by have w9 := hw23.2; rw [cl_nat hvlp13_0] at w9; exact w9) c26)) (by have w1 := hvlp13_0; have w2 := kc_nle c18; have w3 := congrArg Int32.toInt et16; have w4 := (kPn_b hp0).2; omega) hP hD hS (lv_sub hl [0, 1, 2, 3] rfl)
      exact lp13 (11) 0 _ _ _ 0 0 (by have h1 := (kc_0); unfold kb at h1; omega) (kb_w kc_0 (by decide) (by decide)) (by decide +kernel) (rfl) (Nat.zero_le _) hP hD hS (lv_sub hl [0, 1, 2, 3] rfl)
    · have b37 : kb 0 x 0 := kb_eq c9 kc_0
      refine lv_aload_n hx hb dX12_stands_15 rfl (lv_at hl 0 rfl) ?_
      refine kI.callV (As := []) (rest := []) ⟨hx, hb, hml, hown, hg⟩ (n_standing l o r f a g hI   hp0) (cwV 0 hg (kgV wt6_116 wt6_118 wp3_13 wt1_14 wt6_119) rfl rfl rfl (by decide +kernel) ⟨by decide, by decide⟩) hK hP hD hS hA mIs [] rfl (wr := []) rfl rfl rfl (fun i h => by cases h) 0 12 rfl rfl rfl hl.1 rfl (Nat.le_of_ble_eq_true rfl) dX12_stands_16 ⟨Nat.le_refl _, Nat.le_refl _⟩ (fun v39 u40 H locs hw38 hP hD hS => ?_)
      have hP : va_P D vwCl (mW K o r f a g) H := hP
      have hD : va_D A (mW K o r f a g) := hD
      exact kI_ret (v := v39) hx hb hr hlocks rfl hK hS dX12_stands_19 () hP hD ⟨(kb_w hw38.1 (by decide) (by decide)), (by unfold stF; rw [if_pos c9]; exact hw38.2)⟩
  · have b41 : kb 0 v2 0 := kb_eq c4 kc_0
    refine lv_iconst (v := (-1)) hx hb dX12_stands_9 (by decide) ?_
    exact kI_ret (v := (-1)) hx hb hr hlocks rfl hK hS dX12_stands_10 () hP hD ⟨(kb_w kc_m1 (by decide) (by decide)), (by unfold stF; rw [if_neg (fun q => mLies_z (hw1.2.symm.trans c4) (by decide +kernel) (by decide +kernel) (show (0 : Int) ≤ x.toInt ∧ x.toInt ≤ 1 from by rw [q]; decide +kernel)), if_neg (fun q => mLies_z (hw1.2.symm.trans c4) (by decide +kernel) (by decide +kernel) (show (0 : Int) ≤ x.toInt ∧ x.toInt ≤ 1 from by rw [q]; decide +kernel))])⟩
set_option maxHeartbeats 4000000 in
set_option maxRecDepth 100000 in
theorem n_count  (l : Launch) {D : va_G} {K : Nat → ClassId} (o : Nat) (r : Nat → Nat) (f : Nat → Int32) (a : Nat → Nat → Int32) (g : Nat → Int64) (hI : mI f a) (x : Int32)   (hp0 : kK (a 2)) : kI l yX12_count (Cond.code yX12_count cX12_count 2 (some .int) :: kG) (rmD 3 0 0) D (tysK K) [.ref o, .int x] (mW K o r f a g) (fun v (_ : Unit) => kb (-2147483648) v 2147483647 ∧ v.toInt = ctF (a 2) (a 1) (f 33) (f 13) x) (fun _ => mW K o r f a g) 0 0 := by
  refine kI.of (cc := cX12_count) (maxL := 2) (ret := (some .int)) (by decide) rfl (Nat.le_of_ble_eq_true rfl) ?_
  intro p e s m below meth c A hx hb hr hml hown hts hlocks hnm hK hP hD hS hA ls hl
  have hg : ∀ w ∈ kG, w.before _ s = true := fun w h => hts w (List.mem_cons_of_mem _ h)
  have hown : s.vm.findClass RX12 = some m.cls := hown
  have hl : lv_has ls 2 [(0, .ref o), (1, .int x)] := hl
  refine lv_iload_n hx hb dX12_count_0 rfl (lv_at hl 1 rfl) ?_
  by_cases q1 : x = 0
  · have b2 : kb 0 x 0 := kb_eq q1 kc_0
    refine lv_tableIn (tgt := 84) hx hb dX12_count_1 (by rw [q1]; decide +kernel) (by rw [q1]; decide +kernel) (by rw [q1]; rfl) (by decide) ?_
    refine lv_aload_n hx hb dX12_count_84 rfl (lv_at hl 0 rfl) ?_
    refine va_get (D := D) (ci := 12) (v := .ref (r 2)) (C := RX12) (T := TX12) (N := 48) hx hb hg inC12 hown hK hP 0 rfl rfl 2 (by decide) (hg _ wt5_162) (fun _ h9 => h9) rfl dX12_count_85 ?_
    refine lv_bipush (v := 102) hx hb dX12_count_88 (by decide) ?_
    refine va_iald hx hb hK hP 2 0 rfl rfl (kb_in kc_102 (by decide) (by decide)) dX12_count_90 ?_
    refine lv_topi (fun t3 et3 => ?_)
    rw [cl_102] at et3
    have b4 : kb 0 t3 10 := kb_eq et3 (aI_at hI.2.1 2 102 (by decide) (by decide))
    exact kI_ret (v := t3) hx hb hr hlocks rfl hK hS dX12_count_91 () hP hD ⟨(kb_w b4 (by decide) (by decide)), (by unfold ctF; rw [if_pos q1]; exact congrArg Int32.toInt et3)⟩
  by_cases q5 : x = 1
  · have b6 : kb 1 x 1 := kb_eq q5 kc_1
    refine lv_tableIn (tgt := 92) hx hb dX12_count_1 (by rw [q5]; decide +kernel) (by rw [q5]; decide +kernel) (by rw [q5]; rfl) (by decide) ?_
    refine lv_aload_n hx hb dX12_count_92 rfl (lv_at hl 0 rfl) ?_
    refine kI.callV (As := []) (rest := []) ⟨hx, hb, hml, hown, hg⟩ (n_standing l o r f a g hI   hp0) (cwV 0 hg (kgV wt6_116 wt6_118 wp3_13 wt1_14 wt6_119) rfl rfl rfl (by decide +kernel) ⟨by decide, by decide⟩) hK hP hD hS hA mIs [] rfl (wr := []) rfl rfl rfl (fun i h => by cases h) 0 12 rfl rfl rfl hl.1 rfl (Nat.le_of_ble_eq_true rfl) dX12_count_93 ⟨Nat.le_refl _, Nat.le_refl _⟩ (fun v8 u9 H locs hw7 hP hD hS => ?_)
    have hP : va_P D vwCl (mW K o r f a g) H := hP
    have hD : va_D A (mW K o r f a g) := hD
    refine kN.callS (As := [.int v8]) (rest := []) ⟨hx, hb, hml, hown, hg⟩ (n_ones l v8 hw7.1) (va_cwS 1 hg (kgS wt7_71 wt7_72 wt1_14 wt7_73) rfl rfl rfl (by decide +kernel) ⟨by decide, by decide⟩) hP hS rfl hl.1 rfl (Nat.le_of_ble_eq_true rfl) dX12_count_96 ⟨Nat.le_refl _, Nat.le_refl _⟩ (fun v11 H locs hw10 hP hS => ?_)
    exact kI_ret (v := v11) hx hb hr hlocks rfl hK hS dX12_count_99 () hP hD ⟨(kb_w hw10.1 (by decide) (by decide)), (by unfold ctF; rw [if_neg (by rw [q5]; decide +kernel), if_pos q5]; exact (by have w1 := hw10.2; rw [hw7.2] at w1; exact w1))⟩
  by_cases q13 : x = 2
  · have b14 : kb 2 x 2 := kb_eq q13 kc_2
    refine lv_tableIn (tgt := 100) hx hb dX12_count_1 (by rw [q13]; decide +kernel) (by rw [q13]; decide +kernel) (by rw [q13]; rfl) (by decide) ?_
    refine lv_aload_n hx hb dX12_count_100 rfl (lv_at hl 0 rfl) ?_
    refine va_get (D := D) (ci := 12) (v := .ref (r 2)) (C := RX12) (T := TX12) (N := 48) hx hb hg inC12 hown hK hP 0 rfl rfl 2 (by decide) (hg _ wt5_162) (fun _ h9 => h9) rfl dX12_count_101 ?_
    refine lv_bipush (v := 103) hx hb dX12_count_104 (by decide) ?_
    refine va_iald hx hb hK hP 2 0 rfl rfl (kb_in kc_103 (by decide) (by decide)) dX12_count_106 ?_
    refine lv_topi (fun t15 et15 => ?_)
    rw [cl_103] at et15
    have b16 : kb 0 t15 6 := kb_eq et15 (aI_at hI.2.1 2 103 (by decide) (by decide))
    exact kI_ret (v := t15) hx hb hr hlocks rfl hK hS dX12_count_107 () hP hD ⟨(kb_w b16 (by decide) (by decide)), (by unfold ctF; rw [if_neg (by rw [q13]; decide +kernel), if_neg (by rw [q13]; decide +kernel), if_pos q13]; exact congrArg Int32.toInt et15)⟩
  by_cases q17 : x = 3
  · have b18 : kb 3 x 3 := kb_eq q17 kc_3
    refine lv_tableIn (tgt := 108) hx hb dX12_count_1 (by rw [q17]; decide +kernel) (by rw [q17]; decide +kernel) (by rw [q17]; rfl) (by decide) ?_
    refine lv_aload_n hx hb dX12_count_108 rfl (lv_at hl 0 rfl) ?_
    refine va_get (D := D) (ci := 12) (v := .ref (r 2)) (C := RX12) (T := TX12) (N := 48) hx hb hg inC12 hown hK hP 0 rfl rfl 2 (by decide) (hg _ wt5_162) (fun _ h9 => h9) rfl dX12_count_109 ?_
    refine lv_bipush (v := 104) hx hb dX12_count_112 (by decide) ?_
    refine va_iald hx hb hK hP 2 0 rfl rfl (kb_in kc_104 (by decide) (by decide)) dX12_count_114 ?_
    refine lv_topi (fun t19 et19 => ?_)
    rw [cl_104] at et19
    have b20 : kb 0 t19 8 := kb_eq et19 (aI_at hI.2.1 2 104 (by decide) (by decide))
    exact kI_ret (v := t19) hx hb hr hlocks rfl hK hS dX12_count_115 () hP hD ⟨(kb_w b20 (by decide) (by decide)), (by unfold ctF; rw [if_neg (by rw [q17]; decide +kernel), if_neg (by rw [q17]; decide +kernel), if_neg (by rw [q17]; decide +kernel), if_pos q17]; exact congrArg Int32.toInt et19)⟩
  by_cases q21 : x = 4
  · have b22 : kb 4 x 4 := kb_eq q21 kc_4
    refine lv_tableIn (tgt := 116) hx hb dX12_count_1 (by rw [q21]; decide +kernel) (by rw [q21]; decide +kernel) (by rw [q21]; rfl) (by decide) ?_
    refine lv_aload_n hx hb dX12_count_116 rfl (lv_at hl 0 rfl) ?_
    refine va_get (D := D) (ci := 12) (v := .ref (r 2)) (C := RX12) (T := TX12) (N := 48) hx hb hg inC12 hown hK hP 0 rfl rfl 2 (by decide) (hg _ wt5_162) (fun _ h9 => h9) rfl dX12_count_117 ?_
    refine lv_bipush (v := 105) hx hb dX12_count_120 (by decide) ?_
    refine va_iald hx hb hK hP 2 0 rfl rfl (kb_in kc_105 (by decide) (by decide)) dX12_count_122 ?_
    refine lv_topi (fun t23 et23 => ?_)
    rw [cl_105] at et23
    have b24 : kb 0 t23 6 := kb_eq et23 (aI_at hI.2.1 2 105 (by decide) (by decide))
    exact kI_ret (v := t23) hx hb hr hlocks rfl hK hS dX12_count_123 () hP hD ⟨(kb_w b24 (by decide) (by decide)), (by unfold ctF; rw [if_neg (by rw [q21]; decide +kernel), if_neg (by rw [q21]; decide +kernel), if_neg (by rw [q21]; decide +kernel), if_neg (by rw [q21]; decide +kernel), if_pos q21]; exact congrArg Int32.toInt et23)⟩
  by_cases q25 : x = 5
  · have b26 : kb 5 x 5 := kb_eq q25 kc_5
    refine lv_tableIn (tgt := 124) hx hb dX12_count_1 (by rw [q25]; decide +kernel) (by rw [q25]; decide +kernel) (by rw [q25]; rfl) (by decide) ?_
    refine lv_aload_n hx hb dX12_count_124 rfl (lv_at hl 0 rfl) ?_
    refine va_get (D := D) (ci := 12) (v := .int (f 33)) (C := RX12) (T := TX12) (N := 48) hx hb hg inC12 hown hK hP 0 rfl rfl 33 (by decide) (hg _ wt5_193) (fun _ h9 => h9) rfl dX12_count_125 ?_
    refine lv_topi (fun t27 et27 => ?_)
    have b28 : kb 0 t27 16 := kb_eq et27 (fI_at hI.1 33 (by decide) (by decide))
    exact kI_ret (v := t27) hx hb hr hlocks rfl hK hS dX12_count_128 () hP hD ⟨(kb_w b28 (by decide) (by decide)), (by unfold ctF; rw [if_neg (by rw [q25]; decide +kernel), if_neg (by rw [q25]; decide +kernel), if_neg (by rw [q25]; decide +kernel), if_neg (by rw [q25]; decide +kernel), if_neg (by rw [q25]; decide +kernel), if_pos q25]; exact congrArg Int32.toInt et27)⟩
  by_cases q29 : x = 6
  · have b30 : kb 6 x 6 := kb_eq q29 kc_6
    refine lv_tableIn (tgt := 129) hx hb dX12_count_1 (by rw [q29]; decide +kernel) (by rw [q29]; decide +kernel) (by rw [q29]; rfl) (by decide) ?_
    refine lv_aload_n hx hb dX12_count_129 rfl (lv_at hl 0 rfl) ?_
    refine va_get (D := D) (ci := 12) (v := .int (f 13)) (C := RX12) (T := TX12) (N := 48) hx hb hg inC12 hown hK hP 0 rfl rfl 13 (by decide) (hg _ wt5_173) (fun _ h9 => h9) rfl dX12_count_130 ?_
    refine lv_topi (fun t31 et31 => ?_)
    have b32 : kb 0 t31 400 := kb_eq et31 (fI_at hI.1 13 (by decide) (by decide))
    exact kI_ret (v := t31) hx hb hr hlocks rfl hK hS dX12_count_133 () hP hD ⟨(kb_w b32 (by decide) (by decide)), (by unfold ctF; rw [if_neg (by rw [q29]; decide +kernel), if_neg (by rw [q29]; decide +kernel), if_neg (by rw [q29]; decide +kernel), if_neg (by rw [q29]; decide +kernel), if_neg (by rw [q29]; decide +kernel), if_neg (by rw [q29]; decide +kernel), if_pos q29]; exact congrArg Int32.toInt et31)⟩
  by_cases q33 : x = 7
  · have b34 : kb 7 x 7 := kb_eq q33 kc_7
    refine lv_tableIn (tgt := 134) hx hb dX12_count_1 (by rw [q33]; decide +kernel) (by rw [q33]; decide +kernel) (by rw [q33]; rfl) (by decide) ?_
    refine lv_aload_n hx hb dX12_count_134 rfl (lv_at hl 0 rfl) ?_
    refine va_get (D := D) (ci := 12) (v := .ref (r 1)) (C := RX12) (T := TX12) (N := 48) hx hb hg inC12 hown hK hP 0 rfl rfl 1 (by decide) (hg _ wt5_161) (fun _ h9 => h9) rfl dX12_count_135 ?_
    refine lv_iload_n hx hb dX12_count_138 rfl (lv_at hl 1 rfl) ?_
    refine lv_bipush (v := 6) hx hb dX12_count_139 (by decide) ?_
    refine lv_isub hx hb dX12_count_141 ?_
    refine lv_topi (fun t35 et35 => ?_)
    have b36 : kb 1 t35 1 := kb_eq et35 (kb_sub b34 kc_6 (by decide) (by decide))
    have qt35 : t35.toInt = x.toInt - 6 := by rw [et35]; exact kt_subc b34 kc_6 (by decide) (by decide)
    refine va_iald hx hb hK hP 1 0 rfl rfl (kb_in b36 (by decide) (by decide)) dX12_count_142 ?_
    refine lv_topi (fun t37 et37 => ?_)
    exact kI_ret (v := t37) hx hb hr hlocks rfl hK hS dX12_count_143 () hP hD ⟨(kb_any t37), (by unfold ctF; rw [if_neg (by rw [q33]; decide +kernel), if_neg (by rw [q33]; decide +kernel), if_neg (by rw [q33]; decide +kernel), if_neg (by rw [q33]; decide +kernel), if_neg (by rw [q33]; decide +kernel), if_neg (by rw [q33]; decide +kernel), if_neg (by rw [q33]; decide +kernel), if_pos q33]; exact congrArg Int32.toInt (et37.trans (congrArg (a 1) (show t35.toNatClampNeg = 1 from by have w1 := congrArg Int32.toInt q33; have w2 : (7 : Int32).toInt = 7 := (by decide +kernel); have wt35 := qt35; unfold Int32.toNatClampNeg; omega))))⟩
  by_cases q38 : x = 8
  · have b39 : kb 8 x 8 := kb_eq q38 kc_8
    refine lv_tableIn (tgt := 134) hx hb dX12_count_1 (by rw [q38]; decide +kernel) (by rw [q38]; decide +kernel) (by rw [q38]; rfl) (by decide) ?_
    refine lv_aload_n hx hb dX12_count_134 rfl (lv_at hl 0 rfl) ?_
    refine va_get (D := D) (ci := 12) (v := .ref (r 1)) (C := RX12) (T := TX12) (N := 48) hx hb hg inC12 hown hK hP 0 rfl rfl 1 (by decide) (hg _ wt5_161) (fun _ h9 => h9) rfl dX12_count_135 ?_
    refine lv_iload_n hx hb dX12_count_138 rfl (lv_at hl 1 rfl) ?_
    refine lv_bipush (v := 6) hx hb dX12_count_139 (by decide) ?_
    refine lv_isub hx hb dX12_count_141 ?_
    refine lv_topi (fun t40 et40 => ?_)
    have b41 : kb 2 t40 2 := kb_eq et40 (kb_sub b39 kc_6 (by decide) (by decide))
    have qt40 : t40.toInt = x.toInt - 6 := by rw [et40]; exact kt_subc b39 kc_6 (by decide) (by decide)
    refine va_iald hx hb hK hP 1 0 rfl rfl (kb_in b41 (by decide) (by decide)) dX12_count_142 ?_
    refine lv_topi (fun t42 et42 => ?_)
    exact kI_ret (v := t42) hx hb hr hlocks rfl hK hS dX12_count_143 () hP hD ⟨(kb_any t42), (by unfold ctF; rw [if_neg (by rw [q38]; decide +kernel), if_neg (by rw [q38]; decide +kernel), if_neg (by rw [q38]; decide +kernel), if_neg (by rw [q38]; decide +kernel), if_neg (by rw [q38]; decide +kernel), if_neg (by rw [q38]; decide +kernel), if_neg (by rw [q38]; decide +kernel), if_neg (by rw [q38]; decide +kernel), if_pos q38]; exact congrArg Int32.toInt (et42.trans (congrArg (a 1) (show t40.toNatClampNeg = 2 from by have w1 := congrArg Int32.toInt q38; have w2 : (8 : Int32).toInt = 8 := (by decide +kernel); have wt40 := qt40; unfold Int32.toNatClampNeg; omega))))⟩
  by_cases q43 : x = 9
  · have b44 : kb 9 x 9 := kb_eq q43 kc_9
    refine lv_tableIn (tgt := 134) hx hb dX12_count_1 (by rw [q43]; decide +kernel) (by rw [q43]; decide +kernel) (by rw [q43]; rfl) (by decide) ?_
    refine lv_aload_n hx hb dX12_count_134 rfl (lv_at hl 0 rfl) ?_
    refine va_get (D := D) (ci := 12) (v := .ref (r 1)) (C := RX12) (T := TX12) (N := 48) hx hb hg inC12 hown hK hP 0 rfl rfl 1 (by decide) (hg _ wt5_161) (fun _ h9 => h9) rfl dX12_count_135 ?_
    refine lv_iload_n hx hb dX12_count_138 rfl (lv_at hl 1 rfl) ?_
    refine lv_bipush (v := 6) hx hb dX12_count_139 (by decide) ?_
    refine lv_isub hx hb dX12_count_141 ?_
    refine lv_topi (fun t45 et45 => ?_)
    have b46 : kb 3 t45 3 := kb_eq et45 (kb_sub b44 kc_6 (by decide) (by decide))
    have qt45 : t45.toInt = x.toInt - 6 := by rw [et45]; exact kt_subc b44 kc_6 (by decide) (by decide)
    refine va_iald hx hb hK hP 1 0 rfl rfl (kb_in b46 (by decide) (by decide)) dX12_count_142 ?_
    refine lv_topi (fun t47 et47 => ?_)
    exact kI_ret (v := t47) hx hb hr hlocks rfl hK hS dX12_count_143 () hP hD ⟨(kb_any t47), (by unfold ctF; rw [if_neg (by rw [q43]; decide +kernel), if_neg (by rw [q43]; decide +kernel), if_neg (by rw [q43]; decide +kernel), if_neg (by rw [q43]; decide +kernel), if_neg (by rw [q43]; decide +kernel), if_neg (by rw [q43]; decide +kernel), if_neg (by rw [q43]; decide +kernel), if_neg (by rw [q43]; decide +kernel), if_neg (by rw [q43]; decide +kernel), if_pos q43]; exact congrArg Int32.toInt (et47.trans (congrArg (a 1) (show t45.toNatClampNeg = 3 from by have w1 := congrArg Int32.toInt q43; have w2 : (9 : Int32).toInt = 9 := (by decide +kernel); have wt45 := qt45; unfold Int32.toNatClampNeg; omega))))⟩
  by_cases q48 : x = 10
  · have b49 : kb 10 x 10 := kb_eq q48 kc_10
    refine lv_tableIn (tgt := 144) hx hb dX12_count_1 (by rw [q48]; decide +kernel) (by rw [q48]; decide +kernel) (by rw [q48]; rfl) (by decide) ?_
    refine lv_aload_n hx hb dX12_count_144 rfl (lv_at hl 0 rfl) ?_
    refine va_get (D := D) (ci := 12) (v := .ref (r 1)) (C := RX12) (T := TX12) (N := 48) hx hb hg inC12 hown hK hP 0 rfl rfl 1 (by decide) (hg _ wt5_161) (fun _ h9 => h9) rfl dX12_count_145 ?_
    refine lv_iconst (v := 5) hx hb dX12_count_148 (by decide) ?_
    refine va_iald hx hb hK hP 1 0 rfl rfl (kb_in kc_5 (by decide) (by decide)) dX12_count_149 ?_
    refine lv_topi (fun t50 et50 => ?_)
    rw [cl_5] at et50
    exact kI_ret (v := t50) hx hb hr hlocks rfl hK hS dX12_count_150 () hP hD ⟨(kb_any t50), (by unfold ctF; rw [if_neg (by rw [q48]; decide +kernel), if_neg (by rw [q48]; decide +kernel), if_neg (by rw [q48]; decide +kernel), if_neg (by rw [q48]; decide +kernel), if_neg (by rw [q48]; decide +kernel), if_neg (by rw [q48]; decide +kernel), if_neg (by rw [q48]; decide +kernel), if_neg (by rw [q48]; decide +kernel), if_neg (by rw [q48]; decide +kernel), if_neg (by rw [q48]; decide +kernel), if_pos q48]; exact congrArg Int32.toInt et50)⟩
  by_cases q51 : x = 11
  · have b52 : kb 11 x 11 := kb_eq q51 kc_11
    refine lv_tableIn (tgt := 151) hx hb dX12_count_1 (by rw [q51]; decide +kernel) (by rw [q51]; decide +kernel) (by rw [q51]; rfl) (by decide) ?_
    refine lv_aload_n hx hb dX12_count_151 rfl (lv_at hl 0 rfl) ?_
    refine va_get (D := D) (ci := 12) (v := .ref (r 1)) (C := RX12) (T := TX12) (N := 48) hx hb hg inC12 hown hK hP 0 rfl rfl 1 (by decide) (hg _ wt5_161) (fun _ h9 => h9) rfl dX12_count_152 ?_
    refine lv_bipush (v := 6) hx hb dX12_count_155 (by decide) ?_
    refine va_iald hx hb hK hP 1 0 rfl rfl (kb_in kc_6 (by decide) (by decide)) dX12_count_157 ?_
    refine lv_topi (fun t53 et53 => ?_)
    rw [cl_6] at et53
    exact kI_ret (v := t53) hx hb hr hlocks rfl hK hS dX12_count_158 () hP hD ⟨(kb_any t53), (by unfold ctF; rw [if_neg (by rw [q51]; decide +kernel), if_neg (by rw [q51]; decide +kernel), if_neg (by rw [q51]; decide +kernel), if_neg (by rw [q51]; decide +kernel), if_neg (by rw [q51]; decide +kernel), if_neg (by rw [q51]; decide +kernel), if_neg (by rw [q51]; decide +kernel), if_neg (by rw [q51]; decide +kernel), if_neg (by rw [q51]; decide +kernel), if_neg (by rw [q51]; decide +kernel), if_neg (by rw [q51]; decide +kernel), if_pos q51]; exact congrArg Int32.toInt et53)⟩
  by_cases q54 : x = 12
  · have b55 : kb 12 x 12 := kb_eq q54 kc_12
    refine lv_tableIn (tgt := 159) hx hb dX12_count_1 (by rw [q54]; decide +kernel) (by rw [q54]; decide +kernel) (by rw [q54]; rfl) (by decide) ?_
    refine lv_aload_n hx hb dX12_count_159 rfl (lv_at hl 0 rfl) ?_
    refine va_get (D := D) (ci := 12) (v := .ref (r 2)) (C := RX12) (T := TX12) (N := 48) hx hb hg inC12 hown hK hP 0 rfl rfl 2 (by decide) (hg _ wt5_162) (fun _ h9 => h9) rfl dX12_count_160 ?_
    refine lv_bipush (v := 106) hx hb dX12_count_163 (by decide) ?_
    refine va_iald hx hb hK hP 2 0 rfl rfl (kb_in kc_106 (by decide) (by decide)) dX12_count_165 ?_
    refine lv_topi (fun t56 et56 => ?_)
    rw [cl_106] at et56
    have b57 : kb (-1) t56 5 := kb_eq et56 (aI_at hI.2.1 2 106 (by decide) (by decide))
    exact kI_ret (v := t56) hx hb hr hlocks rfl hK hS dX12_count_166 () hP hD ⟨(kb_w b57 (by decide) (by decide)), (by unfold ctF; rw [if_neg (by rw [q54]; decide +kernel), if_neg (by rw [q54]; decide +kernel), if_neg (by rw [q54]; decide +kernel), if_neg (by rw [q54]; decide +kernel), if_neg (by rw [q54]; decide +kernel), if_neg (by rw [q54]; decide +kernel), if_neg (by rw [q54]; decide +kernel), if_neg (by rw [q54]; decide +kernel), if_neg (by rw [q54]; decide +kernel), if_neg (by rw [q54]; decide +kernel), if_neg (by rw [q54]; decide +kernel), if_neg (by rw [q54]; decide +kernel), if_pos q54]; exact congrArg Int32.toInt et56)⟩
  by_cases q58 : x = 13
  · have b59 : kb 13 x 13 := kb_eq q58 kc_13
    refine lv_tableIn (tgt := 167) hx hb dX12_count_1 (by rw [q58]; decide +kernel) (by rw [q58]; decide +kernel) (by rw [q58]; rfl) (by decide) ?_
    refine lv_aload_n hx hb dX12_count_167 rfl (lv_at hl 0 rfl) ?_
    refine va_get (D := D) (ci := 12) (v := .ref (r 2)) (C := RX12) (T := TX12) (N := 48) hx hb hg inC12 hown hK hP 0 rfl rfl 2 (by decide) (hg _ wt5_162) (fun _ h9 => h9) rfl dX12_count_168 ?_
    refine lv_bipush (v := 22) hx hb dX12_count_171 (by decide) ?_
    refine va_iald hx hb hK hP 2 0 rfl rfl (kb_in kc_22 (by decide) (by decide)) dX12_count_173 ?_
    refine lv_topi (fun t60 et60 => ?_)
    rw [cl_22] at et60
    exact kI_ret (v := t60) hx hb hr hlocks rfl hK hS dX12_count_174 () hP hD ⟨(kb_any t60), (by unfold ctF; rw [if_neg (by rw [q58]; decide +kernel), if_neg (by rw [q58]; decide +kernel), if_neg (by rw [q58]; decide +kernel), if_neg (by rw [q58]; decide +kernel), if_neg (by rw [q58]; decide +kernel), if_neg (by rw [q58]; decide +kernel), if_neg (by rw [q58]; decide +kernel), if_neg (by rw [q58]; decide +kernel), if_neg (by rw [q58]; decide +kernel), if_neg (by rw [q58]; decide +kernel), if_neg (by rw [q58]; decide +kernel), if_neg (by rw [q58]; decide +kernel), if_neg (by rw [q58]; decide +kernel), if_pos q58]; exact congrArg Int32.toInt et60)⟩
  by_cases q61 : x = 14
  · have b62 : kb 14 x 14 := kb_eq q61 kc_14
    refine lv_tableIn (tgt := 175) hx hb dX12_count_1 (by rw [q61]; decide +kernel) (by rw [q61]; decide +kernel) (by rw [q61]; rfl) (by decide) ?_
    refine lv_aload_n hx hb dX12_count_175 rfl (lv_at hl 0 rfl) ?_
    refine va_get (D := D) (ci := 12) (v := .ref (r 2)) (C := RX12) (T := TX12) (N := 48) hx hb hg inC12 hown hK hP 0 rfl rfl 2 (by decide) (hg _ wt5_162) (fun _ h9 => h9) rfl dX12_count_176 ?_
    refine lv_bipush (v := 99) hx hb dX12_count_179 (by decide) ?_
    refine lv_iload_n hx hb dX12_count_181 rfl (lv_at hl 1 rfl) ?_
    refine lv_iadd hx hb dX12_count_182 ?_
    refine lv_topi (fun t63 et63 => ?_)
    have b64 : kb 113 t63 113 := kb_eq et63 (kb_add kc_99 b62 (by decide) (by decide))
    have qt63 : t63.toInt = 99 + x.toInt := by rw [et63]; exact kt_cadd kc_99 b62 (by decide) (by decide)
    refine lv_bipush (v := 14) hx hb dX12_count_183 (by decide) ?_
    refine lv_isub hx hb dX12_count_185 ?_
    refine lv_topi (fun t65 et65 => ?_)
    have b66 : kb 99 t65 99 := kb_eq et65 (kb_sub b64 kc_14 (by decide) (by decide))
    have qt65 : t65.toInt = t63.toInt - 14 := by rw [et65]; exact kt_subc b64 kc_14 (by decide) (by decide)
    refine va_iald hx hb hK hP 2 0 rfl rfl (kb_in b66 (by decide) (by decide)) dX12_count_186 ?_
    refine lv_topi (fun t67 et67 => ?_)
    have b68 : kb 0 t67 99 := kb_eq et67 (aI_ld hI.2.1 2 99 1 b66 (by decide) (by decide) (by decide +kernel))
    exact kI_ret (v := t67) hx hb hr hlocks rfl hK hS dX12_count_187 () hP hD ⟨(kb_w b68 (by decide) (by decide)), (by unfold ctF; rw [if_neg (by rw [q61]; decide +kernel), if_neg (by rw [q61]; decide +kernel), if_neg (by rw [q61]; decide +kernel), if_neg (by rw [q61]; decide +kernel), if_neg (by rw [q61]; decide +kernel), if_neg (by rw [q61]; decide +kernel), if_neg (by rw [q61]; decide +kernel), if_neg (by rw [q61]; decide +kernel), if_neg (by rw [q61]; decide +kernel), if_neg (by rw [q61]; decide +kernel), if_neg (by rw [q61]; decide +kernel), if_neg (by rw [q61]; decide +kernel), if_neg (by rw [q61]; decide +kernel), if_neg (by rw [q61]; decide +kernel), if_pos q61]; exact congrArg Int32.toInt (et67.trans (congrArg (a 2) (show t65.toNatClampNeg = 99 from by have w1 := congrArg Int32.toInt q61; have w2 : (14 : Int32).toInt = 14 := (by decide +kernel); have wt63 := qt63; have wt65 := qt65; unfold Int32.toNatClampNeg; omega))))⟩
  by_cases q69 : x = 15
  · have b70 : kb 15 x 15 := kb_eq q69 kc_15
    refine lv_tableIn (tgt := 175) hx hb dX12_count_1 (by rw [q69]; decide +kernel) (by rw [q69]; decide +kernel) (by rw [q69]; rfl) (by decide) ?_
    refine lv_aload_n hx hb dX12_count_175 rfl (lv_at hl 0 rfl) ?_
    refine va_get (D := D) (ci := 12) (v := .ref (r 2)) (C := RX12) (T := TX12) (N := 48) hx hb hg inC12 hown hK hP 0 rfl rfl 2 (by decide) (hg _ wt5_162) (fun _ h9 => h9) rfl dX12_count_176 ?_
    refine lv_bipush (v := 99) hx hb dX12_count_179 (by decide) ?_
    refine lv_iload_n hx hb dX12_count_181 rfl (lv_at hl 1 rfl) ?_
    refine lv_iadd hx hb dX12_count_182 ?_
    refine lv_topi (fun t71 et71 => ?_)
    have b72 : kb 114 t71 114 := kb_eq et71 (kb_add kc_99 b70 (by decide) (by decide))
    have qt71 : t71.toInt = 99 + x.toInt := by rw [et71]; exact kt_cadd kc_99 b70 (by decide) (by decide)
    refine lv_bipush (v := 14) hx hb dX12_count_183 (by decide) ?_
    refine lv_isub hx hb dX12_count_185 ?_
    refine lv_topi (fun t73 et73 => ?_)
    have b74 : kb 100 t73 100 := kb_eq et73 (kb_sub b72 kc_14 (by decide) (by decide))
    have qt73 : t73.toInt = t71.toInt - 14 := by rw [et73]; exact kt_subc b72 kc_14 (by decide) (by decide)
    refine va_iald hx hb hK hP 2 0 rfl rfl (kb_in b74 (by decide) (by decide)) dX12_count_186 ?_
    refine lv_topi (fun t75 et75 => ?_)
    exact kI_ret (v := t75) hx hb hr hlocks rfl hK hS dX12_count_187 () hP hD ⟨(kb_any t75), (by unfold ctF; rw [if_neg (by rw [q69]; decide +kernel), if_neg (by rw [q69]; decide +kernel), if_neg (by rw [q69]; decide +kernel), if_neg (by rw [q69]; decide +kernel), if_neg (by rw [q69]; decide +kernel), if_neg (by rw [q69]; decide +kernel), if_neg (by rw [q69]; decide +kernel), if_neg (by rw [q69]; decide +kernel), if_neg (by rw [q69]; decide +kernel), if_neg (by rw [q69]; decide +kernel), if_neg (by rw [q69]; decide +kernel), if_neg (by rw [q69]; decide +kernel), if_neg (by rw [q69]; decide +kernel), if_neg (by rw [q69]; decide +kernel), if_neg (by rw [q69]; decide +kernel), if_pos q69]; exact congrArg Int32.toInt (et75.trans (congrArg (a 2) (show t73.toNatClampNeg = 100 from by have w1 := congrArg Int32.toInt q69; have w2 : (15 : Int32).toInt = 15 := (by decide +kernel); have wt71 := qt71; have wt73 := qt73; unfold Int32.toNatClampNeg; omega))))⟩
  by_cases q76 : x = 16
  · have b77 : kb 16 x 16 := kb_eq q76 kc_16
    refine lv_tableIn (tgt := 175) hx hb dX12_count_1 (by rw [q76]; decide +kernel) (by rw [q76]; decide +kernel) (by rw [q76]; rfl) (by decide) ?_
    refine lv_aload_n hx hb dX12_count_175 rfl (lv_at hl 0 rfl) ?_
    refine va_get (D := D) (ci := 12) (v := .ref (r 2)) (C := RX12) (T := TX12) (N := 48) hx hb hg inC12 hown hK hP 0 rfl rfl 2 (by decide) (hg _ wt5_162) (fun _ h9 => h9) rfl dX12_count_176 ?_
    refine lv_bipush (v := 99) hx hb dX12_count_179 (by decide) ?_
    refine lv_iload_n hx hb dX12_count_181 rfl (lv_at hl 1 rfl) ?_
    refine lv_iadd hx hb dX12_count_182 ?_
    refine lv_topi (fun t78 et78 => ?_)
    have b79 : kb 115 t78 115 := kb_eq et78 (kb_add kc_99 b77 (by decide) (by decide))
    have qt78 : t78.toInt = 99 + x.toInt := by rw [et78]; exact kt_cadd kc_99 b77 (by decide) (by decide)
    refine lv_bipush (v := 14) hx hb dX12_count_183 (by decide) ?_
    refine lv_isub hx hb dX12_count_185 ?_
    refine lv_topi (fun t80 et80 => ?_)
    have b81 : kb 101 t80 101 := kb_eq et80 (kb_sub b79 kc_14 (by decide) (by decide))
    have qt80 : t80.toInt = t78.toInt - 14 := by rw [et80]; exact kt_subc b79 kc_14 (by decide) (by decide)
    refine va_iald hx hb hK hP 2 0 rfl rfl (kb_in b81 (by decide) (by decide)) dX12_count_186 ?_
    refine lv_topi (fun t82 et82 => ?_)
    exact kI_ret (v := t82) hx hb hr hlocks rfl hK hS dX12_count_187 () hP hD ⟨(kb_any t82), (by unfold ctF; rw [if_neg (by rw [q76]; decide +kernel), if_neg (by rw [q76]; decide +kernel), if_neg (by rw [q76]; decide +kernel), if_neg (by rw [q76]; decide +kernel), if_neg (by rw [q76]; decide +kernel), if_neg (by rw [q76]; decide +kernel), if_neg (by rw [q76]; decide +kernel), if_neg (by rw [q76]; decide +kernel), if_neg (by rw [q76]; decide +kernel), if_neg (by rw [q76]; decide +kernel), if_neg (by rw [q76]; decide +kernel), if_neg (by rw [q76]; decide +kernel), if_neg (by rw [q76]; decide +kernel), if_neg (by rw [q76]; decide +kernel), if_neg (by rw [q76]; decide +kernel), if_neg (by rw [q76]; decide +kernel), if_pos q76]; exact congrArg Int32.toInt (et82.trans (congrArg (a 2) (show t80.toNatClampNeg = 101 from by have w1 := congrArg Int32.toInt q76; have w2 : (16 : Int32).toInt = 16 := (by decide +kernel); have wt78 := qt78; have wt80 := qt80; unfold Int32.toNatClampNeg; omega))))⟩
  refine lv_tableOut (tgt := 188) hx hb dX12_count_1 (by have gq1 := lv_neT q1 (a := 0) (by decide +kernel); have gq5 := lv_neT q5 (a := 1) (by decide +kernel); have gq13 := lv_neT q13 (a := 2) (by decide +kernel); have gq17 := lv_neT q17 (a := 3) (by decide +kernel); have gq21 := lv_neT q21 (a := 4) (by decide +kernel); have gq25 := lv_neT q25 (a := 5) (by decide +kernel); have gq29 := lv_neT q29 (a := 6) (by decide +kernel); have gq33 := lv_neT q33 (a := 7) (by decide +kernel); have gq38 := lv_neT q38 (a := 8) (by decide +kernel); have gq43 := lv_neT q43 (a := 9) (by decide +kernel); have gq48 := lv_neT q48 (a := 10) (by decide +kernel); have gq51 := lv_neT q51 (a := 11) (by decide +kernel); have gq54 := lv_neT q54 (a := 12) (by decide +kernel); have gq58 := lv_neT q58 (a := 13) (by decide +kernel); have gq61 := lv_neT q61 (a := 14) (by decide +kernel); have gq69 := lv_neT q69 (a := 15) (by decide +kernel); have gq76 := lv_neT q76 (a := 16) (by decide +kernel); omega) (by decide) ?_
  refine lv_iconst (v := (-1)) hx hb dX12_count_188 (by decide) ?_
  exact kI_ret (v := (-1)) hx hb hr hlocks rfl hK hS dX12_count_189 () hP hD ⟨(kb_w kc_m1 (by decide) (by decide)), (by unfold ctF; rw [if_neg q1, if_neg q5, if_neg q13, if_neg q17, if_neg q21, if_neg q25, if_neg q29, if_neg q33, if_neg q38, if_neg q43, if_neg q48, if_neg q51, if_neg q54, if_neg q58, if_neg q61, if_neg q69, if_neg q76]; decide +kernel)⟩
set_option maxHeartbeats 4000000 in
set_option maxRecDepth 100000 in
theorem n_status  (l : Launch) {D : va_G} {K : Nat → ClassId} (o : Nat) (r : Nat → Nat) (f : Nat → Int32) (a : Nat → Nat → Int32) (g : Nat → Int64) (hI : mI f a)     : kI l yX12_status (Cond.code yX12_status cX12_status 1 (some .int) :: kG) (rmD 1 0 0) D (tysK K) [.ref o] (mW K o r f a g) (fun v (_ : Unit) => kb (-2147483648) v 2147483647 ∧ v = f 0) (fun _ => mW K o r f a g) 0 0 := by
  refine kI.of (cc := cX12_status) (maxL := 1) (ret := (some .int)) (by decide) rfl (Nat.le_of_ble_eq_true rfl) ?_
  intro p e s m below meth c A hx hb hr hml hown hts hlocks hnm hK hP hD hS hA ls hl
  have hg : ∀ w ∈ kG, w.before _ s = true := fun w h => hts w (List.mem_cons_of_mem _ h)
  have hown : s.vm.findClass RX12 = some m.cls := hown
  have hl : lv_has ls 1 [(0, .ref o)] := hl
  refine lv_aload_n hx hb dX12_status_0 rfl (lv_at hl 0 rfl) ?_
  refine va_get (D := D) (ci := 12) (v := .int (f 0)) (C := RX12) (T := TX12) (N := 48) hx hb hg inC12 hown hK hP 0 rfl rfl 0 (by decide) (hg _ wt5_160) (fun _ h9 => h9) rfl dX12_status_1 ?_
  refine lv_topi (fun t1 et1 => ?_)
  exact kI_ret (v := t1) hx hb hr hlocks rfl hK hS dX12_status_4 () hP hD ⟨(kb_any t1), et1⟩
set_option maxHeartbeats 4000000 in
set_option maxRecDepth 100000 in
theorem n_stopped  (l : Launch) {D : va_G} {K : Nat → ClassId} (o : Nat) (r : Nat → Nat) (f : Nat → Int32) (a : Nat → Nat → Int32) (g : Nat → Int64) (hI : mI f a)     : kI l yX12_stopped (Cond.code yX12_stopped cX12_stopped 1 (some .int) :: kG) (rmD 1 0 0) D (tysK K) [.ref o] (mW K o r f a g) (fun v (_ : Unit) => kb (-2147483648) v 2147483647 ∧ v = f 37) (fun _ => mW K o r f a g) 0 0 := by
  refine kI.of (cc := cX12_stopped) (maxL := 1) (ret := (some .int)) (by decide) rfl (Nat.le_of_ble_eq_true rfl) ?_
  intro p e s m below meth c A hx hb hr hml hown hts hlocks hnm hK hP hD hS hA ls hl
  have hg : ∀ w ∈ kG, w.before _ s = true := fun w h => hts w (List.mem_cons_of_mem _ h)
  have hown : s.vm.findClass RX12 = some m.cls := hown
  have hl : lv_has ls 1 [(0, .ref o)] := hl
  refine lv_aload_n hx hb dX12_stopped_0 rfl (lv_at hl 0 rfl) ?_
  refine va_get (D := D) (ci := 12) (v := .int (f 37)) (C := RX12) (T := TX12) (N := 48) hx hb hg inC12 hown hK hP 0 rfl rfl 37 (by decide) (hg _ wt5_197) (fun _ h9 => h9) rfl dX12_stopped_1 ?_
  refine lv_topi (fun t1 et1 => ?_)
  exact kI_ret (v := t1) hx hb hr hlocks rfl hK hS dX12_stopped_4 () hP hD ⟨(kb_any t1), et1⟩
