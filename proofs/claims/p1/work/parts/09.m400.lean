set_option maxHeartbeats 4000000 in
set_option maxRecDepth 100000 in
theorem c_back (l : Launch) {D : va_G} {K : Nat → ClassId} (o : Nat) (r : Nat → Nat) (f : Nat → Int32) (a : Nat → Nat → Int32) (g : Nat → Int64) (h0 : a 4 0 = 0) (h1 : a 4 1 = 0) (x : Int32)  : kI l yX12_back (Cond.code yX12_back cX12_back 3 (some .int) :: kG) (rmD 2 0 0) D (tysK K) [.ref o, .int x] (mW K o r f a g) (fun v (u : mS) => v = (if mLies x 0 1 = 0 then (-1 : Int32) else -2)) (fun u => mW K o r u.1 u.2.1 u.2.2) 0 0 := by
  refine kI.of (cc := cX12_back) (maxL := 3) (ret := (some .int)) (by decide) rfl (Nat.le_of_ble_eq_true rfl) ?_
  intro p e s m below meth c A hx hb hr hml hown hts hlocks hnm hK hP hD hS hA ls hl
  have hg : ∀ w ∈ kG, w.before _ s = true := fun w h => hts w (List.mem_cons_of_mem _ h)
  have hown : s.vm.findClass RX12 = some m.cls := hown
  have hl : lv_has ls 3 [(0, .ref o), (1, .int x)] := hl
  by_cases q1 : x = 0
  · subst q1
    have hl : lv_has ls 3 [(0, .ref o), (1, .int 0)] := hl
    refine lv_iload_n hx hb dX12_back_0 rfl (lv_at hl 1 rfl) ?_
    refine lv_iconst (v := 0) hx hb dX12_back_1 (by decide) ?_
    refine lv_iconst (v := 1) hx hb dX12_back_2 (by decide) ?_
    refine kN.callS (As := [.int 0, .int 0, .int 1]) (rest := []) ⟨hx, hb, hml, hown, hg⟩ (c_lies l 0 0 1) (va_cwS 3 hg (kgS wt6_69 wt6_70 wt1_14 wt6_71) rfl rfl rfl (by decide +kernel) ⟨by decide, by decide⟩) hP hS rfl hl.1 rfl (Nat.le_of_ble_eq_true rfl) dX12_back_3 ⟨by decide, by decide⟩ (fun v3 H locs hw2 hP hS => ?_)
    refine k_top (z := 1) (hw2.trans (by decide +kernel)) ?_
    refine lv_if_ne (tgt := 15) hx hb dX12_back_6 (by decide) (fun c4 => ?_) (fun c4 => absurd c4 (by decide +kernel))
    refine lv_aload_n hx hb dX12_back_15 rfl (lv_at hl 0 rfl) ?_
    refine va_get (D := D) (ci := 12) (v := .ref (r 4)) (C := RX12) (T := TX12) (N := 48) hx hb hg inC12 hown hK hP 0 rfl rfl 4 (by decide) (hg _ wt5_164) (fun _ h9 => h9) rfl dX12_back_16 ?_
    refine lv_iload_n hx hb dX12_back_19 rfl (lv_at hl 1 rfl) ?_
    refine va_zald hx hb hK hP 4 2 rfl rfl (k_in (by decide +kernel)) dX12_back_20 ?_
    refine k_top (z := 0) (by rw [cl_0]; exact h0) ?_
    refine lv_if_ne (tgt := 31) hx hb dX12_back_21 (by decide) (fun c5 => absurd (by decide +kernel) c5) (fun c5 => ?_)
    refine lv_aload_n hx hb dX12_back_24 rfl (lv_at hl 0 rfl) ?_
    refine lv_bipush (v := (-2)) hx hb dX12_back_25 (by decide) ?_
    refine kI.callV (As := [.int (-2)]) (rest := []) ⟨hx, hb, hml, hown, hg⟩ (c_refuses2 l o r f a g  ) (cwV 1 hg (kgV wt6_72 wt6_74 wp3_5 wt1_14 wt6_75) rfl rfl rfl (by decide +kernel) ⟨by decide, by decide⟩) hK hP hD hS hA mIs [] rfl (wr := []) rfl rfl rfl (fun i h => by cases h) 0 12 rfl rfl rfl hl.1 rfl (Nat.le_of_ble_eq_true rfl) dX12_back_27 ⟨by decide, by decide⟩ (fun v8 u7 H locs hw6 hP hD hS => ?_)
    obtain ⟨f9, a10, g11⟩ := u7
    have hP : va_P D vwCl (mW K o r f9 a10 g11) H := hP
    have hD : va_D A (mW K o r f9 a10 g11) := hD
    refine k_top (z := (-2)) (hw6) ?_
    exact kI_ret (v := (-2)) hx hb hr hlocks rfl hK hS dX12_back_30 (f9, a10, g11) hP hD (by decide +kernel)
  by_cases q12 : x = 1
  · subst q12
    have hl : lv_has ls 3 [(0, .ref o), (1, .int 1)] := hl
    refine lv_iload_n hx hb dX12_back_0 rfl (lv_at hl 1 rfl) ?_
    refine lv_iconst (v := 0) hx hb dX12_back_1 (by decide) ?_
    refine lv_iconst (v := 1) hx hb dX12_back_2 (by decide) ?_
    refine kN.callS (As := [.int 1, .int 0, .int 1]) (rest := []) ⟨hx, hb, hml, hown, hg⟩ (c_lies l 1 0 1) (va_cwS 3 hg (kgS wt6_69 wt6_70 wt1_14 wt6_71) rfl rfl rfl (by decide +kernel) ⟨by decide, by decide⟩) hP hS rfl hl.1 rfl (Nat.le_of_ble_eq_true rfl) dX12_back_3 ⟨by decide, by decide⟩ (fun v14 H locs hw13 hP hS => ?_)
    refine k_top (z := 1) (hw13.trans (by decide +kernel)) ?_
    refine lv_if_ne (tgt := 15) hx hb dX12_back_6 (by decide) (fun c15 => ?_) (fun c15 => absurd c15 (by decide +kernel))
    refine lv_aload_n hx hb dX12_back_15 rfl (lv_at hl 0 rfl) ?_
    refine va_get (D := D) (ci := 12) (v := .ref (r 4)) (C := RX12) (T := TX12) (N := 48) hx hb hg inC12 hown hK hP 0 rfl rfl 4 (by decide) (hg _ wt5_164) (fun _ h9 => h9) rfl dX12_back_16 ?_
    refine lv_iload_n hx hb dX12_back_19 rfl (lv_at hl 1 rfl) ?_
    refine va_zald hx hb hK hP 4 2 rfl rfl (k_in (by decide +kernel)) dX12_back_20 ?_
    refine k_top (z := 0) (by rw [cl_1]; exact h1) ?_
    refine lv_if_ne (tgt := 31) hx hb dX12_back_21 (by decide) (fun c16 => absurd (by decide +kernel) c16) (fun c16 => ?_)
    refine lv_aload_n hx hb dX12_back_24 rfl (lv_at hl 0 rfl) ?_
    refine lv_bipush (v := (-2)) hx hb dX12_back_25 (by decide) ?_
    refine kI.callV (As := [.int (-2)]) (rest := []) ⟨hx, hb, hml, hown, hg⟩ (c_refuses2 l o r f a g  ) (cwV 1 hg (kgV wt6_72 wt6_74 wp3_5 wt1_14 wt6_75) rfl rfl rfl (by decide +kernel) ⟨by decide, by decide⟩) hK hP hD hS hA mIs [] rfl (wr := []) rfl rfl rfl (fun i h => by cases h) 0 12 rfl rfl rfl hl.1 rfl (Nat.le_of_ble_eq_true rfl) dX12_back_27 ⟨by decide, by decide⟩ (fun v19 u18 H locs hw17 hP hD hS => ?_)
    obtain ⟨f20, a21, g22⟩ := u18
    have hP : va_P D vwCl (mW K o r f20 a21 g22) H := hP
    have hD : va_D A (mW K o r f20 a21 g22) := hD
    refine k_top (z := (-2)) (hw17) ?_
    exact kI_ret (v := (-2)) hx hb hr hlocks rfl hK hS dX12_back_30 (f20, a21, g22) hP hD (by decide +kernel)
  refine lv_iload_n hx hb dX12_back_0 rfl (lv_at hl 1 rfl) ?_
  refine lv_iconst (v := 0) hx hb dX12_back_1 (by decide) ?_
  refine lv_iconst (v := 1) hx hb dX12_back_2 (by decide) ?_
  refine kN.callS (As := [.int x, .int 0, .int 1]) (rest := []) ⟨hx, hb, hml, hown, hg⟩ (c_lies l x 0 1) (va_cwS 3 hg (kgS wt6_69 wt6_70 wt1_14 wt6_71) rfl rfl rfl (by decide +kernel) ⟨by decide, by decide⟩) hP hS rfl hl.1 rfl (Nat.le_of_ble_eq_true rfl) dX12_back_3 ⟨by decide, by decide⟩ (fun v24 H locs hw23 hP hS => ?_)
  refine k_top (z := mLies x 0 1) hw23 ?_
  refine lv_if_ne (tgt := 15) hx hb dX12_back_6 (by decide) (fun c25 => absurd (mLies_q q1 q12) c25) (fun c25 => ?_)
  refine lv_aload_n hx hb dX12_back_9 rfl (lv_at hl 0 rfl) ?_
  refine lv_iconst (v := (-1)) hx hb dX12_back_10 (by decide) ?_
  refine kI.callV (As := [.int (-1)]) (rest := []) ⟨hx, hb, hml, hown, hg⟩ (c_refuses1 l o r f a g  ) (cwV 1 hg (kgV wt6_72 wt6_74 wp3_5 wt1_14 wt6_75) rfl rfl rfl (by decide +kernel) ⟨by decide, by decide⟩) hK hP hD hS hA mIs [] rfl (wr := []) rfl rfl rfl (fun i h => by cases h) 0 12 rfl rfl rfl hl.1 rfl (Nat.le_of_ble_eq_true rfl) dX12_back_11 ⟨by decide, by decide⟩ (fun v28 u27 H locs hw26 hP hD hS => ?_)
  obtain ⟨f29, a30, g31⟩ := u27
  have hP : va_P D vwCl (mW K o r f29 a30 g31) H := hP
  have hD : va_D A (mW K o r f29 a30 g31) := hD
  refine k_top (z := (-1)) (hw26) ?_
  exact kI_ret (v := (-1)) hx hb hr hlocks rfl hK hS dX12_back_14 (f29, a30, g31) hP hD (by rw [if_pos (mLies_q q1 q12)])
set_option maxHeartbeats 4000000 in
set_option maxRecDepth 100000 in
theorem c_image (l : Launch) {D : va_G} {K : Nat → ClassId} (o : Nat) (r : Nat → Nat) (f : Nat → Int32) (a : Nat → Nat → Int32) (g : Nat → Int64)  (x : Int32)  : kI l yX12_image (Cond.code yX12_image cX12_image 3 (some .int) :: kG) (rmD 2 0 0) D (tysK K) [.ref o, .int x] (mW K o r f a g) (fun v (u : mS) => v = (if mLies x 0 1 = 0 then (-1 : Int32) else 0)) (fun u => mW K o r u.1 u.2.1 u.2.2) 0 0 := by
  refine kI.of (cc := cX12_image) (maxL := 3) (ret := (some .int)) (by decide) rfl (Nat.le_of_ble_eq_true rfl) ?_
  intro p e s m below meth c A hx hb hr hml hown hts hlocks hnm hK hP hD hS hA ls hl
  have hg : ∀ w ∈ kG, w.before _ s = true := fun w h => hts w (List.mem_cons_of_mem _ h)
  have hown : s.vm.findClass RX12 = some m.cls := hown
  have hl : lv_has ls 3 [(0, .ref o), (1, .int x)] := hl
  by_cases q1 : x = 0
  · subst q1
    have hl : lv_has ls 3 [(0, .ref o), (1, .int 0)] := hl
    refine lv_iload_n hx hb dX12_image_0 rfl (lv_at hl 1 rfl) ?_
    refine lv_iconst (v := 0) hx hb dX12_image_1 (by decide) ?_
    refine lv_iconst (v := 1) hx hb dX12_image_2 (by decide) ?_
    refine kN.callS (As := [.int 0, .int 0, .int 1]) (rest := []) ⟨hx, hb, hml, hown, hg⟩ (c_lies l 0 0 1) (va_cwS 3 hg (kgS wt6_69 wt6_70 wt1_14 wt6_71) rfl rfl rfl (by decide +kernel) ⟨by decide, by decide⟩) hP hS rfl hl.1 rfl (Nat.le_of_ble_eq_true rfl) dX12_image_3 ⟨by decide, by decide⟩ (fun v3 H locs hw2 hP hS => ?_)
    refine k_top (z := 1) (hw2.trans (by decide +kernel)) ?_
    refine lv_if_ne (tgt := 15) hx hb dX12_image_6 (by decide) (fun c4 => ?_) (fun c4 => absurd c4 (by decide +kernel))
    refine lv_iconst (v := 0) hx hb dX12_image_15 (by decide) ?_
    refine lv_istore_n (lv' := [(2, .int 0), (0, .ref o), (1, .int 0)]) hx hb dX12_image_16 rfl hl (by decide) rfl (fun ls hl => ?_)
    have lp5 : ∀ (n i : Nat) (F : Nat → Int32) (B : Nat → Nat → Int32) (G : Nat → Int64) (H : Heap) (locs : List Loc) (ls : Array Slot), i + n = 5714 →   va_P D vwCl (mW K o r F B G) H → va_D A (mW K o r F B G) → va_S A s.heap H locs → lv_has ls 3 [(2, .int (nI i)), (0, .ref o), (1, .int 0)] → W p l e (rmD 2 0 0) s m ([.ref o, .int 0] : List Value).toArray below meth c H locs 0 0 (kQi D (tysK K) (fun v (u : mS) => v = (if mLies 0 0 1 = 0 then (-1 : Int32) else 0)) (fun u => mW K o r u.1 u.2.1 u.2.2) A below ([.ref o, .int 0] : List Value).toArray s 0 0) (F0 m 17 ls []) := by
      intro n
      induction n with
      | zero =>
        intro i F B G H locs ls  hin   hP hD hS hl
        obtain rfl : 5714 = i := by omega
        have hl : lv_has ls 3 [(2, .int 5714), (0, .ref o), (1, .int 0)] := hl
        refine lv_iload_n hx hb dX12_image_17 rfl (lv_at hl 0 rfl) ?_
        refine lv_sipush (v := 5714) hx hb dX12_image_18 (by decide) ?_
        refine lv_icmp_ge (tgt := 48) hx hb dX12_image_21 (by decide) (fun c6 => ?_) (fun c6 => absurd (by decide +kernel) c6)
        refine lv_aload_n hx hb dX12_image_48 rfl (lv_at hl 1 rfl) ?_
        refine va_get (D := D) (ci := 12) (v := .ref (r 4)) (C := RX12) (T := TX12) (N := 48) hx hb hg inC12 hown hK hP 0 rfl rfl 4 (by decide) (hg _ wt5_164) (fun _ h9 => h9) rfl dX12_image_49 ?_
        refine lv_iload_n hx hb dX12_image_52 rfl (lv_at hl 2 rfl) ?_
        refine lv_iconst (v := 1) hx hb dX12_image_53 (by decide) ?_
        refine va_zast hx hb hK hP hD hS 4 2 rfl rfl (k_in (by decide +kernel)) dX12_image_54 (fun H locs hP hD hS => ?_)
        rw [cl_0] at hP hD
        have hP : va_P D vwCl (mW K o r F (va_up B 4 (upd (B 4) 0 (vp_nar .boolean 1))) G) H := hP
        have hD : va_D A (mW K o r F (va_up B 4 (upd (B 4) 0 (vp_nar .boolean 1))) G) := hD
        refine k_gen (P := fun z => va_P D vwCl (mW K o r F z G) H ∧ va_D A (mW K o r F z G)) (va_up B 4 (upd (B 4) 0 (vp_nar .boolean 1))) ⟨hP, hD⟩ (fun a_7 ea_7 hPD => ?_)
        have hP := hPD.1
        have hD := hPD.2
        refine lv_aload_n hx hb dX12_image_55 rfl (lv_at hl 1 rfl) ?_
        refine lv_iconst (v := 0) hx hb dX12_image_56 (by decide) ?_
        refine kI.callV (As := [.int 0]) (rest := []) ⟨hx, hb, hml, hown, hg⟩ (c_good l o r F a_7 G  0) (cwV 1 hg (kgV wt6_76 wt6_78 wp3_6 wt1_14 wt6_79) rfl rfl rfl (by decide +kernel) ⟨by decide, by decide⟩) hK hP hD hS hA mIs [] rfl (wr := []) rfl rfl rfl (fun i h => by cases h) 0 12 rfl rfl rfl hl.1 rfl (Nat.le_of_ble_eq_true rfl) dX12_image_57 ⟨by decide, by decide⟩ (fun v10 u9 H locs hw8 hP hD hS => ?_)
        obtain ⟨f11, a12, g13⟩ := u9
        have hP : va_P D vwCl (mW K o r f11 a12 g13) H := hP
        have hD : va_D A (mW K o r f11 a12 g13) := hD
        refine k_top (z := 0) (hw8) ?_
        exact kI_ret (v := 0) hx hb hr hlocks rfl hK hS dX12_image_60 (f11, a12, g13) hP hD (by decide +kernel)
      | succ n ih =>
        intro i F B G H locs ls  hin   hP hD hS hl
        have hlt : i < 5714 := by omega
        refine lv_iload_n hx hb dX12_image_17 rfl (lv_at hl 0 rfl) ?_
        refine lv_sipush (v := 5714) hx hb dX12_image_18 (by decide) ?_
        refine lv_icmp_ge (tgt := 48) hx hb dX12_image_21 (by decide) (fun c14 => absurd c14 (nI_ge (b := 5714) hlt (by decide))) (fun c14 => ?_)
        refine lv_aload_n hx hb dX12_image_24 rfl (lv_at hl 1 rfl) ?_
        refine va_get (D := D) (ci := 12) (v := .ref (r 3)) (C := RX12) (T := TX12) (N := 48) hx hb hg inC12 hown hK hP 0 rfl rfl 3 (by decide) (hg _ wt5_163) (fun _ h9 => h9) rfl dX12_image_25 ?_
        refine lv_sipush (v := 5714) hx hb dX12_image_28 (by decide) ?_
        refine lv_iload_n hx hb dX12_image_31 rfl (lv_at hl 2 rfl) ?_
        refine lv_imul hx hb dX12_image_32 ?_
        refine k_top (z := 0) (by decide +kernel) ?_
        refine lv_iload_n hx hb dX12_image_33 rfl (lv_at hl 0 rfl) ?_
        refine lv_iadd hx hb dX12_image_34 ?_
        refine k_top (z := nI (0 + i)) (nI_add 0 i) ?_
        refine lv_aload_n hx hb dX12_image_35 rfl (lv_at hl 1 rfl) ?_
        refine va_get (D := D) (ci := 12) (v := .ref (r 2)) (C := RX12) (T := TX12) (N := 48) hx hb hg inC12 hown hK hP 0 rfl rfl 2 (by decide) (hg _ wt5_162) (fun _ h9 => h9) rfl dX12_image_36 ?_
        refine lv_iload_n hx hb dX12_image_39 rfl (lv_at hl 0 rfl) ?_
        refine va_iald hx hb hK hP 2 0 rfl rfl (vp_in_nI (by omega) (by decide)) dX12_image_40 ?_
        refine lv_topi (fun t15 et15 => ?_)
        rw [nI_clamp (n := i) (by omega)] at et15
        refine va_iast hx hb hK hP hD hS 3 0 rfl rfl (vp_in_nI (by omega) (by decide)) dX12_image_41 (fun H locs hP hD hS => ?_)
        rw [nI_clamp (n := (0 + i)) (by omega)] at hP hD
        have hP : va_P D vwCl (mW K o r F (va_up B 3 (upd (B 3) (0 + i) t15)) G) H := hP
        have hD : va_D A (mW K o r F (va_up B 3 (upd (B 3) (0 + i) t15)) G) := hD
        refine k_gen (P := fun z => va_P D vwCl (mW K o r F z G) H ∧ va_D A (mW K o r F z G)) (va_up B 3 (upd (B 3) (0 + i) t15)) ⟨hP, hD⟩ (fun a_16 ea_16 hPD => ?_)
        have hP := hPD.1
        have hD := hPD.2
        refine lv_iinc (v := nI (i + 1)) (lv' := [(2, .int (nI (i + 1))), (0, .ref o), (1, .int 0)]) hx hb dX12_image_42 hl (k := 0) rfl (nI_1 _) (by decide) rfl (fun ls hl => ?_)
        refine lv_goto (tgt := 17) hx hb dX12_image_45 (by decide) ?_
        exact ih (i + 1) F a_16 G _ _ _  (by omega)   hP hD hS (lv_sub hl [0, 1, 2] rfl)
    exact lp5 (5714 - 0) 0 f a g _ _ _  (by omega)   hP hD hS hl
  by_cases q17 : x = 1
  · subst q17
    have hl : lv_has ls 3 [(0, .ref o), (1, .int 1)] := hl
    refine lv_iload_n hx hb dX12_image_0 rfl (lv_at hl 1 rfl) ?_
    refine lv_iconst (v := 0) hx hb dX12_image_1 (by decide) ?_
    refine lv_iconst (v := 1) hx hb dX12_image_2 (by decide) ?_
    refine kN.callS (As := [.int 1, .int 0, .int 1]) (rest := []) ⟨hx, hb, hml, hown, hg⟩ (c_lies l 1 0 1) (va_cwS 3 hg (kgS wt6_69 wt6_70 wt1_14 wt6_71) rfl rfl rfl (by decide +kernel) ⟨by decide, by decide⟩) hP hS rfl hl.1 rfl (Nat.le_of_ble_eq_true rfl) dX12_image_3 ⟨by decide, by decide⟩ (fun v19 H locs hw18 hP hS => ?_)
    refine k_top (z := 1) (hw18.trans (by decide +kernel)) ?_
    refine lv_if_ne (tgt := 15) hx hb dX12_image_6 (by decide) (fun c20 => ?_) (fun c20 => absurd c20 (by decide +kernel))
    refine lv_iconst (v := 0) hx hb dX12_image_15 (by decide) ?_
    refine lv_istore_n (lv' := [(2, .int 0), (0, .ref o), (1, .int 1)]) hx hb dX12_image_16 rfl hl (by decide) rfl (fun ls hl => ?_)
    have lp21 : ∀ (n i : Nat) (F : Nat → Int32) (B : Nat → Nat → Int32) (G : Nat → Int64) (H : Heap) (locs : List Loc) (ls : Array Slot), i + n = 5714 →   va_P D vwCl (mW K o r F B G) H → va_D A (mW K o r F B G) → va_S A s.heap H locs → lv_has ls 3 [(2, .int (nI i)), (0, .ref o), (1, .int 1)] → W p l e (rmD 2 0 0) s m ([.ref o, .int 1] : List Value).toArray below meth c H locs 0 0 (kQi D (tysK K) (fun v (u : mS) => v = (if mLies 1 0 1 = 0 then (-1 : Int32) else 0)) (fun u => mW K o r u.1 u.2.1 u.2.2) A below ([.ref o, .int 1] : List Value).toArray s 0 0) (F0 m 17 ls []) := by
      intro n
      induction n with
      | zero =>
        intro i F B G H locs ls  hin   hP hD hS hl
        obtain rfl : 5714 = i := by omega
        have hl : lv_has ls 3 [(2, .int 5714), (0, .ref o), (1, .int 1)] := hl
        refine lv_iload_n hx hb dX12_image_17 rfl (lv_at hl 0 rfl) ?_
        refine lv_sipush (v := 5714) hx hb dX12_image_18 (by decide) ?_
        refine lv_icmp_ge (tgt := 48) hx hb dX12_image_21 (by decide) (fun c22 => ?_) (fun c22 => absurd (by decide +kernel) c22)
        refine lv_aload_n hx hb dX12_image_48 rfl (lv_at hl 1 rfl) ?_
        refine va_get (D := D) (ci := 12) (v := .ref (r 4)) (C := RX12) (T := TX12) (N := 48) hx hb hg inC12 hown hK hP 0 rfl rfl 4 (by decide) (hg _ wt5_164) (fun _ h9 => h9) rfl dX12_image_49 ?_
        refine lv_iload_n hx hb dX12_image_52 rfl (lv_at hl 2 rfl) ?_
        refine lv_iconst (v := 1) hx hb dX12_image_53 (by decide) ?_
        refine va_zast hx hb hK hP hD hS 4 2 rfl rfl (k_in (by decide +kernel)) dX12_image_54 (fun H locs hP hD hS => ?_)
        rw [cl_1] at hP hD
        have hP : va_P D vwCl (mW K o r F (va_up B 4 (upd (B 4) 1 (vp_nar .boolean 1))) G) H := hP
        have hD : va_D A (mW K o r F (va_up B 4 (upd (B 4) 1 (vp_nar .boolean 1))) G) := hD
        refine k_gen (P := fun z => va_P D vwCl (mW K o r F z G) H ∧ va_D A (mW K o r F z G)) (va_up B 4 (upd (B 4) 1 (vp_nar .boolean 1))) ⟨hP, hD⟩ (fun a_23 ea_23 hPD => ?_)
        have hP := hPD.1
        have hD := hPD.2
        refine lv_aload_n hx hb dX12_image_55 rfl (lv_at hl 1 rfl) ?_
        refine lv_iconst (v := 0) hx hb dX12_image_56 (by decide) ?_
        refine kI.callV (As := [.int 0]) (rest := []) ⟨hx, hb, hml, hown, hg⟩ (c_good l o r F a_23 G  0) (cwV 1 hg (kgV wt6_76 wt6_78 wp3_6 wt1_14 wt6_79) rfl rfl rfl (by decide +kernel) ⟨by decide, by decide⟩) hK hP hD hS hA mIs [] rfl (wr := []) rfl rfl rfl (fun i h => by cases h) 0 12 rfl rfl rfl hl.1 rfl (Nat.le_of_ble_eq_true rfl) dX12_image_57 ⟨by decide, by decide⟩ (fun v26 u25 H locs hw24 hP hD hS => ?_)
        obtain ⟨f27, a28, g29⟩ := u25
        have hP : va_P D vwCl (mW K o r f27 a28 g29) H := hP
        have hD : va_D A (mW K o r f27 a28 g29) := hD
        refine k_top (z := 0) (hw24) ?_
        exact kI_ret (v := 0) hx hb hr hlocks rfl hK hS dX12_image_60 (f27, a28, g29) hP hD (by decide +kernel)
      | succ n ih =>
        intro i F B G H locs ls  hin   hP hD hS hl
        have hlt : i < 5714 := by omega
        refine lv_iload_n hx hb dX12_image_17 rfl (lv_at hl 0 rfl) ?_
        refine lv_sipush (v := 5714) hx hb dX12_image_18 (by decide) ?_
        refine lv_icmp_ge (tgt := 48) hx hb dX12_image_21 (by decide) (fun c30 => absurd c30 (nI_ge (b := 5714) hlt (by decide))) (fun c30 => ?_)
        refine lv_aload_n hx hb dX12_image_24 rfl (lv_at hl 1 rfl) ?_
        refine va_get (D := D) (ci := 12) (v := .ref (r 3)) (C := RX12) (T := TX12) (N := 48) hx hb hg inC12 hown hK hP 0 rfl rfl 3 (by decide) (hg _ wt5_163) (fun _ h9 => h9) rfl dX12_image_25 ?_
        refine lv_sipush (v := 5714) hx hb dX12_image_28 (by decide) ?_
        refine lv_iload_n hx hb dX12_image_31 rfl (lv_at hl 2 rfl) ?_
        refine lv_imul hx hb dX12_image_32 ?_
        refine k_top (z := 5714) (by decide +kernel) ?_
        refine lv_iload_n hx hb dX12_image_33 rfl (lv_at hl 0 rfl) ?_
        refine lv_iadd hx hb dX12_image_34 ?_
        refine k_top (z := nI (5714 + i)) (nI_add 5714 i) ?_
        refine lv_aload_n hx hb dX12_image_35 rfl (lv_at hl 1 rfl) ?_
        refine va_get (D := D) (ci := 12) (v := .ref (r 2)) (C := RX12) (T := TX12) (N := 48) hx hb hg inC12 hown hK hP 0 rfl rfl 2 (by decide) (hg _ wt5_162) (fun _ h9 => h9) rfl dX12_image_36 ?_
        refine lv_iload_n hx hb dX12_image_39 rfl (lv_at hl 0 rfl) ?_
        refine va_iald hx hb hK hP 2 0 rfl rfl (vp_in_nI (by omega) (by decide)) dX12_image_40 ?_
        refine lv_topi (fun t31 et31 => ?_)
        rw [nI_clamp (n := i) (by omega)] at et31
        refine va_iast hx hb hK hP hD hS 3 0 rfl rfl (vp_in_nI (by omega) (by decide)) dX12_image_41 (fun H locs hP hD hS => ?_)
        rw [nI_clamp (n := (5714 + i)) (by omega)] at hP hD
        have hP : va_P D vwCl (mW K o r F (va_up B 3 (upd (B 3) (5714 + i) t31)) G) H := hP
        have hD : va_D A (mW K o r F (va_up B 3 (upd (B 3) (5714 + i) t31)) G) := hD
        refine k_gen (P := fun z => va_P D vwCl (mW K o r F z G) H ∧ va_D A (mW K o r F z G)) (va_up B 3 (upd (B 3) (5714 + i) t31)) ⟨hP, hD⟩ (fun a_32 ea_32 hPD => ?_)
        have hP := hPD.1
        have hD := hPD.2
        refine lv_iinc (v := nI (i + 1)) (lv' := [(2, .int (nI (i + 1))), (0, .ref o), (1, .int 1)]) hx hb dX12_image_42 hl (k := 0) rfl (nI_1 _) (by decide) rfl (fun ls hl => ?_)
        refine lv_goto (tgt := 17) hx hb dX12_image_45 (by decide) ?_
        exact ih (i + 1) F a_32 G _ _ _  (by omega)   hP hD hS (lv_sub hl [0, 1, 2] rfl)
    exact lp21 (5714 - 0) 0 f a g _ _ _  (by omega)   hP hD hS hl
  refine lv_iload_n hx hb dX12_image_0 rfl (lv_at hl 1 rfl) ?_
  refine lv_iconst (v := 0) hx hb dX12_image_1 (by decide) ?_
  refine lv_iconst (v := 1) hx hb dX12_image_2 (by decide) ?_
  refine kN.callS (As := [.int x, .int 0, .int 1]) (rest := []) ⟨hx, hb, hml, hown, hg⟩ (c_lies l x 0 1) (va_cwS 3 hg (kgS wt6_69 wt6_70 wt1_14 wt6_71) rfl rfl rfl (by decide +kernel) ⟨by decide, by decide⟩) hP hS rfl hl.1 rfl (Nat.le_of_ble_eq_true rfl) dX12_image_3 ⟨by decide, by decide⟩ (fun v34 H locs hw33 hP hS => ?_)
  refine k_top (z := mLies x 0 1) hw33 ?_
  refine lv_if_ne (tgt := 15) hx hb dX12_image_6 (by decide) (fun c35 => absurd (mLies_q q1 q17) c35) (fun c35 => ?_)
  refine lv_aload_n hx hb dX12_image_9 rfl (lv_at hl 0 rfl) ?_
  refine lv_iconst (v := (-1)) hx hb dX12_image_10 (by decide) ?_
  refine kI.callV (As := [.int (-1)]) (rest := []) ⟨hx, hb, hml, hown, hg⟩ (c_refuses1 l o r f a g  ) (cwV 1 hg (kgV wt6_72 wt6_74 wp3_5 wt1_14 wt6_75) rfl rfl rfl (by decide +kernel) ⟨by decide, by decide⟩) hK hP hD hS hA mIs [] rfl (wr := []) rfl rfl rfl (fun i h => by cases h) 0 12 rfl rfl rfl hl.1 rfl (Nat.le_of_ble_eq_true rfl) dX12_image_11 ⟨by decide, by decide⟩ (fun v38 u37 H locs hw36 hP hD hS => ?_)
  obtain ⟨f39, a40, g41⟩ := u37
  have hP : va_P D vwCl (mW K o r f39 a40 g41) H := hP
  have hD : va_D A (mW K o r f39 a40 g41) := hD
  refine k_top (z := (-1)) (hw36) ?_
  exact kI_ret (v := (-1)) hx hb hr hlocks rfl hK hS dX12_image_14 (f39, a40, g41) hP hD (by rw [if_pos (mLies_q q1 q17)])
set_option maxHeartbeats 4000000 in
set_option maxRecDepth 100000 in
theorem c_count (l : Launch) {D : va_G} {K : Nat → ClassId} (o : Nat) (r : Nat → Nat) (f : Nat → Int32) (a : Nat → Nat → Int32) (g : Nat → Int64) (h0 : a 2 102 = 0) (h1 : a 2 103 = 0) (h2 : a 2 104 = 0) (h3 : a 2 105 = 0) (h4 : f 33 = 0) (h5 : f 13 = 0) (h6 : a 1 1 = 0) (h7 : a 1 2 = 0) (h8 : a 1 3 = 0) (h9 : a 1 5 = 0) (h10 : a 1 6 = 0) (h11 : a 2 106 = (-1)) (h12 : a 2 22 = 0) (h13 : a 2 99 = 30) (h14 : a 2 100 = 2) (h15 : a 2 101 = 0) (x : Int32)  : kI l yX12_count (Cond.code yX12_count cX12_count 2 (some .int) :: kG) (rmD 2 0 0) D (tysK K) [.ref o, .int x] (mW K o r f a g) (fun v (_ : Unit) => v = mCount x) (fun _ => mW K o r f a g) 0 0 := by
  refine kI.of (cc := cX12_count) (maxL := 2) (ret := (some .int)) (by decide) rfl (Nat.le_of_ble_eq_true rfl) ?_
  intro p e s m below meth c A hx hb hr hml hown hts hlocks hnm hK hP hD hS hA ls hl
  have hg : ∀ w ∈ kG, w.before _ s = true := fun w h => hts w (List.mem_cons_of_mem _ h)
  have hown : s.vm.findClass RX12 = some m.cls := hown
  have hl : lv_has ls 2 [(0, .ref o), (1, .int x)] := hl
  refine lv_iload_n hx hb dX12_count_0 rfl (lv_at hl 1 rfl) ?_
  by_cases q1 : x = 0
  · subst q1
    refine lv_tableIn (tgt := 84) hx hb dX12_count_1 (by decide +kernel) (by decide +kernel) (by rfl) (by decide) ?_
    refine lv_aload_n hx hb dX12_count_84 rfl (lv_at hl 0 rfl) ?_
    refine va_get (D := D) (ci := 12) (v := .ref (r 2)) (C := RX12) (T := TX12) (N := 48) hx hb hg inC12 hown hK hP 0 rfl rfl 2 (by decide) (hg _ wt5_162) (fun _ h9 => h9) rfl dX12_count_85 ?_
    refine lv_bipush (v := 102) hx hb dX12_count_88 (by decide) ?_
    refine va_iald hx hb hK hP 2 0 rfl rfl (k_in (by decide +kernel)) dX12_count_90 ?_
    refine k_top (z := 0) (by rw [cl_102]; exact h0) ?_
    exact kI_ret (v := 0) hx hb hr hlocks rfl hK hS dX12_count_91 () hP hD (by decide +kernel)
  by_cases q2 : x = 1
  · subst q2
    refine lv_tableIn (tgt := 92) hx hb dX12_count_1 (by decide +kernel) (by decide +kernel) (by rfl) (by decide) ?_
    refine lv_aload_n hx hb dX12_count_92 rfl (lv_at hl 0 rfl) ?_
    refine kI.callV (As := []) (rest := []) ⟨hx, hb, hml, hown, hg⟩ (c_standing l o r f a g h0 ) (cwV 0 hg (kgV wt6_116 wt6_118 wp3_13 wt1_14 wt6_119) rfl rfl rfl (by decide +kernel) ⟨by decide, by decide⟩) hK hP hD hS hA mIs [] rfl (wr := []) rfl rfl rfl (fun i h => by cases h) 0 12 rfl rfl rfl hl.1 rfl (Nat.le_of_ble_eq_true rfl) dX12_count_93 ⟨by decide, by decide⟩ (fun v5 u4 H locs hw3 hP hD hS => ?_)
    have hP : va_P D vwCl (mW K o r f a g) H := hP
    have hD : va_D A (mW K o r f a g) := hD
    refine k_top (z := 0) (hw3) ?_
    refine kN.callS (As := [.int 0]) (rest := []) ⟨hx, hb, hml, hown, hg⟩ (c_ones0 l ) (va_cwS 1 hg (kgS wt7_71 wt7_72 wt1_14 wt7_73) rfl rfl rfl (by decide +kernel) ⟨by decide, by decide⟩) hP hS rfl hl.1 rfl (Nat.le_of_ble_eq_true rfl) dX12_count_96 ⟨by decide, by decide⟩ (fun v7 H locs hw6 hP hS => ?_)
    refine k_top (z := 0) (hw6) ?_
    exact kI_ret (v := 0) hx hb hr hlocks rfl hK hS dX12_count_99 () hP hD (by decide +kernel)
  by_cases q8 : x = 2
  · subst q8
    refine lv_tableIn (tgt := 100) hx hb dX12_count_1 (by decide +kernel) (by decide +kernel) (by rfl) (by decide) ?_
    refine lv_aload_n hx hb dX12_count_100 rfl (lv_at hl 0 rfl) ?_
    refine va_get (D := D) (ci := 12) (v := .ref (r 2)) (C := RX12) (T := TX12) (N := 48) hx hb hg inC12 hown hK hP 0 rfl rfl 2 (by decide) (hg _ wt5_162) (fun _ h9 => h9) rfl dX12_count_101 ?_
    refine lv_bipush (v := 103) hx hb dX12_count_104 (by decide) ?_
    refine va_iald hx hb hK hP 2 0 rfl rfl (k_in (by decide +kernel)) dX12_count_106 ?_
    refine k_top (z := 0) (by rw [cl_103]; exact h1) ?_
    exact kI_ret (v := 0) hx hb hr hlocks rfl hK hS dX12_count_107 () hP hD (by decide +kernel)
  by_cases q9 : x = 3
  · subst q9
    refine lv_tableIn (tgt := 108) hx hb dX12_count_1 (by decide +kernel) (by decide +kernel) (by rfl) (by decide) ?_
    refine lv_aload_n hx hb dX12_count_108 rfl (lv_at hl 0 rfl) ?_
    refine va_get (D := D) (ci := 12) (v := .ref (r 2)) (C := RX12) (T := TX12) (N := 48) hx hb hg inC12 hown hK hP 0 rfl rfl 2 (by decide) (hg _ wt5_162) (fun _ h9 => h9) rfl dX12_count_109 ?_
    refine lv_bipush (v := 104) hx hb dX12_count_112 (by decide) ?_
    refine va_iald hx hb hK hP 2 0 rfl rfl (k_in (by decide +kernel)) dX12_count_114 ?_
    refine k_top (z := 0) (by rw [cl_104]; exact h2) ?_
    exact kI_ret (v := 0) hx hb hr hlocks rfl hK hS dX12_count_115 () hP hD (by decide +kernel)
  by_cases q10 : x = 4
  · subst q10
    refine lv_tableIn (tgt := 116) hx hb dX12_count_1 (by decide +kernel) (by decide +kernel) (by rfl) (by decide) ?_
    refine lv_aload_n hx hb dX12_count_116 rfl (lv_at hl 0 rfl) ?_
    refine va_get (D := D) (ci := 12) (v := .ref (r 2)) (C := RX12) (T := TX12) (N := 48) hx hb hg inC12 hown hK hP 0 rfl rfl 2 (by decide) (hg _ wt5_162) (fun _ h9 => h9) rfl dX12_count_117 ?_
    refine lv_bipush (v := 105) hx hb dX12_count_120 (by decide) ?_
    refine va_iald hx hb hK hP 2 0 rfl rfl (k_in (by decide +kernel)) dX12_count_122 ?_
    refine k_top (z := 0) (by rw [cl_105]; exact h3) ?_
    exact kI_ret (v := 0) hx hb hr hlocks rfl hK hS dX12_count_123 () hP hD (by decide +kernel)
  by_cases q11 : x = 5
  · subst q11
    refine lv_tableIn (tgt := 124) hx hb dX12_count_1 (by decide +kernel) (by decide +kernel) (by rfl) (by decide) ?_
    refine lv_aload_n hx hb dX12_count_124 rfl (lv_at hl 0 rfl) ?_
    refine va_get (D := D) (ci := 12) (v := .int (f 33)) (C := RX12) (T := TX12) (N := 48) hx hb hg inC12 hown hK hP 0 rfl rfl 33 (by decide) (hg _ wt5_193) (fun _ h9 => h9) rfl dX12_count_125 ?_
    refine k_top (z := 0) h4 ?_
    exact kI_ret (v := 0) hx hb hr hlocks rfl hK hS dX12_count_128 () hP hD (by decide +kernel)
  by_cases q12 : x = 6
  · subst q12
    refine lv_tableIn (tgt := 129) hx hb dX12_count_1 (by decide +kernel) (by decide +kernel) (by rfl) (by decide) ?_
    refine lv_aload_n hx hb dX12_count_129 rfl (lv_at hl 0 rfl) ?_
    refine va_get (D := D) (ci := 12) (v := .int (f 13)) (C := RX12) (T := TX12) (N := 48) hx hb hg inC12 hown hK hP 0 rfl rfl 13 (by decide) (hg _ wt5_173) (fun _ h9 => h9) rfl dX12_count_130 ?_
    refine k_top (z := 0) h5 ?_
    exact kI_ret (v := 0) hx hb hr hlocks rfl hK hS dX12_count_133 () hP hD (by decide +kernel)
  by_cases q13 : x = 7
  · subst q13
    refine lv_tableIn (tgt := 134) hx hb dX12_count_1 (by decide +kernel) (by decide +kernel) (by rfl) (by decide) ?_
    refine lv_aload_n hx hb dX12_count_134 rfl (lv_at hl 0 rfl) ?_
    refine va_get (D := D) (ci := 12) (v := .ref (r 1)) (C := RX12) (T := TX12) (N := 48) hx hb hg inC12 hown hK hP 0 rfl rfl 1 (by decide) (hg _ wt5_161) (fun _ h9 => h9) rfl dX12_count_135 ?_
    refine lv_iload_n hx hb dX12_count_138 rfl (lv_at hl 1 rfl) ?_
    refine lv_bipush (v := 6) hx hb dX12_count_139 (by decide) ?_
    refine lv_isub hx hb dX12_count_141 ?_
    refine k_top (z := 1) (by decide +kernel) ?_
    refine va_iald hx hb hK hP 1 0 rfl rfl (k_in (by decide +kernel)) dX12_count_142 ?_
    refine k_top (z := 0) (by rw [cl_1]; exact h6) ?_
    exact kI_ret (v := 0) hx hb hr hlocks rfl hK hS dX12_count_143 () hP hD (by decide +kernel)
  by_cases q14 : x = 8
  · subst q14
    refine lv_tableIn (tgt := 134) hx hb dX12_count_1 (by decide +kernel) (by decide +kernel) (by rfl) (by decide) ?_
    refine lv_aload_n hx hb dX12_count_134 rfl (lv_at hl 0 rfl) ?_
    refine va_get (D := D) (ci := 12) (v := .ref (r 1)) (C := RX12) (T := TX12) (N := 48) hx hb hg inC12 hown hK hP 0 rfl rfl 1 (by decide) (hg _ wt5_161) (fun _ h9 => h9) rfl dX12_count_135 ?_
    refine lv_iload_n hx hb dX12_count_138 rfl (lv_at hl 1 rfl) ?_
    refine lv_bipush (v := 6) hx hb dX12_count_139 (by decide) ?_
    refine lv_isub hx hb dX12_count_141 ?_
    refine k_top (z := 2) (by decide +kernel) ?_
    refine va_iald hx hb hK hP 1 0 rfl rfl (k_in (by decide +kernel)) dX12_count_142 ?_
    refine k_top (z := 0) (by rw [cl_2]; exact h7) ?_
    exact kI_ret (v := 0) hx hb hr hlocks rfl hK hS dX12_count_143 () hP hD (by decide +kernel)
  by_cases q15 : x = 9
  · subst q15
    refine lv_tableIn (tgt := 134) hx hb dX12_count_1 (by decide +kernel) (by decide +kernel) (by rfl) (by decide) ?_
    refine lv_aload_n hx hb dX12_count_134 rfl (lv_at hl 0 rfl) ?_
    refine va_get (D := D) (ci := 12) (v := .ref (r 1)) (C := RX12) (T := TX12) (N := 48) hx hb hg inC12 hown hK hP 0 rfl rfl 1 (by decide) (hg _ wt5_161) (fun _ h9 => h9) rfl dX12_count_135 ?_
    refine lv_iload_n hx hb dX12_count_138 rfl (lv_at hl 1 rfl) ?_
    refine lv_bipush (v := 6) hx hb dX12_count_139 (by decide) ?_
    refine lv_isub hx hb dX12_count_141 ?_
    refine k_top (z := 3) (by decide +kernel) ?_
    refine va_iald hx hb hK hP 1 0 rfl rfl (k_in (by decide +kernel)) dX12_count_142 ?_
    refine k_top (z := 0) (by rw [cl_3]; exact h8) ?_
    exact kI_ret (v := 0) hx hb hr hlocks rfl hK hS dX12_count_143 () hP hD (by decide +kernel)
  by_cases q16 : x = 10
  · subst q16
    refine lv_tableIn (tgt := 144) hx hb dX12_count_1 (by decide +kernel) (by decide +kernel) (by rfl) (by decide) ?_
    refine lv_aload_n hx hb dX12_count_144 rfl (lv_at hl 0 rfl) ?_
    refine va_get (D := D) (ci := 12) (v := .ref (r 1)) (C := RX12) (T := TX12) (N := 48) hx hb hg inC12 hown hK hP 0 rfl rfl 1 (by decide) (hg _ wt5_161) (fun _ h9 => h9) rfl dX12_count_145 ?_
    refine lv_iconst (v := 5) hx hb dX12_count_148 (by decide) ?_
    refine va_iald hx hb hK hP 1 0 rfl rfl (k_in (by decide +kernel)) dX12_count_149 ?_
    refine k_top (z := 0) (by rw [cl_5]; exact h9) ?_
    exact kI_ret (v := 0) hx hb hr hlocks rfl hK hS dX12_count_150 () hP hD (by decide +kernel)
  by_cases q17 : x = 11
  · subst q17
    refine lv_tableIn (tgt := 151) hx hb dX12_count_1 (by decide +kernel) (by decide +kernel) (by rfl) (by decide) ?_
    refine lv_aload_n hx hb dX12_count_151 rfl (lv_at hl 0 rfl) ?_
    refine va_get (D := D) (ci := 12) (v := .ref (r 1)) (C := RX12) (T := TX12) (N := 48) hx hb hg inC12 hown hK hP 0 rfl rfl 1 (by decide) (hg _ wt5_161) (fun _ h9 => h9) rfl dX12_count_152 ?_
    refine lv_bipush (v := 6) hx hb dX12_count_155 (by decide) ?_
    refine va_iald hx hb hK hP 1 0 rfl rfl (k_in (by decide +kernel)) dX12_count_157 ?_
    refine k_top (z := 0) (by rw [cl_6]; exact h10) ?_
    exact kI_ret (v := 0) hx hb hr hlocks rfl hK hS dX12_count_158 () hP hD (by decide +kernel)
  by_cases q18 : x = 12
  · subst q18
    refine lv_tableIn (tgt := 159) hx hb dX12_count_1 (by decide +kernel) (by decide +kernel) (by rfl) (by decide) ?_
    refine lv_aload_n hx hb dX12_count_159 rfl (lv_at hl 0 rfl) ?_
    refine va_get (D := D) (ci := 12) (v := .ref (r 2)) (C := RX12) (T := TX12) (N := 48) hx hb hg inC12 hown hK hP 0 rfl rfl 2 (by decide) (hg _ wt5_162) (fun _ h9 => h9) rfl dX12_count_160 ?_
    refine lv_bipush (v := 106) hx hb dX12_count_163 (by decide) ?_
    refine va_iald hx hb hK hP 2 0 rfl rfl (k_in (by decide +kernel)) dX12_count_165 ?_
    refine k_top (z := (-1)) (by rw [cl_106]; exact h11) ?_
    exact kI_ret (v := (-1)) hx hb hr hlocks rfl hK hS dX12_count_166 () hP hD (by decide +kernel)
  by_cases q19 : x = 13
  · subst q19
    refine lv_tableIn (tgt := 167) hx hb dX12_count_1 (by decide +kernel) (by decide +kernel) (by rfl) (by decide) ?_
    refine lv_aload_n hx hb dX12_count_167 rfl (lv_at hl 0 rfl) ?_
    refine va_get (D := D) (ci := 12) (v := .ref (r 2)) (C := RX12) (T := TX12) (N := 48) hx hb hg inC12 hown hK hP 0 rfl rfl 2 (by decide) (hg _ wt5_162) (fun _ h9 => h9) rfl dX12_count_168 ?_
    refine lv_bipush (v := 22) hx hb dX12_count_171 (by decide) ?_
    refine va_iald hx hb hK hP 2 0 rfl rfl (k_in (by decide +kernel)) dX12_count_173 ?_
    refine k_top (z := 0) (by rw [cl_22]; exact h12) ?_
    exact kI_ret (v := 0) hx hb hr hlocks rfl hK hS dX12_count_174 () hP hD (by decide +kernel)
  by_cases q20 : x = 14
  · subst q20
    refine lv_tableIn (tgt := 175) hx hb dX12_count_1 (by decide +kernel) (by decide +kernel) (by rfl) (by decide) ?_
    refine lv_aload_n hx hb dX12_count_175 rfl (lv_at hl 0 rfl) ?_
    refine va_get (D := D) (ci := 12) (v := .ref (r 2)) (C := RX12) (T := TX12) (N := 48) hx hb hg inC12 hown hK hP 0 rfl rfl 2 (by decide) (hg _ wt5_162) (fun _ h9 => h9) rfl dX12_count_176 ?_
    refine lv_bipush (v := 99) hx hb dX12_count_179 (by decide) ?_
    refine lv_iload_n hx hb dX12_count_181 rfl (lv_at hl 1 rfl) ?_
    refine lv_iadd hx hb dX12_count_182 ?_
    refine k_top (z := 113) (by decide +kernel) ?_
    refine lv_bipush (v := 14) hx hb dX12_count_183 (by decide) ?_
    refine lv_isub hx hb dX12_count_185 ?_
    refine k_top (z := 99) (by decide +kernel) ?_
    refine va_iald hx hb hK hP 2 0 rfl rfl (k_in (by decide +kernel)) dX12_count_186 ?_
    refine k_top (z := 30) (by rw [cl_99]; exact h13) ?_
    exact kI_ret (v := 30) hx hb hr hlocks rfl hK hS dX12_count_187 () hP hD (by decide +kernel)
  by_cases q21 : x = 15
  · subst q21
    refine lv_tableIn (tgt := 175) hx hb dX12_count_1 (by decide +kernel) (by decide +kernel) (by rfl) (by decide) ?_
    refine lv_aload_n hx hb dX12_count_175 rfl (lv_at hl 0 rfl) ?_
    refine va_get (D := D) (ci := 12) (v := .ref (r 2)) (C := RX12) (T := TX12) (N := 48) hx hb hg inC12 hown hK hP 0 rfl rfl 2 (by decide) (hg _ wt5_162) (fun _ h9 => h9) rfl dX12_count_176 ?_
    refine lv_bipush (v := 99) hx hb dX12_count_179 (by decide) ?_
    refine lv_iload_n hx hb dX12_count_181 rfl (lv_at hl 1 rfl) ?_
    refine lv_iadd hx hb dX12_count_182 ?_
    refine k_top (z := 114) (by decide +kernel) ?_
    refine lv_bipush (v := 14) hx hb dX12_count_183 (by decide) ?_
    refine lv_isub hx hb dX12_count_185 ?_
    refine k_top (z := 100) (by decide +kernel) ?_
    refine va_iald hx hb hK hP 2 0 rfl rfl (k_in (by decide +kernel)) dX12_count_186 ?_
    refine k_top (z := 2) (by rw [cl_100]; exact h14) ?_
    exact kI_ret (v := 2) hx hb hr hlocks rfl hK hS dX12_count_187 () hP hD (by decide +kernel)
  by_cases q22 : x = 16
  · subst q22
    refine lv_tableIn (tgt := 175) hx hb dX12_count_1 (by decide +kernel) (by decide +kernel) (by rfl) (by decide) ?_
    refine lv_aload_n hx hb dX12_count_175 rfl (lv_at hl 0 rfl) ?_
    refine va_get (D := D) (ci := 12) (v := .ref (r 2)) (C := RX12) (T := TX12) (N := 48) hx hb hg inC12 hown hK hP 0 rfl rfl 2 (by decide) (hg _ wt5_162) (fun _ h9 => h9) rfl dX12_count_176 ?_
    refine lv_bipush (v := 99) hx hb dX12_count_179 (by decide) ?_
    refine lv_iload_n hx hb dX12_count_181 rfl (lv_at hl 1 rfl) ?_
    refine lv_iadd hx hb dX12_count_182 ?_
    refine k_top (z := 115) (by decide +kernel) ?_
    refine lv_bipush (v := 14) hx hb dX12_count_183 (by decide) ?_
    refine lv_isub hx hb dX12_count_185 ?_
    refine k_top (z := 101) (by decide +kernel) ?_
    refine va_iald hx hb hK hP 2 0 rfl rfl (k_in (by decide +kernel)) dX12_count_186 ?_
    refine k_top (z := 0) (by rw [cl_101]; exact h15) ?_
    exact kI_ret (v := 0) hx hb hr hlocks rfl hK hS dX12_count_187 () hP hD (by decide +kernel)
  refine lv_tableOut (tgt := 188) hx hb dX12_count_1 (by have gq1 := lv_neT q1 (a := 0) (by decide +kernel); have gq2 := lv_neT q2 (a := 1) (by decide +kernel); have gq8 := lv_neT q8 (a := 2) (by decide +kernel); have gq9 := lv_neT q9 (a := 3) (by decide +kernel); have gq10 := lv_neT q10 (a := 4) (by decide +kernel); have gq11 := lv_neT q11 (a := 5) (by decide +kernel); have gq12 := lv_neT q12 (a := 6) (by decide +kernel); have gq13 := lv_neT q13 (a := 7) (by decide +kernel); have gq14 := lv_neT q14 (a := 8) (by decide +kernel); have gq15 := lv_neT q15 (a := 9) (by decide +kernel); have gq16 := lv_neT q16 (a := 10) (by decide +kernel); have gq17 := lv_neT q17 (a := 11) (by decide +kernel); have gq18 := lv_neT q18 (a := 12) (by decide +kernel); have gq19 := lv_neT q19 (a := 13) (by decide +kernel); have gq20 := lv_neT q20 (a := 14) (by decide +kernel); have gq21 := lv_neT q21 (a := 15) (by decide +kernel); have gq22 := lv_neT q22 (a := 16) (by decide +kernel); omega) (by decide) ?_
  refine lv_iconst (v := (-1)) hx hb dX12_count_188 (by decide) ?_
  exact kI_ret (v := (-1)) hx hb hr hlocks rfl hK hS dX12_count_189 () hP hD (by simp [mCount, q1, q2, q8, q9, q10, q11, q12, q13, q14, q15, q16, q17, q18, q19, q20, q21, q22])
set_option maxHeartbeats 4000000 in
set_option maxRecDepth 100000 in
theorem c_draws (l : Launch) {D : va_G} {K : Nat → ClassId} (o : Nat) (r : Nat → Nat) (f : Nat → Int32) (a : Nat → Nat → Int32) (g : Nat → Int64) (h0 : a 2 102 = 0) (h1 : a 2 103 = 0) (h2 : a 2 104 = 0) (h3 : a 2 99 = 30) (h4 : a 2 100 = 2)   : kI l yX12_draws (Cond.code yX12_draws cX12_draws 2 (some .int) :: kG) (rmD 1 0 0) D (tysK K) [.ref o, .int 10] (mW K o r f a g) (fun v (u : mS) => v = v ∧ u.2.1 2 102 = 0 ∧ u.2.1 2 103 = 0 ∧ u.2.1 2 104 = 0 ∧ u.2.1 2 99 = 30 ∧ u.2.1 2 100 = 2) (fun u => mW K o r u.1 u.2.1 u.2.2) 0 0 := by
  refine kI.of (cc := cX12_draws) (maxL := 2) (ret := (some .int)) (by decide) rfl (Nat.le_of_ble_eq_true rfl) ?_
  intro p e s m below meth c A hx hb hr hml hown hts hlocks hnm hK hP hD hS hA ls hl
  have hg : ∀ w ∈ kG, w.before _ s = true := fun w h => hts w (List.mem_cons_of_mem _ h)
  have hown : s.vm.findClass RX12 = some m.cls := hown
  have hl : lv_has ls 2 [(0, .ref o), (1, .int 10)] := hl
  refine lv_aload_n hx hb dX12_draws_0 rfl (lv_at hl 0 rfl) ?_
  refine lv_ldc2 (v := (1103)) hx hb hown (hg _ wt8_75) dX12_draws_1 ?_
  refine lv_aload_n hx hb dX12_draws_4 rfl (lv_at hl 0 rfl) ?_
  refine va_get (D := D) (ci := 12) (v := .int (f 47)) (C := RX12) (T := TX12) (N := 48) hx hb hg inC12 hown hK hP 0 rfl rfl 47 (by decide) (hg _ wt5_207) (fun _ h9 => h9) rfl dX12_draws_5 ?_
  refine lv_topi (fun t1 et1 => ?_)
  refine lv_i2l hx hb dX12_draws_8 rfl ?_
  refine lv_topl (fun t2 et2 => ?_)
  refine lv_lmul hx hb dX12_draws_9 ?_
  refine lv_topl (fun t3 et3 => ?_)
  refine lv_ldc2 (v := (12345)) hx hb hown (hg _ wt8_76) dX12_draws_10 ?_
  refine lv_ladd hx hb dX12_draws_13 ?_
  refine lv_topl (fun t4 et4 => ?_)
  refine lv_ldc2 (v := (1000003)) hx hb hown (hg _ wt8_77) dX12_draws_14 ?_
  refine lv_lrem hx hb dX12_draws_17 (by decide +kernel) ?_
  refine lv_topl (fun t5 et5 => ?_)
  refine lv_l2i hx hb dX12_draws_18 rfl ?_
  refine lv_topi (fun t6 et6 => ?_)
  refine va_put (D := D) (ci := 12) (v := .int t6) (ty := .int) (C := RX12) (T := TX12) (N := 48) hx hb hg inC12 tyX12 tyX12_ok nmX12 hown hK hP hD hS 0 rfl rfl 47 (by decide) (hg _ wt5_207) (fun _ h9 => h9) rfl (by decide +kernel) rfl rfl (Nat.le_of_ble_eq_true rfl) dX12_draws_19 (fun H locs hP hD hS => ?_)
  have hP : va_P D vwCl (mW K o r (upd f 47 t6) a g) H := hP
  have hD : va_D A (mW K o r (upd f 47 t6) a g) := hD
  refine k_gen (P := fun z => va_P D vwCl (mW K o r z a g) H ∧ va_D A (mW K o r z a g)) (upd f 47 t6) ⟨hP, hD⟩ (fun f_7 ef_7 hPD => ?_)
  have hP := hPD.1
  have hD := hPD.2
  refine lv_aload_n hx hb dX12_draws_22 rfl (lv_at hl 0 rfl) ?_
  refine va_get (D := D) (ci := 12) (v := .int (f_7 47)) (C := RX12) (T := TX12) (N := 48) hx hb hg inC12 hown hK hP 0 rfl rfl 47 (by decide) (hg _ wt5_207) (fun _ h9 => h9) rfl dX12_draws_23 ?_
  refine k_top (z := t6) (show f_7 47 = t6 from by rw [← ef_7]; rfl) ?_
  refine lv_iload_n hx hb dX12_draws_26 rfl (lv_at hl 1 rfl) ?_
  refine lv_irem hx hb dX12_draws_27 (by decide +kernel) ?_
  refine lv_topi (fun t8 et8 => ?_)
  exact kI_ret (v := t8) hx hb hr hlocks rfl hK hS dX12_draws_28 (f_7, a, g) hP hD ⟨rfl, h0, h1, h2, h3, h4⟩
set_option maxHeartbeats 4000000 in
set_option maxRecDepth 100000 in
theorem c_sendsAll (l : Launch) {D : va_G} {K : Nat → ClassId} (o : Nat) (r : Nat → Nat) (f : Nat → Int32) (a : Nat → Nat → Int32) (g : Nat → Int64) (h0 : a 2 102 = 0) (h1 : a 2 103 = 0)   : kV l yX12_sendsAll (Cond.code yX12_sendsAll cX12_sendsAll 3 none :: kG) (rmD 2 0 0) D (tysK K) [.ref o, .int 0] (mW K o r f a g) (fun (_ : Unit) => True) (fun _ => mW K o r f a g) 0 0 := by
  refine kV.of (cc := cX12_sendsAll) (maxL := 3) (ret := none) (by decide) rfl (Nat.le_of_ble_eq_true rfl) ?_
  intro p e s m below meth c A hx hb hr hml hown hts hlocks hnm hK hP hD hS hA ls hl
  have hg : ∀ w ∈ kG, w.before _ s = true := fun w h => hts w (List.mem_cons_of_mem _ h)
  have hown : s.vm.findClass RX12 = some m.cls := hown
  have hl : lv_has ls 3 [(0, .ref o), (1, .int 0)] := hl
  refine lv_aload_n hx hb dX12_sendsAll_0 rfl (lv_at hl 0 rfl) ?_
  refine kV.callV (As := []) (rest := []) ⟨hx, hb, hml, hown, hg⟩ (c_laysChains l o r f a g h0 ) (cwV 0 hg (kgV wt6_120 wt6_122 wp3_14 wt1_14 wt6_123) rfl rfl rfl (by decide +kernel) ⟨by decide, by decide⟩) hK hP hD hS hA mIs [] rfl (wr := []) rfl rfl rfl (fun i h => by cases h) 0 12 rfl rfl rfl hl.1 rfl (Nat.le_of_ble_eq_true rfl) dX12_sendsAll_1 ⟨by decide, by decide⟩ (fun u2 H locs hw1 hP hD hS => ?_)
  have hP : va_P D vwCl (mW K o r f a g) H := hP
  have hD : va_D A (mW K o r f a g) := hD
  refine lv_iconst (v := 0) hx hb dX12_sendsAll_4 (by decide) ?_
  refine lv_istore_n (lv' := [(2, .int 0), (0, .ref o), (1, .int 0)]) hx hb dX12_sendsAll_5 rfl hl (by decide) rfl (fun ls hl => ?_)
  refine lv_iload_n hx hb dX12_sendsAll_6 rfl (lv_at hl 0 rfl) ?_
  refine lv_aload_n hx hb dX12_sendsAll_7 rfl (lv_at hl 1 rfl) ?_
  refine va_get (D := D) (ci := 12) (v := .ref (r 2)) (C := RX12) (T := TX12) (N := 48) hx hb hg inC12 hown hK hP 0 rfl rfl 2 (by decide) (hg _ wt5_162) (fun _ h9 => h9) rfl dX12_sendsAll_8 ?_
  refine lv_bipush (v := 103) hx hb dX12_sendsAll_11 (by decide) ?_
  refine va_iald hx hb hK hP 2 0 rfl rfl (k_in (by decide +kernel)) dX12_sendsAll_13 ?_
  refine k_top (z := 0) (by rw [cl_103]; exact h1) ?_
  refine lv_icmp_ge (tgt := 58) hx hb dX12_sendsAll_14 (by decide) (fun c4 => ?_) (fun c4 => absurd (by decide +kernel) c4)
  exact kV_ret hx hb hr hlocks hK hS dX12_sendsAll_58 () hP hD trivial
set_option maxHeartbeats 4000000 in
set_option maxRecDepth 100000 in
theorem c_nights (l : Launch) {D : va_G} {K : Nat → ClassId} (o : Nat) (r : Nat → Nat) (f : Nat → Int32) (a : Nat → Nat → Int32) (g : Nat → Int64) (h0 : a 2 102 = 0) (h1 : a 2 103 = 0) (h2 : a 2 104 = 0) (h3 : a 2 99 = 30) (h4 : a 2 100 = 2) (x : Int32) (y : Int32)  : kI l yX12_nights (Cond.code yX12_nights cX12_nights 6 (some .int) :: kG) (rmD 3 0 0) D (tysK K) [.ref o, .int x, .int y] (mW K o r f a g) (fun v (u : mS) => v = (if mLies x 0 1000000 = 0 then (-1 : Int32) else if mLies y 1 20 = 0 then -1 else y)) (fun u => mW K o r u.1 u.2.1 u.2.2) 0 0 := by
  refine kI.of (cc := cX12_nights) (maxL := 6) (ret := (some .int)) (by decide) rfl (Nat.le_of_ble_eq_true rfl) ?_
  intro p e s m below meth c A hx hb hr hml hown hts hlocks hnm hK hP hD hS hA ls hl
  have hg : ∀ w ∈ kG, w.before _ s = true := fun w h => hts w (List.mem_cons_of_mem _ h)
  have hown : s.vm.findClass RX12 = some m.cls := hown
  have hl : lv_has ls 6 [(0, .ref o), (1, .int x), (2, .int y)] := hl
  refine lv_iload_n hx hb dX12_nights_0 rfl (lv_at hl 1 rfl) ?_
  refine lv_iconst (v := 0) hx hb dX12_nights_1 (by decide) ?_
  refine lv_ldc (v := (1000000)) hx hb hown (hg _ wt6_191) dX12_nights_2 ?_
  refine kN.callS (As := [.int x, .int 0, .int 1000000]) (rest := []) ⟨hx, hb, hml, hown, hg⟩ (c_lies l x 0 1000000) (va_cwS 3 hg (kgS wt6_69 wt6_70 wt1_14 wt6_71) rfl rfl rfl (by decide +kernel) ⟨by decide, by decide⟩) hP hS rfl hl.1 rfl (Nat.le_of_ble_eq_true rfl) dX12_nights_4 ⟨by decide, by decide⟩ (fun v2 H locs hw1 hP hS => ?_)
  refine k_top (z := mLies x 0 1000000) hw1 ?_
  refine lv_if_eq (tgt := 20) hx hb dX12_nights_7 (by decide) (fun c3 => ?_) (fun c3 => ?_)
  · refine lv_aload_n hx hb dX12_nights_20 rfl (lv_at hl 0 rfl) ?_
    refine lv_iconst (v := (-1)) hx hb dX12_nights_21 (by decide) ?_
    refine kI.callV (As := [.int (-1)]) (rest := []) ⟨hx, hb, hml, hown, hg⟩ (c_refuses1 l o r f a g  ) (cwV 1 hg (kgV wt6_72 wt6_74 wp3_5 wt1_14 wt6_75) rfl rfl rfl (by decide +kernel) ⟨by decide, by decide⟩) hK hP hD hS hA mIs [] rfl (wr := []) rfl rfl rfl (fun i h => by cases h) 0 12 rfl rfl rfl hl.1 rfl (Nat.le_of_ble_eq_true rfl) dX12_nights_22 ⟨by decide, by decide⟩ (fun v6 u5 H locs hw4 hP hD hS => ?_)
    obtain ⟨f7, a8, g9⟩ := u5
    have hP : va_P D vwCl (mW K o r f7 a8 g9) H := hP
    have hD : va_D A (mW K o r f7 a8 g9) := hD
    refine k_top (z := (-1)) (hw4) ?_
    exact kI_ret (v := (-1)) hx hb hr hlocks rfl hK hS dX12_nights_25 (f7, a8, g9) hP hD (by simp [c3])
  · refine lv_iload_n hx hb dX12_nights_10 rfl (lv_at hl 2 rfl) ?_
    refine lv_iconst (v := 1) hx hb dX12_nights_11 (by decide) ?_
    refine lv_bipush (v := 20) hx hb dX12_nights_12 (by decide) ?_
    refine kN.callS (As := [.int y, .int 1, .int 20]) (rest := []) ⟨hx, hb, hml, hown, hg⟩ (c_lies l y 1 20) (va_cwS 3 hg (kgS wt6_69 wt6_70 wt1_14 wt6_71) rfl rfl rfl (by decide +kernel) ⟨by decide, by decide⟩) hP hS rfl hl.1 rfl (Nat.le_of_ble_eq_true rfl) dX12_nights_14 ⟨by decide, by decide⟩ (fun v11 H locs hw10 hP hS => ?_)
    refine k_top (z := mLies y 1 20) hw10 ?_
    refine lv_if_ne (tgt := 26) hx hb dX12_nights_17 (by decide) (fun c12 => ?_) (fun c12 => ?_)
    · obtain ⟨N, hN, rfl⟩ := mLies_N c12
      refine lv_aload_n hx hb dX12_nights_26 rfl (lv_at hl 0 rfl) ?_
      refine lv_iload_n hx hb dX12_nights_27 rfl (lv_at hl 1 rfl) ?_
      refine va_put (D := D) (ci := 12) (v := .int x) (ty := .int) (C := RX12) (T := TX12) (N := 48) hx hb hg inC12 tyX12 tyX12_ok nmX12 hown hK hP hD hS 0 rfl rfl 47 (by decide) (hg _ wt5_207) (fun _ h9 => h9) rfl (by decide +kernel) rfl rfl (Nat.le_of_ble_eq_true rfl) dX12_nights_28 (fun H locs hP hD hS => ?_)
      have hP : va_P D vwCl (mW K o r (upd f 47 x) a g) H := hP
      have hD : va_D A (mW K o r (upd f 47 x) a g) := hD
      refine k_gen (P := fun z => va_P D vwCl (mW K o r z a g) H ∧ va_D A (mW K o r z a g)) (upd f 47 x) ⟨hP, hD⟩ (fun f_13 ef_13 hPD => ?_)
      have hP := hPD.1
      have hD := hPD.2
      refine lv_aload_n hx hb dX12_nights_31 rfl (lv_at hl 0 rfl) ?_
      refine lv_aload_n hx hb dX12_nights_32 rfl (lv_at hl 0 rfl) ?_
      refine va_get (D := D) (ci := 12) (v := .ref (r 2)) (C := RX12) (T := TX12) (N := 48) hx hb hg inC12 hown hK hP 0 rfl rfl 2 (by decide) (hg _ wt5_162) (fun _ h9 => h9) rfl dX12_nights_33 ?_
      refine lv_bipush (v := 102) hx hb dX12_nights_36 (by decide) ?_
      refine va_iald hx hb hK hP 2 0 rfl rfl (k_in (by decide +kernel)) dX12_nights_38 ?_
      refine k_top (z := 0) (by rw [cl_102]; exact h0) ?_
      refine va_put (D := D) (ci := 12) (v := .int 0) (ty := .int) (C := RX12) (T := TX12) (N := 48) hx hb hg inC12 tyX12 tyX12_ok nmX12 hown hK hP hD hS 0 rfl rfl 45 (by decide) (hg _ wt5_205) (fun _ h9 => h9) rfl (by decide +kernel) rfl rfl (Nat.le_of_ble_eq_true rfl) dX12_nights_39 (fun H locs hP hD hS => ?_)
      have hP : va_P D vwCl (mW K o r (upd f_13 45 0) a g) H := hP
      have hD : va_D A (mW K o r (upd f_13 45 0) a g) := hD
      refine k_gen (P := fun z => va_P D vwCl (mW K o r z a g) H ∧ va_D A (mW K o r z a g)) (upd f_13 45 0) ⟨hP, hD⟩ (fun f_14 ef_14 hPD => ?_)
      have hP := hPD.1
      have hD := hPD.2
      refine lv_aload_n hx hb dX12_nights_42 rfl (lv_at hl 0 rfl) ?_
      refine lv_aload_n hx hb dX12_nights_43 rfl (lv_at hl 0 rfl) ?_
      refine va_get (D := D) (ci := 12) (v := .ref (r 2)) (C := RX12) (T := TX12) (N := 48) hx hb hg inC12 hown hK hP 0 rfl rfl 2 (by decide) (hg _ wt5_162) (fun _ h9 => h9) rfl dX12_nights_44 ?_
      refine lv_bipush (v := 103) hx hb dX12_nights_47 (by decide) ?_
      refine va_iald hx hb hK hP 2 0 rfl rfl (k_in (by decide +kernel)) dX12_nights_49 ?_
      refine k_top (z := 0) (by rw [cl_103]; exact h1) ?_
      refine va_put (D := D) (ci := 12) (v := .int 0) (ty := .int) (C := RX12) (T := TX12) (N := 48) hx hb hg inC12 tyX12 tyX12_ok nmX12 hown hK hP hD hS 0 rfl rfl 46 (by decide) (hg _ wt5_206) (fun _ h9 => h9) rfl (by decide +kernel) rfl rfl (Nat.le_of_ble_eq_true rfl) dX12_nights_50 (fun H locs hP hD hS => ?_)
      have hP : va_P D vwCl (mW K o r (upd f_14 46 0) a g) H := hP
      have hD : va_D A (mW K o r (upd f_14 46 0) a g) := hD
      refine k_gen (P := fun z => va_P D vwCl (mW K o r z a g) H ∧ va_D A (mW K o r z a g)) (upd f_14 46 0) ⟨hP, hD⟩ (fun f_15 ef_15 hPD => ?_)
      have hP := hPD.1
      have hD := hPD.2
      refine lv_iconst (v := 0) hx hb dX12_nights_53 (by decide) ?_
      refine lv_istore_n (lv' := [(3, .int 0), (0, .ref o), (1, .int x), (2, .int (nI N))]) hx hb dX12_nights_54 rfl hl (by decide) rfl (fun ls hl => ?_)
      refine lv_iconst (v := 0) hx hb dX12_nights_55 (by decide) ?_
      refine lv_istore (lv' := [(4, .int 0), (3, .int 0), (0, .ref o), (1, .int x), (2, .int (nI N))]) hx hb dX12_nights_56 hl (by decide) rfl (fun ls hl => ?_)
      have lp16 : ∀ (n i : Nat) (F : Nat → Int32) (B : Nat → Nat → Int32) (G : Nat → Int64) (H : Heap) (locs : List Loc) (ls : Array Slot), i + n = N →  B 2 102 = 0 → B 2 103 = 0 → B 2 104 = 0 → B 2 99 = 30 → B 2 100 = 2 → va_P D vwCl (mW K o r F B G) H → va_D A (mW K o r F B G) → va_S A s.heap H locs → lv_has ls 6 [(4, .int (nI i)), (3, .int (nI i)), (0, .ref o), (1, .int x), (2, .int (nI N))] → W p l e (rmD 3 0 0) s m ([.ref o, .int x, .int (nI N)] : List Value).toArray below meth c H locs 0 0 (kQi D (tysK K) (fun v (u : mS) => v = (if mLies x 0 1000000 = 0 then (-1 : Int32) else if mLies (nI N) 1 20 = 0 then -1 else (nI N))) (fun u => mW K o r u.1 u.2.1 u.2.2) A below ([.ref o, .int x, .int (nI N)] : List Value).toArray s 0 0) (F0 m 58 ls []) := by
        intro n
        induction n with
        | zero =>
          intro i F B G H locs ls  hin  z0 z1 z2 z3 z4 hP hD hS hl
          obtain rfl : N = i := by omega
          refine lv_iload hx hb dX12_nights_58 (lv_at hl 0 rfl) ?_
          refine lv_iload_n hx hb dX12_nights_60 rfl (lv_at hl 4 rfl) ?_
          refine lv_icmp_ge (tgt := 196) hx hb dX12_nights_61 (by decide) (fun c17 => ?_) (fun c17 => absurd (nI_le (Nat.le_refl N) (by omega)) c17)
          refine lv_aload_n hx hb dX12_nights_196 rfl (lv_at hl 2 rfl) ?_
          refine lv_iload_n hx hb dX12_nights_197 rfl (lv_at hl 1 rfl) ?_
          refine kI.callV (As := [.int (nI N)]) (rest := []) ⟨hx, hb, hml, hown, hg⟩ (c_good l o r F B G  (nI N)) (cwV 1 hg (kgV wt6_76 wt6_78 wp3_6 wt1_14 wt6_79) rfl rfl rfl (by decide +kernel) ⟨by decide, by decide⟩) hK hP hD hS hA mIs [] rfl (wr := []) rfl rfl rfl (fun i h => by cases h) 0 12 rfl rfl rfl hl.1 rfl (Nat.le_of_ble_eq_true rfl) dX12_nights_198 ⟨by decide, by decide⟩ (fun v20 u19 H locs hw18 hP hD hS => ?_)
          obtain ⟨f21, a22, g23⟩ := u19
          have hP : va_P D vwCl (mW K o r f21 a22 g23) H := hP
          have hD : va_D A (mW K o r f21 a22 g23) := hD
          refine k_top (z := (nI N)) hw18 ?_
          exact kI_ret (v := (nI N)) hx hb hr hlocks rfl hK hS dX12_nights_201 (f21, a22, g23) hP hD (by simp [c3, c12])
        | succ n ih =>
          intro i F B G H locs ls  hin  z0 z1 z2 z3 z4 hP hD hS hl
          have hlt : i < N := by omega
          refine lv_iload hx hb dX12_nights_58 (lv_at hl 0 rfl) ?_
          refine lv_iload_n hx hb dX12_nights_60 rfl (lv_at hl 4 rfl) ?_
          refine lv_icmp_ge (tgt := 196) hx hb dX12_nights_61 (by decide) (fun c24 => absurd c24 (nI_ge hlt (by omega))) (fun c24 => ?_)
          refine lv_aload_n hx hb dX12_nights_64 rfl (lv_at hl 2 rfl) ?_
          refine kV.callV (As := []) (rest := []) ⟨hx, hb, hml, hown, hg⟩ (c_begins l o r F B G z0 z1 z2 z3 z4 ) (cwV 0 hg (kgV wt7_203 wt7_205 wp7_4 wt1_14 wt7_206) rfl rfl rfl (by decide +kernel) ⟨by decide, by decide⟩) hK hP hD hS hA mIs [] rfl (wr := []) rfl rfl rfl (fun i h => by cases h) 0 12 rfl rfl rfl hl.1 rfl (Nat.le_of_ble_eq_true rfl) dX12_nights_65 ⟨by decide, by decide⟩ (fun u26 H locs hw25 hP hD hS => ?_)
          obtain ⟨f28, a29, g30⟩ := u26
          have hP : va_P D vwCl (mW K o r f28 a29 g30) H := hP
          have hD : va_D A (mW K o r f28 a29 g30) := hD
          refine lv_iconst (v := 0) hx hb dX12_nights_68 (by decide) ?_
          refine lv_istore (lv' := [(5, .int 0), (4, .int (nI i)), (3, .int (nI i)), (0, .ref o), (1, .int x), (2, .int (nI N))]) hx hb dX12_nights_69 hl (by decide) rfl (fun ls hl => ?_)
          have lp31 : ∀ (n2 i2 : Nat) (F2 : Nat → Int32) (B2 : Nat → Nat → Int32) (G2 : Nat → Int64) (H : Heap) (locs : List Loc) (ls : Array Slot), i2 + n2 = 30 →  B2 2 102 = 0 → B2 2 103 = 0 → B2 2 104 = 0 → B2 2 99 = 30 → B2 2 100 = 2 → va_P D vwCl (mW K o r F2 B2 G2) H → va_D A (mW K o r F2 B2 G2) → va_S A s.heap H locs → lv_has ls 6 [(5, .int (nI i2)), (4, .int (nI i)), (3, .int (nI i)), (0, .ref o), (1, .int x), (2, .int (nI N))] → W p l e (rmD 3 0 0) s m ([.ref o, .int x, .int (nI N)] : List Value).toArray below meth c H locs 0 0 (kQi D (tysK K) (fun v (u : mS) => v = (if mLies x 0 1000000 = 0 then (-1 : Int32) else if mLies (nI N) 1 20 = 0 then -1 else (nI N))) (fun u => mW K o r u.1 u.2.1 u.2.2) A below ([.ref o, .int x, .int (nI N)] : List Value).toArray s 0 0) (F0 m 71 ls []) := by
            intro n2
            induction n2 with
            | zero =>
              intro i2 F2 B2 G2 H locs ls  hin2  z20 z21 z22 z23 z24 hP hD hS hl
              obtain rfl : 30 = i2 := by omega
              have hl : lv_has ls 6 [(5, .int 30), (4, .int (nI i)), (3, .int (nI i)), (0, .ref o), (1, .int x), (2, .int (nI N))] := hl
              refine lv_iload hx hb dX12_nights_71 (lv_at hl 0 rfl) ?_
              refine lv_aload_n hx hb dX12_nights_73 rfl (lv_at hl 3 rfl) ?_
              refine va_get (D := D) (ci := 12) (v := .ref (r 2)) (C := RX12) (T := TX12) (N := 48) hx hb hg inC12 hown hK hP 0 rfl rfl 2 (by decide) (hg _ wt5_162) (fun _ h9 => h9) rfl dX12_nights_74 ?_
              refine lv_bipush (v := 99) hx hb dX12_nights_77 (by decide) ?_
              refine va_iald hx hb hK hP 2 0 rfl rfl (k_in (by decide +kernel)) dX12_nights_79 ?_
              refine k_top (z := 30) (by rw [cl_99]; exact z23) ?_
              refine lv_icmp_ge (tgt := 136) hx hb dX12_nights_80 (by decide) (fun c32 => ?_) (fun c32 => absurd (by decide +kernel) c32)
              refine lv_iload_n hx hb dX12_nights_136 rfl (lv_at hl 2 rfl) ?_
              refine lv_aload_n hx hb dX12_nights_137 rfl (lv_at hl 3 rfl) ?_
              refine lv_aload_n hx hb dX12_nights_138 rfl (lv_at hl 3 rfl) ?_
              refine kI.callV (As := []) (rest := [.ref o, .int (nI i)]) ⟨hx, hb, hml, hown, hg⟩ (c_allParts l o r F2 B2 G2 z20 ) (cwV 0 hg (kgV wt7_187 wt7_189 wp7_1 wt1_14 wt7_190) rfl rfl rfl (by decide +kernel) ⟨by decide, by decide⟩) hK hP hD hS hA mIs [] rfl (wr := []) rfl rfl rfl (fun i h => by cases h) 0 12 rfl rfl rfl hl.1 rfl (Nat.le_of_ble_eq_true rfl) dX12_nights_139 ⟨by decide, by decide⟩ (fun v35 u34 H locs hw33 hP hD hS => ?_)
              have hP : va_P D vwCl (mW K o r F2 B2 G2) H := hP
              have hD : va_D A (mW K o r F2 B2 G2) := hD
              refine k_top (z := 0) (hw33) ?_
              refine kI.callV (As := [.int 0]) (rest := [.int (nI i)]) ⟨hx, hb, hml, hown, hg⟩ (c_areStanding l o r F2 B2 G2 z20 ) (cwV 1 hg (kgV wt7_211 wt7_213 wp7_6 wt1_14 wt7_214) rfl rfl rfl (by decide +kernel) ⟨by decide, by decide⟩) hK hP hD hS hA mIs [] rfl (wr := []) rfl rfl rfl (fun i h => by cases h) 0 12 rfl rfl rfl hl.1 rfl (Nat.le_of_ble_eq_true rfl) dX12_nights_142 ⟨by decide, by decide⟩ (fun v38 u37 H locs hw36 hP hD hS => ?_)
              have hP : va_P D vwCl (mW K o r F2 B2 G2) H := hP
              have hD : va_D A (mW K o r F2 B2 G2) := hD
              refine k_top (z := 1) (hw36) ?_
              refine lv_if_eq (tgt := 152) hx hb dX12_nights_145 (by decide) (fun c39 => absurd c39 (by decide +kernel)) (fun c39 => ?_)
              refine lv_iconst (v := 1) hx hb dX12_nights_148 (by decide) ?_
              refine lv_goto (tgt := 153) hx hb dX12_nights_149 (by decide) ?_
              refine lv_iadd hx hb dX12_nights_153 ?_
              refine k_top (z := nI (i + 1)) (nI_add i 1) ?_
              refine lv_istore_n (lv' := [(3, .int (nI (i + 1))), (5, .int 30), (4, .int (nI i)), (0, .ref o), (1, .int x), (2, .int (nI N))]) hx hb dX12_nights_154 rfl hl (by decide) rfl (fun ls hl => ?_)
              refine lv_iconst (v := 0) hx hb dX12_nights_155 (by decide) ?_
              refine lv_istore (lv' := [(5, .int 0), (3, .int (nI (i + 1))), (4, .int (nI i)), (0, .ref o), (1, .int x), (2, .int (nI N))]) hx hb dX12_nights_156 hl (by decide) rfl (fun ls hl => ?_)
              have lp40 : ∀ (n3 i3 : Nat) (F3 : Nat → Int32) (B3 : Nat → Nat → Int32) (G3 : Nat → Int64) (H : Heap) (locs : List Loc) (ls : Array Slot), i3 + n3 = 23 →  B3 2 102 = 0 → B3 2 103 = 0 → B3 2 104 = 0 → B3 2 99 = 30 → B3 2 100 = 2 → va_P D vwCl (mW K o r F3 B3 G3) H → va_D A (mW K o r F3 B3 G3) → va_S A s.heap H locs → lv_has ls 6 [(5, .int (nI i3)), (3, .int (nI (i + 1))), (4, .int (nI i)), (0, .ref o), (1, .int x), (2, .int (nI N))] → W p l e (rmD 3 0 0) s m ([.ref o, .int x, .int (nI N)] : List Value).toArray below meth c H locs 0 0 (kQi D (tysK K) (fun v (u : mS) => v = (if mLies x 0 1000000 = 0 then (-1 : Int32) else if mLies (nI N) 1 20 = 0 then -1 else (nI N))) (fun u => mW K o r u.1 u.2.1 u.2.2) A below ([.ref o, .int x, .int (nI N)] : List Value).toArray s 0 0) (F0 m 158 ls []) := by
                intro n3
                induction n3 with
                | zero =>
                  intro i3 F3 B3 G3 H locs ls  hin3  z30 z31 z32 z33 z34 hP hD hS hl
                  obtain rfl : 23 = i3 := by omega
                  have hl : lv_has ls 6 [(5, .int 23), (3, .int (nI (i + 1))), (4, .int (nI i)), (0, .ref o), (1, .int x), (2, .int (nI N))] := hl
                  refine lv_iload hx hb dX12_nights_158 (lv_at hl 0 rfl) ?_
                  refine lv_bipush (v := 23) hx hb dX12_nights_160 (by decide) ?_
                  refine lv_icmp_ge (tgt := 185) hx hb dX12_nights_162 (by decide) (fun c41 => ?_) (fun c41 => absurd (by decide +kernel) c41)
                  refine lv_aload_n hx hb dX12_nights_185 rfl (lv_at hl 3 rfl) ?_
                  refine lv_iconst (v := 0) hx hb dX12_nights_186 (by decide) ?_
                  refine kV.callV (As := [.int 0]) (rest := []) ⟨hx, hb, hml, hown, hg⟩ (c_takesBack0 l o r F3 B3 G3 z30 z31 z32 z33 z34 ) (cwV 1 hg (kgV wt7_223 wt7_225 wp7_9 wt1_14 wt7_226) rfl rfl rfl (by decide +kernel) ⟨by decide, by decide⟩) hK hP hD hS hA mIs [] rfl (wr := []) rfl rfl rfl (fun i h => by cases h) 0 12 rfl rfl rfl hl.1 rfl (Nat.le_of_ble_eq_true rfl) dX12_nights_187 ⟨by decide, by decide⟩ (fun u43 H locs hw42 hP hD hS => ?_)
                  obtain ⟨f45, a46, g47⟩ := u43
                  have hP : va_P D vwCl (mW K o r f45 a46 g47) H := hP
                  have hD : va_D A (mW K o r f45 a46 g47) := hD
                  refine lv_iinc (v := nI (i + 1)) (lv' := [(4, .int (nI (i + 1))), (5, .int 23), (3, .int (nI (i + 1))), (0, .ref o), (1, .int x), (2, .int (nI N))]) hx hb dX12_nights_190 hl (k := 2) rfl (nI_1 _) (by decide) rfl (fun ls hl => ?_)
                  refine lv_goto (tgt := 58) hx hb dX12_nights_193 (by decide) ?_
                  exact ih (i + 1) f45 a46 g47 _ _ _  (by omega)  hw42.1 hw42.2.1 hw42.2.2.1 hw42.2.2.2.1 hw42.2.2.2.2 hP hD hS (lv_sub hl [0, 2, 3, 4, 5] rfl)
                | succ n3 ih3 =>
                  intro i3 F3 B3 G3 H locs ls  hin3  z30 z31 z32 z33 z34 hP hD hS hl
                  have hlt3 : i3 < 23 := by omega
                  refine lv_iload hx hb dX12_nights_158 (lv_at hl 0 rfl) ?_
                  refine lv_bipush (v := 23) hx hb dX12_nights_160 (by decide) ?_
                  refine lv_icmp_ge (tgt := 185) hx hb dX12_nights_162 (by decide) (fun c48 => absurd c48 (nI_ge (b := 23) hlt3 (by decide))) (fun c48 => ?_)
                  refine lv_aload_n hx hb dX12_nights_165 rfl (lv_at hl 3 rfl) ?_
                  refine va_get (D := D) (ci := 12) (v := .ref (r 44)) (C := RX12) (T := TX12) (N := 48) hx hb hg inC12 hown hK hP 0 rfl rfl 44 (by decide) (hg _ wt5_204) (fun _ h9 => h9) rfl dX12_nights_166 ?_
                  refine lv_iload hx hb dX12_nights_169 (lv_at hl 0 rfl) ?_
                  refine lv_aload_n hx hb dX12_nights_171 rfl (lv_at hl 3 rfl) ?_
                  refine va_get (D := D) (ci := 12) (v := .ref (r 2)) (C := RX12) (T := TX12) (N := 48) hx hb hg inC12 hown hK hP 0 rfl rfl 2 (by decide) (hg _ wt5_162) (fun _ h9 => h9) rfl dX12_nights_172 ?_
                  refine lv_iload hx hb dX12_nights_175 (lv_at hl 0 rfl) ?_
                  refine va_iald hx hb hK hP 2 0 rfl rfl (vp_in_nI (by omega) (by decide)) dX12_nights_177 ?_
                  refine lv_topi (fun t49 et49 => ?_)
                  rw [nI_clamp (n := i3) (by omega)] at et49
                  refine va_iast hx hb hK hP hD hS 21 0 rfl rfl (vp_in_nI (by omega) (by decide)) dX12_nights_178 (fun H locs hP hD hS => ?_)
                  rw [nI_clamp (n := i3) (by omega)] at hP hD
                  have hP : va_P D vwCl (mW K o r F3 (va_up B3 44 (upd (B3 44) i3 t49)) G3) H := hP
                  have hD : va_D A (mW K o r F3 (va_up B3 44 (upd (B3 44) i3 t49)) G3) := hD
                  refine k_gen (P := fun z => va_P D vwCl (mW K o r F3 z G3) H ∧ va_D A (mW K o r F3 z G3)) (va_up B3 44 (upd (B3 44) i3 t49)) ⟨hP, hD⟩ (fun a_50 ea_50 hPD => ?_)
                  have hP := hPD.1
                  have hD := hPD.2
                  refine lv_iinc (v := nI (i3 + 1)) (lv' := [(5, .int (nI (i3 + 1))), (3, .int (nI (i + 1))), (4, .int (nI i)), (0, .ref o), (1, .int x), (2, .int (nI N))]) hx hb dX12_nights_179 hl (k := 0) rfl (nI_1 _) (by decide) rfl (fun ls hl => ?_)
                  refine lv_goto (tgt := 158) hx hb dX12_nights_182 (by decide) ?_
                  exact ih3 (i3 + 1) F3 a_50 G3 _ _ _  (by omega)  ((show a_50 2 102 = B3 2 102 from by rw [← ea_50]; rfl).trans z30) ((show a_50 2 103 = B3 2 103 from by rw [← ea_50]; rfl).trans z31) ((show a_50 2 104 = B3 2 104 from by rw [← ea_50]; rfl).trans z32) ((show a_50 2 99 = B3 2 99 from by rw [← ea_50]; rfl).trans z33) ((show a_50 2 100 = B3 2 100 from by rw [← ea_50]; rfl).trans z34) hP hD hS (lv_sub hl [0, 1, 2, 3, 4, 5] rfl)
              exact lp40 (23 - 0) 0 F2 B2 G2 _ _ _  (by omega)  z20 z21 z22 z23 z24 hP hD hS hl
            | succ n2 ih2 =>
              intro i2 F2 B2 G2 H locs ls  hin2  z20 z21 z22 z23 z24 hP hD hS hl
              have hlt2 : i2 < 30 := by omega
              refine lv_iload hx hb dX12_nights_71 (lv_at hl 0 rfl) ?_
              refine lv_aload_n hx hb dX12_nights_73 rfl (lv_at hl 3 rfl) ?_
              refine va_get (D := D) (ci := 12) (v := .ref (r 2)) (C := RX12) (T := TX12) (N := 48) hx hb hg inC12 hown hK hP 0 rfl rfl 2 (by decide) (hg _ wt5_162) (fun _ h9 => h9) rfl dX12_nights_74 ?_
              refine lv_bipush (v := 99) hx hb dX12_nights_77 (by decide) ?_
              refine va_iald hx hb hK hP 2 0 rfl rfl (k_in (by decide +kernel)) dX12_nights_79 ?_
              refine k_top (z := 30) (by rw [cl_99]; exact z23) ?_
              refine lv_icmp_ge (tgt := 136) hx hb dX12_nights_80 (by decide) (fun c51 => absurd c51 (nI_ge (b := 30) hlt2 (by decide))) (fun c51 => ?_)
              refine lv_aload_n hx hb dX12_nights_83 rfl (lv_at hl 3 rfl) ?_
              refine lv_aload_n hx hb dX12_nights_84 rfl (lv_at hl 3 rfl) ?_
              refine kI.callV (As := []) (rest := [.ref o]) ⟨hx, hb, hml, hown, hg⟩ (c_allBuilders l o r F2 B2 G2 z21 ) (cwV 0 hg (kgV wt7_164 wt7_166 wp6_14 wt1_14 wt7_167) rfl rfl rfl (by decide +kernel) ⟨by decide, by decide⟩) hK hP hD hS hA mIs [] rfl (wr := []) rfl rfl rfl (fun i h => by cases h) 0 12 rfl rfl rfl hl.1 rfl (Nat.le_of_ble_eq_true rfl) dX12_nights_85 ⟨by decide, by decide⟩ (fun v54 u53 H locs hw52 hP hD hS => ?_)
              have hP : va_P D vwCl (mW K o r F2 B2 G2) H := hP
              have hD : va_D A (mW K o r F2 B2 G2) := hD
              refine k_top (z := 0) (hw52) ?_
              refine kV.callV (As := [.int 0]) (rest := []) ⟨hx, hb, hml, hown, hg⟩ (c_sendsAll l o r F2 B2 G2 z20 z21 ) (cwV 1 hg (kgV wt7_215 wt7_217 wp7_7 wt1_14 wt7_218) rfl rfl rfl (by decide +kernel) ⟨by decide, by decide⟩) hK hP hD hS hA mIs [] rfl (wr := []) rfl rfl rfl (fun i h => by cases h) 0 12 rfl rfl rfl hl.1 rfl (Nat.le_of_ble_eq_true rfl) dX12_nights_88 ⟨by decide, by decide⟩ (fun u56 H locs hw55 hP hD hS => ?_)
              have hP : va_P D vwCl (mW K o r F2 B2 G2) H := hP
              have hD : va_D A (mW K o r F2 B2 G2) := hD
              refine lv_aload_n hx hb dX12_nights_91 rfl (lv_at hl 3 rfl) ?_
              refine lv_bipush (v := 10) hx hb dX12_nights_92 (by decide) ?_
              refine kI.callV (As := [.int 10]) (rest := []) ⟨hx, hb, hml, hown, hg⟩ (c_draws l o r F2 B2 G2 z20 z21 z22 z23 z24 ) (cwV 1 hg (kgV wt8_71 wt8_73 wp8_3 wt1_14 wt8_74) rfl rfl rfl (by decide +kernel) ⟨by decide, by decide⟩) hK hP hD hS hA mIs [] rfl (wr := []) rfl rfl rfl (fun i h => by cases h) 0 12 rfl rfl rfl hl.1 rfl (Nat.le_of_ble_eq_true rfl) dX12_nights_94 ⟨by decide, by decide⟩ (fun v60 u59 H locs hw58 hP hD hS => ?_)
              obtain ⟨f61, a62, g63⟩ := u59
              have hP : va_P D vwCl (mW K o r f61 a62 g63) H := hP
              have hD : va_D A (mW K o r f61 a62 g63) := hD
              refine lv_aload_n hx hb dX12_nights_97 rfl (lv_at hl 3 rfl) ?_
              refine va_get (D := D) (ci := 12) (v := .ref (r 2)) (C := RX12) (T := TX12) (N := 48) hx hb hg inC12 hown hK hP 0 rfl rfl 2 (by decide) (hg _ wt5_162) (fun _ h9 => h9) rfl dX12_nights_98 ?_
              refine lv_bipush (v := 100) hx hb dX12_nights_101 (by decide) ?_
              refine va_iald hx hb hK hP 2 0 rfl rfl (k_in (by decide +kernel)) dX12_nights_103 ?_
              refine k_top (z := 2) (by rw [cl_100]; exact hw58.2.2.2.2.2) ?_
              refine lv_icmp_ge (tgt := 121) hx hb dX12_nights_104 (by decide) (fun c64 => ?_) (fun c64 => ?_)
              · refine lv_aload_n hx hb dX12_nights_121 rfl (lv_at hl 3 rfl) ?_
                refine lv_aload_n hx hb dX12_nights_122 rfl (lv_at hl 3 rfl) ?_
                refine kI.callV (As := []) (rest := [.ref o]) ⟨hx, hb, hml, hown, hg⟩ (c_allBuilders l o r f61 a62 g63 hw58.2.2.1 ) (cwV 0 hg (kgV wt7_164 wt7_166 wp6_14 wt1_14 wt7_167) rfl rfl rfl (by decide +kernel) ⟨by decide, by decide⟩) hK hP hD hS hA mIs [] rfl (wr := []) rfl rfl rfl (fun i h => by cases h) 0 12 rfl rfl rfl hl.1 rfl (Nat.le_of_ble_eq_true rfl) dX12_nights_123 ⟨by decide, by decide⟩ (fun v67 u66 H locs hw65 hP hD hS => ?_)
                have hP : va_P D vwCl (mW K o r f61 a62 g63) H := hP
                have hD : va_D A (mW K o r f61 a62 g63) := hD
                refine k_top (z := 0) (hw65) ?_
                refine kI.callV (As := [.int 0]) (rest := []) ⟨hx, hb, hml, hown, hg⟩ (c_ticks l o r f61 a62 g63 hw58.2.1 hw58.2.2.1 hw58.2.2.2.1 hw58.2.2.2.2.1 hw58.2.2.2.2.2 ) (cwV 1 hg (kgV wt7_168 wt7_170 wp6_15 wt1_14 wt7_171) rfl rfl rfl (by decide +kernel) ⟨by decide, by decide⟩) hK hP hD hS hA mIs [] rfl (wr := []) rfl rfl rfl (fun i h => by cases h) 0 12 rfl rfl rfl hl.1 rfl (Nat.le_of_ble_eq_true rfl) dX12_nights_126 ⟨by decide, by decide⟩ (fun v70 u69 H locs hw68 hP hD hS => ?_)
                obtain ⟨f71, a72, g73⟩ := u69
                have hP : va_P D vwCl (mW K o r f71 a72 g73) H := hP
                have hD : va_D A (mW K o r f71 a72 g73) := hD
                refine k_top (z := 0) (hw68.1) ?_
                refine lv_pop hx hb dX12_nights_129 rfl ?_
                refine lv_iinc (v := nI (i2 + 1)) (lv' := [(5, .int (nI (i2 + 1))), (4, .int (nI i)), (3, .int (nI i)), (0, .ref o), (1, .int x), (2, .int (nI N))]) hx hb dX12_nights_130 hl (k := 0) rfl (nI_1 _) (by decide) rfl (fun ls hl => ?_)
                refine lv_goto (tgt := 71) hx hb dX12_nights_133 (by decide) ?_
                exact ih2 (i2 + 1) f71 a72 g73 _ _ _  (by omega)  hw68.2.1 hw68.2.2.1 hw68.2.2.2.1 hw68.2.2.2.2.1 hw68.2.2.2.2.2 hP hD hS (lv_sub hl [0, 1, 2, 3, 4, 5] rfl)
              · refine lv_aload_n hx hb dX12_nights_107 rfl (lv_at hl 3 rfl) ?_
                refine va_get (D := D) (ci := 12) (v := .ref (r 2)) (C := RX12) (T := TX12) (N := 48) hx hb hg inC12 hown hK hP 0 rfl rfl 2 (by decide) (hg _ wt5_162) (fun _ h9 => h9) rfl dX12_nights_108 ?_
                refine lv_bipush (v := 22) hx hb dX12_nights_111 (by decide) ?_
                refine lv_dup2_11 hx hb dX12_nights_113 rfl rfl ?_
                refine va_iald hx hb hK hP 2 0 rfl rfl (k_in (by decide +kernel)) dX12_nights_114 ?_
                refine lv_topi (fun t74 et74 => ?_)
                rw [cl_22] at et74
                refine lv_iconst (v := 1) hx hb dX12_nights_115 (by decide) ?_
                refine lv_iadd hx hb dX12_nights_116 ?_
                refine lv_topi (fun t75 et75 => ?_)
                refine va_iast hx hb hK hP hD hS 2 0 rfl rfl (k_in (by decide +kernel)) dX12_nights_117 (fun H locs hP hD hS => ?_)
                rw [cl_22] at hP hD
                have hP : va_P D vwCl (mW K o r f61 (va_up a62 2 (upd (a62 2) 22 t75)) g63) H := hP
                have hD : va_D A (mW K o r f61 (va_up a62 2 (upd (a62 2) 22 t75)) g63) := hD
                refine k_gen (P := fun z => va_P D vwCl (mW K o r f61 z g63) H ∧ va_D A (mW K o r f61 z g63)) (va_up a62 2 (upd (a62 2) 22 t75)) ⟨hP, hD⟩ (fun a_76 ea_76 hPD => ?_)
                have hP := hPD.1
                have hD := hPD.2
                refine lv_goto (tgt := 130) hx hb dX12_nights_118 (by decide) ?_
                refine lv_iinc (v := nI (i2 + 1)) (lv' := [(5, .int (nI (i2 + 1))), (4, .int (nI i)), (3, .int (nI i)), (0, .ref o), (1, .int x), (2, .int (nI N))]) hx hb dX12_nights_130 hl (k := 0) rfl (nI_1 _) (by decide) rfl (fun ls hl => ?_)
                refine lv_goto (tgt := 71) hx hb dX12_nights_133 (by decide) ?_
                exact ih2 (i2 + 1) f61 a_76 g63 _ _ _  (by omega)  ((show a_76 2 102 = a62 2 102 from by rw [← ea_76]; rfl).trans hw58.2.1) ((show a_76 2 103 = a62 2 103 from by rw [← ea_76]; rfl).trans hw58.2.2.1) ((show a_76 2 104 = a62 2 104 from by rw [← ea_76]; rfl).trans hw58.2.2.2.1) ((show a_76 2 99 = a62 2 99 from by rw [← ea_76]; rfl).trans hw58.2.2.2.2.1) ((show a_76 2 100 = a62 2 100 from by rw [← ea_76]; rfl).trans hw58.2.2.2.2.2) hP hD hS (lv_sub hl [0, 1, 2, 3, 4, 5] rfl)
          exact lp31 (30 - 0) 0 f28 a29 g30 _ _ _  (by omega)  hw25.1 hw25.2.1 hw25.2.2.1 hw25.2.2.2.1 hw25.2.2.2.2 hP hD hS hl
      exact lp16 (N - 0) 0 f_15 a g _ _ _  (by omega)  h0 h1 h2 h3 h4 hP hD hS hl
    · refine lv_aload_n hx hb dX12_nights_20 rfl (lv_at hl 0 rfl) ?_
      refine lv_iconst (v := (-1)) hx hb dX12_nights_21 (by decide) ?_
      refine kI.callV (As := [.int (-1)]) (rest := []) ⟨hx, hb, hml, hown, hg⟩ (c_refuses1 l o r f a g  ) (cwV 1 hg (kgV wt6_72 wt6_74 wp3_5 wt1_14 wt6_75) rfl rfl rfl (by decide +kernel) ⟨by decide, by decide⟩) hK hP hD hS hA mIs [] rfl (wr := []) rfl rfl rfl (fun i h => by cases h) 0 12 rfl rfl rfl hl.1 rfl (Nat.le_of_ble_eq_true rfl) dX12_nights_22 ⟨by decide, by decide⟩ (fun v79 u78 H locs hw77 hP hD hS => ?_)
      obtain ⟨f80, a81, g82⟩ := u78
      have hP : va_P D vwCl (mW K o r f80 a81 g82) H := hP
      have hD : va_D A (mW K o r f80 a81 g82) := hD
      refine k_top (z := (-1)) (hw77) ?_
      exact kI_ret (v := (-1)) hx hb hr hlocks rfl hK hS dX12_nights_25 (f80, a81, g82) hP hD (by simp [c3, c12])
set_option maxHeartbeats 4000000 in
set_option maxRecDepth 100000 in
theorem c_goesOn (l : Launch) {D : va_G} {K : Nat → ClassId} (o : Nat) (r : Nat → Nat) (f : Nat → Int32) (a : Nat → Nat → Int32) (g : Nat → Int64) (h0 : a 2 102 = 0)   : kV l yX12_goesOn (Cond.code yX12_goesOn cX12_goesOn 2 none :: kG) (rmD 3 0 0) D (tysK K) [.ref o, .int 0] (mW K o r f a g) (fun (_ : Unit) => True) (fun _ => mW K o r f a g) 0 0 := by
  refine kV.of (cc := cX12_goesOn) (maxL := 2) (ret := none) (by decide) rfl (Nat.le_of_ble_eq_true rfl) ?_
  intro p e s m below meth c A hx hb hr hml hown hts hlocks hnm hK hP hD hS hA ls hl
  have hg : ∀ w ∈ kG, w.before _ s = true := fun w h => hts w (List.mem_cons_of_mem _ h)
  have hown : s.vm.findClass RX12 = some m.cls := hown
  have hl : lv_has ls 2 [(0, .ref o), (1, .int 0)] := hl
  refine lv_aload_n hx hb dX12_goesOn_0 rfl (lv_at hl 0 rfl) ?_
  refine lv_aload_n hx hb dX12_goesOn_1 rfl (lv_at hl 0 rfl) ?_
  refine kI.callV (As := []) (rest := [.ref o]) ⟨hx, hb, hml, hown, hg⟩ (c_allParts l o r f a g h0 ) (cwV 0 hg (kgV wt7_187 wt7_189 wp7_1 wt1_14 wt7_190) rfl rfl rfl (by decide +kernel) ⟨by decide, by decide⟩) hK hP hD hS hA mIs [] rfl (wr := []) rfl rfl rfl (fun i h => by cases h) 0 12 rfl rfl rfl hl.1 rfl (Nat.le_of_ble_eq_true rfl) dX12_goesOn_2 ⟨by decide, by decide⟩ (fun v3 u2 H locs hw1 hP hD hS => ?_)
  have hP : va_P D vwCl (mW K o r f a g) H := hP
  have hD : va_D A (mW K o r f a g) := hD
  refine k_top (z := 0) (hw1) ?_
  refine kI.callV (As := [.int 0]) (rest := []) ⟨hx, hb, hml, hown, hg⟩ (c_areStanding l o r f a g h0 ) (cwV 1 hg (kgV wt7_211 wt7_213 wp7_6 wt1_14 wt7_214) rfl rfl rfl (by decide +kernel) ⟨by decide, by decide⟩) hK hP hD hS hA mIs [] rfl (wr := []) rfl rfl rfl (fun i h => by cases h) 0 12 rfl rfl rfl hl.1 rfl (Nat.le_of_ble_eq_true rfl) dX12_goesOn_5 ⟨by decide, by decide⟩ (fun v6 u5 H locs hw4 hP hD hS => ?_)
  have hP : va_P D vwCl (mW K o r f a g) H := hP
  have hD : va_D A (mW K o r f a g) := hD
  refine k_top (z := 1) (hw4) ?_
  refine lv_if_eq (tgt := 12) hx hb dX12_goesOn_8 (by decide) (fun c7 => absurd c7 (by decide +kernel)) (fun c7 => ?_)
  exact kV_ret hx hb hr hlocks hK hS dX12_goesOn_11 () hP hD trivial
set_option maxHeartbeats 4000000 in
set_option maxRecDepth 100000 in
theorem c_greater (l : Launch) (x : Int32) (y : Int32)  : kN l yX12_greater (Cond.code yX12_greater cX12_greater 2 (some .int) :: kG) (rmD 1 0 0) [.int x, .int y] (fun v => v = (if x ≤ y then y else x)) := by
  refine kN.of (cc := cX12_greater) (maxL := 2) (ret := (some .int)) (by decide) rfl (Nat.le_of_ble_eq_true rfl) ?_
  intro p e s m below meth c hx hb hr hml hown hts hlocks hS ls hl
  have hg : ∀ w ∈ kG, w.before _ s = true := fun w h => hts w (List.mem_cons_of_mem _ h)
  have hown : s.vm.findClass RX12 = some m.cls := hown
  have hl : lv_has ls 2 [(0, .int x), (1, .int y)] := hl
  refine lv_iload_n hx hb dX12_greater_0 rfl (lv_at hl 0 rfl) ?_
  refine lv_iload_n hx hb dX12_greater_1 rfl (lv_at hl 1 rfl) ?_
  refine lv_icmp_le (tgt := 9) hx hb dX12_greater_2 (by decide) (fun c1 => ?_) (fun c1 => ?_)
  · refine lv_iload_n hx hb dX12_greater_9 rfl (lv_at hl 1 rfl) ?_
    exact kN_ret (v := y) hx hb hr hlocks rfl hS dX12_greater_10 (by rw [if_pos c1])
  · refine lv_iload_n hx hb dX12_greater_5 rfl (lv_at hl 0 rfl) ?_
    refine lv_goto (tgt := 10) hx hb dX12_greater_6 (by decide) ?_
    exact kN_ret (v := x) hx hb hr hlocks rfl hS dX12_greater_10 (by rw [if_neg c1])
set_option maxHeartbeats 4000000 in
set_option maxRecDepth 100000 in
theorem c_laysAside0s (l : Launch) {D : va_G} {K : Nat → ClassId} (o : Nat) (r : Nat → Nat) (f : Nat → Int32) (a : Nat → Nat → Int32) (g : Nat → Int64) (h0 : a 2 102 = 0) (h1 : a 2 103 = 0) (h2 : a 2 104 = 0) (h3 : a 2 99 = 30) (h4 : a 2 100 = 2)   : kV l yX12_laysAside (Cond.code yX12_laysAside cX12_laysAside 3 none :: kG) (rmD 1 0 0) D (tysK K) [.ref o, .int 0] (mW K o r f a g) (fun (u : mS) => u.2.1 2 102 = 0 ∧ u.2.1 2 103 = 0 ∧ u.2.1 2 104 = 0 ∧ u.2.1 2 99 = 30 ∧ u.2.1 2 100 = 2 ∧ u.2.1 36 = a 36) (fun u => mW K o r u.1 u.2.1 u.2.2) 0 0 := by
  refine kV.of (cc := cX12_laysAside) (maxL := 3) (ret := none) (by decide) rfl (Nat.le_of_ble_eq_true rfl) ?_
  intro p e s m below meth c A hx hb hr hml hown hts hlocks hnm hK hP hD hS hA ls hl
  have hg : ∀ w ∈ kG, w.before _ s = true := fun w h => hts w (List.mem_cons_of_mem _ h)
  have hown : s.vm.findClass RX12 = some m.cls := hown
  have hl : lv_has ls 3 [(0, .ref o), (1, .int 0)] := hl
  refine lv_iconst (v := 0) hx hb dX12_laysAside_0 (by decide) ?_
  refine lv_istore_n (lv' := [(2, .int 0), (0, .ref o), (1, .int 0)]) hx hb dX12_laysAside_1 rfl hl (by decide) rfl (fun ls hl => ?_)
  have lp1 : ∀ (n i : Nat) (F : Nat → Int32) (B : Nat → Nat → Int32) (G : Nat → Int64) (H : Heap) (locs : List Loc) (ls : Array Slot), i + n = 23 →  B 2 102 = 0 → B 2 103 = 0 → B 2 104 = 0 → B 2 99 = 30 → B 2 100 = 2 → B 36 = a 36 → va_P D vwCl (mW K o r F B G) H → va_D A (mW K o r F B G) → va_S A s.heap H locs → lv_has ls 3 [(2, .int (nI i)), (0, .ref o), (1, .int 0)] → W p l e (rmD 1 0 0) s m ([.ref o, .int 0] : List Value).toArray below meth c H locs 0 0 (kQv D (tysK K) (fun (u : mS) => u.2.1 2 102 = 0 ∧ u.2.1 2 103 = 0 ∧ u.2.1 2 104 = 0 ∧ u.2.1 2 99 = 30 ∧ u.2.1 2 100 = 2 ∧ u.2.1 36 = a 36) (fun u => mW K o r u.1 u.2.1 u.2.2) A below ([.ref o, .int 0] : List Value).toArray s 0 0) (F0 m 2 ls []) := by
    intro n
    induction n with
    | zero =>
      intro i F B G H locs ls  hin  z0 z1 z2 z3 z4 z5 hP hD hS hl
      obtain rfl : 23 = i := by omega
      have hl : lv_has ls 3 [(2, .int 23), (0, .ref o), (1, .int 0)] := hl
      refine lv_iload_n hx hb dX12_laysAside_2 rfl (lv_at hl 0 rfl) ?_
      refine lv_bipush (v := 23) hx hb dX12_laysAside_3 (by decide) ?_
      refine lv_icmp_ge (tgt := 31) hx hb dX12_laysAside_5 (by decide) (fun c2 => ?_) (fun c2 => absurd (by decide +kernel) c2)
      exact kV_ret hx hb hr hlocks hK hS dX12_laysAside_31 (F, B, G) hP hD ⟨z0, z1, z2, z3, z4, z5⟩
    | succ n ih =>
      intro i F B G H locs ls  hin  z0 z1 z2 z3 z4 z5 hP hD hS hl
      have hlt : i < 23 := by omega
      refine lv_iload_n hx hb dX12_laysAside_2 rfl (lv_at hl 0 rfl) ?_
      refine lv_bipush (v := 23) hx hb dX12_laysAside_3 (by decide) ?_
      refine lv_icmp_ge (tgt := 31) hx hb dX12_laysAside_5 (by decide) (fun c3 => absurd c3 (nI_ge (b := 23) hlt (by decide))) (fun c3 => ?_)
      refine lv_aload_n hx hb dX12_laysAside_8 rfl (lv_at hl 1 rfl) ?_
      refine va_get (D := D) (ci := 12) (v := .ref (r 5)) (C := RX12) (T := TX12) (N := 48) hx hb hg inC12 hown hK hP 0 rfl rfl 5 (by decide) (hg _ wt5_165) (fun _ h9 => h9) rfl dX12_laysAside_9 ?_
      refine lv_bipush (v := 23) hx hb dX12_laysAside_12 (by decide) ?_
      refine lv_iload_n hx hb dX12_laysAside_14 rfl (lv_at hl 2 rfl) ?_
      refine lv_imul hx hb dX12_laysAside_15 ?_
      refine k_top (z := 0) (by decide +kernel) ?_
      refine lv_iload_n hx hb dX12_laysAside_16 rfl (lv_at hl 0 rfl) ?_
      refine lv_iadd hx hb dX12_laysAside_17 ?_
      refine k_top (z := nI (0 + i)) (nI_add 0 i) ?_
      refine lv_aload_n hx hb dX12_laysAside_18 rfl (lv_at hl 1 rfl) ?_
      refine va_get (D := D) (ci := 12) (v := .ref (r 2)) (C := RX12) (T := TX12) (N := 48) hx hb hg inC12 hown hK hP 0 rfl rfl 2 (by decide) (hg _ wt5_162) (fun _ h9 => h9) rfl dX12_laysAside_19 ?_
      refine lv_iload_n hx hb dX12_laysAside_22 rfl (lv_at hl 0 rfl) ?_
      refine va_iald hx hb hK hP 2 0 rfl rfl (vp_in_nI (by omega) (by decide)) dX12_laysAside_23 ?_
      refine lv_topi (fun t4 et4 => ?_)
      rw [nI_clamp (n := i) (by omega)] at et4
      refine va_iast hx hb hK hP hD hS 5 0 rfl rfl (vp_in_nI (by omega) (by decide)) dX12_laysAside_24 (fun H locs hP hD hS => ?_)
      rw [nI_clamp (n := (0 + i)) (by omega)] at hP hD
      have hP : va_P D vwCl (mW K o r F (va_up B 5 (upd (B 5) (0 + i) t4)) G) H := hP
      have hD : va_D A (mW K o r F (va_up B 5 (upd (B 5) (0 + i) t4)) G) := hD
      refine k_gen (P := fun z => va_P D vwCl (mW K o r F z G) H ∧ va_D A (mW K o r F z G)) (va_up B 5 (upd (B 5) (0 + i) t4)) ⟨hP, hD⟩ (fun a_5 ea_5 hPD => ?_)
      have hP := hPD.1
      have hD := hPD.2
      refine lv_iinc (v := nI (i + 1)) (lv' := [(2, .int (nI (i + 1))), (0, .ref o), (1, .int 0)]) hx hb dX12_laysAside_25 hl (k := 0) rfl (nI_1 _) (by decide) rfl (fun ls hl => ?_)
      refine lv_goto (tgt := 2) hx hb dX12_laysAside_28 (by decide) ?_
      exact ih (i + 1) F a_5 G _ _ _  (by omega)  ((show a_5 2 102 = B 2 102 from by rw [← ea_5]; rfl).trans z0) ((show a_5 2 103 = B 2 103 from by rw [← ea_5]; rfl).trans z1) ((show a_5 2 104 = B 2 104 from by rw [← ea_5]; rfl).trans z2) ((show a_5 2 99 = B 2 99 from by rw [← ea_5]; rfl).trans z3) ((show a_5 2 100 = B 2 100 from by rw [← ea_5]; rfl).trans z4) ((show a_5 36 = B 36 from by rw [← ea_5]; rfl).trans z5) hP hD hS (lv_sub hl [0, 1, 2] rfl)
  exact lp1 (23 - 0) 0 f a g _ _ _  (by omega)  h0 h1 h2 h3 h4 rfl hP hD hS hl
set_option maxHeartbeats 4000000 in
set_option maxRecDepth 100000 in
theorem c_takesBack0s (l : Launch) {D : va_G} {K : Nat → ClassId} (o : Nat) (r : Nat → Nat) (f : Nat → Int32) (a : Nat → Nat → Int32) (g : Nat → Int64) (h0 : a 2 102 = 0) (h1 : a 2 103 = 0) (h2 : a 2 104 = 0) (h3 : a 2 99 = 30) (h4 : a 2 100 = 2)   : kV l yX12_takesBack (Cond.code yX12_takesBack cX12_takesBack 3 none :: kG) (rmD 1 0 0) D (tysK K) [.ref o, .int 0] (mW K o r f a g) (fun (u : mS) => u.2.1 2 102 = 0 ∧ u.2.1 2 103 = 0 ∧ u.2.1 2 104 = 0 ∧ u.2.1 2 99 = 30 ∧ u.2.1 2 100 = 2 ∧ u.2.1 36 = a 36) (fun u => mW K o r u.1 u.2.1 u.2.2) 0 0 := by
  refine kV.of (cc := cX12_takesBack) (maxL := 3) (ret := none) (by decide) rfl (Nat.le_of_ble_eq_true rfl) ?_
  intro p e s m below meth c A hx hb hr hml hown hts hlocks hnm hK hP hD hS hA ls hl
  have hg : ∀ w ∈ kG, w.before _ s = true := fun w h => hts w (List.mem_cons_of_mem _ h)
  have hown : s.vm.findClass RX12 = some m.cls := hown
  have hl : lv_has ls 3 [(0, .ref o), (1, .int 0)] := hl
  refine lv_iconst (v := 0) hx hb dX12_takesBack_0 (by decide) ?_
  refine lv_istore_n (lv' := [(2, .int 0), (0, .ref o), (1, .int 0)]) hx hb dX12_takesBack_1 rfl hl (by decide) rfl (fun ls hl => ?_)
  have lp1 : ∀ (n i : Nat) (F : Nat → Int32) (B : Nat → Nat → Int32) (G : Nat → Int64) (H : Heap) (locs : List Loc) (ls : Array Slot), i + n = 23 →  B 2 102 = 0 → B 2 103 = 0 → B 2 104 = 0 → B 2 99 = 30 → B 2 100 = 2 → B 36 = a 36 → va_P D vwCl (mW K o r F B G) H → va_D A (mW K o r F B G) → va_S A s.heap H locs → lv_has ls 3 [(2, .int (nI i)), (0, .ref o), (1, .int 0)] → W p l e (rmD 1 0 0) s m ([.ref o, .int 0] : List Value).toArray below meth c H locs 0 0 (kQv D (tysK K) (fun (u : mS) => u.2.1 2 102 = 0 ∧ u.2.1 2 103 = 0 ∧ u.2.1 2 104 = 0 ∧ u.2.1 2 99 = 30 ∧ u.2.1 2 100 = 2 ∧ u.2.1 36 = a 36) (fun u => mW K o r u.1 u.2.1 u.2.2) A below ([.ref o, .int 0] : List Value).toArray s 0 0) (F0 m 2 ls []) := by
    intro n
    induction n with
    | zero =>
      intro i F B G H locs ls  hin  z0 z1 z2 z3 z4 z5 hP hD hS hl
      obtain rfl : 23 = i := by omega
      have hl : lv_has ls 3 [(2, .int 23), (0, .ref o), (1, .int 0)] := hl
      refine lv_iload_n hx hb dX12_takesBack_2 rfl (lv_at hl 0 rfl) ?_
      refine lv_bipush (v := 23) hx hb dX12_takesBack_3 (by decide) ?_
      refine lv_icmp_ge (tgt := 31) hx hb dX12_takesBack_5 (by decide) (fun c2 => ?_) (fun c2 => absurd (by decide +kernel) c2)
      exact kV_ret hx hb hr hlocks hK hS dX12_takesBack_31 (F, B, G) hP hD ⟨z0, z1, z2, z3, z4, z5⟩
    | succ n ih =>
      intro i F B G H locs ls  hin  z0 z1 z2 z3 z4 z5 hP hD hS hl
      have hlt : i < 23 := by omega
      refine lv_iload_n hx hb dX12_takesBack_2 rfl (lv_at hl 0 rfl) ?_
      refine lv_bipush (v := 23) hx hb dX12_takesBack_3 (by decide) ?_
      refine lv_icmp_ge (tgt := 31) hx hb dX12_takesBack_5 (by decide) (fun c3 => absurd c3 (nI_ge (b := 23) hlt (by decide))) (fun c3 => ?_)
      refine lv_aload_n hx hb dX12_takesBack_8 rfl (lv_at hl 1 rfl) ?_
      refine va_get (D := D) (ci := 12) (v := .ref (r 2)) (C := RX12) (T := TX12) (N := 48) hx hb hg inC12 hown hK hP 0 rfl rfl 2 (by decide) (hg _ wt5_162) (fun _ h9 => h9) rfl dX12_takesBack_9 ?_
      refine lv_iload_n hx hb dX12_takesBack_12 rfl (lv_at hl 0 rfl) ?_
      refine lv_aload_n hx hb dX12_takesBack_13 rfl (lv_at hl 1 rfl) ?_
      refine va_get (D := D) (ci := 12) (v := .ref (r 5)) (C := RX12) (T := TX12) (N := 48) hx hb hg inC12 hown hK hP 0 rfl rfl 5 (by decide) (hg _ wt5_165) (fun _ h9 => h9) rfl dX12_takesBack_14 ?_
      refine lv_bipush (v := 23) hx hb dX12_takesBack_17 (by decide) ?_
      refine lv_iload_n hx hb dX12_takesBack_19 rfl (lv_at hl 2 rfl) ?_
      refine lv_imul hx hb dX12_takesBack_20 ?_
      refine k_top (z := 0) (by decide +kernel) ?_
      refine lv_iload_n hx hb dX12_takesBack_21 rfl (lv_at hl 0 rfl) ?_
      refine lv_iadd hx hb dX12_takesBack_22 ?_
      refine k_top (z := nI (0 + i)) (nI_add 0 i) ?_
      refine va_iald hx hb hK hP 5 0 rfl rfl (vp_in_nI (by omega) (by decide)) dX12_takesBack_23 ?_
      refine lv_topi (fun t4 et4 => ?_)
      rw [nI_clamp (n := (0 + i)) (by omega)] at et4
      refine va_iast hx hb hK hP hD hS 2 0 rfl rfl (vp_in_nI (by omega) (by decide)) dX12_takesBack_24 (fun H locs hP hD hS => ?_)
      rw [nI_clamp (n := i) (by omega)] at hP hD
      have hP : va_P D vwCl (mW K o r F (va_up B 2 (upd (B 2) i t4)) G) H := hP
      have hD : va_D A (mW K o r F (va_up B 2 (upd (B 2) i t4)) G) := hD
      refine k_gen (P := fun z => va_P D vwCl (mW K o r F z G) H ∧ va_D A (mW K o r F z G)) (va_up B 2 (upd (B 2) i t4)) ⟨hP, hD⟩ (fun a_5 ea_5 hPD => ?_)
      have hP := hPD.1
      have hD := hPD.2
      refine lv_iinc (v := nI (i + 1)) (lv' := [(2, .int (nI (i + 1))), (0, .ref o), (1, .int 0)]) hx hb dX12_takesBack_25 hl (k := 0) rfl (nI_1 _) (by decide) rfl (fun ls hl => ?_)
      refine lv_goto (tgt := 2) hx hb dX12_takesBack_28 (by decide) ?_
      exact ih (i + 1) F a_5 G _ _ _  (by omega)  ((show a_5 2 102 = B 2 102 from by rw [← ea_5]; exact pk_un (by omega)).trans z0) ((show a_5 2 103 = B 2 103 from by rw [← ea_5]; exact pk_un (by omega)).trans z1) ((show a_5 2 104 = B 2 104 from by rw [← ea_5]; exact pk_un (by omega)).trans z2) ((show a_5 2 99 = B 2 99 from by rw [← ea_5]; exact pk_un (by omega)).trans z3) ((show a_5 2 100 = B 2 100 from by rw [← ea_5]; exact pk_un (by omega)).trans z4) ((show a_5 36 = B 36 from by rw [← ea_5]; rfl).trans z5) hP hD hS (lv_sub hl [0, 1, 2] rfl)
  exact lp1 (23 - 0) 0 f a g _ _ _  (by omega)  h0 h1 h2 h3 h4 rfl hP hD hS hl
