set_option maxHeartbeats 4000000 in
set_option maxRecDepth 100000 in
theorem c_terms (l : Launch) {D : va_G} {K : Nat → ClassId} (o : Nat) (r : Nat → Nat) (f : Nat → Int32) (a : Nat → Nat → Int32) (g : Nat → Int64) (h0 : a 2 22 = 0) (h1 : a 2 99 = 30) (h2 : a 2 100 = 2) (h3 : a 2 101 = 0) (x : Int32) (y : Int32)  : kI l yX12_terms (Cond.code yX12_terms cX12_terms 5 (some .int) :: kG) (rmD 3 0 0) D (tysK K) [.ref o, .int x, .int y] (mW K o r f a g) (fun v (u : mS) => v = (if mIsTerm x y = 0 then (-1 : Int32) else if x = 1 then 30 else if x = 2 then 2 else 0)) (fun u => mW K o r u.1 u.2.1 u.2.2) 0 0 := by
  refine kI.of (cc := cX12_terms) (maxL := 5) (ret := (some .int)) (by decide) rfl (Nat.le_of_ble_eq_true rfl) ?_
  intro p e s m below meth c A hx hb hr hml hown hts hlocks hnm hK hP hD hS hA ls hl
  have hg : ∀ w ∈ kG, w.before _ s = true := fun w h => hts w (List.mem_cons_of_mem _ h)
  have hown : s.vm.findClass RX12 = some m.cls := hown
  have hl : lv_has ls 5 [(0, .ref o), (1, .int x), (2, .int y)] := hl
  by_cases q1 : x = 0
  · subst q1
    have hl : lv_has ls 5 [(0, .ref o), (1, .int 0), (2, .int y)] := hl
    refine lv_iload_n hx hb dX12_terms_0 rfl (lv_at hl 1 rfl) ?_
    refine lv_iload_n hx hb dX12_terms_1 rfl (lv_at hl 2 rfl) ?_
    refine kN.callS (As := [.int 0, .int y]) (rest := []) ⟨hx, hb, hml, hown, hg⟩ (c_isTerm l 0 y) (va_cwS 2 hg (kgS wt6_146 wt6_147 wt1_14 wt6_148) rfl rfl rfl (by decide +kernel) ⟨by decide, by decide⟩) hP hS rfl hl.1 rfl (Nat.le_of_ble_eq_true rfl) dX12_terms_2 ⟨by decide, by decide⟩ (fun v3 H locs hw2 hP hS => ?_)
    refine k_top (z := mLies y 0 999) (hw2.trans (by simp [mIsTerm])) ?_
    refine lv_if_ne (tgt := 14) hx hb dX12_terms_5 (by decide) (fun c4 => ?_) (fun c4 => ?_)
    · refine lv_iload_n hx hb dX12_terms_14 rfl (lv_at hl 1 rfl) ?_
      refine lv_if_ne (tgt := 23) hx hb dX12_terms_15 (by decide) (fun c5 => absurd (by decide +kernel) c5) (fun c5 => ?_)
      refine lv_bipush (v := 22) hx hb dX12_terms_18 (by decide) ?_
      refine lv_goto (tgt := 29) hx hb dX12_terms_20 (by decide) ?_
      refine lv_istore_n (lv' := [(3, .int 22), (0, .ref o), (1, .int 0), (2, .int y)]) hx hb dX12_terms_29 rfl hl (by decide) rfl (fun ls hl => ?_)
      refine lv_aload_n hx hb dX12_terms_30 rfl (lv_at hl 1 rfl) ?_
      refine va_get (D := D) (ci := 12) (v := .ref (r 2)) (C := RX12) (T := TX12) (N := 48) hx hb hg inC12 hown hK hP 0 rfl rfl 2 (by decide) (hg _ wt5_162) (fun _ h9 => h9) rfl dX12_terms_31 ?_
      refine lv_iload_n hx hb dX12_terms_34 rfl (lv_at hl 0 rfl) ?_
      refine va_iald hx hb hK hP 2 0 rfl rfl (k_in (by decide +kernel)) dX12_terms_35 ?_
      refine k_top (z := 0) (by rw [cl_22]; exact h0) ?_
      refine lv_istore (lv' := [(4, .int 0), (3, .int 22), (0, .ref o), (1, .int 0), (2, .int y)]) hx hb dX12_terms_36 hl (by decide) rfl (fun ls hl => ?_)
      refine lv_aload_n hx hb dX12_terms_38 rfl (lv_at hl 2 rfl) ?_
      refine va_get (D := D) (ci := 12) (v := .ref (r 2)) (C := RX12) (T := TX12) (N := 48) hx hb hg inC12 hown hK hP 0 rfl rfl 2 (by decide) (hg _ wt5_162) (fun _ h9 => h9) rfl dX12_terms_39 ?_
      refine lv_iload_n hx hb dX12_terms_42 rfl (lv_at hl 1 rfl) ?_
      refine lv_iload_n hx hb dX12_terms_43 rfl (lv_at hl 4 rfl) ?_
      refine va_iast hx hb hK hP hD hS 2 0 rfl rfl (k_in (by decide +kernel)) dX12_terms_44 (fun H locs hP hD hS => ?_)
      rw [cl_22] at hP hD
      have hP : va_P D vwCl (mW K o r f (va_up a 2 (upd (a 2) 22 y)) g) H := hP
      have hD : va_D A (mW K o r f (va_up a 2 (upd (a 2) 22 y)) g) := hD
      refine k_gen (P := fun z => va_P D vwCl (mW K o r f z g) H ∧ va_D A (mW K o r f z g)) (va_up a 2 (upd (a 2) 22 y)) ⟨hP, hD⟩ (fun a_6 ea_6 hPD => ?_)
      have hP := hPD.1
      have hD := hPD.2
      refine lv_aload_n hx hb dX12_terms_45 rfl (lv_at hl 2 rfl) ?_
      refine lv_iload hx hb dX12_terms_46 (lv_at hl 0 rfl) ?_
      refine kI.callV (As := [.int 0]) (rest := []) ⟨hx, hb, hml, hown, hg⟩ (c_settled l o r f a_6 g  0) (cwV 1 hg (kgV wt6_84 wt6_86 wp3_7 wt1_14 wt6_87) rfl rfl rfl (by decide +kernel) ⟨by decide, by decide⟩) hK hP hD hS hA mIs [] rfl (wr := []) rfl rfl rfl (fun i h => by cases h) 0 12 rfl rfl rfl hl.1 rfl (Nat.le_of_ble_eq_true rfl) dX12_terms_48 ⟨by decide, by decide⟩ (fun v9 u8 H locs hw7 hP hD hS => ?_)
      obtain ⟨f10, a11, g12⟩ := u8
      have hP : va_P D vwCl (mW K o r f10 a11 g12) H := hP
      have hD : va_D A (mW K o r f10 a11 g12) := hD
      refine k_top (z := 0) (hw7) ?_
      exact kI_ret (v := 0) hx hb hr hlocks rfl hK hS dX12_terms_51 (f10, a11, g12) hP hD (by simp [mIsTerm, c4])
    · refine lv_aload_n hx hb dX12_terms_8 rfl (lv_at hl 0 rfl) ?_
      refine lv_iconst (v := (-1)) hx hb dX12_terms_9 (by decide) ?_
      refine kI.callV (As := [.int (-1)]) (rest := []) ⟨hx, hb, hml, hown, hg⟩ (c_refuses1 l o r f a g  ) (cwV 1 hg (kgV wt6_72 wt6_74 wp3_5 wt1_14 wt6_75) rfl rfl rfl (by decide +kernel) ⟨by decide, by decide⟩) hK hP hD hS hA mIs [] rfl (wr := []) rfl rfl rfl (fun i h => by cases h) 0 12 rfl rfl rfl hl.1 rfl (Nat.le_of_ble_eq_true rfl) dX12_terms_10 ⟨by decide, by decide⟩ (fun v15 u14 H locs hw13 hP hD hS => ?_)
      obtain ⟨f16, a17, g18⟩ := u14
      have hP : va_P D vwCl (mW K o r f16 a17 g18) H := hP
      have hD : va_D A (mW K o r f16 a17 g18) := hD
      refine k_top (z := (-1)) (hw13) ?_
      exact kI_ret (v := (-1)) hx hb hr hlocks rfl hK hS dX12_terms_13 (f16, a17, g18) hP hD (by simp [mIsTerm, c4])
  by_cases q19 : x = 1
  · subst q19
    have hl : lv_has ls 5 [(0, .ref o), (1, .int 1), (2, .int y)] := hl
    refine lv_iload_n hx hb dX12_terms_0 rfl (lv_at hl 1 rfl) ?_
    refine lv_iload_n hx hb dX12_terms_1 rfl (lv_at hl 2 rfl) ?_
    refine kN.callS (As := [.int 1, .int y]) (rest := []) ⟨hx, hb, hml, hown, hg⟩ (c_isTerm l 1 y) (va_cwS 2 hg (kgS wt6_146 wt6_147 wt1_14 wt6_148) rfl rfl rfl (by decide +kernel) ⟨by decide, by decide⟩) hP hS rfl hl.1 rfl (Nat.le_of_ble_eq_true rfl) dX12_terms_2 ⟨by decide, by decide⟩ (fun v21 H locs hw20 hP hS => ?_)
    refine k_top (z := mLies y 1 99) (hw20.trans (by simp [mIsTerm])) ?_
    refine lv_if_ne (tgt := 14) hx hb dX12_terms_5 (by decide) (fun c22 => ?_) (fun c22 => ?_)
    · refine lv_iload_n hx hb dX12_terms_14 rfl (lv_at hl 1 rfl) ?_
      refine lv_if_ne (tgt := 23) hx hb dX12_terms_15 (by decide) (fun c23 => ?_) (fun c23 => absurd c23 (by decide +kernel))
      refine lv_bipush (v := 99) hx hb dX12_terms_23 (by decide) ?_
      refine lv_iload_n hx hb dX12_terms_25 rfl (lv_at hl 1 rfl) ?_
      refine lv_iadd hx hb dX12_terms_26 ?_
      refine k_top (z := 100) (by decide +kernel) ?_
      refine lv_iconst (v := 1) hx hb dX12_terms_27 (by decide) ?_
      refine lv_isub hx hb dX12_terms_28 ?_
      refine k_top (z := 99) (by decide +kernel) ?_
      refine lv_istore_n (lv' := [(3, .int 99), (0, .ref o), (1, .int 1), (2, .int y)]) hx hb dX12_terms_29 rfl hl (by decide) rfl (fun ls hl => ?_)
      refine lv_aload_n hx hb dX12_terms_30 rfl (lv_at hl 1 rfl) ?_
      refine va_get (D := D) (ci := 12) (v := .ref (r 2)) (C := RX12) (T := TX12) (N := 48) hx hb hg inC12 hown hK hP 0 rfl rfl 2 (by decide) (hg _ wt5_162) (fun _ h9 => h9) rfl dX12_terms_31 ?_
      refine lv_iload_n hx hb dX12_terms_34 rfl (lv_at hl 0 rfl) ?_
      refine va_iald hx hb hK hP 2 0 rfl rfl (k_in (by decide +kernel)) dX12_terms_35 ?_
      refine k_top (z := 30) (by rw [cl_99]; exact h1) ?_
      refine lv_istore (lv' := [(4, .int 30), (3, .int 99), (0, .ref o), (1, .int 1), (2, .int y)]) hx hb dX12_terms_36 hl (by decide) rfl (fun ls hl => ?_)
      refine lv_aload_n hx hb dX12_terms_38 rfl (lv_at hl 2 rfl) ?_
      refine va_get (D := D) (ci := 12) (v := .ref (r 2)) (C := RX12) (T := TX12) (N := 48) hx hb hg inC12 hown hK hP 0 rfl rfl 2 (by decide) (hg _ wt5_162) (fun _ h9 => h9) rfl dX12_terms_39 ?_
      refine lv_iload_n hx hb dX12_terms_42 rfl (lv_at hl 1 rfl) ?_
      refine lv_iload_n hx hb dX12_terms_43 rfl (lv_at hl 4 rfl) ?_
      refine va_iast hx hb hK hP hD hS 2 0 rfl rfl (k_in (by decide +kernel)) dX12_terms_44 (fun H locs hP hD hS => ?_)
      rw [cl_99] at hP hD
      have hP : va_P D vwCl (mW K o r f (va_up a 2 (upd (a 2) 99 y)) g) H := hP
      have hD : va_D A (mW K o r f (va_up a 2 (upd (a 2) 99 y)) g) := hD
      refine k_gen (P := fun z => va_P D vwCl (mW K o r f z g) H ∧ va_D A (mW K o r f z g)) (va_up a 2 (upd (a 2) 99 y)) ⟨hP, hD⟩ (fun a_24 ea_24 hPD => ?_)
      have hP := hPD.1
      have hD := hPD.2
      refine lv_aload_n hx hb dX12_terms_45 rfl (lv_at hl 2 rfl) ?_
      refine lv_iload hx hb dX12_terms_46 (lv_at hl 0 rfl) ?_
      refine kI.callV (As := [.int 30]) (rest := []) ⟨hx, hb, hml, hown, hg⟩ (c_settled l o r f a_24 g  30) (cwV 1 hg (kgV wt6_84 wt6_86 wp3_7 wt1_14 wt6_87) rfl rfl rfl (by decide +kernel) ⟨by decide, by decide⟩) hK hP hD hS hA mIs [] rfl (wr := []) rfl rfl rfl (fun i h => by cases h) 0 12 rfl rfl rfl hl.1 rfl (Nat.le_of_ble_eq_true rfl) dX12_terms_48 ⟨by decide, by decide⟩ (fun v27 u26 H locs hw25 hP hD hS => ?_)
      obtain ⟨f28, a29, g30⟩ := u26
      have hP : va_P D vwCl (mW K o r f28 a29 g30) H := hP
      have hD : va_D A (mW K o r f28 a29 g30) := hD
      refine k_top (z := 30) (hw25) ?_
      exact kI_ret (v := 30) hx hb hr hlocks rfl hK hS dX12_terms_51 (f28, a29, g30) hP hD (by simp [mIsTerm, c22])
    · refine lv_aload_n hx hb dX12_terms_8 rfl (lv_at hl 0 rfl) ?_
      refine lv_iconst (v := (-1)) hx hb dX12_terms_9 (by decide) ?_
      refine kI.callV (As := [.int (-1)]) (rest := []) ⟨hx, hb, hml, hown, hg⟩ (c_refuses1 l o r f a g  ) (cwV 1 hg (kgV wt6_72 wt6_74 wp3_5 wt1_14 wt6_75) rfl rfl rfl (by decide +kernel) ⟨by decide, by decide⟩) hK hP hD hS hA mIs [] rfl (wr := []) rfl rfl rfl (fun i h => by cases h) 0 12 rfl rfl rfl hl.1 rfl (Nat.le_of_ble_eq_true rfl) dX12_terms_10 ⟨by decide, by decide⟩ (fun v33 u32 H locs hw31 hP hD hS => ?_)
      obtain ⟨f34, a35, g36⟩ := u32
      have hP : va_P D vwCl (mW K o r f34 a35 g36) H := hP
      have hD : va_D A (mW K o r f34 a35 g36) := hD
      refine k_top (z := (-1)) (hw31) ?_
      exact kI_ret (v := (-1)) hx hb hr hlocks rfl hK hS dX12_terms_13 (f34, a35, g36) hP hD (by simp [mIsTerm, c22])
  by_cases q37 : x = 2
  · subst q37
    have hl : lv_has ls 5 [(0, .ref o), (1, .int 2), (2, .int y)] := hl
    refine lv_iload_n hx hb dX12_terms_0 rfl (lv_at hl 1 rfl) ?_
    refine lv_iload_n hx hb dX12_terms_1 rfl (lv_at hl 2 rfl) ?_
    refine kN.callS (As := [.int 2, .int y]) (rest := []) ⟨hx, hb, hml, hown, hg⟩ (c_isTerm l 2 y) (va_cwS 2 hg (kgS wt6_146 wt6_147 wt1_14 wt6_148) rfl rfl rfl (by decide +kernel) ⟨by decide, by decide⟩) hP hS rfl hl.1 rfl (Nat.le_of_ble_eq_true rfl) dX12_terms_2 ⟨by decide, by decide⟩ (fun v39 H locs hw38 hP hS => ?_)
    refine k_top (z := mLies y 0 10) (hw38.trans (by simp [mIsTerm])) ?_
    refine lv_if_ne (tgt := 14) hx hb dX12_terms_5 (by decide) (fun c40 => ?_) (fun c40 => ?_)
    · refine lv_iload_n hx hb dX12_terms_14 rfl (lv_at hl 1 rfl) ?_
      refine lv_if_ne (tgt := 23) hx hb dX12_terms_15 (by decide) (fun c41 => ?_) (fun c41 => absurd c41 (by decide +kernel))
      refine lv_bipush (v := 99) hx hb dX12_terms_23 (by decide) ?_
      refine lv_iload_n hx hb dX12_terms_25 rfl (lv_at hl 1 rfl) ?_
      refine lv_iadd hx hb dX12_terms_26 ?_
      refine k_top (z := 101) (by decide +kernel) ?_
      refine lv_iconst (v := 1) hx hb dX12_terms_27 (by decide) ?_
      refine lv_isub hx hb dX12_terms_28 ?_
      refine k_top (z := 100) (by decide +kernel) ?_
      refine lv_istore_n (lv' := [(3, .int 100), (0, .ref o), (1, .int 2), (2, .int y)]) hx hb dX12_terms_29 rfl hl (by decide) rfl (fun ls hl => ?_)
      refine lv_aload_n hx hb dX12_terms_30 rfl (lv_at hl 1 rfl) ?_
      refine va_get (D := D) (ci := 12) (v := .ref (r 2)) (C := RX12) (T := TX12) (N := 48) hx hb hg inC12 hown hK hP 0 rfl rfl 2 (by decide) (hg _ wt5_162) (fun _ h9 => h9) rfl dX12_terms_31 ?_
      refine lv_iload_n hx hb dX12_terms_34 rfl (lv_at hl 0 rfl) ?_
      refine va_iald hx hb hK hP 2 0 rfl rfl (k_in (by decide +kernel)) dX12_terms_35 ?_
      refine k_top (z := 2) (by rw [cl_100]; exact h2) ?_
      refine lv_istore (lv' := [(4, .int 2), (3, .int 100), (0, .ref o), (1, .int 2), (2, .int y)]) hx hb dX12_terms_36 hl (by decide) rfl (fun ls hl => ?_)
      refine lv_aload_n hx hb dX12_terms_38 rfl (lv_at hl 2 rfl) ?_
      refine va_get (D := D) (ci := 12) (v := .ref (r 2)) (C := RX12) (T := TX12) (N := 48) hx hb hg inC12 hown hK hP 0 rfl rfl 2 (by decide) (hg _ wt5_162) (fun _ h9 => h9) rfl dX12_terms_39 ?_
      refine lv_iload_n hx hb dX12_terms_42 rfl (lv_at hl 1 rfl) ?_
      refine lv_iload_n hx hb dX12_terms_43 rfl (lv_at hl 4 rfl) ?_
      refine va_iast hx hb hK hP hD hS 2 0 rfl rfl (k_in (by decide +kernel)) dX12_terms_44 (fun H locs hP hD hS => ?_)
      rw [cl_100] at hP hD
      have hP : va_P D vwCl (mW K o r f (va_up a 2 (upd (a 2) 100 y)) g) H := hP
      have hD : va_D A (mW K o r f (va_up a 2 (upd (a 2) 100 y)) g) := hD
      refine k_gen (P := fun z => va_P D vwCl (mW K o r f z g) H ∧ va_D A (mW K o r f z g)) (va_up a 2 (upd (a 2) 100 y)) ⟨hP, hD⟩ (fun a_42 ea_42 hPD => ?_)
      have hP := hPD.1
      have hD := hPD.2
      refine lv_aload_n hx hb dX12_terms_45 rfl (lv_at hl 2 rfl) ?_
      refine lv_iload hx hb dX12_terms_46 (lv_at hl 0 rfl) ?_
      refine kI.callV (As := [.int 2]) (rest := []) ⟨hx, hb, hml, hown, hg⟩ (c_settled l o r f a_42 g  2) (cwV 1 hg (kgV wt6_84 wt6_86 wp3_7 wt1_14 wt6_87) rfl rfl rfl (by decide +kernel) ⟨by decide, by decide⟩) hK hP hD hS hA mIs [] rfl (wr := []) rfl rfl rfl (fun i h => by cases h) 0 12 rfl rfl rfl hl.1 rfl (Nat.le_of_ble_eq_true rfl) dX12_terms_48 ⟨by decide, by decide⟩ (fun v45 u44 H locs hw43 hP hD hS => ?_)
      obtain ⟨f46, a47, g48⟩ := u44
      have hP : va_P D vwCl (mW K o r f46 a47 g48) H := hP
      have hD : va_D A (mW K o r f46 a47 g48) := hD
      refine k_top (z := 2) (hw43) ?_
      exact kI_ret (v := 2) hx hb hr hlocks rfl hK hS dX12_terms_51 (f46, a47, g48) hP hD (by simp [mIsTerm, c40])
    · refine lv_aload_n hx hb dX12_terms_8 rfl (lv_at hl 0 rfl) ?_
      refine lv_iconst (v := (-1)) hx hb dX12_terms_9 (by decide) ?_
      refine kI.callV (As := [.int (-1)]) (rest := []) ⟨hx, hb, hml, hown, hg⟩ (c_refuses1 l o r f a g  ) (cwV 1 hg (kgV wt6_72 wt6_74 wp3_5 wt1_14 wt6_75) rfl rfl rfl (by decide +kernel) ⟨by decide, by decide⟩) hK hP hD hS hA mIs [] rfl (wr := []) rfl rfl rfl (fun i h => by cases h) 0 12 rfl rfl rfl hl.1 rfl (Nat.le_of_ble_eq_true rfl) dX12_terms_10 ⟨by decide, by decide⟩ (fun v51 u50 H locs hw49 hP hD hS => ?_)
      obtain ⟨f52, a53, g54⟩ := u50
      have hP : va_P D vwCl (mW K o r f52 a53 g54) H := hP
      have hD : va_D A (mW K o r f52 a53 g54) := hD
      refine k_top (z := (-1)) (hw49) ?_
      exact kI_ret (v := (-1)) hx hb hr hlocks rfl hK hS dX12_terms_13 (f52, a53, g54) hP hD (by simp [mIsTerm, c40])
  by_cases q55 : x = 3
  · subst q55
    have hl : lv_has ls 5 [(0, .ref o), (1, .int 3), (2, .int y)] := hl
    refine lv_iload_n hx hb dX12_terms_0 rfl (lv_at hl 1 rfl) ?_
    refine lv_iload_n hx hb dX12_terms_1 rfl (lv_at hl 2 rfl) ?_
    refine kN.callS (As := [.int 3, .int y]) (rest := []) ⟨hx, hb, hml, hown, hg⟩ (c_isTerm l 3 y) (va_cwS 2 hg (kgS wt6_146 wt6_147 wt1_14 wt6_148) rfl rfl rfl (by decide +kernel) ⟨by decide, by decide⟩) hP hS rfl hl.1 rfl (Nat.le_of_ble_eq_true rfl) dX12_terms_2 ⟨by decide, by decide⟩ (fun v57 H locs hw56 hP hS => ?_)
    refine k_top (z := mLies y 0 9) (hw56.trans (by simp [mIsTerm])) ?_
    refine lv_if_ne (tgt := 14) hx hb dX12_terms_5 (by decide) (fun c58 => ?_) (fun c58 => ?_)
    · refine lv_iload_n hx hb dX12_terms_14 rfl (lv_at hl 1 rfl) ?_
      refine lv_if_ne (tgt := 23) hx hb dX12_terms_15 (by decide) (fun c59 => ?_) (fun c59 => absurd c59 (by decide +kernel))
      refine lv_bipush (v := 99) hx hb dX12_terms_23 (by decide) ?_
      refine lv_iload_n hx hb dX12_terms_25 rfl (lv_at hl 1 rfl) ?_
      refine lv_iadd hx hb dX12_terms_26 ?_
      refine k_top (z := 102) (by decide +kernel) ?_
      refine lv_iconst (v := 1) hx hb dX12_terms_27 (by decide) ?_
      refine lv_isub hx hb dX12_terms_28 ?_
      refine k_top (z := 101) (by decide +kernel) ?_
      refine lv_istore_n (lv' := [(3, .int 101), (0, .ref o), (1, .int 3), (2, .int y)]) hx hb dX12_terms_29 rfl hl (by decide) rfl (fun ls hl => ?_)
      refine lv_aload_n hx hb dX12_terms_30 rfl (lv_at hl 1 rfl) ?_
      refine va_get (D := D) (ci := 12) (v := .ref (r 2)) (C := RX12) (T := TX12) (N := 48) hx hb hg inC12 hown hK hP 0 rfl rfl 2 (by decide) (hg _ wt5_162) (fun _ h9 => h9) rfl dX12_terms_31 ?_
      refine lv_iload_n hx hb dX12_terms_34 rfl (lv_at hl 0 rfl) ?_
      refine va_iald hx hb hK hP 2 0 rfl rfl (k_in (by decide +kernel)) dX12_terms_35 ?_
      refine k_top (z := 0) (by rw [cl_101]; exact h3) ?_
      refine lv_istore (lv' := [(4, .int 0), (3, .int 101), (0, .ref o), (1, .int 3), (2, .int y)]) hx hb dX12_terms_36 hl (by decide) rfl (fun ls hl => ?_)
      refine lv_aload_n hx hb dX12_terms_38 rfl (lv_at hl 2 rfl) ?_
      refine va_get (D := D) (ci := 12) (v := .ref (r 2)) (C := RX12) (T := TX12) (N := 48) hx hb hg inC12 hown hK hP 0 rfl rfl 2 (by decide) (hg _ wt5_162) (fun _ h9 => h9) rfl dX12_terms_39 ?_
      refine lv_iload_n hx hb dX12_terms_42 rfl (lv_at hl 1 rfl) ?_
      refine lv_iload_n hx hb dX12_terms_43 rfl (lv_at hl 4 rfl) ?_
      refine va_iast hx hb hK hP hD hS 2 0 rfl rfl (k_in (by decide +kernel)) dX12_terms_44 (fun H locs hP hD hS => ?_)
      rw [cl_101] at hP hD
      have hP : va_P D vwCl (mW K o r f (va_up a 2 (upd (a 2) 101 y)) g) H := hP
      have hD : va_D A (mW K o r f (va_up a 2 (upd (a 2) 101 y)) g) := hD
      refine k_gen (P := fun z => va_P D vwCl (mW K o r f z g) H ∧ va_D A (mW K o r f z g)) (va_up a 2 (upd (a 2) 101 y)) ⟨hP, hD⟩ (fun a_60 ea_60 hPD => ?_)
      have hP := hPD.1
      have hD := hPD.2
      refine lv_aload_n hx hb dX12_terms_45 rfl (lv_at hl 2 rfl) ?_
      refine lv_iload hx hb dX12_terms_46 (lv_at hl 0 rfl) ?_
      refine kI.callV (As := [.int 0]) (rest := []) ⟨hx, hb, hml, hown, hg⟩ (c_settled l o r f a_60 g  0) (cwV 1 hg (kgV wt6_84 wt6_86 wp3_7 wt1_14 wt6_87) rfl rfl rfl (by decide +kernel) ⟨by decide, by decide⟩) hK hP hD hS hA mIs [] rfl (wr := []) rfl rfl rfl (fun i h => by cases h) 0 12 rfl rfl rfl hl.1 rfl (Nat.le_of_ble_eq_true rfl) dX12_terms_48 ⟨by decide, by decide⟩ (fun v63 u62 H locs hw61 hP hD hS => ?_)
      obtain ⟨f64, a65, g66⟩ := u62
      have hP : va_P D vwCl (mW K o r f64 a65 g66) H := hP
      have hD : va_D A (mW K o r f64 a65 g66) := hD
      refine k_top (z := 0) (hw61) ?_
      exact kI_ret (v := 0) hx hb hr hlocks rfl hK hS dX12_terms_51 (f64, a65, g66) hP hD (by simp [mIsTerm, c58])
    · refine lv_aload_n hx hb dX12_terms_8 rfl (lv_at hl 0 rfl) ?_
      refine lv_iconst (v := (-1)) hx hb dX12_terms_9 (by decide) ?_
      refine kI.callV (As := [.int (-1)]) (rest := []) ⟨hx, hb, hml, hown, hg⟩ (c_refuses1 l o r f a g  ) (cwV 1 hg (kgV wt6_72 wt6_74 wp3_5 wt1_14 wt6_75) rfl rfl rfl (by decide +kernel) ⟨by decide, by decide⟩) hK hP hD hS hA mIs [] rfl (wr := []) rfl rfl rfl (fun i h => by cases h) 0 12 rfl rfl rfl hl.1 rfl (Nat.le_of_ble_eq_true rfl) dX12_terms_10 ⟨by decide, by decide⟩ (fun v69 u68 H locs hw67 hP hD hS => ?_)
      obtain ⟨f70, a71, g72⟩ := u68
      have hP : va_P D vwCl (mW K o r f70 a71 g72) H := hP
      have hD : va_D A (mW K o r f70 a71 g72) := hD
      refine k_top (z := (-1)) (hw67) ?_
      exact kI_ret (v := (-1)) hx hb hr hlocks rfl hK hS dX12_terms_13 (f70, a71, g72) hP hD (by simp [mIsTerm, c58])
  refine lv_iload_n hx hb dX12_terms_0 rfl (lv_at hl 1 rfl) ?_
  refine lv_iload_n hx hb dX12_terms_1 rfl (lv_at hl 2 rfl) ?_
  refine kN.callS (As := [.int x, .int y]) (rest := []) ⟨hx, hb, hml, hown, hg⟩ (c_isTerm l x y) (va_cwS 2 hg (kgS wt6_146 wt6_147 wt1_14 wt6_148) rfl rfl rfl (by decide +kernel) ⟨by decide, by decide⟩) hP hS rfl hl.1 rfl (Nat.le_of_ble_eq_true rfl) dX12_terms_2 ⟨by decide, by decide⟩ (fun v74 H locs hw73 hP hS => ?_)
  refine k_top (z := 0) (hw73.trans (by simp [mIsTerm, q1, q19, q37, q55])) ?_
  refine lv_if_ne (tgt := 14) hx hb dX12_terms_5 (by decide) (fun c75 => absurd (by decide +kernel) c75) (fun c75 => ?_)
  refine lv_aload_n hx hb dX12_terms_8 rfl (lv_at hl 0 rfl) ?_
  refine lv_iconst (v := (-1)) hx hb dX12_terms_9 (by decide) ?_
  refine kI.callV (As := [.int (-1)]) (rest := []) ⟨hx, hb, hml, hown, hg⟩ (c_refuses1 l o r f a g  ) (cwV 1 hg (kgV wt6_72 wt6_74 wp3_5 wt1_14 wt6_75) rfl rfl rfl (by decide +kernel) ⟨by decide, by decide⟩) hK hP hD hS hA mIs [] rfl (wr := []) rfl rfl rfl (fun i h => by cases h) 0 12 rfl rfl rfl hl.1 rfl (Nat.le_of_ble_eq_true rfl) dX12_terms_10 ⟨by decide, by decide⟩ (fun v78 u77 H locs hw76 hP hD hS => ?_)
  obtain ⟨f79, a80, g81⟩ := u77
  have hP : va_P D vwCl (mW K o r f79 a80 g81) H := hP
  have hD : va_D A (mW K o r f79 a80 g81) := hD
  refine k_top (z := (-1)) (hw76) ?_
  exact kI_ret (v := (-1)) hx hb hr hlocks rfl hK hS dX12_terms_13 (f79, a80, g81) hP hD (by simp [mIsTerm, q1, q19, q37, q55])
set_option maxHeartbeats 4000000 in
set_option maxRecDepth 100000 in
theorem c_feed (l : Launch) {D : va_G} {K : Nat → ClassId} (o : Nat) (r : Nat → Nat) (f : Nat → Int32) (a : Nat → Nat → Int32) (g : Nat → Int64) (h0 : f 13 = 0) (x0 : Int32) (x1 : Int32) (x2 : Int32) (x3 : Int32) (x4 : Int32)  : kI l yX12_feed (Cond.code yX12_feed cX12_feed 7 (some .int) :: kG) (rmD 1 0 0) D (tysK K) [.ref o, .int x0, .int x1, .int x2, .int x3, .int x4] (mW K o r f a g) (fun v (u : mS) => v = 20) (fun u => mW K o r u.1 u.2.1 u.2.2) 0 0 := by
  refine kI.of (cc := cX12_feed) (maxL := 7) (ret := (some .int)) (by decide) rfl (Nat.le_of_ble_eq_true rfl) ?_
  intro p e s m below meth c A hx hb hr hml hown hts hlocks hnm hK hP hD hS hA ls hl
  have hg : ∀ w ∈ kG, w.before _ s = true := fun w h => hts w (List.mem_cons_of_mem _ h)
  have hown : s.vm.findClass RX12 = some m.cls := hown
  have hl : lv_has ls 7 [(0, .ref o), (1, .int x0), (2, .int x1), (3, .int x2), (4, .int x3), (5, .int x4)] := hl
  refine lv_aload_n hx hb dX12_feed_0 rfl (lv_at hl 0 rfl) ?_
  refine va_get (D := D) (ci := 12) (v := .int (f 13)) (C := RX12) (T := TX12) (N := 48) hx hb hg inC12 hown hK hP 0 rfl rfl 13 (by decide) (hg _ wt5_173) (fun _ h9 => h9) rfl dX12_feed_1 ?_
  refine k_top (z := 0) h0 ?_
  refine lv_bipush (v := 20) hx hb dX12_feed_4 (by decide) ?_
  refine lv_iadd hx hb dX12_feed_6 ?_
  refine k_top (z := 20) (by decide +kernel) ?_
  refine lv_sipush (v := 400) hx hb dX12_feed_7 (by decide) ?_
  refine lv_icmp_le (tgt := 15) hx hb dX12_feed_10 (by decide) (fun c1 => ?_) (fun c1 => absurd (by decide +kernel) c1)
  refine lv_aload_n hx hb dX12_feed_15 rfl (lv_at hl 0 rfl) ?_
  refine va_get (D := D) (ci := 12) (v := .ref (r 12)) (C := RX12) (T := TX12) (N := 48) hx hb hg inC12 hown hK hP 0 rfl rfl 12 (by decide) (hg _ wt5_172) (fun _ h9 => h9) rfl dX12_feed_16 ?_
  refine lv_iconst (v := 0) hx hb dX12_feed_19 (by decide) ?_
  refine lv_iload_n hx hb dX12_feed_20 rfl (lv_at hl 1 rfl) ?_
  refine va_iast hx hb hK hP hD hS 8 0 rfl rfl (k_in (by decide +kernel)) dX12_feed_21 (fun H locs hP hD hS => ?_)
  rw [cl_0] at hP hD
  have hP : va_P D vwCl (mW K o r f (va_up a 12 (upd (a 12) 0 x0)) g) H := hP
  have hD : va_D A (mW K o r f (va_up a 12 (upd (a 12) 0 x0)) g) := hD
  refine k_gen (P := fun z => va_P D vwCl (mW K o r f z g) H ∧ va_D A (mW K o r f z g)) (va_up a 12 (upd (a 12) 0 x0)) ⟨hP, hD⟩ (fun a_2 ea_2 hPD => ?_)
  have hP := hPD.1
  have hD := hPD.2
  refine lv_aload_n hx hb dX12_feed_22 rfl (lv_at hl 0 rfl) ?_
  refine va_get (D := D) (ci := 12) (v := .ref (r 12)) (C := RX12) (T := TX12) (N := 48) hx hb hg inC12 hown hK hP 0 rfl rfl 12 (by decide) (hg _ wt5_172) (fun _ h9 => h9) rfl dX12_feed_23 ?_
  refine lv_iconst (v := 1) hx hb dX12_feed_26 (by decide) ?_
  refine lv_iload_n hx hb dX12_feed_27 rfl (lv_at hl 2 rfl) ?_
  refine va_iast hx hb hK hP hD hS 8 0 rfl rfl (k_in (by decide +kernel)) dX12_feed_28 (fun H locs hP hD hS => ?_)
  rw [cl_1] at hP hD
  have hP : va_P D vwCl (mW K o r f (va_up a_2 12 (upd (a_2 12) 1 x1)) g) H := hP
  have hD : va_D A (mW K o r f (va_up a_2 12 (upd (a_2 12) 1 x1)) g) := hD
  refine k_gen (P := fun z => va_P D vwCl (mW K o r f z g) H ∧ va_D A (mW K o r f z g)) (va_up a_2 12 (upd (a_2 12) 1 x1)) ⟨hP, hD⟩ (fun a_3 ea_3 hPD => ?_)
  have hP := hPD.1
  have hD := hPD.2
  refine lv_aload_n hx hb dX12_feed_29 rfl (lv_at hl 0 rfl) ?_
  refine va_get (D := D) (ci := 12) (v := .ref (r 12)) (C := RX12) (T := TX12) (N := 48) hx hb hg inC12 hown hK hP 0 rfl rfl 12 (by decide) (hg _ wt5_172) (fun _ h9 => h9) rfl dX12_feed_30 ?_
  refine lv_iconst (v := 2) hx hb dX12_feed_33 (by decide) ?_
  refine lv_iload_n hx hb dX12_feed_34 rfl (lv_at hl 3 rfl) ?_
  refine va_iast hx hb hK hP hD hS 8 0 rfl rfl (k_in (by decide +kernel)) dX12_feed_35 (fun H locs hP hD hS => ?_)
  rw [cl_2] at hP hD
  have hP : va_P D vwCl (mW K o r f (va_up a_3 12 (upd (a_3 12) 2 x2)) g) H := hP
  have hD : va_D A (mW K o r f (va_up a_3 12 (upd (a_3 12) 2 x2)) g) := hD
  refine k_gen (P := fun z => va_P D vwCl (mW K o r f z g) H ∧ va_D A (mW K o r f z g)) (va_up a_3 12 (upd (a_3 12) 2 x2)) ⟨hP, hD⟩ (fun a_4 ea_4 hPD => ?_)
  have hP := hPD.1
  have hD := hPD.2
  refine lv_aload_n hx hb dX12_feed_36 rfl (lv_at hl 0 rfl) ?_
  refine va_get (D := D) (ci := 12) (v := .ref (r 12)) (C := RX12) (T := TX12) (N := 48) hx hb hg inC12 hown hK hP 0 rfl rfl 12 (by decide) (hg _ wt5_172) (fun _ h9 => h9) rfl dX12_feed_37 ?_
  refine lv_iconst (v := 3) hx hb dX12_feed_40 (by decide) ?_
  refine lv_iload hx hb dX12_feed_41 (lv_at hl 4 rfl) ?_
  refine va_iast hx hb hK hP hD hS 8 0 rfl rfl (k_in (by decide +kernel)) dX12_feed_43 (fun H locs hP hD hS => ?_)
  rw [cl_3] at hP hD
  have hP : va_P D vwCl (mW K o r f (va_up a_4 12 (upd (a_4 12) 3 x3)) g) H := hP
  have hD : va_D A (mW K o r f (va_up a_4 12 (upd (a_4 12) 3 x3)) g) := hD
  refine k_gen (P := fun z => va_P D vwCl (mW K o r f z g) H ∧ va_D A (mW K o r f z g)) (va_up a_4 12 (upd (a_4 12) 3 x3)) ⟨hP, hD⟩ (fun a_5 ea_5 hPD => ?_)
  have hP := hPD.1
  have hD := hPD.2
  refine lv_aload_n hx hb dX12_feed_44 rfl (lv_at hl 0 rfl) ?_
  refine va_get (D := D) (ci := 12) (v := .ref (r 12)) (C := RX12) (T := TX12) (N := 48) hx hb hg inC12 hown hK hP 0 rfl rfl 12 (by decide) (hg _ wt5_172) (fun _ h9 => h9) rfl dX12_feed_45 ?_
  refine lv_iconst (v := 4) hx hb dX12_feed_48 (by decide) ?_
  refine lv_iload hx hb dX12_feed_49 (lv_at hl 5 rfl) ?_
  refine va_iast hx hb hK hP hD hS 8 0 rfl rfl (k_in (by decide +kernel)) dX12_feed_51 (fun H locs hP hD hS => ?_)
  rw [cl_4] at hP hD
  have hP : va_P D vwCl (mW K o r f (va_up a_5 12 (upd (a_5 12) 4 x4)) g) H := hP
  have hD : va_D A (mW K o r f (va_up a_5 12 (upd (a_5 12) 4 x4)) g) := hD
  refine k_gen (P := fun z => va_P D vwCl (mW K o r f z g) H ∧ va_D A (mW K o r f z g)) (va_up a_5 12 (upd (a_5 12) 4 x4)) ⟨hP, hD⟩ (fun a_6 ea_6 hPD => ?_)
  have hP := hPD.1
  have hD := hPD.2
  refine lv_iconst (v := 0) hx hb dX12_feed_52 (by decide) ?_
  refine lv_istore (lv' := [(6, .int 0), (0, .ref o), (1, .int x0), (2, .int x1), (3, .int x2), (4, .int x3), (5, .int x4)]) hx hb dX12_feed_53 hl (by decide) rfl (fun ls hl => ?_)
  have lp7 : ∀ (n i : Nat) (F : Nat → Int32) (B : Nat → Nat → Int32) (G : Nat → Int64) (H : Heap) (locs : List Loc) (ls : Array Slot), i + n = 20 →  F 13 = 0 → va_P D vwCl (mW K o r F B G) H → va_D A (mW K o r F B G) → va_S A s.heap H locs → lv_has ls 7 [(6, .int (nI i)), (0, .ref o), (1, .int x0), (2, .int x1), (3, .int x2), (4, .int x3), (5, .int x4)] → W p l e (rmD 1 0 0) s m ([.ref o, .int x0, .int x1, .int x2, .int x3, .int x4] : List Value).toArray below meth c H locs 0 0 (kQi D (tysK K) (fun v (u : mS) => v = 20) (fun u => mW K o r u.1 u.2.1 u.2.2) A below ([.ref o, .int x0, .int x1, .int x2, .int x3, .int x4] : List Value).toArray s 0 0) (F0 m 55 ls []) := by
    intro n
    induction n with
    | zero =>
      intro i F B G H locs ls  hin  z0 hP hD hS hl
      obtain rfl : 20 = i := by omega
      have hl : lv_has ls 7 [(6, .int 20), (0, .ref o), (1, .int x0), (2, .int x1), (3, .int x2), (4, .int x3), (5, .int x4)] := hl
      refine lv_iload hx hb dX12_feed_55 (lv_at hl 0 rfl) ?_
      refine lv_bipush (v := 20) hx hb dX12_feed_57 (by decide) ?_
      refine lv_icmp_ge (tgt := 101) hx hb dX12_feed_59 (by decide) (fun c8 => ?_) (fun c8 => absurd (by decide +kernel) c8)
      refine lv_aload_n hx hb dX12_feed_101 rfl (lv_at hl 1 rfl) ?_
      refine lv_dup hx hb dX12_feed_102 rfl ?_
      refine va_get (D := D) (ci := 12) (v := .int (F 13)) (C := RX12) (T := TX12) (N := 48) hx hb hg inC12 hown hK hP 0 rfl rfl 13 (by decide) (hg _ wt5_173) (fun _ h9 => h9) rfl dX12_feed_103 ?_
      refine k_top (z := 0) z0 ?_
      refine lv_bipush (v := 20) hx hb dX12_feed_106 (by decide) ?_
      refine lv_iadd hx hb dX12_feed_108 ?_
      refine k_top (z := 20) (by decide +kernel) ?_
      refine va_put (D := D) (ci := 12) (v := .int 20) (ty := .int) (C := RX12) (T := TX12) (N := 48) hx hb hg inC12 tyX12 tyX12_ok nmX12 hown hK hP hD hS 0 rfl rfl 13 (by decide) (hg _ wt5_173) (fun _ h9 => h9) rfl (by decide +kernel) rfl rfl (Nat.le_of_ble_eq_true rfl) dX12_feed_109 (fun H locs hP hD hS => ?_)
      have hP : va_P D vwCl (mW K o r (upd F 13 20) B G) H := hP
      have hD : va_D A (mW K o r (upd F 13 20) B G) := hD
      refine k_gen (P := fun z => va_P D vwCl (mW K o r z B G) H ∧ va_D A (mW K o r z B G)) (upd F 13 20) ⟨hP, hD⟩ (fun f_9 ef_9 hPD => ?_)
      have hP := hPD.1
      have hD := hPD.2
      refine lv_aload_n hx hb dX12_feed_112 rfl (lv_at hl 1 rfl) ?_
      refine va_get (D := D) (ci := 12) (v := .int (f_9 13)) (C := RX12) (T := TX12) (N := 48) hx hb hg inC12 hown hK hP 0 rfl rfl 13 (by decide) (hg _ wt5_173) (fun _ h9 => h9) rfl dX12_feed_113 ?_
      refine k_top (z := 20) (show f_9 13 = 20 from by rw [← ef_9]; rfl) ?_
      exact kI_ret (v := 20) hx hb hr hlocks rfl hK hS dX12_feed_116 (f_9, B, G) hP hD rfl
    | succ n ih =>
      intro i F B G H locs ls  hin  z0 hP hD hS hl
      have hlt : i < 20 := by omega
      refine lv_iload hx hb dX12_feed_55 (lv_at hl 0 rfl) ?_
      refine lv_bipush (v := 20) hx hb dX12_feed_57 (by decide) ?_
      refine lv_icmp_ge (tgt := 101) hx hb dX12_feed_59 (by decide) (fun c10 => absurd c10 (nI_ge (b := 20) hlt (by decide))) (fun c10 => ?_)
      refine lv_aload_n hx hb dX12_feed_62 rfl (lv_at hl 1 rfl) ?_
      refine va_get (D := D) (ci := 12) (v := .ref (r 11)) (C := RX12) (T := TX12) (N := 48) hx hb hg inC12 hown hK hP 0 rfl rfl 11 (by decide) (hg _ wt5_171) (fun _ h9 => h9) rfl dX12_feed_63 ?_
      refine lv_aload_n hx hb dX12_feed_66 rfl (lv_at hl 1 rfl) ?_
      refine va_get (D := D) (ci := 12) (v := .int (F 13)) (C := RX12) (T := TX12) (N := 48) hx hb hg inC12 hown hK hP 0 rfl rfl 13 (by decide) (hg _ wt5_173) (fun _ h9 => h9) rfl dX12_feed_67 ?_
      refine k_top (z := 0) z0 ?_
      refine lv_iload hx hb dX12_feed_70 (lv_at hl 0 rfl) ?_
      refine lv_iadd hx hb dX12_feed_72 ?_
      refine k_top (z := nI (0 + i)) (nI_add 0 i) ?_
      refine lv_aload_n hx hb dX12_feed_73 rfl (lv_at hl 1 rfl) ?_
      refine va_get (D := D) (ci := 12) (v := .ref (r 12)) (C := RX12) (T := TX12) (N := 48) hx hb hg inC12 hown hK hP 0 rfl rfl 12 (by decide) (hg _ wt5_172) (fun _ h9 => h9) rfl dX12_feed_74 ?_
      refine lv_iload hx hb dX12_feed_77 (lv_at hl 0 rfl) ?_
      refine lv_iconst (v := 4) hx hb dX12_feed_79 (by decide) ?_
      refine lv_idiv hx hb dX12_feed_80 (by decide +kernel) ?_
      refine k_top (z := nI (i / 4)) (pk_div (by omega) (by decide) (by decide)) ?_
      refine va_iald hx hb hK hP 8 0 rfl rfl (vp_in_nI (by omega) (by decide)) dX12_feed_81 ?_
      refine lv_topi (fun t11 et11 => ?_)
      rw [nI_clamp (n := (i / 4)) (by omega)] at et11
      refine lv_bipush (v := 24) hx hb dX12_feed_82 (by decide) ?_
      refine lv_bipush (v := 8) hx hb dX12_feed_84 (by decide) ?_
      refine lv_iload hx hb dX12_feed_86 (lv_at hl 0 rfl) ?_
      refine lv_iconst (v := 4) hx hb dX12_feed_88 (by decide) ?_
      refine lv_irem hx hb dX12_feed_89 (by decide +kernel) ?_
      refine k_top (z := nI (i % 4)) (pk_rem (by omega) (by decide) (by decide)) ?_
      refine lv_imul hx hb dX12_feed_90 ?_
      refine k_top (z := nI (8 * (i % 4))) (pk_mul 8 (i % 4)) ?_
      refine lv_isub hx hb dX12_feed_91 ?_
      refine lv_topi (fun t12 et12 => ?_)
      refine lv_ishr hx hb dX12_feed_92 ?_
      refine lv_topi (fun t13 et13 => ?_)
      refine lv_i2b hx hb dX12_feed_93 rfl ?_
      refine lv_topi (fun t15 et15 => ?_)
      refine va_bast hx hb hK hP hD hS 7 1 rfl rfl (vp_in_nI (by omega) (by decide)) dX12_feed_94 (fun H locs hP hD hS => ?_)
      rw [nI_clamp (n := (0 + i)) (by omega)] at hP hD
      have hP : va_P D vwCl (mW K o r F (va_up B 11 (upd (B 11) (0 + i) (vp_nar .byte t15))) G) H := hP
      have hD : va_D A (mW K o r F (va_up B 11 (upd (B 11) (0 + i) (vp_nar .byte t15))) G) := hD
      refine k_gen (P := fun z => va_P D vwCl (mW K o r F z G) H ∧ va_D A (mW K o r F z G)) (va_up B 11 (upd (B 11) (0 + i) (vp_nar .byte t15))) ⟨hP, hD⟩ (fun a_16 ea_16 hPD => ?_)
      have hP := hPD.1
      have hD := hPD.2
      refine lv_iinc (v := nI (i + 1)) (lv' := [(6, .int (nI (i + 1))), (0, .ref o), (1, .int x0), (2, .int x1), (3, .int x2), (4, .int x3), (5, .int x4)]) hx hb dX12_feed_95 hl (k := 0) rfl (nI_1 _) (by decide) rfl (fun ls hl => ?_)
      refine lv_goto (tgt := 55) hx hb dX12_feed_98 (by decide) ?_
      exact ih (i + 1) F a_16 G _ _ _  (by omega)  z0 hP hD hS (lv_sub hl [0, 1, 2, 3, 4, 5, 6] rfl)
  exact lp7 (20 - 0) 0 f a_6 g _ _ _  (by omega)  h0 hP hD hS hl
set_option maxHeartbeats 4000000 in
set_option maxRecDepth 100000 in
theorem c_splits0 (l : Launch) {D : va_G} {K : Nat → ClassId} (o : Nat) (r : Nat → Nat) (f : Nat → Int32) (a : Nat → Nat → Int32) (g : Nat → Int64) (h0 : f 10 = 0)   : kV l yX12_splits (Cond.code yX12_splits cX12_splits 6 none :: kG) (rmD 1 0 0) D (tysK K) [.ref o, .int 0] (mW K o r f a g) (fun (u : mS) => u.1 18 = 0 ∧ u.2.1 17 0 = 0 ∧ u.2.1 15 0 = 0 ∧ u.1 10 = 0) (fun u => mW K o r u.1 u.2.1 u.2.2) 0 0 := by
  refine kV.of (cc := cX12_splits) (maxL := 6) (ret := none) (by decide) rfl (Nat.le_of_ble_eq_true rfl) ?_
  intro p e s m below meth c A hx hb hr hml hown hts hlocks hnm hK hP hD hS hA ls hl
  have hg : ∀ w ∈ kG, w.before _ s = true := fun w h => hts w (List.mem_cons_of_mem _ h)
  have hown : s.vm.findClass RX12 = some m.cls := hown
  have hl : lv_has ls 6 [(0, .ref o), (1, .int 0)] := hl
  refine lv_aload_n hx hb dX12_splits_0 rfl (lv_at hl 0 rfl) ?_
  refine lv_iconst (v := 0) hx hb dX12_splits_1 (by decide) ?_
  refine va_put (D := D) (ci := 12) (v := .int 0) (ty := .int) (C := RX12) (T := TX12) (N := 48) hx hb hg inC12 tyX12 tyX12_ok nmX12 hown hK hP hD hS 0 rfl rfl 18 (by decide) (hg _ wt5_178) (fun _ h9 => h9) rfl (by decide +kernel) rfl rfl (Nat.le_of_ble_eq_true rfl) dX12_splits_2 (fun H locs hP hD hS => ?_)
  have hP : va_P D vwCl (mW K o r (upd f 18 0) a g) H := hP
  have hD : va_D A (mW K o r (upd f 18 0) a g) := hD
  refine k_gen (P := fun z => va_P D vwCl (mW K o r z a g) H ∧ va_D A (mW K o r z a g)) (upd f 18 0) ⟨hP, hD⟩ (fun f_1 ef_1 hPD => ?_)
  have hP := hPD.1
  have hD := hPD.2
  refine lv_iconst (v := 0) hx hb dX12_splits_5 (by decide) ?_
  refine lv_istore_n (lv' := [(2, .int 0), (0, .ref o), (1, .int 0)]) hx hb dX12_splits_6 rfl hl (by decide) rfl (fun ls hl => ?_)
  refine lv_iload_n hx hb dX12_splits_7 rfl (lv_at hl 0 rfl) ?_
  refine lv_iload_n hx hb dX12_splits_8 rfl (lv_at hl 2 rfl) ?_
  refine lv_icmp_ge (tgt := 263) hx hb dX12_splits_9 (by decide) (fun c2 => ?_) (fun c2 => absurd (by decide +kernel) c2)
  refine lv_aload_n hx hb dX12_splits_263 rfl (lv_at hl 1 rfl) ?_
  refine va_get (D := D) (ci := 12) (v := .ref (r 17)) (C := RX12) (T := TX12) (N := 48) hx hb hg inC12 hown hK hP 0 rfl rfl 17 (by decide) (hg _ wt5_177) (fun _ h9 => h9) rfl dX12_splits_264 ?_
  refine lv_aload_n hx hb dX12_splits_267 rfl (lv_at hl 1 rfl) ?_
  refine va_get (D := D) (ci := 12) (v := .int (f_1 18)) (C := RX12) (T := TX12) (N := 48) hx hb hg inC12 hown hK hP 0 rfl rfl 18 (by decide) (hg _ wt5_178) (fun _ h9 => h9) rfl dX12_splits_268 ?_
  refine k_top (z := 0) (show f_1 18 = 0 from by rw [← ef_1]; rfl) ?_
  refine lv_iload_n hx hb dX12_splits_271 rfl (lv_at hl 2 rfl) ?_
  refine va_iast hx hb hK hP hD hS 11 0 rfl rfl (k_in (by decide +kernel)) dX12_splits_272 (fun H locs hP hD hS => ?_)
  rw [cl_0] at hP hD
  have hP : va_P D vwCl (mW K o r f_1 (va_up a 17 (upd (a 17) 0 0)) g) H := hP
  have hD : va_D A (mW K o r f_1 (va_up a 17 (upd (a 17) 0 0)) g) := hD
  refine k_gen (P := fun z => va_P D vwCl (mW K o r f_1 z g) H ∧ va_D A (mW K o r f_1 z g)) (va_up a 17 (upd (a 17) 0 0)) ⟨hP, hD⟩ (fun a_3 ea_3 hPD => ?_)
  have hP := hPD.1
  have hD := hPD.2
  refine lv_aload_n hx hb dX12_splits_273 rfl (lv_at hl 1 rfl) ?_
  refine va_get (D := D) (ci := 12) (v := .ref (r 15)) (C := RX12) (T := TX12) (N := 48) hx hb hg inC12 hown hK hP 0 rfl rfl 15 (by decide) (hg _ wt5_175) (fun _ h9 => h9) rfl dX12_splits_274 ?_
  refine lv_aload_n hx hb dX12_splits_277 rfl (lv_at hl 1 rfl) ?_
  refine va_get (D := D) (ci := 12) (v := .int (f_1 18)) (C := RX12) (T := TX12) (N := 48) hx hb hg inC12 hown hK hP 0 rfl rfl 18 (by decide) (hg _ wt5_178) (fun _ h9 => h9) rfl dX12_splits_278 ?_
  refine k_top (z := 0) (show f_1 18 = 0 from by rw [← ef_1]; rfl) ?_
  refine lv_iconst (v := 0) hx hb dX12_splits_281 (by decide) ?_
  refine va_iast hx hb hK hP hD hS 9 0 rfl rfl (k_in (by decide +kernel)) dX12_splits_282 (fun H locs hP hD hS => ?_)
  rw [cl_0] at hP hD
  have hP : va_P D vwCl (mW K o r f_1 (va_up a_3 15 (upd (a_3 15) 0 0)) g) H := hP
  have hD : va_D A (mW K o r f_1 (va_up a_3 15 (upd (a_3 15) 0 0)) g) := hD
  refine k_gen (P := fun z => va_P D vwCl (mW K o r f_1 z g) H ∧ va_D A (mW K o r f_1 z g)) (va_up a_3 15 (upd (a_3 15) 0 0)) ⟨hP, hD⟩ (fun a_4 ea_4 hPD => ?_)
  have hP := hPD.1
  have hD := hPD.2
  refine lv_aload_n hx hb dX12_splits_283 rfl (lv_at hl 1 rfl) ?_
  refine va_get (D := D) (ci := 12) (v := .ref (r 16)) (C := RX12) (T := TX12) (N := 48) hx hb hg inC12 hown hK hP 0 rfl rfl 16 (by decide) (hg _ wt5_176) (fun _ h9 => h9) rfl dX12_splits_284 ?_
  refine lv_aload_n hx hb dX12_splits_287 rfl (lv_at hl 1 rfl) ?_
  refine va_get (D := D) (ci := 12) (v := .int (f_1 18)) (C := RX12) (T := TX12) (N := 48) hx hb hg inC12 hown hK hP 0 rfl rfl 18 (by decide) (hg _ wt5_178) (fun _ h9 => h9) rfl dX12_splits_288 ?_
  refine k_top (z := 0) (show f_1 18 = 0 from by rw [← ef_1]; rfl) ?_
  refine lv_iconst (v := 0) hx hb dX12_splits_291 (by decide) ?_
  refine va_iast hx hb hK hP hD hS 10 0 rfl rfl (k_in (by decide +kernel)) dX12_splits_292 (fun H locs hP hD hS => ?_)
  rw [cl_0] at hP hD
  have hP : va_P D vwCl (mW K o r f_1 (va_up a_4 16 (upd (a_4 16) 0 0)) g) H := hP
  have hD : va_D A (mW K o r f_1 (va_up a_4 16 (upd (a_4 16) 0 0)) g) := hD
  refine k_gen (P := fun z => va_P D vwCl (mW K o r f_1 z g) H ∧ va_D A (mW K o r f_1 z g)) (va_up a_4 16 (upd (a_4 16) 0 0)) ⟨hP, hD⟩ (fun a_5 ea_5 hPD => ?_)
  have hP := hPD.1
  have hD := hPD.2
  exact kV_ret hx hb hr hlocks hK hS dX12_splits_293 (f_1, a_5, g) hP hD ⟨(show f_1 18 = 0 from by rw [← ef_1]; rfl), ((show a_5 17 0 = a_4 17 0 from by rw [← ea_5]; rfl).trans ((show a_4 17 0 = a_3 17 0 from by rw [← ea_4]; rfl).trans (show a_3 17 0 = 0 from by rw [← ea_3]; rfl))), ((show a_5 15 0 = a_4 15 0 from by rw [← ea_5]; rfl).trans (show a_4 15 0 = 0 from by rw [← ea_4]; rfl)), ((show f_1 10 = f 10 from by rw [← ef_1]; rfl).trans h0)⟩
set_option maxHeartbeats 4000000 in
set_option maxRecDepth 100000 in
theorem c_splits1 (l : Launch) {D : va_G} {K : Nat → ClassId} (o : Nat) (r : Nat → Nat) (f : Nat → Int32) (a : Nat → Nat → Int32) (g : Nat → Int64) (h0 : f 10 = 1)   : kV l yX12_splits (Cond.code yX12_splits cX12_splits 6 none :: kG) (rmD 1 0 0) D (tysK K) [.ref o, .int 0] (mW K o r f a g) (fun (u : mS) => u.1 18 = 0 ∧ u.2.1 17 0 = 0 ∧ u.2.1 15 0 = 0 ∧ u.1 10 = 1) (fun u => mW K o r u.1 u.2.1 u.2.2) 0 0 := by
  refine kV.of (cc := cX12_splits) (maxL := 6) (ret := none) (by decide) rfl (Nat.le_of_ble_eq_true rfl) ?_
  intro p e s m below meth c A hx hb hr hml hown hts hlocks hnm hK hP hD hS hA ls hl
  have hg : ∀ w ∈ kG, w.before _ s = true := fun w h => hts w (List.mem_cons_of_mem _ h)
  have hown : s.vm.findClass RX12 = some m.cls := hown
  have hl : lv_has ls 6 [(0, .ref o), (1, .int 0)] := hl
  refine lv_aload_n hx hb dX12_splits_0 rfl (lv_at hl 0 rfl) ?_
  refine lv_iconst (v := 0) hx hb dX12_splits_1 (by decide) ?_
  refine va_put (D := D) (ci := 12) (v := .int 0) (ty := .int) (C := RX12) (T := TX12) (N := 48) hx hb hg inC12 tyX12 tyX12_ok nmX12 hown hK hP hD hS 0 rfl rfl 18 (by decide) (hg _ wt5_178) (fun _ h9 => h9) rfl (by decide +kernel) rfl rfl (Nat.le_of_ble_eq_true rfl) dX12_splits_2 (fun H locs hP hD hS => ?_)
  have hP : va_P D vwCl (mW K o r (upd f 18 0) a g) H := hP
  have hD : va_D A (mW K o r (upd f 18 0) a g) := hD
  refine k_gen (P := fun z => va_P D vwCl (mW K o r z a g) H ∧ va_D A (mW K o r z a g)) (upd f 18 0) ⟨hP, hD⟩ (fun f_1 ef_1 hPD => ?_)
  have hP := hPD.1
  have hD := hPD.2
  refine lv_iconst (v := 0) hx hb dX12_splits_5 (by decide) ?_
  refine lv_istore_n (lv' := [(2, .int 0), (0, .ref o), (1, .int 0)]) hx hb dX12_splits_6 rfl hl (by decide) rfl (fun ls hl => ?_)
  refine lv_iload_n hx hb dX12_splits_7 rfl (lv_at hl 0 rfl) ?_
  refine lv_iload_n hx hb dX12_splits_8 rfl (lv_at hl 2 rfl) ?_
  refine lv_icmp_ge (tgt := 263) hx hb dX12_splits_9 (by decide) (fun c2 => ?_) (fun c2 => absurd (by decide +kernel) c2)
  refine lv_aload_n hx hb dX12_splits_263 rfl (lv_at hl 1 rfl) ?_
  refine va_get (D := D) (ci := 12) (v := .ref (r 17)) (C := RX12) (T := TX12) (N := 48) hx hb hg inC12 hown hK hP 0 rfl rfl 17 (by decide) (hg _ wt5_177) (fun _ h9 => h9) rfl dX12_splits_264 ?_
  refine lv_aload_n hx hb dX12_splits_267 rfl (lv_at hl 1 rfl) ?_
  refine va_get (D := D) (ci := 12) (v := .int (f_1 18)) (C := RX12) (T := TX12) (N := 48) hx hb hg inC12 hown hK hP 0 rfl rfl 18 (by decide) (hg _ wt5_178) (fun _ h9 => h9) rfl dX12_splits_268 ?_
  refine k_top (z := 0) (show f_1 18 = 0 from by rw [← ef_1]; rfl) ?_
  refine lv_iload_n hx hb dX12_splits_271 rfl (lv_at hl 2 rfl) ?_
  refine va_iast hx hb hK hP hD hS 11 0 rfl rfl (k_in (by decide +kernel)) dX12_splits_272 (fun H locs hP hD hS => ?_)
  rw [cl_0] at hP hD
  have hP : va_P D vwCl (mW K o r f_1 (va_up a 17 (upd (a 17) 0 0)) g) H := hP
  have hD : va_D A (mW K o r f_1 (va_up a 17 (upd (a 17) 0 0)) g) := hD
  refine k_gen (P := fun z => va_P D vwCl (mW K o r f_1 z g) H ∧ va_D A (mW K o r f_1 z g)) (va_up a 17 (upd (a 17) 0 0)) ⟨hP, hD⟩ (fun a_3 ea_3 hPD => ?_)
  have hP := hPD.1
  have hD := hPD.2
  refine lv_aload_n hx hb dX12_splits_273 rfl (lv_at hl 1 rfl) ?_
  refine va_get (D := D) (ci := 12) (v := .ref (r 15)) (C := RX12) (T := TX12) (N := 48) hx hb hg inC12 hown hK hP 0 rfl rfl 15 (by decide) (hg _ wt5_175) (fun _ h9 => h9) rfl dX12_splits_274 ?_
  refine lv_aload_n hx hb dX12_splits_277 rfl (lv_at hl 1 rfl) ?_
  refine va_get (D := D) (ci := 12) (v := .int (f_1 18)) (C := RX12) (T := TX12) (N := 48) hx hb hg inC12 hown hK hP 0 rfl rfl 18 (by decide) (hg _ wt5_178) (fun _ h9 => h9) rfl dX12_splits_278 ?_
  refine k_top (z := 0) (show f_1 18 = 0 from by rw [← ef_1]; rfl) ?_
  refine lv_iconst (v := 0) hx hb dX12_splits_281 (by decide) ?_
  refine va_iast hx hb hK hP hD hS 9 0 rfl rfl (k_in (by decide +kernel)) dX12_splits_282 (fun H locs hP hD hS => ?_)
  rw [cl_0] at hP hD
  have hP : va_P D vwCl (mW K o r f_1 (va_up a_3 15 (upd (a_3 15) 0 0)) g) H := hP
  have hD : va_D A (mW K o r f_1 (va_up a_3 15 (upd (a_3 15) 0 0)) g) := hD
  refine k_gen (P := fun z => va_P D vwCl (mW K o r f_1 z g) H ∧ va_D A (mW K o r f_1 z g)) (va_up a_3 15 (upd (a_3 15) 0 0)) ⟨hP, hD⟩ (fun a_4 ea_4 hPD => ?_)
  have hP := hPD.1
  have hD := hPD.2
  refine lv_aload_n hx hb dX12_splits_283 rfl (lv_at hl 1 rfl) ?_
  refine va_get (D := D) (ci := 12) (v := .ref (r 16)) (C := RX12) (T := TX12) (N := 48) hx hb hg inC12 hown hK hP 0 rfl rfl 16 (by decide) (hg _ wt5_176) (fun _ h9 => h9) rfl dX12_splits_284 ?_
  refine lv_aload_n hx hb dX12_splits_287 rfl (lv_at hl 1 rfl) ?_
  refine va_get (D := D) (ci := 12) (v := .int (f_1 18)) (C := RX12) (T := TX12) (N := 48) hx hb hg inC12 hown hK hP 0 rfl rfl 18 (by decide) (hg _ wt5_178) (fun _ h9 => h9) rfl dX12_splits_288 ?_
  refine k_top (z := 0) (show f_1 18 = 0 from by rw [← ef_1]; rfl) ?_
  refine lv_iconst (v := 0) hx hb dX12_splits_291 (by decide) ?_
  refine va_iast hx hb hK hP hD hS 10 0 rfl rfl (k_in (by decide +kernel)) dX12_splits_292 (fun H locs hP hD hS => ?_)
  rw [cl_0] at hP hD
  have hP : va_P D vwCl (mW K o r f_1 (va_up a_4 16 (upd (a_4 16) 0 0)) g) H := hP
  have hD : va_D A (mW K o r f_1 (va_up a_4 16 (upd (a_4 16) 0 0)) g) := hD
  refine k_gen (P := fun z => va_P D vwCl (mW K o r f_1 z g) H ∧ va_D A (mW K o r f_1 z g)) (va_up a_4 16 (upd (a_4 16) 0 0)) ⟨hP, hD⟩ (fun a_5 ea_5 hPD => ?_)
  have hP := hPD.1
  have hD := hPD.2
  exact kV_ret hx hb hr hlocks hK hS dX12_splits_293 (f_1, a_5, g) hP hD ⟨(show f_1 18 = 0 from by rw [← ef_1]; rfl), ((show a_5 17 0 = a_4 17 0 from by rw [← ea_5]; rfl).trans ((show a_4 17 0 = a_3 17 0 from by rw [← ea_4]; rfl).trans (show a_3 17 0 = 0 from by rw [← ea_3]; rfl))), ((show a_5 15 0 = a_4 15 0 from by rw [← ea_5]; rfl).trans (show a_4 15 0 = 0 from by rw [← ea_4]; rfl)), ((show f_1 10 = f 10 from by rw [← ef_1]; rfl).trans h0)⟩
set_option maxHeartbeats 4000000 in
set_option maxRecDepth 100000 in
theorem c_fineBad (l : Launch) {D : va_G} {K : Nat → ClassId} (o : Nat) (r : Nat → Nat) (f : Nat → Int32) (a : Nat → Nat → Int32) (g : Nat → Int64) (h0 : f 21 = 0)   : kI l yX12_fine (Cond.code yX12_fine cX12_fine 1 (some .boolean) :: kG) (rmD 1 0 0) D (tysK K) [.ref o] (mW K o r f a g) (fun v (_ : Unit) => v = 0) (fun _ => mW K o r f a g) 0 0 := by
  refine kI.of (cc := cX12_fine) (maxL := 1) (ret := (some .boolean)) (by decide) rfl (Nat.le_of_ble_eq_true rfl) ?_
  intro p e s m below meth c A hx hb hr hml hown hts hlocks hnm hK hP hD hS hA ls hl
  have hg : ∀ w ∈ kG, w.before _ s = true := fun w h => hts w (List.mem_cons_of_mem _ h)
  have hown : s.vm.findClass RX12 = some m.cls := hown
  have hl : lv_has ls 1 [(0, .ref o)] := hl
  refine lv_aload_n hx hb dX12_fine_0 rfl (lv_at hl 0 rfl) ?_
  refine va_get (D := D) (ci := 12) (v := .int (f 21)) (C := RX12) (T := TX12) (N := 48) hx hb hg inC12 hown hK hP 0 rfl rfl 21 (by decide) (hg _ wt5_181) (fun _ h9 => h9) rfl dX12_fine_1 ?_
  refine k_top (z := 0) h0 ?_
  refine lv_iconst (v := (-1)) hx hb dX12_fine_4 (by decide) ?_
  refine lv_icmp_ne (tgt := 12) hx hb dX12_fine_5 (by decide) (fun c1 => ?_) (fun c1 => absurd c1 (by decide +kernel))
  refine lv_iconst (v := 0) hx hb dX12_fine_12 (by decide) ?_
  exact kI_ret (v := 0) hx hb hr hlocks (by decide +kernel) hK hS dX12_fine_13 () hP hD rfl
set_option maxHeartbeats 4000000 in
set_option maxRecDepth 100000 in
theorem c_fine (l : Launch) {D : va_G} {K : Nat → ClassId} (o : Nat) (r : Nat → Nat) (f : Nat → Int32) (a : Nat → Nat → Int32) (g : Nat → Int64) (h0 : f 21 = (-1))   : kI l yX12_fine (Cond.code yX12_fine cX12_fine 1 (some .boolean) :: kG) (rmD 1 0 0) D (tysK K) [.ref o] (mW K o r f a g) (fun v (_ : Unit) => v = 1) (fun _ => mW K o r f a g) 0 0 := by
  refine kI.of (cc := cX12_fine) (maxL := 1) (ret := (some .boolean)) (by decide) rfl (Nat.le_of_ble_eq_true rfl) ?_
  intro p e s m below meth c A hx hb hr hml hown hts hlocks hnm hK hP hD hS hA ls hl
  have hg : ∀ w ∈ kG, w.before _ s = true := fun w h => hts w (List.mem_cons_of_mem _ h)
  have hown : s.vm.findClass RX12 = some m.cls := hown
  have hl : lv_has ls 1 [(0, .ref o)] := hl
  refine lv_aload_n hx hb dX12_fine_0 rfl (lv_at hl 0 rfl) ?_
  refine va_get (D := D) (ci := 12) (v := .int (f 21)) (C := RX12) (T := TX12) (N := 48) hx hb hg inC12 hown hK hP 0 rfl rfl 21 (by decide) (hg _ wt5_181) (fun _ h9 => h9) rfl dX12_fine_1 ?_
  refine k_top (z := (-1)) h0 ?_
  refine lv_iconst (v := (-1)) hx hb dX12_fine_4 (by decide) ?_
  refine lv_icmp_ne (tgt := 12) hx hb dX12_fine_5 (by decide) (fun c1 => absurd (by decide +kernel) c1) (fun c1 => ?_)
  refine lv_iconst (v := 1) hx hb dX12_fine_8 (by decide) ?_
  refine lv_goto (tgt := 13) hx hb dX12_fine_9 (by decide) ?_
  exact kI_ret (v := 1) hx hb hr hlocks (by decide +kernel) hK hS dX12_fine_13 () hP hD rfl
set_option maxHeartbeats 4000000 in
set_option maxRecDepth 100000 in
theorem c_sign (l : Launch)   : kN l yX12_sign (Cond.code yX12_sign cX12_sign 1 (some .int) :: kG) (rmD 1 0 0) [.int 59] (fun v => v = 159) := by
  refine kN.of (cc := cX12_sign) (maxL := 1) (ret := (some .int)) (by decide) rfl (Nat.le_of_ble_eq_true rfl) ?_
  intro p e s m below meth c hx hb hr hml hown hts hlocks hS ls hl
  have hg : ∀ w ∈ kG, w.before _ s = true := fun w h => hts w (List.mem_cons_of_mem _ h)
  have hown : s.vm.findClass RX12 = some m.cls := hown
  have hl : lv_has ls 1 [(0, .int 59)] := hl
  refine lv_bipush (v := 100) hx hb dX12_sign_0 (by decide) ?_
  refine lv_iload_n hx hb dX12_sign_2 rfl (lv_at hl 0 rfl) ?_
  refine lv_iadd hx hb dX12_sign_3 ?_
  refine k_top (z := 159) (by decide +kernel) ?_
  exact kN_ret (v := 159) hx hb hr hlocks rfl hS dX12_sign_4 rfl
set_option maxHeartbeats 4000000 in
set_option maxRecDepth 100000 in
theorem c_takesBad (l : Launch) {D : va_G} {K : Nat → ClassId} (o : Nat) (r : Nat → Nat) (f : Nat → Int32) (a : Nat → Nat → Int32) (g : Nat → Int64) (h0 : f 21 = 0) (x : Int32)  : kI l yX12_takes0 (Cond.code yX12_takes0 cX12_takes0 3 (some .boolean) :: kG) (rmD 2 0 0) D (tysK K) [.ref o, .int x] (mW K o r f a g) (fun v (_ : Unit) => v = 0) (fun _ => mW K o r f a g) 0 0 := by
  refine kI.of (cc := cX12_takes0) (maxL := 3) (ret := (some .boolean)) (by decide) rfl (Nat.le_of_ble_eq_true rfl) ?_
  intro p e s m below meth c A hx hb hr hml hown hts hlocks hnm hK hP hD hS hA ls hl
  have hg : ∀ w ∈ kG, w.before _ s = true := fun w h => hts w (List.mem_cons_of_mem _ h)
  have hown : s.vm.findClass RX12 = some m.cls := hown
  have hl : lv_has ls 3 [(0, .ref o), (1, .int x)] := hl
  refine lv_aload_n hx hb dX12_takes0_0 rfl (lv_at hl 0 rfl) ?_
  refine kI.callV (As := []) (rest := []) ⟨hx, hb, hml, hown, hg⟩ (c_fineBad l o r f a g h0 ) (cwV 0 hg (kgV wt6_204 wt6_206 wp4_7 wt1_14 wt6_207) rfl rfl rfl (by decide +kernel) ⟨by decide, by decide⟩) hK hP hD hS hA mIs [] rfl (wr := []) rfl rfl rfl (fun i h => by cases h) 0 12 rfl rfl rfl hl.1 rfl (Nat.le_of_ble_eq_true rfl) dX12_takes0_1 ⟨by decide, by decide⟩ (fun v3 u2 H locs hw1 hP hD hS => ?_)
  have hP : va_P D vwCl (mW K o r f a g) H := hP
  have hD : va_D A (mW K o r f a g) := hD
  refine k_top (z := 0) (hw1) ?_
  refine lv_if_eq (tgt := 24) hx hb dX12_takes0_4 (by decide) (fun c4 => ?_) (fun c4 => absurd (by decide +kernel) c4)
  refine lv_iconst (v := 0) hx hb dX12_takes0_24 (by decide) ?_
  refine lv_istore_n (lv' := [(2, .int 0), (0, .ref o), (1, .int x)]) hx hb dX12_takes0_25 rfl hl (by decide) rfl (fun ls hl => ?_)
  refine lv_iload_n hx hb dX12_takes0_26 rfl (lv_at hl 0 rfl) ?_
  refine lv_if_eq (tgt := 40) hx hb dX12_takes0_27 (by decide) (fun c5 => ?_) (fun c5 => absurd (by decide +kernel) c5)
  refine lv_iload_n hx hb dX12_takes0_40 rfl (lv_at hl 0 rfl) ?_
  exact kI_ret (v := 0) hx hb hr hlocks (by decide +kernel) hK hS dX12_takes0_41 () hP hD rfl
set_option maxHeartbeats 4000000 in
set_option maxRecDepth 100000 in
theorem c_takes0 (l : Launch) {D : va_G} {K : Nat → ClassId} (o : Nat) (r : Nat → Nat) (f : Nat → Int32) (a : Nat → Nat → Int32) (g : Nat → Int64) (h0 : f 21 = (-1)) (h1 : f 19 = 0) (h2 : a 15 0 = 0)  (x : Int32) (hc : ¬ x = 0) : kI l yX12_takes0 (Cond.code yX12_takes0 cX12_takes0 3 (some .boolean) :: kG) (rmD 2 0 0) D (tysK K) [.ref o, .int x] (mW K o r f a g) (fun v (_ : Unit) => v = 0) (fun _ => mW K o r f a g) 0 0 := by
  refine kI.of (cc := cX12_takes0) (maxL := 3) (ret := (some .boolean)) (by decide) rfl (Nat.le_of_ble_eq_true rfl) ?_
  intro p e s m below meth c A hx hb hr hml hown hts hlocks hnm hK hP hD hS hA ls hl
  have hg : ∀ w ∈ kG, w.before _ s = true := fun w h => hts w (List.mem_cons_of_mem _ h)
  have hown : s.vm.findClass RX12 = some m.cls := hown
  have hl : lv_has ls 3 [(0, .ref o), (1, .int x)] := hl
  refine lv_aload_n hx hb dX12_takes0_0 rfl (lv_at hl 0 rfl) ?_
  refine kI.callV (As := []) (rest := []) ⟨hx, hb, hml, hown, hg⟩ (c_fine l o r f a g h0 ) (cwV 0 hg (kgV wt6_204 wt6_206 wp4_7 wt1_14 wt6_207) rfl rfl rfl (by decide +kernel) ⟨by decide, by decide⟩) hK hP hD hS hA mIs [] rfl (wr := []) rfl rfl rfl (fun i h => by cases h) 0 12 rfl rfl rfl hl.1 rfl (Nat.le_of_ble_eq_true rfl) dX12_takes0_1 ⟨by decide, by decide⟩ (fun v3 u2 H locs hw1 hP hD hS => ?_)
  have hP : va_P D vwCl (mW K o r f a g) H := hP
  have hD : va_D A (mW K o r f a g) := hD
  refine k_top (z := 1) (hw1) ?_
  refine lv_if_eq (tgt := 24) hx hb dX12_takes0_4 (by decide) (fun c4 => absurd c4 (by decide +kernel)) (fun c4 => ?_)
  refine lv_aload_n hx hb dX12_takes0_7 rfl (lv_at hl 0 rfl) ?_
  refine va_get (D := D) (ci := 12) (v := .ref (r 15)) (C := RX12) (T := TX12) (N := 48) hx hb hg inC12 hown hK hP 0 rfl rfl 15 (by decide) (hg _ wt5_175) (fun _ h9 => h9) rfl dX12_takes0_8 ?_
  refine lv_aload_n hx hb dX12_takes0_11 rfl (lv_at hl 0 rfl) ?_
  refine va_get (D := D) (ci := 12) (v := .int (f 19)) (C := RX12) (T := TX12) (N := 48) hx hb hg inC12 hown hK hP 0 rfl rfl 19 (by decide) (hg _ wt5_179) (fun _ h9 => h9) rfl dX12_takes0_12 ?_
  refine k_top (z := 0) h1 ?_
  refine va_iald hx hb hK hP 9 0 rfl rfl (k_in (by decide +kernel)) dX12_takes0_15 ?_
  refine k_top (z := 0) (by rw [cl_0]; exact h2) ?_
  refine lv_iload_n hx hb dX12_takes0_16 rfl (lv_at hl 1 rfl) ?_
  refine lv_icmp_ne (tgt := 24) hx hb dX12_takes0_17 (by decide) (fun c5 => ?_) (fun c5 => absurd c5.symm hc)
  refine lv_iconst (v := 0) hx hb dX12_takes0_24 (by decide) ?_
  refine lv_istore_n (lv' := [(2, .int 0), (0, .ref o), (1, .int x)]) hx hb dX12_takes0_25 rfl hl (by decide) rfl (fun ls hl => ?_)
  refine lv_iload_n hx hb dX12_takes0_26 rfl (lv_at hl 0 rfl) ?_
  refine lv_if_eq (tgt := 40) hx hb dX12_takes0_27 (by decide) (fun c6 => ?_) (fun c6 => absurd (by decide +kernel) c6)
  refine lv_iload_n hx hb dX12_takes0_40 rfl (lv_at hl 0 rfl) ?_
  exact kI_ret (v := 0) hx hb hr hlocks (by decide +kernel) hK hS dX12_takes0_41 () hP hD rfl
set_option maxHeartbeats 4000000 in
set_option maxRecDepth 100000 in
theorem c_faults (l : Launch) {D : va_G} {K : Nat → ClassId} (o : Nat) (r : Nat → Nat) (f : Nat → Int32) (a : Nat → Nat → Int32) (g : Nat → Int64) (h0 : f 21 = (-1)) (h1 : f 19 = 0) (h2 : a 15 0 = 0) (h3 : a 17 0 = 0)   : kV l yX12_faults (Cond.code yX12_faults cX12_faults 1 none :: kG) (rmD 2 0 0) D (tysK K) [.ref o] (mW K o r f a g) (fun (u : mS) => u.1 21 = 0) (fun u => mW K o r u.1 u.2.1 u.2.2) 0 0 := by
  refine kV.of (cc := cX12_faults) (maxL := 1) (ret := none) (by decide) rfl (Nat.le_of_ble_eq_true rfl) ?_
  intro p e s m below meth c A hx hb hr hml hown hts hlocks hnm hK hP hD hS hA ls hl
  have hg : ∀ w ∈ kG, w.before _ s = true := fun w h => hts w (List.mem_cons_of_mem _ h)
  have hown : s.vm.findClass RX12 = some m.cls := hown
  have hl : lv_has ls 1 [(0, .ref o)] := hl
  refine lv_aload_n hx hb dX12_faults_0 rfl (lv_at hl 0 rfl) ?_
  refine kI.callV (As := []) (rest := []) ⟨hx, hb, hml, hown, hg⟩ (c_fine l o r f a g h0 ) (cwV 0 hg (kgV wt6_204 wt6_206 wp4_7 wt1_14 wt6_207) rfl rfl rfl (by decide +kernel) ⟨by decide, by decide⟩) hK hP hD hS hA mIs [] rfl (wr := []) rfl rfl rfl (fun i h => by cases h) 0 12 rfl rfl rfl hl.1 rfl (Nat.le_of_ble_eq_true rfl) dX12_faults_1 ⟨by decide, by decide⟩ (fun v3 u2 H locs hw1 hP hD hS => ?_)
  have hP : va_P D vwCl (mW K o r f a g) H := hP
  have hD : va_D A (mW K o r f a g) := hD
  refine k_top (z := 1) (hw1) ?_
  refine lv_if_eq (tgt := 20) hx hb dX12_faults_4 (by decide) (fun c4 => absurd c4 (by decide +kernel)) (fun c4 => ?_)
  refine lv_aload_n hx hb dX12_faults_7 rfl (lv_at hl 0 rfl) ?_
  refine lv_aload_n hx hb dX12_faults_8 rfl (lv_at hl 0 rfl) ?_
  refine va_get (D := D) (ci := 12) (v := .ref (r 17)) (C := RX12) (T := TX12) (N := 48) hx hb hg inC12 hown hK hP 0 rfl rfl 17 (by decide) (hg _ wt5_177) (fun _ h9 => h9) rfl dX12_faults_9 ?_
  refine lv_aload_n hx hb dX12_faults_12 rfl (lv_at hl 0 rfl) ?_
  refine va_get (D := D) (ci := 12) (v := .int (f 19)) (C := RX12) (T := TX12) (N := 48) hx hb hg inC12 hown hK hP 0 rfl rfl 19 (by decide) (hg _ wt5_179) (fun _ h9 => h9) rfl dX12_faults_13 ?_
  refine k_top (z := 0) h1 ?_
  refine va_iald hx hb hK hP 11 0 rfl rfl (k_in (by decide +kernel)) dX12_faults_16 ?_
  refine k_top (z := 0) (by rw [cl_0]; exact h3) ?_
  refine va_put (D := D) (ci := 12) (v := .int 0) (ty := .int) (C := RX12) (T := TX12) (N := 48) hx hb hg inC12 tyX12 tyX12_ok nmX12 hown hK hP hD hS 0 rfl rfl 21 (by decide) (hg _ wt5_181) (fun _ h9 => h9) rfl (by decide +kernel) rfl rfl (Nat.le_of_ble_eq_true rfl) dX12_faults_17 (fun H locs hP hD hS => ?_)
  have hP : va_P D vwCl (mW K o r (upd f 21 0) a g) H := hP
  have hD : va_D A (mW K o r (upd f 21 0) a g) := hD
  refine k_gen (P := fun z => va_P D vwCl (mW K o r z a g) H ∧ va_D A (mW K o r z a g)) (upd f 21 0) ⟨hP, hD⟩ (fun f_5 ef_5 hPD => ?_)
  have hP := hPD.1
  have hD := hPD.2
  exact kV_ret hx hb hr hlocks hK hS dX12_faults_20 (f_5, a, g) hP hD (show f_5 21 = 0 from by rw [← ef_5]; rfl)
set_option maxHeartbeats 4000000 in
set_option maxRecDepth 100000 in
theorem c_must (l : Launch) {D : va_G} {K : Nat → ClassId} (o : Nat) (r : Nat → Nat) (f : Nat → Int32) (a : Nat → Nat → Int32) (g : Nat → Int64) (h0 : f 21 = (-1)) (h1 : f 19 = 0) (h2 : a 15 0 = 0) (h3 : a 17 0 = 0)  (x : Int32) (hc : ¬ x = 0) : kV l yX12_must (Cond.code yX12_must cX12_must 2 none :: kG) (rmD 3 0 0) D (tysK K) [.ref o, .int x] (mW K o r f a g) (fun (u : mS) => u.1 21 = 0) (fun u => mW K o r u.1 u.2.1 u.2.2) 0 0 := by
  refine kV.of (cc := cX12_must) (maxL := 2) (ret := none) (by decide) rfl (Nat.le_of_ble_eq_true rfl) ?_
  intro p e s m below meth c A hx hb hr hml hown hts hlocks hnm hK hP hD hS hA ls hl
  have hg : ∀ w ∈ kG, w.before _ s = true := fun w h => hts w (List.mem_cons_of_mem _ h)
  have hown : s.vm.findClass RX12 = some m.cls := hown
  have hl : lv_has ls 2 [(0, .ref o), (1, .int x)] := hl
  refine lv_aload_n hx hb dX12_must_0 rfl (lv_at hl 0 rfl) ?_
  refine lv_iload_n hx hb dX12_must_1 rfl (lv_at hl 1 rfl) ?_
  refine kI.callV (As := [.int x]) (rest := []) ⟨hx, hb, hml, hown, hg⟩ (c_takes0 l o r f a g h0 h1 h2 x hc) (cwV 1 hg (kgV wt6_200 wt6_202 wp4_6 wt1_14 wt6_203) rfl rfl rfl (by decide +kernel) ⟨by decide, by decide⟩) hK hP hD hS hA mIs [] rfl (wr := []) rfl rfl rfl (fun i h => by cases h) 0 12 rfl rfl rfl hl.1 rfl (Nat.le_of_ble_eq_true rfl) dX12_must_2 ⟨by decide, by decide⟩ (fun v3 u2 H locs hw1 hP hD hS => ?_)
  have hP : va_P D vwCl (mW K o r f a g) H := hP
  have hD : va_D A (mW K o r f a g) := hD
  refine k_top (z := 0) (hw1) ?_
  refine lv_if_ne (tgt := 12) hx hb dX12_must_5 (by decide) (fun c4 => absurd (by decide +kernel) c4) (fun c4 => ?_)
  refine lv_aload_n hx hb dX12_must_8 rfl (lv_at hl 0 rfl) ?_
  refine kV.callV (As := []) (rest := []) ⟨hx, hb, hml, hown, hg⟩ (c_faults l o r f a g h0 h1 h2 h3 ) (cwV 0 hg (kgV wt6_223 wt6_225 wp4_11 wt1_14 wt6_226) rfl rfl rfl (by decide +kernel) ⟨by decide, by decide⟩) hK hP hD hS hA mIs [] rfl (wr := []) rfl rfl rfl (fun i h => by cases h) 0 12 rfl rfl rfl hl.1 rfl (Nat.le_of_ble_eq_true rfl) dX12_must_9 ⟨by decide, by decide⟩ (fun u6 H locs hw5 hP hD hS => ?_)
  obtain ⟨f8, a9, g10⟩ := u6
  have hP : va_P D vwCl (mW K o r f8 a9 g10) H := hP
  have hD : va_D A (mW K o r f8 a9 g10) := hD
  exact kV_ret hx hb hr hlocks hK hS dX12_must_12 (f8, a9, g10) hP hD hw5
set_option maxHeartbeats 4000000 in
set_option maxRecDepth 100000 in
theorem c_readClause (l : Launch) {D : va_G} {K : Nat → ClassId} (o : Nat) (r : Nat → Nat) (f : Nat → Int32) (a : Nat → Nat → Int32) (g : Nat → Int64) (h0 : f 21 = (-1)) (h1 : f 19 = 0) (h2 : a 15 0 = 0) (h3 : a 17 0 = 0)   : kV l yX12_readClause (Cond.code yX12_readClause cX12_readClause 1 none :: kG) (rmD 4 0 0) D (tysK K) [.ref o] (mW K o r f a g) (fun (u : mS) => u.1 21 = 0) (fun u => mW K o r u.1 u.2.1 u.2.2) 0 0 := by
  refine kV.of (cc := cX12_readClause) (maxL := 1) (ret := none) (by decide) rfl (Nat.le_of_ble_eq_true rfl) ?_
  intro p e s m below meth c A hx hb hr hml hown hts hlocks hnm hK hP hD hS hA ls hl
  have hg : ∀ w ∈ kG, w.before _ s = true := fun w h => hts w (List.mem_cons_of_mem _ h)
  have hown : s.vm.findClass RX12 = some m.cls := hown
  have hl : lv_has ls 1 [(0, .ref o)] := hl
  refine lv_aload_n hx hb dX12_readClause_0 rfl (lv_at hl 0 rfl) ?_
  refine lv_iconst (v := 1) hx hb dX12_readClause_1 (by decide) ?_
  refine kI.callV (As := [.int 1]) (rest := []) ⟨hx, hb, hml, hown, hg⟩ (c_takes0 l o r f a g h0 h1 h2 1 (by decide +kernel)) (cwV 1 hg (kgV wt6_200 wt6_202 wp4_6 wt1_14 wt6_203) rfl rfl rfl (by decide +kernel) ⟨by decide, by decide⟩) hK hP hD hS hA mIs [] rfl (wr := []) rfl rfl rfl (fun i h => by cases h) 0 12 rfl rfl rfl hl.1 rfl (Nat.le_of_ble_eq_true rfl) dX12_readClause_2 ⟨by decide, by decide⟩ (fun v3 u2 H locs hw1 hP hD hS => ?_)
  have hP : va_P D vwCl (mW K o r f a g) H := hP
  have hD : va_D A (mW K o r f a g) := hD
  refine k_top (z := 0) (hw1) ?_
  refine lv_if_ne (tgt := 24) hx hb dX12_readClause_5 (by decide) (fun c4 => absurd (by decide +kernel) c4) (fun c4 => ?_)
  refine lv_aload_n hx hb dX12_readClause_8 rfl (lv_at hl 0 rfl) ?_
  refine lv_iconst (v := 2) hx hb dX12_readClause_9 (by decide) ?_
  refine kI.callV (As := [.int 2]) (rest := []) ⟨hx, hb, hml, hown, hg⟩ (c_takes0 l o r f a g h0 h1 h2 2 (by decide +kernel)) (cwV 1 hg (kgV wt6_200 wt6_202 wp4_6 wt1_14 wt6_203) rfl rfl rfl (by decide +kernel) ⟨by decide, by decide⟩) hK hP hD hS hA mIs [] rfl (wr := []) rfl rfl rfl (fun i h => by cases h) 0 12 rfl rfl rfl hl.1 rfl (Nat.le_of_ble_eq_true rfl) dX12_readClause_10 ⟨by decide, by decide⟩ (fun v7 u6 H locs hw5 hP hD hS => ?_)
  have hP : va_P D vwCl (mW K o r f a g) H := hP
  have hD : va_D A (mW K o r f a g) := hD
  refine k_top (z := 0) (hw5) ?_
  refine lv_if_ne (tgt := 24) hx hb dX12_readClause_13 (by decide) (fun c8 => absurd (by decide +kernel) c8) (fun c8 => ?_)
  refine lv_aload_n hx hb dX12_readClause_16 rfl (lv_at hl 0 rfl) ?_
  refine lv_iconst (v := 3) hx hb dX12_readClause_17 (by decide) ?_
  refine kI.callV (As := [.int 3]) (rest := []) ⟨hx, hb, hml, hown, hg⟩ (c_takes0 l o r f a g h0 h1 h2 3 (by decide +kernel)) (cwV 1 hg (kgV wt6_200 wt6_202 wp4_6 wt1_14 wt6_203) rfl rfl rfl (by decide +kernel) ⟨by decide, by decide⟩) hK hP hD hS hA mIs [] rfl (wr := []) rfl rfl rfl (fun i h => by cases h) 0 12 rfl rfl rfl hl.1 rfl (Nat.le_of_ble_eq_true rfl) dX12_readClause_18 ⟨by decide, by decide⟩ (fun v11 u10 H locs hw9 hP hD hS => ?_)
  have hP : va_P D vwCl (mW K o r f a g) H := hP
  have hD : va_D A (mW K o r f a g) := hD
  refine k_top (z := 0) (hw9) ?_
  refine lv_if_eq (tgt := 32) hx hb dX12_readClause_21 (by decide) (fun c12 => ?_) (fun c12 => absurd (by decide +kernel) c12)
  refine lv_aload_n hx hb dX12_readClause_32 rfl (lv_at hl 0 rfl) ?_
  refine lv_iconst (v := 4) hx hb dX12_readClause_33 (by decide) ?_
  refine kV.callV (As := [.int 4]) (rest := []) ⟨hx, hb, hml, hown, hg⟩ (c_must l o r f a g h0 h1 h2 h3 4 (by decide +kernel)) (cwV 1 hg (kgV wt6_227 wt6_229 wp4_12 wt1_14 wt6_230) rfl rfl rfl (by decide +kernel) ⟨by decide, by decide⟩) hK hP hD hS hA mIs [] rfl (wr := []) rfl rfl rfl (fun i h => by cases h) 0 12 rfl rfl rfl hl.1 rfl (Nat.le_of_ble_eq_true rfl) dX12_readClause_34 ⟨by decide, by decide⟩ (fun u14 H locs hw13 hP hD hS => ?_)
  obtain ⟨f16, a17, g18⟩ := u14
  have hP : va_P D vwCl (mW K o r f16 a17 g18) H := hP
  have hD : va_D A (mW K o r f16 a17 g18) := hD
  refine lv_aload_n hx hb dX12_readClause_37 rfl (lv_at hl 0 rfl) ?_
  refine lv_iconst (v := 5) hx hb dX12_readClause_38 (by decide) ?_
  refine kI.callV (As := [.int 5]) (rest := []) ⟨hx, hb, hml, hown, hg⟩ (c_takesBad l o r f16 a17 g18 hw13 5) (cwV 1 hg (kgV wt6_200 wt6_202 wp4_6 wt1_14 wt6_203) rfl rfl rfl (by decide +kernel) ⟨by decide, by decide⟩) hK hP hD hS hA mIs [] rfl (wr := []) rfl rfl rfl (fun i h => by cases h) 0 12 rfl rfl rfl hl.1 rfl (Nat.le_of_ble_eq_true rfl) dX12_readClause_39 ⟨by decide, by decide⟩ (fun v21 u20 H locs hw19 hP hD hS => ?_)
  have hP : va_P D vwCl (mW K o r f16 a17 g18) H := hP
  have hD : va_D A (mW K o r f16 a17 g18) := hD
  refine k_top (z := 0) (hw19) ?_
  refine lv_if_eq (tgt := 50) hx hb dX12_readClause_42 (by decide) (fun c22 => ?_) (fun c22 => absurd (by decide +kernel) c22)
  exact kV_ret hx hb hr hlocks hK hS dX12_readClause_50 (f16, a17, g18) hP hD hw13
set_option maxHeartbeats 4000000 in
set_option maxRecDepth 100000 in
theorem c_readOrder (l : Launch) {D : va_G} {K : Nat → ClassId} (o : Nat) (r : Nat → Nat) (f : Nat → Int32) (a : Nat → Nat → Int32) (g : Nat → Int64) (h0 : f 21 = (-1)) (h1 : f 19 = 0) (h2 : a 15 0 = 0) (h3 : a 17 0 = 0)   : kV l yX12_readOrder (Cond.code yX12_readOrder cX12_readOrder 1 none :: kG) (rmD 4 0 0) D (tysK K) [.ref o] (mW K o r f a g) (fun (u : mS) => u.1 21 = 0) (fun u => mW K o r u.1 u.2.1 u.2.2) 0 0 := by
  refine kV.of (cc := cX12_readOrder) (maxL := 1) (ret := none) (by decide) rfl (Nat.le_of_ble_eq_true rfl) ?_
  intro p e s m below meth c A hx hb hr hml hown hts hlocks hnm hK hP hD hS hA ls hl
  have hg : ∀ w ∈ kG, w.before _ s = true := fun w h => hts w (List.mem_cons_of_mem _ h)
  have hown : s.vm.findClass RX12 = some m.cls := hown
  have hl : lv_has ls 1 [(0, .ref o)] := hl
  refine lv_aload_n hx hb dX12_readOrder_0 rfl (lv_at hl 0 rfl) ?_
  refine lv_bipush (v := 23) hx hb dX12_readOrder_1 (by decide) ?_
  refine kI.callV (As := [.int 23]) (rest := []) ⟨hx, hb, hml, hown, hg⟩ (c_takes0 l o r f a g h0 h1 h2 23 (by decide +kernel)) (cwV 1 hg (kgV wt6_200 wt6_202 wp4_6 wt1_14 wt6_203) rfl rfl rfl (by decide +kernel) ⟨by decide, by decide⟩) hK hP hD hS hA mIs [] rfl (wr := []) rfl rfl rfl (fun i h => by cases h) 0 12 rfl rfl rfl hl.1 rfl (Nat.le_of_ble_eq_true rfl) dX12_readOrder_3 ⟨by decide, by decide⟩ (fun v3 u2 H locs hw1 hP hD hS => ?_)
  have hP : va_P D vwCl (mW K o r f a g) H := hP
  have hD : va_D A (mW K o r f a g) := hD
  refine k_top (z := 0) (hw1) ?_
  refine lv_if_eq (tgt := 28) hx hb dX12_readOrder_6 (by decide) (fun c4 => ?_) (fun c4 => absurd (by decide +kernel) c4)
  refine lv_aload_n hx hb dX12_readOrder_28 rfl (lv_at hl 0 rfl) ?_
  refine lv_bipush (v := 25) hx hb dX12_readOrder_29 (by decide) ?_
  refine kI.callV (As := [.int 25]) (rest := []) ⟨hx, hb, hml, hown, hg⟩ (c_takes0 l o r f a g h0 h1 h2 25 (by decide +kernel)) (cwV 1 hg (kgV wt6_200 wt6_202 wp4_6 wt1_14 wt6_203) rfl rfl rfl (by decide +kernel) ⟨by decide, by decide⟩) hK hP hD hS hA mIs [] rfl (wr := []) rfl rfl rfl (fun i h => by cases h) 0 12 rfl rfl rfl hl.1 rfl (Nat.le_of_ble_eq_true rfl) dX12_readOrder_31 ⟨by decide, by decide⟩ (fun v7 u6 H locs hw5 hP hD hS => ?_)
  have hP : va_P D vwCl (mW K o r f a g) H := hP
  have hD : va_D A (mW K o r f a g) := hD
  refine k_top (z := 0) (hw5) ?_
  refine lv_if_ne (tgt := 46) hx hb dX12_readOrder_34 (by decide) (fun c8 => absurd (by decide +kernel) c8) (fun c8 => ?_)
  refine lv_aload_n hx hb dX12_readOrder_37 rfl (lv_at hl 0 rfl) ?_
  refine lv_bipush (v := 26) hx hb dX12_readOrder_38 (by decide) ?_
  refine kI.callV (As := [.int 26]) (rest := []) ⟨hx, hb, hml, hown, hg⟩ (c_takes0 l o r f a g h0 h1 h2 26 (by decide +kernel)) (cwV 1 hg (kgV wt6_200 wt6_202 wp4_6 wt1_14 wt6_203) rfl rfl rfl (by decide +kernel) ⟨by decide, by decide⟩) hK hP hD hS hA mIs [] rfl (wr := []) rfl rfl rfl (fun i h => by cases h) 0 12 rfl rfl rfl hl.1 rfl (Nat.le_of_ble_eq_true rfl) dX12_readOrder_40 ⟨by decide, by decide⟩ (fun v11 u10 H locs hw9 hP hD hS => ?_)
  have hP : va_P D vwCl (mW K o r f a g) H := hP
  have hD : va_D A (mW K o r f a g) := hD
  refine k_top (z := 0) (hw9) ?_
  refine lv_if_eq (tgt := 54) hx hb dX12_readOrder_43 (by decide) (fun c12 => ?_) (fun c12 => absurd (by decide +kernel) c12)
  refine lv_aload_n hx hb dX12_readOrder_54 rfl (lv_at hl 0 rfl) ?_
  refine lv_bipush (v := 27) hx hb dX12_readOrder_55 (by decide) ?_
  refine kV.callV (As := [.int 27]) (rest := []) ⟨hx, hb, hml, hown, hg⟩ (c_must l o r f a g h0 h1 h2 h3 27 (by decide +kernel)) (cwV 1 hg (kgV wt6_227 wt6_229 wp4_12 wt1_14 wt6_230) rfl rfl rfl (by decide +kernel) ⟨by decide, by decide⟩) hK hP hD hS hA mIs [] rfl (wr := []) rfl rfl rfl (fun i h => by cases h) 0 12 rfl rfl rfl hl.1 rfl (Nat.le_of_ble_eq_true rfl) dX12_readOrder_57 ⟨by decide, by decide⟩ (fun u14 H locs hw13 hP hD hS => ?_)
  obtain ⟨f16, a17, g18⟩ := u14
  have hP : va_P D vwCl (mW K o r f16 a17 g18) H := hP
  have hD : va_D A (mW K o r f16 a17 g18) := hD
  refine lv_aload_n hx hb dX12_readOrder_60 rfl (lv_at hl 0 rfl) ?_
  refine lv_bipush (v := 28) hx hb dX12_readOrder_61 (by decide) ?_
  refine kI.callV (As := [.int 28]) (rest := []) ⟨hx, hb, hml, hown, hg⟩ (c_takesBad l o r f16 a17 g18 hw13 28) (cwV 1 hg (kgV wt6_200 wt6_202 wp4_6 wt1_14 wt6_203) rfl rfl rfl (by decide +kernel) ⟨by decide, by decide⟩) hK hP hD hS hA mIs [] rfl (wr := []) rfl rfl rfl (fun i h => by cases h) 0 12 rfl rfl rfl hl.1 rfl (Nat.le_of_ble_eq_true rfl) dX12_readOrder_63 ⟨by decide, by decide⟩ (fun v21 u20 H locs hw19 hP hD hS => ?_)
  have hP : va_P D vwCl (mW K o r f16 a17 g18) H := hP
  have hD : va_D A (mW K o r f16 a17 g18) := hD
  refine k_top (z := 0) (hw19) ?_
  refine lv_if_eq (tgt := 76) hx hb dX12_readOrder_66 (by decide) (fun c22 => ?_) (fun c22 => absurd (by decide +kernel) c22)
  refine lv_aload_n hx hb dX12_readOrder_76 rfl (lv_at hl 0 rfl) ?_
  refine lv_iconst (v := 5) hx hb dX12_readOrder_77 (by decide) ?_
  refine kI.callV (As := [.int 5]) (rest := []) ⟨hx, hb, hml, hown, hg⟩ (c_takesBad l o r f16 a17 g18 hw13 5) (cwV 1 hg (kgV wt6_200 wt6_202 wp4_6 wt1_14 wt6_203) rfl rfl rfl (by decide +kernel) ⟨by decide, by decide⟩) hK hP hD hS hA mIs [] rfl (wr := []) rfl rfl rfl (fun i h => by cases h) 0 12 rfl rfl rfl hl.1 rfl (Nat.le_of_ble_eq_true rfl) dX12_readOrder_78 ⟨by decide, by decide⟩ (fun v25 u24 H locs hw23 hP hD hS => ?_)
  have hP : va_P D vwCl (mW K o r f16 a17 g18) H := hP
  have hD : va_D A (mW K o r f16 a17 g18) := hD
  refine k_top (z := 0) (hw23) ?_
  refine lv_if_eq (tgt := 89) hx hb dX12_readOrder_81 (by decide) (fun c26 => ?_) (fun c26 => absurd (by decide +kernel) c26)
  exact kV_ret hx hb hr hlocks hK hS dX12_readOrder_89 (f16, a17, g18) hP hD hw13
set_option maxHeartbeats 4000000 in
set_option maxRecDepth 100000 in
theorem c_readOneL (l : Launch) {D : va_G} {K : Nat → ClassId} (o : Nat) (r : Nat → Nat) (f : Nat → Int32) (a : Nat → Nat → Int32) (g : Nat → Int64) (h0 : f 21 = (-1)) (h1 : f 19 = 0) (h2 : a 15 0 = 0) (h3 : a 17 0 = 0) (h4 : f 10 = 0)   : kV l yX12_readOne (Cond.code yX12_readOne cX12_readOne 1 none :: kG) (rmD 5 0 0) D (tysK K) [.ref o] (mW K o r f a g) (fun (u : mS) => u.1 21 = 0) (fun u => mW K o r u.1 u.2.1 u.2.2) 0 0 := by
  refine kV.of (cc := cX12_readOne) (maxL := 1) (ret := none) (by decide) rfl (Nat.le_of_ble_eq_true rfl) ?_
  intro p e s m below meth c A hx hb hr hml hown hts hlocks hnm hK hP hD hS hA ls hl
  have hg : ∀ w ∈ kG, w.before _ s = true := fun w h => hts w (List.mem_cons_of_mem _ h)
  have hown : s.vm.findClass RX12 = some m.cls := hown
  have hl : lv_has ls 1 [(0, .ref o)] := hl
  refine lv_aload_n hx hb dX12_readOne_0 rfl (lv_at hl 0 rfl) ?_
  refine va_get (D := D) (ci := 12) (v := .int (f 10)) (C := RX12) (T := TX12) (N := 48) hx hb hg inC12 hown hK hP 0 rfl rfl 10 (by decide) (hg _ wt5_170) (fun _ h9 => h9) rfl dX12_readOne_1 ?_
  refine k_top (z := 0) h4 ?_
  refine lv_if_eq (tgt := 14) hx hb dX12_readOne_4 (by decide) (fun c1 => ?_) (fun c1 => absurd (by decide +kernel) c1)
  refine lv_aload_n hx hb dX12_readOne_14 rfl (lv_at hl 0 rfl) ?_
  refine kV.callV (As := []) (rest := []) ⟨hx, hb, hml, hown, hg⟩ (c_readClause l o r f a g h0 h1 h2 h3 ) (cwV 0 hg (kgV wt7_11 wt7_13 wp5_2 wt1_14 wt7_14) rfl rfl rfl (by decide +kernel) ⟨by decide, by decide⟩) hK hP hD hS hA mIs [] rfl (wr := []) rfl rfl rfl (fun i h => by cases h) 0 12 rfl rfl rfl hl.1 rfl (Nat.le_of_ble_eq_true rfl) dX12_readOne_15 ⟨by decide, by decide⟩ (fun u3 H locs hw2 hP hD hS => ?_)
  obtain ⟨f5, a6, g7⟩ := u3
  have hP : va_P D vwCl (mW K o r f5 a6 g7) H := hP
  have hD : va_D A (mW K o r f5 a6 g7) := hD
  exact kV_ret hx hb hr hlocks hK hS dX12_readOne_18 (f5, a6, g7) hP hD hw2
set_option maxHeartbeats 4000000 in
set_option maxRecDepth 100000 in
theorem c_readOneO (l : Launch) {D : va_G} {K : Nat → ClassId} (o : Nat) (r : Nat → Nat) (f : Nat → Int32) (a : Nat → Nat → Int32) (g : Nat → Int64) (h0 : f 21 = (-1)) (h1 : f 19 = 0) (h2 : a 15 0 = 0) (h3 : a 17 0 = 0) (h4 : f 10 = 1)   : kV l yX12_readOne (Cond.code yX12_readOne cX12_readOne 1 none :: kG) (rmD 5 0 0) D (tysK K) [.ref o] (mW K o r f a g) (fun (u : mS) => u.1 21 = 0) (fun u => mW K o r u.1 u.2.1 u.2.2) 0 0 := by
  refine kV.of (cc := cX12_readOne) (maxL := 1) (ret := none) (by decide) rfl (Nat.le_of_ble_eq_true rfl) ?_
  intro p e s m below meth c A hx hb hr hml hown hts hlocks hnm hK hP hD hS hA ls hl
  have hg : ∀ w ∈ kG, w.before _ s = true := fun w h => hts w (List.mem_cons_of_mem _ h)
  have hown : s.vm.findClass RX12 = some m.cls := hown
  have hl : lv_has ls 1 [(0, .ref o)] := hl
  refine lv_aload_n hx hb dX12_readOne_0 rfl (lv_at hl 0 rfl) ?_
  refine va_get (D := D) (ci := 12) (v := .int (f 10)) (C := RX12) (T := TX12) (N := 48) hx hb hg inC12 hown hK hP 0 rfl rfl 10 (by decide) (hg _ wt5_170) (fun _ h9 => h9) rfl dX12_readOne_1 ?_
  refine k_top (z := 1) h4 ?_
  refine lv_if_eq (tgt := 14) hx hb dX12_readOne_4 (by decide) (fun c1 => absurd c1 (by decide +kernel)) (fun c1 => ?_)
  refine lv_aload_n hx hb dX12_readOne_7 rfl (lv_at hl 0 rfl) ?_
  refine kV.callV (As := []) (rest := []) ⟨hx, hb, hml, hown, hg⟩ (c_readOrder l o r f a g h0 h1 h2 h3 ) (cwV 0 hg (kgV wt6_196 wt6_198 wp4_5 wt1_14 wt6_199) rfl rfl rfl (by decide +kernel) ⟨by decide, by decide⟩) hK hP hD hS hA mIs [] rfl (wr := []) rfl rfl rfl (fun i h => by cases h) 0 12 rfl rfl rfl hl.1 rfl (Nat.le_of_ble_eq_true rfl) dX12_readOne_8 ⟨by decide, by decide⟩ (fun u3 H locs hw2 hP hD hS => ?_)
  obtain ⟨f5, a6, g7⟩ := u3
  have hP : va_P D vwCl (mW K o r f5 a6 g7) H := hP
  have hD : va_D A (mW K o r f5 a6 g7) := hD
  refine lv_goto (tgt := 18) hx hb dX12_readOne_11 (by decide) ?_
  exact kV_ret hx hb hr hlocks hK hS dX12_readOne_18 (f5, a6, g7) hP hD hw2
set_option maxHeartbeats 4000000 in
set_option maxRecDepth 100000 in
theorem c_readsL (l : Launch) {D : va_G} {K : Nat → ClassId} (o : Nat) (r : Nat → Nat) (f : Nat → Int32) (a : Nat → Nat → Int32) (g : Nat → Int64) (h0 : f 13 = 0) (h1 : f 10 = 0)   : kI l yX12_reads (Cond.code yX12_reads cX12_reads 2 (some .boolean) :: kG) (rmD 6 0 0) D (tysK K) [.ref o] (mW K o r f a g) (fun v (u : mS) => v = 0) (fun u => mW K o r u.1 u.2.1 u.2.2) 0 0 := by
  refine kI.of (cc := cX12_reads) (maxL := 2) (ret := (some .boolean)) (by decide) rfl (Nat.le_of_ble_eq_true rfl) ?_
  intro p e s m below meth c A hx hb hr hml hown hts hlocks hnm hK hP hD hS hA ls hl
  have hg : ∀ w ∈ kG, w.before _ s = true := fun w h => hts w (List.mem_cons_of_mem _ h)
  have hown : s.vm.findClass RX12 = some m.cls := hown
  have hl : lv_has ls 2 [(0, .ref o)] := hl
  refine lv_aload_n hx hb dX12_reads_0 rfl (lv_at hl 0 rfl) ?_
  refine lv_aload_n hx hb dX12_reads_1 rfl (lv_at hl 0 rfl) ?_
  refine va_get (D := D) (ci := 12) (v := .int (f 13)) (C := RX12) (T := TX12) (N := 48) hx hb hg inC12 hown hK hP 0 rfl rfl 13 (by decide) (hg _ wt5_173) (fun _ h9 => h9) rfl dX12_reads_2 ?_
  refine k_top (z := 0) h0 ?_
  refine kV.callV (As := [.int 0]) (rest := []) ⟨hx, hb, hml, hown, hg⟩ (c_splits0 l o r f a g h1 ) (cwV 1 hg (kgV wt6_177 wt6_179 wp4_2 wt1_14 wt6_180) rfl rfl rfl (by decide +kernel) ⟨by decide, by decide⟩) hK hP hD hS hA mIs [] rfl (wr := []) rfl rfl rfl (fun i h => by cases h) 0 12 rfl rfl rfl hl.1 rfl (Nat.le_of_ble_eq_true rfl) dX12_reads_5 ⟨by decide, by decide⟩ (fun u2 H locs hw1 hP hD hS => ?_)
  obtain ⟨f4, a5, g6⟩ := u2
  have hP : va_P D vwCl (mW K o r f4 a5 g6) H := hP
  have hD : va_D A (mW K o r f4 a5 g6) := hD
  refine lv_aload_n hx hb dX12_reads_8 rfl (lv_at hl 0 rfl) ?_
  refine lv_iconst (v := 0) hx hb dX12_reads_9 (by decide) ?_
  refine va_put (D := D) (ci := 12) (v := .int 0) (ty := .int) (C := RX12) (T := TX12) (N := 48) hx hb hg inC12 tyX12 tyX12_ok nmX12 hown hK hP hD hS 0 rfl rfl 13 (by decide) (hg _ wt5_173) (fun _ h9 => h9) rfl (by decide +kernel) rfl rfl (Nat.le_of_ble_eq_true rfl) dX12_reads_10 (fun H locs hP hD hS => ?_)
  have hP : va_P D vwCl (mW K o r (upd f4 13 0) a5 g6) H := hP
  have hD : va_D A (mW K o r (upd f4 13 0) a5 g6) := hD
  refine k_gen (P := fun z => va_P D vwCl (mW K o r z a5 g6) H ∧ va_D A (mW K o r z a5 g6)) (upd f4 13 0) ⟨hP, hD⟩ (fun f_7 ef_7 hPD => ?_)
  have hP := hPD.1
  have hD := hPD.2
  refine lv_aload_n hx hb dX12_reads_13 rfl (lv_at hl 0 rfl) ?_
  refine lv_iconst (v := 0) hx hb dX12_reads_14 (by decide) ?_
  refine va_put (D := D) (ci := 12) (v := .int 0) (ty := .int) (C := RX12) (T := TX12) (N := 48) hx hb hg inC12 tyX12 tyX12_ok nmX12 hown hK hP hD hS 0 rfl rfl 19 (by decide) (hg _ wt5_179) (fun _ h9 => h9) rfl (by decide +kernel) rfl rfl (Nat.le_of_ble_eq_true rfl) dX12_reads_15 (fun H locs hP hD hS => ?_)
  have hP : va_P D vwCl (mW K o r (upd f_7 19 0) a5 g6) H := hP
  have hD : va_D A (mW K o r (upd f_7 19 0) a5 g6) := hD
  refine k_gen (P := fun z => va_P D vwCl (mW K o r z a5 g6) H ∧ va_D A (mW K o r z a5 g6)) (upd f_7 19 0) ⟨hP, hD⟩ (fun f_8 ef_8 hPD => ?_)
  have hP := hPD.1
  have hD := hPD.2
  refine lv_aload_n hx hb dX12_reads_18 rfl (lv_at hl 0 rfl) ?_
  refine lv_iconst (v := 0) hx hb dX12_reads_19 (by decide) ?_
  refine va_put (D := D) (ci := 12) (v := .int 0) (ty := .int) (C := RX12) (T := TX12) (N := 48) hx hb hg inC12 tyX12 tyX12_ok nmX12 hown hK hP hD hS 0 rfl rfl 20 (by decide) (hg _ wt5_180) (fun _ h9 => h9) rfl (by decide +kernel) rfl rfl (Nat.le_of_ble_eq_true rfl) dX12_reads_20 (fun H locs hP hD hS => ?_)
  have hP : va_P D vwCl (mW K o r (upd f_8 20 0) a5 g6) H := hP
  have hD : va_D A (mW K o r (upd f_8 20 0) a5 g6) := hD
  refine k_gen (P := fun z => va_P D vwCl (mW K o r z a5 g6) H ∧ va_D A (mW K o r z a5 g6)) (upd f_8 20 0) ⟨hP, hD⟩ (fun f_9 ef_9 hPD => ?_)
  have hP := hPD.1
  have hD := hPD.2
  refine lv_aload_n hx hb dX12_reads_23 rfl (lv_at hl 0 rfl) ?_
  refine lv_iconst (v := (-1)) hx hb dX12_reads_24 (by decide) ?_
  refine va_put (D := D) (ci := 12) (v := .int (-1)) (ty := .int) (C := RX12) (T := TX12) (N := 48) hx hb hg inC12 tyX12 tyX12_ok nmX12 hown hK hP hD hS 0 rfl rfl 21 (by decide) (hg _ wt5_181) (fun _ h9 => h9) rfl (by decide +kernel) rfl rfl (Nat.le_of_ble_eq_true rfl) dX12_reads_25 (fun H locs hP hD hS => ?_)
  have hP : va_P D vwCl (mW K o r (upd f_9 21 (-1)) a5 g6) H := hP
  have hD : va_D A (mW K o r (upd f_9 21 (-1)) a5 g6) := hD
  refine k_gen (P := fun z => va_P D vwCl (mW K o r z a5 g6) H ∧ va_D A (mW K o r z a5 g6)) (upd f_9 21 (-1)) ⟨hP, hD⟩ (fun f_10 ef_10 hPD => ?_)
  have hP := hPD.1
  have hD := hPD.2
  refine lv_aload_n hx hb dX12_reads_28 rfl (lv_at hl 0 rfl) ?_
  refine kV.callV (As := []) (rest := []) ⟨hx, hb, hml, hown, hg⟩ (c_readOneL l o r f_10 a5 g6 (show f_10 21 = (-1) from by rw [← ef_10]; rfl) ((show f_10 19 = f_9 19 from by rw [← ef_10]; rfl).trans ((show f_9 19 = f_8 19 from by rw [← ef_9]; rfl).trans (show f_8 19 = 0 from by rw [← ef_8]; rfl))) hw1.2.2.1 hw1.2.1 ((show f_10 10 = f_9 10 from by rw [← ef_10]; rfl).trans ((show f_9 10 = f_8 10 from by rw [← ef_9]; rfl).trans ((show f_8 10 = f_7 10 from by rw [← ef_8]; rfl).trans ((show f_7 10 = f4 10 from by rw [← ef_7]; rfl).trans hw1.2.2.2)))) ) (cwV 0 hg (kgV wt6_192 wt6_194 wp4_4 wt1_14 wt6_195) rfl rfl rfl (by decide +kernel) ⟨by decide, by decide⟩) hK hP hD hS hA mIs [] rfl (wr := []) rfl rfl rfl (fun i h => by cases h) 0 12 rfl rfl rfl hl.1 rfl (Nat.le_of_ble_eq_true rfl) dX12_reads_29 ⟨by decide, by decide⟩ (fun u12 H locs hw11 hP hD hS => ?_)
  obtain ⟨f14, a15, g16⟩ := u12
  have hP : va_P D vwCl (mW K o r f14 a15 g16) H := hP
  have hD : va_D A (mW K o r f14 a15 g16) := hD
  refine lv_iconst (v := 1) hx hb dX12_reads_32 (by decide) ?_
  refine lv_istore_n (lv' := [(1, .int 1), (0, .ref o)]) hx hb dX12_reads_33 rfl hl (by decide) rfl (fun ls hl => ?_)
  refine lv_aload_n hx hb dX12_reads_34 rfl (lv_at hl 1 rfl) ?_
  refine lv_bipush (v := 59) hx hb dX12_reads_35 (by decide) ?_
  refine kN.callS (As := [.int 59]) (rest := [.ref o]) ⟨hx, hb, hml, hown, hg⟩ (c_sign l ) (va_cwS 1 hg (kgS wt6_220 wt6_221 wt1_14 wt6_222) rfl rfl rfl (by decide +kernel) ⟨by decide, by decide⟩) hP hS rfl hl.1 rfl (Nat.le_of_ble_eq_true rfl) dX12_reads_37 ⟨by decide, by decide⟩ (fun v18 H locs hw17 hP hS => ?_)
  refine k_top (z := 159) (hw17) ?_
  refine kI.callV (As := [.int 159]) (rest := []) ⟨hx, hb, hml, hown, hg⟩ (c_takesBad l o r f14 a15 g16 hw11 159) (cwV 1 hg (kgV wt6_200 wt6_202 wp4_6 wt1_14 wt6_203) rfl rfl rfl (by decide +kernel) ⟨by decide, by decide⟩) hK hP hD hS hA mIs [] rfl (wr := []) rfl rfl rfl (fun i h => by cases h) 0 12 rfl rfl rfl hl.1 rfl (Nat.le_of_ble_eq_true rfl) dX12_reads_40 ⟨by decide, by decide⟩ (fun v21 u20 H locs hw19 hP hD hS => ?_)
  have hP : va_P D vwCl (mW K o r f14 a15 g16) H := hP
  have hD : va_D A (mW K o r f14 a15 g16) := hD
  refine k_top (z := 0) (hw19) ?_
  refine lv_if_eq (tgt := 73) hx hb dX12_reads_43 (by decide) (fun c22 => ?_) (fun c22 => absurd (by decide +kernel) c22)
  refine lv_aload_n hx hb dX12_reads_73 rfl (lv_at hl 1 rfl) ?_
  refine kI.callV (As := []) (rest := []) ⟨hx, hb, hml, hown, hg⟩ (c_fineBad l o r f14 a15 g16 hw11 ) (cwV 0 hg (kgV wt6_204 wt6_206 wp4_7 wt1_14 wt6_207) rfl rfl rfl (by decide +kernel) ⟨by decide, by decide⟩) hK hP hD hS hA mIs [] rfl (wr := []) rfl rfl rfl (fun i h => by cases h) 0 12 rfl rfl rfl hl.1 rfl (Nat.le_of_ble_eq_true rfl) dX12_reads_74 ⟨by decide, by decide⟩ (fun v25 u24 H locs hw23 hP hD hS => ?_)
  have hP : va_P D vwCl (mW K o r f14 a15 g16) H := hP
  have hD : va_D A (mW K o r f14 a15 g16) := hD
  refine k_top (z := 0) (hw23) ?_
  refine lv_if_eq (tgt := 95) hx hb dX12_reads_77 (by decide) (fun c26 => ?_) (fun c26 => absurd (by decide +kernel) c26)
  refine lv_aload_n hx hb dX12_reads_95 rfl (lv_at hl 1 rfl) ?_
  refine lv_aload_n hx hb dX12_reads_96 rfl (lv_at hl 1 rfl) ?_
  refine va_get (D := D) (ci := 12) (v := .int (f14 21)) (C := RX12) (T := TX12) (N := 48) hx hb hg inC12 hown hK hP 0 rfl rfl 21 (by decide) (hg _ wt5_181) (fun _ h9 => h9) rfl dX12_reads_97 ?_
  refine k_top (z := 0) hw11 ?_
  refine va_put (D := D) (ci := 12) (v := .int 0) (ty := .int) (C := RX12) (T := TX12) (N := 48) hx hb hg inC12 tyX12 tyX12_ok nmX12 hown hK hP hD hS 0 rfl rfl 14 (by decide) (hg _ wt5_174) (fun _ h9 => h9) rfl (by decide +kernel) rfl rfl (Nat.le_of_ble_eq_true rfl) dX12_reads_100 (fun H locs hP hD hS => ?_)
  have hP : va_P D vwCl (mW K o r (upd f14 14 0) a15 g16) H := hP
  have hD : va_D A (mW K o r (upd f14 14 0) a15 g16) := hD
  refine k_gen (P := fun z => va_P D vwCl (mW K o r z a15 g16) H ∧ va_D A (mW K o r z a15 g16)) (upd f14 14 0) ⟨hP, hD⟩ (fun f_27 ef_27 hPD => ?_)
  have hP := hPD.1
  have hD := hPD.2
  refine lv_aload_n hx hb dX12_reads_103 rfl (lv_at hl 1 rfl) ?_
  refine kI.callV (As := []) (rest := []) ⟨hx, hb, hml, hown, hg⟩ (c_fineBad l o r f_27 a15 g16 ((show f_27 21 = f14 21 from by rw [← ef_27]; rfl).trans hw11) ) (cwV 0 hg (kgV wt6_204 wt6_206 wp4_7 wt1_14 wt6_207) rfl rfl rfl (by decide +kernel) ⟨by decide, by decide⟩) hK hP hD hS hA mIs [] rfl (wr := []) rfl rfl rfl (fun i h => by cases h) 0 12 rfl rfl rfl hl.1 rfl (Nat.le_of_ble_eq_true rfl) dX12_reads_104 ⟨by decide, by decide⟩ (fun v30 u29 H locs hw28 hP hD hS => ?_)
  have hP : va_P D vwCl (mW K o r f_27 a15 g16) H := hP
  have hD : va_D A (mW K o r f_27 a15 g16) := hD
  refine k_top (z := 0) (hw28) ?_
  exact kI_ret (v := 0) hx hb hr hlocks (by decide +kernel) hK hS dX12_reads_107 (f_27, a15, g16) hP hD rfl
