set_option maxHeartbeats 4000000 in
set_option maxRecDepth 100000 in
theorem c_refuses1 (l : Launch) {D : va_G} {K : Nat → ClassId} (o : Nat) (r : Nat → Nat) (f : Nat → Int32) (a : Nat → Nat → Int32) (g : Nat → Int64)    : kI l yX12_refuses (Cond.code yX12_refuses cX12_refuses 2 (some .int) :: kG) (rmD 1 0 0) D (tysK K) [.ref o, .int (-1)] (mW K o r f a g) (fun v (u : mS) => v = (-1)) (fun u => mW K o r u.1 u.2.1 u.2.2) 0 0 := by
  refine kI.of (cc := cX12_refuses) (maxL := 2) (ret := (some .int)) (by decide) rfl (Nat.le_of_ble_eq_true rfl) ?_
  intro p e s m below meth c A hx hb hr hml hown hts hlocks hnm hK hP hD hS hA ls hl
  have hg : ∀ w ∈ kG, w.before _ s = true := fun w h => hts w (List.mem_cons_of_mem _ h)
  have hown : s.vm.findClass RX12 = some m.cls := hown
  have hl : lv_has ls 2 [(0, .ref o), (1, .int (-1))] := hl
  refine lv_aload_n hx hb dX12_refuses_0 rfl (lv_at hl 0 rfl) ?_
  refine lv_iload_n hx hb dX12_refuses_1 rfl (lv_at hl 1 rfl) ?_
  refine va_put (D := D) (ci := 12) (v := .int (-1)) (ty := .int) (C := RX12) (T := TX12) (N := 48) hx hb hg inC12 tyX12 tyX12_ok nmX12 hown hK hP hD hS 0 rfl rfl 0 (by decide) (hg _ wt5_160) (fun _ h9 => h9) rfl (by decide +kernel) rfl rfl (Nat.le_of_ble_eq_true rfl) dX12_refuses_2 (fun H locs hP hD hS => ?_)
  have hP : va_P D vwCl (mW K o r (upd f 0 (-1)) a g) H := hP
  have hD : va_D A (mW K o r (upd f 0 (-1)) a g) := hD
  refine k_gen (P := fun z => va_P D vwCl (mW K o r z a g) H ∧ va_D A (mW K o r z a g)) (upd f 0 (-1)) ⟨hP, hD⟩ (fun f_1 ef_1 hPD => ?_)
  have hP := hPD.1
  have hD := hPD.2
  refine lv_aload_n hx hb dX12_refuses_5 rfl (lv_at hl 0 rfl) ?_
  refine va_get (D := D) (ci := 12) (v := .ref (r 1)) (C := RX12) (T := TX12) (N := 48) hx hb hg inC12 hown hK hP 0 rfl rfl 1 (by decide) (hg _ wt5_161) (fun _ h9 => h9) rfl dX12_refuses_6 ?_
  refine lv_iload_n hx hb dX12_refuses_9 rfl (lv_at hl 1 rfl) ?_
  refine lv_ineg hx hb dX12_refuses_10 ?_
  refine k_top (z := 1) (by decide +kernel) ?_
  refine lv_dup2_11 hx hb dX12_refuses_11 rfl rfl ?_
  refine va_iald hx hb hK hP 1 0 rfl rfl (k_in (by decide +kernel)) dX12_refuses_12 ?_
  refine lv_topi (fun t2 et2 => ?_)
  rw [cl_1] at et2
  refine lv_iconst (v := 1) hx hb dX12_refuses_13 (by decide) ?_
  refine lv_iadd hx hb dX12_refuses_14 ?_
  refine lv_topi (fun t3 et3 => ?_)
  refine va_iast hx hb hK hP hD hS 1 0 rfl rfl (k_in (by decide +kernel)) dX12_refuses_15 (fun H locs hP hD hS => ?_)
  rw [cl_1] at hP hD
  have hP : va_P D vwCl (mW K o r f_1 (va_up a 1 (upd (a 1) 1 t3)) g) H := hP
  have hD : va_D A (mW K o r f_1 (va_up a 1 (upd (a 1) 1 t3)) g) := hD
  refine k_gen (P := fun z => va_P D vwCl (mW K o r f_1 z g) H ∧ va_D A (mW K o r f_1 z g)) (va_up a 1 (upd (a 1) 1 t3)) ⟨hP, hD⟩ (fun a_4 ea_4 hPD => ?_)
  have hP := hPD.1
  have hD := hPD.2
  refine lv_iload_n hx hb dX12_refuses_16 rfl (lv_at hl 1 rfl) ?_
  exact kI_ret (v := (-1)) hx hb hr hlocks rfl hK hS dX12_refuses_17 (f_1, a_4, g) hP hD rfl
set_option maxHeartbeats 4000000 in
set_option maxRecDepth 100000 in
theorem c_refuses2 (l : Launch) {D : va_G} {K : Nat → ClassId} (o : Nat) (r : Nat → Nat) (f : Nat → Int32) (a : Nat → Nat → Int32) (g : Nat → Int64)    : kI l yX12_refuses (Cond.code yX12_refuses cX12_refuses 2 (some .int) :: kG) (rmD 1 0 0) D (tysK K) [.ref o, .int (-2)] (mW K o r f a g) (fun v (u : mS) => v = (-2)) (fun u => mW K o r u.1 u.2.1 u.2.2) 0 0 := by
  refine kI.of (cc := cX12_refuses) (maxL := 2) (ret := (some .int)) (by decide) rfl (Nat.le_of_ble_eq_true rfl) ?_
  intro p e s m below meth c A hx hb hr hml hown hts hlocks hnm hK hP hD hS hA ls hl
  have hg : ∀ w ∈ kG, w.before _ s = true := fun w h => hts w (List.mem_cons_of_mem _ h)
  have hown : s.vm.findClass RX12 = some m.cls := hown
  have hl : lv_has ls 2 [(0, .ref o), (1, .int (-2))] := hl
  refine lv_aload_n hx hb dX12_refuses_0 rfl (lv_at hl 0 rfl) ?_
  refine lv_iload_n hx hb dX12_refuses_1 rfl (lv_at hl 1 rfl) ?_
  refine va_put (D := D) (ci := 12) (v := .int (-2)) (ty := .int) (C := RX12) (T := TX12) (N := 48) hx hb hg inC12 tyX12 tyX12_ok nmX12 hown hK hP hD hS 0 rfl rfl 0 (by decide) (hg _ wt5_160) (fun _ h9 => h9) rfl (by decide +kernel) rfl rfl (Nat.le_of_ble_eq_true rfl) dX12_refuses_2 (fun H locs hP hD hS => ?_)
  have hP : va_P D vwCl (mW K o r (upd f 0 (-2)) a g) H := hP
  have hD : va_D A (mW K o r (upd f 0 (-2)) a g) := hD
  refine k_gen (P := fun z => va_P D vwCl (mW K o r z a g) H ∧ va_D A (mW K o r z a g)) (upd f 0 (-2)) ⟨hP, hD⟩ (fun f_1 ef_1 hPD => ?_)
  have hP := hPD.1
  have hD := hPD.2
  refine lv_aload_n hx hb dX12_refuses_5 rfl (lv_at hl 0 rfl) ?_
  refine va_get (D := D) (ci := 12) (v := .ref (r 1)) (C := RX12) (T := TX12) (N := 48) hx hb hg inC12 hown hK hP 0 rfl rfl 1 (by decide) (hg _ wt5_161) (fun _ h9 => h9) rfl dX12_refuses_6 ?_
  refine lv_iload_n hx hb dX12_refuses_9 rfl (lv_at hl 1 rfl) ?_
  refine lv_ineg hx hb dX12_refuses_10 ?_
  refine k_top (z := 2) (by decide +kernel) ?_
  refine lv_dup2_11 hx hb dX12_refuses_11 rfl rfl ?_
  refine va_iald hx hb hK hP 1 0 rfl rfl (k_in (by decide +kernel)) dX12_refuses_12 ?_
  refine lv_topi (fun t2 et2 => ?_)
  rw [cl_2] at et2
  refine lv_iconst (v := 1) hx hb dX12_refuses_13 (by decide) ?_
  refine lv_iadd hx hb dX12_refuses_14 ?_
  refine lv_topi (fun t3 et3 => ?_)
  refine va_iast hx hb hK hP hD hS 1 0 rfl rfl (k_in (by decide +kernel)) dX12_refuses_15 (fun H locs hP hD hS => ?_)
  rw [cl_2] at hP hD
  have hP : va_P D vwCl (mW K o r f_1 (va_up a 1 (upd (a 1) 2 t3)) g) H := hP
  have hD : va_D A (mW K o r f_1 (va_up a 1 (upd (a 1) 2 t3)) g) := hD
  refine k_gen (P := fun z => va_P D vwCl (mW K o r f_1 z g) H ∧ va_D A (mW K o r f_1 z g)) (va_up a 1 (upd (a 1) 2 t3)) ⟨hP, hD⟩ (fun a_4 ea_4 hPD => ?_)
  have hP := hPD.1
  have hD := hPD.2
  refine lv_iload_n hx hb dX12_refuses_16 rfl (lv_at hl 1 rfl) ?_
  exact kI_ret (v := (-2)) hx hb hr hlocks rfl hK hS dX12_refuses_17 (f_1, a_4, g) hP hD rfl
set_option maxHeartbeats 4000000 in
set_option maxRecDepth 100000 in
theorem c_refuses3 (l : Launch) {D : va_G} {K : Nat → ClassId} (o : Nat) (r : Nat → Nat) (f : Nat → Int32) (a : Nat → Nat → Int32) (g : Nat → Int64)    : kI l yX12_refuses (Cond.code yX12_refuses cX12_refuses 2 (some .int) :: kG) (rmD 1 0 0) D (tysK K) [.ref o, .int (-3)] (mW K o r f a g) (fun v (u : mS) => v = (-3)) (fun u => mW K o r u.1 u.2.1 u.2.2) 0 0 := by
  refine kI.of (cc := cX12_refuses) (maxL := 2) (ret := (some .int)) (by decide) rfl (Nat.le_of_ble_eq_true rfl) ?_
  intro p e s m below meth c A hx hb hr hml hown hts hlocks hnm hK hP hD hS hA ls hl
  have hg : ∀ w ∈ kG, w.before _ s = true := fun w h => hts w (List.mem_cons_of_mem _ h)
  have hown : s.vm.findClass RX12 = some m.cls := hown
  have hl : lv_has ls 2 [(0, .ref o), (1, .int (-3))] := hl
  refine lv_aload_n hx hb dX12_refuses_0 rfl (lv_at hl 0 rfl) ?_
  refine lv_iload_n hx hb dX12_refuses_1 rfl (lv_at hl 1 rfl) ?_
  refine va_put (D := D) (ci := 12) (v := .int (-3)) (ty := .int) (C := RX12) (T := TX12) (N := 48) hx hb hg inC12 tyX12 tyX12_ok nmX12 hown hK hP hD hS 0 rfl rfl 0 (by decide) (hg _ wt5_160) (fun _ h9 => h9) rfl (by decide +kernel) rfl rfl (Nat.le_of_ble_eq_true rfl) dX12_refuses_2 (fun H locs hP hD hS => ?_)
  have hP : va_P D vwCl (mW K o r (upd f 0 (-3)) a g) H := hP
  have hD : va_D A (mW K o r (upd f 0 (-3)) a g) := hD
  refine k_gen (P := fun z => va_P D vwCl (mW K o r z a g) H ∧ va_D A (mW K o r z a g)) (upd f 0 (-3)) ⟨hP, hD⟩ (fun f_1 ef_1 hPD => ?_)
  have hP := hPD.1
  have hD := hPD.2
  refine lv_aload_n hx hb dX12_refuses_5 rfl (lv_at hl 0 rfl) ?_
  refine va_get (D := D) (ci := 12) (v := .ref (r 1)) (C := RX12) (T := TX12) (N := 48) hx hb hg inC12 hown hK hP 0 rfl rfl 1 (by decide) (hg _ wt5_161) (fun _ h9 => h9) rfl dX12_refuses_6 ?_
  refine lv_iload_n hx hb dX12_refuses_9 rfl (lv_at hl 1 rfl) ?_
  refine lv_ineg hx hb dX12_refuses_10 ?_
  refine k_top (z := 3) (by decide +kernel) ?_
  refine lv_dup2_11 hx hb dX12_refuses_11 rfl rfl ?_
  refine va_iald hx hb hK hP 1 0 rfl rfl (k_in (by decide +kernel)) dX12_refuses_12 ?_
  refine lv_topi (fun t2 et2 => ?_)
  rw [cl_3] at et2
  refine lv_iconst (v := 1) hx hb dX12_refuses_13 (by decide) ?_
  refine lv_iadd hx hb dX12_refuses_14 ?_
  refine lv_topi (fun t3 et3 => ?_)
  refine va_iast hx hb hK hP hD hS 1 0 rfl rfl (k_in (by decide +kernel)) dX12_refuses_15 (fun H locs hP hD hS => ?_)
  rw [cl_3] at hP hD
  have hP : va_P D vwCl (mW K o r f_1 (va_up a 1 (upd (a 1) 3 t3)) g) H := hP
  have hD : va_D A (mW K o r f_1 (va_up a 1 (upd (a 1) 3 t3)) g) := hD
  refine k_gen (P := fun z => va_P D vwCl (mW K o r f_1 z g) H ∧ va_D A (mW K o r f_1 z g)) (va_up a 1 (upd (a 1) 3 t3)) ⟨hP, hD⟩ (fun a_4 ea_4 hPD => ?_)
  have hP := hPD.1
  have hD := hPD.2
  refine lv_iload_n hx hb dX12_refuses_16 rfl (lv_at hl 1 rfl) ?_
  exact kI_ret (v := (-3)) hx hb hr hlocks rfl hK hS dX12_refuses_17 (f_1, a_4, g) hP hD rfl
set_option maxHeartbeats 4000000 in
set_option maxRecDepth 100000 in
theorem c_refuses6 (l : Launch) {D : va_G} {K : Nat → ClassId} (o : Nat) (r : Nat → Nat) (f : Nat → Int32) (a : Nat → Nat → Int32) (g : Nat → Int64)    : kI l yX12_refuses (Cond.code yX12_refuses cX12_refuses 2 (some .int) :: kG) (rmD 1 0 0) D (tysK K) [.ref o, .int (-6)] (mW K o r f a g) (fun v (u : mS) => v = (-6)) (fun u => mW K o r u.1 u.2.1 u.2.2) 0 0 := by
  refine kI.of (cc := cX12_refuses) (maxL := 2) (ret := (some .int)) (by decide) rfl (Nat.le_of_ble_eq_true rfl) ?_
  intro p e s m below meth c A hx hb hr hml hown hts hlocks hnm hK hP hD hS hA ls hl
  have hg : ∀ w ∈ kG, w.before _ s = true := fun w h => hts w (List.mem_cons_of_mem _ h)
  have hown : s.vm.findClass RX12 = some m.cls := hown
  have hl : lv_has ls 2 [(0, .ref o), (1, .int (-6))] := hl
  refine lv_aload_n hx hb dX12_refuses_0 rfl (lv_at hl 0 rfl) ?_
  refine lv_iload_n hx hb dX12_refuses_1 rfl (lv_at hl 1 rfl) ?_
  refine va_put (D := D) (ci := 12) (v := .int (-6)) (ty := .int) (C := RX12) (T := TX12) (N := 48) hx hb hg inC12 tyX12 tyX12_ok nmX12 hown hK hP hD hS 0 rfl rfl 0 (by decide) (hg _ wt5_160) (fun _ h9 => h9) rfl (by decide +kernel) rfl rfl (Nat.le_of_ble_eq_true rfl) dX12_refuses_2 (fun H locs hP hD hS => ?_)
  have hP : va_P D vwCl (mW K o r (upd f 0 (-6)) a g) H := hP
  have hD : va_D A (mW K o r (upd f 0 (-6)) a g) := hD
  refine k_gen (P := fun z => va_P D vwCl (mW K o r z a g) H ∧ va_D A (mW K o r z a g)) (upd f 0 (-6)) ⟨hP, hD⟩ (fun f_1 ef_1 hPD => ?_)
  have hP := hPD.1
  have hD := hPD.2
  refine lv_aload_n hx hb dX12_refuses_5 rfl (lv_at hl 0 rfl) ?_
  refine va_get (D := D) (ci := 12) (v := .ref (r 1)) (C := RX12) (T := TX12) (N := 48) hx hb hg inC12 hown hK hP 0 rfl rfl 1 (by decide) (hg _ wt5_161) (fun _ h9 => h9) rfl dX12_refuses_6 ?_
  refine lv_iload_n hx hb dX12_refuses_9 rfl (lv_at hl 1 rfl) ?_
  refine lv_ineg hx hb dX12_refuses_10 ?_
  refine k_top (z := 6) (by decide +kernel) ?_
  refine lv_dup2_11 hx hb dX12_refuses_11 rfl rfl ?_
  refine va_iald hx hb hK hP 1 0 rfl rfl (k_in (by decide +kernel)) dX12_refuses_12 ?_
  refine lv_topi (fun t2 et2 => ?_)
  rw [cl_6] at et2
  refine lv_iconst (v := 1) hx hb dX12_refuses_13 (by decide) ?_
  refine lv_iadd hx hb dX12_refuses_14 ?_
  refine lv_topi (fun t3 et3 => ?_)
  refine va_iast hx hb hK hP hD hS 1 0 rfl rfl (k_in (by decide +kernel)) dX12_refuses_15 (fun H locs hP hD hS => ?_)
  rw [cl_6] at hP hD
  have hP : va_P D vwCl (mW K o r f_1 (va_up a 1 (upd (a 1) 6 t3)) g) H := hP
  have hD : va_D A (mW K o r f_1 (va_up a 1 (upd (a 1) 6 t3)) g) := hD
  refine k_gen (P := fun z => va_P D vwCl (mW K o r f_1 z g) H ∧ va_D A (mW K o r f_1 z g)) (va_up a 1 (upd (a 1) 6 t3)) ⟨hP, hD⟩ (fun a_4 ea_4 hPD => ?_)
  have hP := hPD.1
  have hD := hPD.2
  refine lv_iload_n hx hb dX12_refuses_16 rfl (lv_at hl 1 rfl) ?_
  exact kI_ret (v := (-6)) hx hb hr hlocks rfl hK hS dX12_refuses_17 (f_1, a_4, g) hP hD rfl
set_option maxHeartbeats 4000000 in
set_option maxRecDepth 100000 in
theorem c_canPart (l : Launch) {D : va_G} {K : Nat → ClassId} (o : Nat) (r : Nat → Nat) (f : Nat → Int32) (a : Nat → Nat → Int32) (g : Nat → Int64) (h0 : a 2 102 = 0) (x : Int32) (y : Int32) (z : Int32) (w : Int32)  : kI l yX12_canPart (Cond.code yX12_canPart cX12_canPart 5 (some .boolean) :: kG) (rmD 2 0 0) D (tysK K) [.ref o, .int x, .int y, .int z, .int w] (mW K o r f a g) (fun v (_ : Unit) => v = (if mLies x 1 99 = 0 then 0 else if mLies y 0 0 = 0 then 0 else if mLies z 0 3 = 0 then 0 else if mLies w 0 9 = 0 then 0 else 1)) (fun _ => mW K o r f a g) 0 0 := by
  refine kI.of (cc := cX12_canPart) (maxL := 5) (ret := (some .boolean)) (by decide) rfl (Nat.le_of_ble_eq_true rfl) ?_
  intro p e s m below meth c A hx hb hr hml hown hts hlocks hnm hK hP hD hS hA ls hl
  have hg : ∀ w ∈ kG, w.before _ s = true := fun w h => hts w (List.mem_cons_of_mem _ h)
  have hown : s.vm.findClass RX12 = some m.cls := hown
  have hl : lv_has ls 5 [(0, .ref o), (1, .int x), (2, .int y), (3, .int z), (4, .int w)] := hl
  refine lv_iload_n hx hb dX12_canPart_0 rfl (lv_at hl 1 rfl) ?_
  refine lv_iconst (v := 1) hx hb dX12_canPart_1 (by decide) ?_
  refine lv_bipush (v := 99) hx hb dX12_canPart_2 (by decide) ?_
  refine kN.callS (As := [.int x, .int 1, .int 99]) (rest := []) ⟨hx, hb, hml, hown, hg⟩ (c_lies l x 1 99) (va_cwS 3 hg (kgS wt6_69 wt6_70 wt1_14 wt6_71) rfl rfl rfl (by decide +kernel) ⟨by decide, by decide⟩) hP hS rfl hl.1 rfl (Nat.le_of_ble_eq_true rfl) dX12_canPart_4 ⟨by decide, by decide⟩ (fun v2 H locs hw1 hP hS => ?_)
  refine k_top (z := mLies x 1 99) hw1 ?_
  refine lv_if_eq (tgt := 53) hx hb dX12_canPart_7 (by decide) (fun c3 => ?_) (fun c3 => ?_)
  · refine lv_iconst (v := 0) hx hb dX12_canPart_53 (by decide) ?_
    exact kI_ret (v := 0) hx hb hr hlocks (by decide +kernel) hK hS dX12_canPart_54 () hP hD (by simp [c3])
  · refine lv_iload_n hx hb dX12_canPart_10 rfl (lv_at hl 2 rfl) ?_
    refine lv_iconst (v := 0) hx hb dX12_canPart_11 (by decide) ?_
    refine lv_iconst (v := 1) hx hb dX12_canPart_12 (by decide) ?_
    refine lv_aload_n hx hb dX12_canPart_13 rfl (lv_at hl 0 rfl) ?_
    refine va_get (D := D) (ci := 12) (v := .ref (r 2)) (C := RX12) (T := TX12) (N := 48) hx hb hg inC12 hown hK hP 0 rfl rfl 2 (by decide) (hg _ wt5_162) (fun _ h9 => h9) rfl dX12_canPart_14 ?_
    refine lv_bipush (v := 102) hx hb dX12_canPart_17 (by decide) ?_
    refine va_iald hx hb hK hP 2 0 rfl rfl (k_in (by decide +kernel)) dX12_canPart_19 ?_
    refine k_top (z := 0) (by rw [cl_102]; exact h0) ?_
    refine lv_ishl hx hb dX12_canPart_20 ?_
    refine k_top (z := 1) (by decide +kernel) ?_
    refine lv_iconst (v := 1) hx hb dX12_canPart_21 (by decide) ?_
    refine lv_isub hx hb dX12_canPart_22 ?_
    refine k_top (z := 0) (by decide +kernel) ?_
    refine kN.callS (As := [.int y, .int 0, .int 0]) (rest := []) ⟨hx, hb, hml, hown, hg⟩ (c_lies l y 0 0) (va_cwS 3 hg (kgS wt6_69 wt6_70 wt1_14 wt6_71) rfl rfl rfl (by decide +kernel) ⟨by decide, by decide⟩) hP hS rfl hl.1 rfl (Nat.le_of_ble_eq_true rfl) dX12_canPart_23 ⟨by decide, by decide⟩ (fun v5 H locs hw4 hP hS => ?_)
    refine k_top (z := mLies y 0 0) hw4 ?_
    refine lv_if_eq (tgt := 53) hx hb dX12_canPart_26 (by decide) (fun c6 => ?_) (fun c6 => ?_)
    · refine lv_iconst (v := 0) hx hb dX12_canPart_53 (by decide) ?_
      exact kI_ret (v := 0) hx hb hr hlocks (by decide +kernel) hK hS dX12_canPart_54 () hP hD (by simp [c3, c6])
    · refine lv_iload_n hx hb dX12_canPart_29 rfl (lv_at hl 3 rfl) ?_
      refine lv_iconst (v := 0) hx hb dX12_canPart_30 (by decide) ?_
      refine lv_iconst (v := 3) hx hb dX12_canPart_31 (by decide) ?_
      refine kN.callS (As := [.int z, .int 0, .int 3]) (rest := []) ⟨hx, hb, hml, hown, hg⟩ (c_lies l z 0 3) (va_cwS 3 hg (kgS wt6_69 wt6_70 wt1_14 wt6_71) rfl rfl rfl (by decide +kernel) ⟨by decide, by decide⟩) hP hS rfl hl.1 rfl (Nat.le_of_ble_eq_true rfl) dX12_canPart_32 ⟨by decide, by decide⟩ (fun v8 H locs hw7 hP hS => ?_)
      refine k_top (z := mLies z 0 3) hw7 ?_
      refine lv_if_eq (tgt := 53) hx hb dX12_canPart_35 (by decide) (fun c9 => ?_) (fun c9 => ?_)
      · refine lv_iconst (v := 0) hx hb dX12_canPart_53 (by decide) ?_
        exact kI_ret (v := 0) hx hb hr hlocks (by decide +kernel) hK hS dX12_canPart_54 () hP hD (by simp [c3, c6, c9])
      · refine lv_iload hx hb dX12_canPart_38 (lv_at hl 4 rfl) ?_
        refine lv_iconst (v := 0) hx hb dX12_canPart_40 (by decide) ?_
        refine lv_bipush (v := 9) hx hb dX12_canPart_41 (by decide) ?_
        refine kN.callS (As := [.int w, .int 0, .int 9]) (rest := []) ⟨hx, hb, hml, hown, hg⟩ (c_lies l w 0 9) (va_cwS 3 hg (kgS wt6_69 wt6_70 wt1_14 wt6_71) rfl rfl rfl (by decide +kernel) ⟨by decide, by decide⟩) hP hS rfl hl.1 rfl (Nat.le_of_ble_eq_true rfl) dX12_canPart_43 ⟨by decide, by decide⟩ (fun v11 H locs hw10 hP hS => ?_)
        refine k_top (z := mLies w 0 9) hw10 ?_
        refine lv_if_eq (tgt := 53) hx hb dX12_canPart_46 (by decide) (fun c12 => ?_) (fun c12 => ?_)
        · refine lv_iconst (v := 0) hx hb dX12_canPart_53 (by decide) ?_
          exact kI_ret (v := 0) hx hb hr hlocks (by decide +kernel) hK hS dX12_canPart_54 () hP hD (by simp [c3, c6, c9, c12])
        · refine lv_iconst (v := 1) hx hb dX12_canPart_49 (by decide) ?_
          refine lv_goto (tgt := 54) hx hb dX12_canPart_50 (by decide) ?_
          exact kI_ret (v := 1) hx hb hr hlocks (by decide +kernel) hK hS dX12_canPart_54 () hP hD (by simp [c3, c6, c9, c12])
set_option maxHeartbeats 4000000 in
set_option maxRecDepth 100000 in
theorem c_addsPart (l : Launch) {D : va_G} {K : Nat → ClassId} (o : Nat) (r : Nat → Nat) (f : Nat → Int32) (a : Nat → Nat → Int32) (g : Nat → Int64) (h0 : a 2 102 = 0) (x : Int32) (y : Int32) (z : Int32) (w : Int32)  : kV l yX12_addsPart (Cond.code yX12_addsPart cX12_addsPart 6 none :: kG) (rmD 1 0 0) D (tysK K) [.ref o, .int x, .int y, .int z, .int w] (mW K o r f a g) (fun (u : mS) => u.2.1 2 102 = 1) (fun u => mW K o r u.1 u.2.1 u.2.2) 0 0 := by
  refine kV.of (cc := cX12_addsPart) (maxL := 6) (ret := none) (by decide) rfl (Nat.le_of_ble_eq_true rfl) ?_
  intro p e s m below meth c A hx hb hr hml hown hts hlocks hnm hK hP hD hS hA ls hl
  have hg : ∀ w ∈ kG, w.before _ s = true := fun w h => hts w (List.mem_cons_of_mem _ h)
  have hown : s.vm.findClass RX12 = some m.cls := hown
  have hl : lv_has ls 6 [(0, .ref o), (1, .int x), (2, .int y), (3, .int z), (4, .int w)] := hl
  refine lv_aload_n hx hb dX12_addsPart_0 rfl (lv_at hl 0 rfl) ?_
  refine va_get (D := D) (ci := 12) (v := .ref (r 2)) (C := RX12) (T := TX12) (N := 48) hx hb hg inC12 hown hK hP 0 rfl rfl 2 (by decide) (hg _ wt5_162) (fun _ h9 => h9) rfl dX12_addsPart_1 ?_
  refine lv_bipush (v := 102) hx hb dX12_addsPart_4 (by decide) ?_
  refine va_iald hx hb hK hP 2 0 rfl rfl (k_in (by decide +kernel)) dX12_addsPart_6 ?_
  refine k_top (z := 0) (by rw [cl_102]; exact h0) ?_
  refine lv_istore (lv' := [(5, .int 0), (0, .ref o), (1, .int x), (2, .int y), (3, .int z), (4, .int w)]) hx hb dX12_addsPart_7 hl (by decide) rfl (fun ls hl => ?_)
  refine lv_aload_n hx hb dX12_addsPart_9 rfl (lv_at hl 1 rfl) ?_
  refine va_get (D := D) (ci := 12) (v := .ref (r 2)) (C := RX12) (T := TX12) (N := 48) hx hb hg inC12 hown hK hP 0 rfl rfl 2 (by decide) (hg _ wt5_162) (fun _ h9 => h9) rfl dX12_addsPart_10 ?_
  refine lv_bipush (v := 23) hx hb dX12_addsPart_13 (by decide) ?_
  refine lv_iload hx hb dX12_addsPart_15 (lv_at hl 0 rfl) ?_
  refine lv_iadd hx hb dX12_addsPart_17 ?_
  refine k_top (z := 23) (by decide +kernel) ?_
  refine lv_iload_n hx hb dX12_addsPart_18 rfl (lv_at hl 2 rfl) ?_
  refine va_iast hx hb hK hP hD hS 2 0 rfl rfl (k_in (by decide +kernel)) dX12_addsPart_19 (fun H locs hP hD hS => ?_)
  rw [cl_23] at hP hD
  have hP : va_P D vwCl (mW K o r f (va_up a 2 (upd (a 2) 23 x)) g) H := hP
  have hD : va_D A (mW K o r f (va_up a 2 (upd (a 2) 23 x)) g) := hD
  refine k_gen (P := fun z => va_P D vwCl (mW K o r f z g) H ∧ va_D A (mW K o r f z g)) (va_up a 2 (upd (a 2) 23 x)) ⟨hP, hD⟩ (fun a_1 ea_1 hPD => ?_)
  have hP := hPD.1
  have hD := hPD.2
  refine lv_aload_n hx hb dX12_addsPart_20 rfl (lv_at hl 1 rfl) ?_
  refine va_get (D := D) (ci := 12) (v := .ref (r 2)) (C := RX12) (T := TX12) (N := 48) hx hb hg inC12 hown hK hP 0 rfl rfl 2 (by decide) (hg _ wt5_162) (fun _ h9 => h9) rfl dX12_addsPart_21 ?_
  refine lv_bipush (v := 33) hx hb dX12_addsPart_24 (by decide) ?_
  refine lv_iload hx hb dX12_addsPart_26 (lv_at hl 0 rfl) ?_
  refine lv_iadd hx hb dX12_addsPart_28 ?_
  refine k_top (z := 33) (by decide +kernel) ?_
  refine lv_iload_n hx hb dX12_addsPart_29 rfl (lv_at hl 3 rfl) ?_
  refine va_iast hx hb hK hP hD hS 2 0 rfl rfl (k_in (by decide +kernel)) dX12_addsPart_30 (fun H locs hP hD hS => ?_)
  rw [cl_33] at hP hD
  have hP : va_P D vwCl (mW K o r f (va_up a_1 2 (upd (a_1 2) 33 y)) g) H := hP
  have hD : va_D A (mW K o r f (va_up a_1 2 (upd (a_1 2) 33 y)) g) := hD
  refine k_gen (P := fun z => va_P D vwCl (mW K o r f z g) H ∧ va_D A (mW K o r f z g)) (va_up a_1 2 (upd (a_1 2) 33 y)) ⟨hP, hD⟩ (fun a_2 ea_2 hPD => ?_)
  have hP := hPD.1
  have hD := hPD.2
  refine lv_aload_n hx hb dX12_addsPart_31 rfl (lv_at hl 1 rfl) ?_
  refine va_get (D := D) (ci := 12) (v := .ref (r 2)) (C := RX12) (T := TX12) (N := 48) hx hb hg inC12 hown hK hP 0 rfl rfl 2 (by decide) (hg _ wt5_162) (fun _ h9 => h9) rfl dX12_addsPart_32 ?_
  refine lv_bipush (v := 43) hx hb dX12_addsPart_35 (by decide) ?_
  refine lv_iload hx hb dX12_addsPart_37 (lv_at hl 0 rfl) ?_
  refine lv_iadd hx hb dX12_addsPart_39 ?_
  refine k_top (z := 43) (by decide +kernel) ?_
  refine lv_iload_n hx hb dX12_addsPart_40 rfl (lv_at hl 4 rfl) ?_
  refine va_iast hx hb hK hP hD hS 2 0 rfl rfl (k_in (by decide +kernel)) dX12_addsPart_41 (fun H locs hP hD hS => ?_)
  rw [cl_43] at hP hD
  have hP : va_P D vwCl (mW K o r f (va_up a_2 2 (upd (a_2 2) 43 z)) g) H := hP
  have hD : va_D A (mW K o r f (va_up a_2 2 (upd (a_2 2) 43 z)) g) := hD
  refine k_gen (P := fun z => va_P D vwCl (mW K o r f z g) H ∧ va_D A (mW K o r f z g)) (va_up a_2 2 (upd (a_2 2) 43 z)) ⟨hP, hD⟩ (fun a_3 ea_3 hPD => ?_)
  have hP := hPD.1
  have hD := hPD.2
  refine lv_aload_n hx hb dX12_addsPart_42 rfl (lv_at hl 1 rfl) ?_
  refine va_get (D := D) (ci := 12) (v := .ref (r 2)) (C := RX12) (T := TX12) (N := 48) hx hb hg inC12 hown hK hP 0 rfl rfl 2 (by decide) (hg _ wt5_162) (fun _ h9 => h9) rfl dX12_addsPart_43 ?_
  refine lv_bipush (v := 53) hx hb dX12_addsPart_46 (by decide) ?_
  refine lv_iload hx hb dX12_addsPart_48 (lv_at hl 0 rfl) ?_
  refine lv_iadd hx hb dX12_addsPart_50 ?_
  refine k_top (z := 53) (by decide +kernel) ?_
  refine lv_iload hx hb dX12_addsPart_51 (lv_at hl 5 rfl) ?_
  refine va_iast hx hb hK hP hD hS 2 0 rfl rfl (k_in (by decide +kernel)) dX12_addsPart_53 (fun H locs hP hD hS => ?_)
  rw [cl_53] at hP hD
  have hP : va_P D vwCl (mW K o r f (va_up a_3 2 (upd (a_3 2) 53 w)) g) H := hP
  have hD : va_D A (mW K o r f (va_up a_3 2 (upd (a_3 2) 53 w)) g) := hD
  refine k_gen (P := fun z => va_P D vwCl (mW K o r f z g) H ∧ va_D A (mW K o r f z g)) (va_up a_3 2 (upd (a_3 2) 53 w)) ⟨hP, hD⟩ (fun a_4 ea_4 hPD => ?_)
  have hP := hPD.1
  have hD := hPD.2
  refine lv_aload_n hx hb dX12_addsPart_54 rfl (lv_at hl 1 rfl) ?_
  refine va_get (D := D) (ci := 12) (v := .ref (r 2)) (C := RX12) (T := TX12) (N := 48) hx hb hg inC12 hown hK hP 0 rfl rfl 2 (by decide) (hg _ wt5_162) (fun _ h9 => h9) rfl dX12_addsPart_55 ?_
  refine lv_iconst (v := 0) hx hb dX12_addsPart_58 (by decide) ?_
  refine lv_iload hx hb dX12_addsPart_59 (lv_at hl 0 rfl) ?_
  refine lv_iadd hx hb dX12_addsPart_61 ?_
  refine k_top (z := 0) (by decide +kernel) ?_
  refine lv_iload_n hx hb dX12_addsPart_62 rfl (lv_at hl 2 rfl) ?_
  refine va_iast hx hb hK hP hD hS 2 0 rfl rfl (k_in (by decide +kernel)) dX12_addsPart_63 (fun H locs hP hD hS => ?_)
  rw [cl_0] at hP hD
  have hP : va_P D vwCl (mW K o r f (va_up a_4 2 (upd (a_4 2) 0 x)) g) H := hP
  have hD : va_D A (mW K o r f (va_up a_4 2 (upd (a_4 2) 0 x)) g) := hD
  refine k_gen (P := fun z => va_P D vwCl (mW K o r f z g) H ∧ va_D A (mW K o r f z g)) (va_up a_4 2 (upd (a_4 2) 0 x)) ⟨hP, hD⟩ (fun a_5 ea_5 hPD => ?_)
  have hP := hPD.1
  have hD := hPD.2
  refine lv_aload_n hx hb dX12_addsPart_64 rfl (lv_at hl 1 rfl) ?_
  refine va_get (D := D) (ci := 12) (v := .ref (r 2)) (C := RX12) (T := TX12) (N := 48) hx hb hg inC12 hown hK hP 0 rfl rfl 2 (by decide) (hg _ wt5_162) (fun _ h9 => h9) rfl dX12_addsPart_65 ?_
  refine lv_bipush (v := 102) hx hb dX12_addsPart_68 (by decide) ?_
  refine lv_dup2_11 hx hb dX12_addsPart_70 rfl rfl ?_
  refine va_iald hx hb hK hP 2 0 rfl rfl (k_in (by decide +kernel)) dX12_addsPart_71 ?_
  refine k_top (z := 0) (by rw [cl_102]; exact ((show a_5 2 102 = a_4 2 102 from by rw [← ea_5]; rfl).trans ((show a_4 2 102 = a_3 2 102 from by rw [← ea_4]; rfl).trans ((show a_3 2 102 = a_2 2 102 from by rw [← ea_3]; rfl).trans ((show a_2 2 102 = a_1 2 102 from by rw [← ea_2]; rfl).trans ((show a_1 2 102 = a 2 102 from by rw [← ea_1]; rfl).trans h0)))))) ?_
  refine lv_iconst (v := 1) hx hb dX12_addsPart_72 (by decide) ?_
  refine lv_iadd hx hb dX12_addsPart_73 ?_
  refine k_top (z := 1) (by decide +kernel) ?_
  refine va_iast hx hb hK hP hD hS 2 0 rfl rfl (k_in (by decide +kernel)) dX12_addsPart_74 (fun H locs hP hD hS => ?_)
  rw [cl_102] at hP hD
  have hP : va_P D vwCl (mW K o r f (va_up a_5 2 (upd (a_5 2) 102 1)) g) H := hP
  have hD : va_D A (mW K o r f (va_up a_5 2 (upd (a_5 2) 102 1)) g) := hD
  refine k_gen (P := fun z => va_P D vwCl (mW K o r f z g) H ∧ va_D A (mW K o r f z g)) (va_up a_5 2 (upd (a_5 2) 102 1)) ⟨hP, hD⟩ (fun a_6 ea_6 hPD => ?_)
  have hP := hPD.1
  have hD := hPD.2
  exact kV_ret hx hb hr hlocks hK hS dX12_addsPart_75 (f, a_6, g) hP hD (show a_6 2 102 = 1 from by rw [← ea_6]; rfl)
set_option maxHeartbeats 4000000 in
set_option maxRecDepth 100000 in
theorem c_part (l : Launch) {D : va_G} {K : Nat → ClassId} (o : Nat) (r : Nat → Nat) (f : Nat → Int32) (a : Nat → Nat → Int32) (g : Nat → Int64) (h0 : a 2 102 = 0) (x : Int32) (y : Int32) (z : Int32) (w : Int32)  : kI l yX12_part (Cond.code yX12_part cX12_part 5 (some .int) :: kG) (rmD 3 0 0) D (tysK K) [.ref o, .int x, .int y, .int z, .int w] (mW K o r f a g) (fun v (u : mS) => v = (if (if mLies x 1 99 = 0 then (0 : Int32) else if mLies y 0 0 = 0 then 0 else if mLies z 0 3 = 0 then 0 else if mLies w 0 9 = 0 then 0 else 1) = 0 then (-1 : Int32) else 0)) (fun u => mW K o r u.1 u.2.1 u.2.2) 0 0 := by
  refine kI.of (cc := cX12_part) (maxL := 5) (ret := (some .int)) (by decide) rfl (Nat.le_of_ble_eq_true rfl) ?_
  intro p e s m below meth c A hx hb hr hml hown hts hlocks hnm hK hP hD hS hA ls hl
  have hg : ∀ w ∈ kG, w.before _ s = true := fun w h => hts w (List.mem_cons_of_mem _ h)
  have hown : s.vm.findClass RX12 = some m.cls := hown
  have hl : lv_has ls 5 [(0, .ref o), (1, .int x), (2, .int y), (3, .int z), (4, .int w)] := hl
  refine lv_aload_n hx hb dX12_part_0 rfl (lv_at hl 0 rfl) ?_
  refine lv_iload_n hx hb dX12_part_1 rfl (lv_at hl 1 rfl) ?_
  refine lv_iload_n hx hb dX12_part_2 rfl (lv_at hl 2 rfl) ?_
  refine lv_iload_n hx hb dX12_part_3 rfl (lv_at hl 3 rfl) ?_
  refine lv_iload hx hb dX12_part_4 (lv_at hl 4 rfl) ?_
  refine kI.callV (As := [.int x, .int y, .int z, .int w]) (rest := []) ⟨hx, hb, hml, hown, hg⟩ (c_canPart l o r f a g h0 x y z w) (cwV 4 hg (kgV wt6_92 wt6_94 wp3_8 wt1_14 wt6_95) rfl rfl rfl (by decide +kernel) ⟨by decide, by decide⟩) hK hP hD hS hA mIs [] rfl (wr := []) rfl rfl rfl (fun i h => by cases h) 0 12 rfl rfl rfl hl.1 rfl (Nat.le_of_ble_eq_true rfl) dX12_part_6 ⟨by decide, by decide⟩ (fun v3 u2 H locs hw1 hP hD hS => ?_)
  have hP : va_P D vwCl (mW K o r f a g) H := hP
  have hD : va_D A (mW K o r f a g) := hD
  refine k_top (z := (if mLies x 1 99 = 0 then 0 else if mLies y 0 0 = 0 then 0 else if mLies z 0 3 = 0 then 0 else if mLies w 0 9 = 0 then 0 else 1)) hw1 ?_
  refine lv_if_ne (tgt := 18) hx hb dX12_part_9 (by decide) (fun c4 => ?_) (fun c4 => ?_)
  · refine lv_aload_n hx hb dX12_part_18 rfl (lv_at hl 0 rfl) ?_
    refine va_get (D := D) (ci := 12) (v := .ref (r 2)) (C := RX12) (T := TX12) (N := 48) hx hb hg inC12 hown hK hP 0 rfl rfl 2 (by decide) (hg _ wt5_162) (fun _ h9 => h9) rfl dX12_part_19 ?_
    refine lv_bipush (v := 102) hx hb dX12_part_22 (by decide) ?_
    refine va_iald hx hb hK hP 2 0 rfl rfl (k_in (by decide +kernel)) dX12_part_24 ?_
    refine k_top (z := 0) (by rw [cl_102]; exact h0) ?_
    refine lv_bipush (v := 10) hx hb dX12_part_25 (by decide) ?_
    refine lv_icmp_ne (tgt := 37) hx hb dX12_part_27 (by decide) (fun c5 => ?_) (fun c5 => absurd c5 (by decide +kernel))
    refine lv_aload_n hx hb dX12_part_37 rfl (lv_at hl 0 rfl) ?_
    refine lv_iload_n hx hb dX12_part_38 rfl (lv_at hl 1 rfl) ?_
    refine lv_iload_n hx hb dX12_part_39 rfl (lv_at hl 2 rfl) ?_
    refine lv_iload_n hx hb dX12_part_40 rfl (lv_at hl 3 rfl) ?_
    refine lv_iload hx hb dX12_part_41 (lv_at hl 4 rfl) ?_
    refine kV.callV (As := [.int x, .int y, .int z, .int w]) (rest := []) ⟨hx, hb, hml, hown, hg⟩ (c_addsPart l o r f a g h0 x y z w) (cwV 4 hg (kgV wt6_96 wt6_98 wp3_9 wt1_14 wt6_99) rfl rfl rfl (by decide +kernel) ⟨by decide, by decide⟩) hK hP hD hS hA mIs [] rfl (wr := []) rfl rfl rfl (fun i h => by cases h) 0 12 rfl rfl rfl hl.1 rfl (Nat.le_of_ble_eq_true rfl) dX12_part_43 ⟨by decide, by decide⟩ (fun u7 H locs hw6 hP hD hS => ?_)
    obtain ⟨f9, a10, g11⟩ := u7
    have hP : va_P D vwCl (mW K o r f9 a10 g11) H := hP
    have hD : va_D A (mW K o r f9 a10 g11) := hD
    refine lv_aload_n hx hb dX12_part_46 rfl (lv_at hl 0 rfl) ?_
    refine lv_aload_n hx hb dX12_part_47 rfl (lv_at hl 0 rfl) ?_
    refine va_get (D := D) (ci := 12) (v := .ref (r 2)) (C := RX12) (T := TX12) (N := 48) hx hb hg inC12 hown hK hP 0 rfl rfl 2 (by decide) (hg _ wt5_162) (fun _ h9 => h9) rfl dX12_part_48 ?_
    refine lv_bipush (v := 102) hx hb dX12_part_51 (by decide) ?_
    refine va_iald hx hb hK hP 2 0 rfl rfl (k_in (by decide +kernel)) dX12_part_53 ?_
    refine k_top (z := 1) (by rw [cl_102]; exact hw6) ?_
    refine lv_iconst (v := 1) hx hb dX12_part_54 (by decide) ?_
    refine lv_isub hx hb dX12_part_55 ?_
    refine k_top (z := 0) (by decide +kernel) ?_
    refine kI.callV (As := [.int 0]) (rest := []) ⟨hx, hb, hml, hown, hg⟩ (c_settled l o r f9 a10 g11  0) (cwV 1 hg (kgV wt6_84 wt6_86 wp3_7 wt1_14 wt6_87) rfl rfl rfl (by decide +kernel) ⟨by decide, by decide⟩) hK hP hD hS hA mIs [] rfl (wr := []) rfl rfl rfl (fun i h => by cases h) 0 12 rfl rfl rfl hl.1 rfl (Nat.le_of_ble_eq_true rfl) dX12_part_56 ⟨by decide, by decide⟩ (fun v14 u13 H locs hw12 hP hD hS => ?_)
    obtain ⟨f15, a16, g17⟩ := u13
    have hP : va_P D vwCl (mW K o r f15 a16 g17) H := hP
    have hD : va_D A (mW K o r f15 a16 g17) := hD
    refine k_top (z := 0) (hw12) ?_
    exact kI_ret (v := 0) hx hb hr hlocks rfl hK hS dX12_part_59 (f15, a16, g17) hP hD (by simp [c4])
  · refine lv_aload_n hx hb dX12_part_12 rfl (lv_at hl 0 rfl) ?_
    refine lv_iconst (v := (-1)) hx hb dX12_part_13 (by decide) ?_
    refine kI.callV (As := [.int (-1)]) (rest := []) ⟨hx, hb, hml, hown, hg⟩ (c_refuses1 l o r f a g  ) (cwV 1 hg (kgV wt6_72 wt6_74 wp3_5 wt1_14 wt6_75) rfl rfl rfl (by decide +kernel) ⟨by decide, by decide⟩) hK hP hD hS hA mIs [] rfl (wr := []) rfl rfl rfl (fun i h => by cases h) 0 12 rfl rfl rfl hl.1 rfl (Nat.le_of_ble_eq_true rfl) dX12_part_14 ⟨by decide, by decide⟩ (fun v20 u19 H locs hw18 hP hD hS => ?_)
    obtain ⟨f21, a22, g23⟩ := u19
    have hP : va_P D vwCl (mW K o r f21 a22 g23) H := hP
    have hD : va_D A (mW K o r f21 a22 g23) := hD
    refine k_top (z := (-1)) (hw18) ?_
    exact kI_ret (v := (-1)) hx hb hr hlocks rfl hK hS dX12_part_17 (f21, a22, g23) hP hD (by simp [c4])
set_option maxHeartbeats 4000000 in
set_option maxRecDepth 100000 in
theorem c_of (l : Launch) {D : va_G} {K : Nat → ClassId} (o : Nat) (r : Nat → Nat) (f : Nat → Int32) (a : Nat → Nat → Int32) (g : Nat → Int64) (h0 : a 2 102 = 0) (x : Int32) (y : Int32)  : kI l yX12_of (Cond.code yX12_of cX12_of 3 (some .int) :: kG) (rmD 3 0 0) D (tysK K) [.ref o, .int x, .int y] (mW K o r f a g) (fun v (_ : Unit) => v = (-1)) (fun _ => mW K o r f a g) 0 0 := by
  refine kI.of (cc := cX12_of) (maxL := 3) (ret := (some .int)) (by decide) rfl (Nat.le_of_ble_eq_true rfl) ?_
  intro p e s m below meth c A hx hb hr hml hown hts hlocks hnm hK hP hD hS hA ls hl
  have hg : ∀ w ∈ kG, w.before _ s = true := fun w h => hts w (List.mem_cons_of_mem _ h)
  have hown : s.vm.findClass RX12 = some m.cls := hown
  have hl : lv_has ls 3 [(0, .ref o), (1, .int x), (2, .int y)] := hl
  refine lv_aload_n hx hb dX12_of_0 rfl (lv_at hl 0 rfl) ?_
  refine lv_iload_n hx hb dX12_of_1 rfl (lv_at hl 1 rfl) ?_
  refine kI.callV (As := [.int x]) (rest := []) ⟨hx, hb, hml, hown, hg⟩ (c_isPart l o r f a g h0 x) (cwV 1 hg (kgV wt6_104 wt6_106 wp3_10 wt1_14 wt6_107) rfl rfl rfl (by decide +kernel) ⟨by decide, by decide⟩) hK hP hD hS hA mIs [] rfl (wr := []) rfl rfl rfl (fun i h => by cases h) 0 12 rfl rfl rfl hl.1 rfl (Nat.le_of_ble_eq_true rfl) dX12_of_2 ⟨by decide, by decide⟩ (fun v3 u2 H locs hw1 hP hD hS => ?_)
  have hP : va_P D vwCl (mW K o r f a g) H := hP
  have hD : va_D A (mW K o r f a g) := hD
  refine k_top (z := 0) (hw1) ?_
  refine lv_if_ne (tgt := 10) hx hb dX12_of_5 (by decide) (fun c4 => absurd (by decide +kernel) c4) (fun c4 => ?_)
  refine lv_iconst (v := (-1)) hx hb dX12_of_8 (by decide) ?_
  exact kI_ret (v := (-1)) hx hb hr hlocks rfl hK hS dX12_of_9 () hP hD rfl
set_option maxHeartbeats 4000000 in
set_option maxRecDepth 100000 in
theorem c_builder (l : Launch) {D : va_G} {K : Nat → ClassId} (o : Nat) (r : Nat → Nat) (f : Nat → Int32) (a : Nat → Nat → Int32) (g : Nat → Int64) (h0 : a 2 103 = 0) (x : Int32) (y : Int32)  : kI l yX12_builder (Cond.code yX12_builder cX12_builder 4 (some .int) :: kG) (rmD 3 0 0) D (tysK K) [.ref o, .int x, .int y] (mW K o r f a g) (fun v (u : mS) => v = (if mLies x 1 15 = 0 then (-1 : Int32) else if mLies y 1 9 = 0 then -1 else 0)) (fun u => mW K o r u.1 u.2.1 u.2.2) 0 0 := by
  refine kI.of (cc := cX12_builder) (maxL := 4) (ret := (some .int)) (by decide) rfl (Nat.le_of_ble_eq_true rfl) ?_
  intro p e s m below meth c A hx hb hr hml hown hts hlocks hnm hK hP hD hS hA ls hl
  have hg : ∀ w ∈ kG, w.before _ s = true := fun w h => hts w (List.mem_cons_of_mem _ h)
  have hown : s.vm.findClass RX12 = some m.cls := hown
  have hl : lv_has ls 4 [(0, .ref o), (1, .int x), (2, .int y)] := hl
  refine lv_iload_n hx hb dX12_builder_0 rfl (lv_at hl 1 rfl) ?_
  refine lv_iconst (v := 1) hx hb dX12_builder_1 (by decide) ?_
  refine lv_bipush (v := 15) hx hb dX12_builder_2 (by decide) ?_
  refine kN.callS (As := [.int x, .int 1, .int 15]) (rest := []) ⟨hx, hb, hml, hown, hg⟩ (c_lies l x 1 15) (va_cwS 3 hg (kgS wt6_69 wt6_70 wt1_14 wt6_71) rfl rfl rfl (by decide +kernel) ⟨by decide, by decide⟩) hP hS rfl hl.1 rfl (Nat.le_of_ble_eq_true rfl) dX12_builder_4 ⟨by decide, by decide⟩ (fun v2 H locs hw1 hP hS => ?_)
  refine k_top (z := mLies x 1 15) hw1 ?_
  refine lv_if_eq (tgt := 20) hx hb dX12_builder_7 (by decide) (fun c3 => ?_) (fun c3 => ?_)
  · refine lv_aload_n hx hb dX12_builder_20 rfl (lv_at hl 0 rfl) ?_
    refine lv_iconst (v := (-1)) hx hb dX12_builder_21 (by decide) ?_
    refine kI.callV (As := [.int (-1)]) (rest := []) ⟨hx, hb, hml, hown, hg⟩ (c_refuses1 l o r f a g  ) (cwV 1 hg (kgV wt6_72 wt6_74 wp3_5 wt1_14 wt6_75) rfl rfl rfl (by decide +kernel) ⟨by decide, by decide⟩) hK hP hD hS hA mIs [] rfl (wr := []) rfl rfl rfl (fun i h => by cases h) 0 12 rfl rfl rfl hl.1 rfl (Nat.le_of_ble_eq_true rfl) dX12_builder_22 ⟨by decide, by decide⟩ (fun v6 u5 H locs hw4 hP hD hS => ?_)
    obtain ⟨f7, a8, g9⟩ := u5
    have hP : va_P D vwCl (mW K o r f7 a8 g9) H := hP
    have hD : va_D A (mW K o r f7 a8 g9) := hD
    refine k_top (z := (-1)) (hw4) ?_
    exact kI_ret (v := (-1)) hx hb hr hlocks rfl hK hS dX12_builder_25 (f7, a8, g9) hP hD (by simp [c3])
  · refine lv_iload_n hx hb dX12_builder_10 rfl (lv_at hl 2 rfl) ?_
    refine lv_iconst (v := 1) hx hb dX12_builder_11 (by decide) ?_
    refine lv_bipush (v := 9) hx hb dX12_builder_12 (by decide) ?_
    refine kN.callS (As := [.int y, .int 1, .int 9]) (rest := []) ⟨hx, hb, hml, hown, hg⟩ (c_lies l y 1 9) (va_cwS 3 hg (kgS wt6_69 wt6_70 wt1_14 wt6_71) rfl rfl rfl (by decide +kernel) ⟨by decide, by decide⟩) hP hS rfl hl.1 rfl (Nat.le_of_ble_eq_true rfl) dX12_builder_14 ⟨by decide, by decide⟩ (fun v11 H locs hw10 hP hS => ?_)
    refine k_top (z := mLies y 1 9) hw10 ?_
    refine lv_if_ne (tgt := 26) hx hb dX12_builder_17 (by decide) (fun c12 => ?_) (fun c12 => ?_)
    · refine lv_aload_n hx hb dX12_builder_26 rfl (lv_at hl 0 rfl) ?_
      refine va_get (D := D) (ci := 12) (v := .ref (r 2)) (C := RX12) (T := TX12) (N := 48) hx hb hg inC12 hown hK hP 0 rfl rfl 2 (by decide) (hg _ wt5_162) (fun _ h9 => h9) rfl dX12_builder_27 ?_
      refine lv_bipush (v := 103) hx hb dX12_builder_30 (by decide) ?_
      refine va_iald hx hb hK hP 2 0 rfl rfl (k_in (by decide +kernel)) dX12_builder_32 ?_
      refine k_top (z := 0) (by rw [cl_103]; exact h0) ?_
      refine lv_istore_n (lv' := [(3, .int 0), (0, .ref o), (1, .int x), (2, .int y)]) hx hb dX12_builder_33 rfl hl (by decide) rfl (fun ls hl => ?_)
      refine lv_iload_n hx hb dX12_builder_34 rfl (lv_at hl 0 rfl) ?_
      refine lv_bipush (v := 6) hx hb dX12_builder_35 (by decide) ?_
      refine lv_icmp_ne (tgt := 47) hx hb dX12_builder_37 (by decide) (fun c13 => ?_) (fun c13 => absurd c13 (by decide +kernel))
      refine lv_aload_n hx hb dX12_builder_47 rfl (lv_at hl 1 rfl) ?_
      refine va_get (D := D) (ci := 12) (v := .ref (r 2)) (C := RX12) (T := TX12) (N := 48) hx hb hg inC12 hown hK hP 0 rfl rfl 2 (by decide) (hg _ wt5_162) (fun _ h9 => h9) rfl dX12_builder_48 ?_
      refine lv_bipush (v := 63) hx hb dX12_builder_51 (by decide) ?_
      refine lv_iload_n hx hb dX12_builder_53 rfl (lv_at hl 0 rfl) ?_
      refine lv_iadd hx hb dX12_builder_54 ?_
      refine k_top (z := 63) (by decide +kernel) ?_
      refine lv_iload_n hx hb dX12_builder_55 rfl (lv_at hl 2 rfl) ?_
      refine va_iast hx hb hK hP hD hS 2 0 rfl rfl (k_in (by decide +kernel)) dX12_builder_56 (fun H locs hP hD hS => ?_)
      rw [cl_63] at hP hD
      have hP : va_P D vwCl (mW K o r f (va_up a 2 (upd (a 2) 63 x)) g) H := hP
      have hD : va_D A (mW K o r f (va_up a 2 (upd (a 2) 63 x)) g) := hD
      refine k_gen (P := fun z => va_P D vwCl (mW K o r f z g) H ∧ va_D A (mW K o r f z g)) (va_up a 2 (upd (a 2) 63 x)) ⟨hP, hD⟩ (fun a_14 ea_14 hPD => ?_)
      have hP := hPD.1
      have hD := hPD.2
      refine lv_aload_n hx hb dX12_builder_57 rfl (lv_at hl 1 rfl) ?_
      refine va_get (D := D) (ci := 12) (v := .ref (r 2)) (C := RX12) (T := TX12) (N := 48) hx hb hg inC12 hown hK hP 0 rfl rfl 2 (by decide) (hg _ wt5_162) (fun _ h9 => h9) rfl dX12_builder_58 ?_
      refine lv_bipush (v := 69) hx hb dX12_builder_61 (by decide) ?_
      refine lv_iload_n hx hb dX12_builder_63 rfl (lv_at hl 0 rfl) ?_
      refine lv_iadd hx hb dX12_builder_64 ?_
      refine k_top (z := 69) (by decide +kernel) ?_
      refine lv_iload_n hx hb dX12_builder_65 rfl (lv_at hl 3 rfl) ?_
      refine va_iast hx hb hK hP hD hS 2 0 rfl rfl (k_in (by decide +kernel)) dX12_builder_66 (fun H locs hP hD hS => ?_)
      rw [cl_69] at hP hD
      have hP : va_P D vwCl (mW K o r f (va_up a_14 2 (upd (a_14 2) 69 y)) g) H := hP
      have hD : va_D A (mW K o r f (va_up a_14 2 (upd (a_14 2) 69 y)) g) := hD
      refine k_gen (P := fun z => va_P D vwCl (mW K o r f z g) H ∧ va_D A (mW K o r f z g)) (va_up a_14 2 (upd (a_14 2) 69 y)) ⟨hP, hD⟩ (fun a_15 ea_15 hPD => ?_)
      have hP := hPD.1
      have hD := hPD.2
      refine lv_aload_n hx hb dX12_builder_67 rfl (lv_at hl 1 rfl) ?_
      refine va_get (D := D) (ci := 12) (v := .ref (r 2)) (C := RX12) (T := TX12) (N := 48) hx hb hg inC12 hown hK hP 0 rfl rfl 2 (by decide) (hg _ wt5_162) (fun _ h9 => h9) rfl dX12_builder_68 ?_
      refine lv_bipush (v := 10) hx hb dX12_builder_71 (by decide) ?_
      refine lv_iload_n hx hb dX12_builder_73 rfl (lv_at hl 0 rfl) ?_
      refine lv_iadd hx hb dX12_builder_74 ?_
      refine k_top (z := 10) (by decide +kernel) ?_
      refine lv_iconst (v := 0) hx hb dX12_builder_75 (by decide) ?_
      refine va_iast hx hb hK hP hD hS 2 0 rfl rfl (k_in (by decide +kernel)) dX12_builder_76 (fun H locs hP hD hS => ?_)
      rw [cl_10] at hP hD
      have hP : va_P D vwCl (mW K o r f (va_up a_15 2 (upd (a_15 2) 10 0)) g) H := hP
      have hD : va_D A (mW K o r f (va_up a_15 2 (upd (a_15 2) 10 0)) g) := hD
      refine k_gen (P := fun z => va_P D vwCl (mW K o r f z g) H ∧ va_D A (mW K o r f z g)) (va_up a_15 2 (upd (a_15 2) 10 0)) ⟨hP, hD⟩ (fun a_16 ea_16 hPD => ?_)
      have hP := hPD.1
      have hD := hPD.2
      refine lv_aload_n hx hb dX12_builder_77 rfl (lv_at hl 1 rfl) ?_
      refine va_get (D := D) (ci := 12) (v := .ref (r 2)) (C := RX12) (T := TX12) (N := 48) hx hb hg inC12 hown hK hP 0 rfl rfl 2 (by decide) (hg _ wt5_162) (fun _ h9 => h9) rfl dX12_builder_78 ?_
      refine lv_bipush (v := 16) hx hb dX12_builder_81 (by decide) ?_
      refine lv_iload_n hx hb dX12_builder_83 rfl (lv_at hl 0 rfl) ?_
      refine lv_iadd hx hb dX12_builder_84 ?_
      refine k_top (z := 16) (by decide +kernel) ?_
      refine lv_iconst (v := (-1)) hx hb dX12_builder_85 (by decide) ?_
      refine va_iast hx hb hK hP hD hS 2 0 rfl rfl (k_in (by decide +kernel)) dX12_builder_86 (fun H locs hP hD hS => ?_)
      rw [cl_16] at hP hD
      have hP : va_P D vwCl (mW K o r f (va_up a_16 2 (upd (a_16 2) 16 (-1))) g) H := hP
      have hD : va_D A (mW K o r f (va_up a_16 2 (upd (a_16 2) 16 (-1))) g) := hD
      refine k_gen (P := fun z => va_P D vwCl (mW K o r f z g) H ∧ va_D A (mW K o r f z g)) (va_up a_16 2 (upd (a_16 2) 16 (-1))) ⟨hP, hD⟩ (fun a_17 ea_17 hPD => ?_)
      have hP := hPD.1
      have hD := hPD.2
      refine lv_aload_n hx hb dX12_builder_87 rfl (lv_at hl 1 rfl) ?_
      refine va_get (D := D) (ci := 12) (v := .ref (r 2)) (C := RX12) (T := TX12) (N := 48) hx hb hg inC12 hown hK hP 0 rfl rfl 2 (by decide) (hg _ wt5_162) (fun _ h9 => h9) rfl dX12_builder_88 ?_
      refine lv_bipush (v := 103) hx hb dX12_builder_91 (by decide) ?_
      refine lv_dup2_11 hx hb dX12_builder_93 rfl rfl ?_
      refine va_iald hx hb hK hP 2 0 rfl rfl (k_in (by decide +kernel)) dX12_builder_94 ?_
      refine k_top (z := 0) (by rw [cl_103]; exact ((show a_17 2 103 = a_16 2 103 from by rw [← ea_17]; rfl).trans ((show a_16 2 103 = a_15 2 103 from by rw [← ea_16]; rfl).trans ((show a_15 2 103 = a_14 2 103 from by rw [← ea_15]; rfl).trans ((show a_14 2 103 = a 2 103 from by rw [← ea_14]; rfl).trans h0))))) ?_
      refine lv_iconst (v := 1) hx hb dX12_builder_95 (by decide) ?_
      refine lv_iadd hx hb dX12_builder_96 ?_
      refine k_top (z := 1) (by decide +kernel) ?_
      refine va_iast hx hb hK hP hD hS 2 0 rfl rfl (k_in (by decide +kernel)) dX12_builder_97 (fun H locs hP hD hS => ?_)
      rw [cl_103] at hP hD
      have hP : va_P D vwCl (mW K o r f (va_up a_17 2 (upd (a_17 2) 103 1)) g) H := hP
      have hD : va_D A (mW K o r f (va_up a_17 2 (upd (a_17 2) 103 1)) g) := hD
      refine k_gen (P := fun z => va_P D vwCl (mW K o r f z g) H ∧ va_D A (mW K o r f z g)) (va_up a_17 2 (upd (a_17 2) 103 1)) ⟨hP, hD⟩ (fun a_18 ea_18 hPD => ?_)
      have hP := hPD.1
      have hD := hPD.2
      refine lv_aload_n hx hb dX12_builder_98 rfl (lv_at hl 1 rfl) ?_
      refine lv_iload_n hx hb dX12_builder_99 rfl (lv_at hl 0 rfl) ?_
      refine kI.callV (As := [.int 0]) (rest := []) ⟨hx, hb, hml, hown, hg⟩ (c_settled l o r f a_18 g  0) (cwV 1 hg (kgV wt6_84 wt6_86 wp3_7 wt1_14 wt6_87) rfl rfl rfl (by decide +kernel) ⟨by decide, by decide⟩) hK hP hD hS hA mIs [] rfl (wr := []) rfl rfl rfl (fun i h => by cases h) 0 12 rfl rfl rfl hl.1 rfl (Nat.le_of_ble_eq_true rfl) dX12_builder_100 ⟨by decide, by decide⟩ (fun v21 u20 H locs hw19 hP hD hS => ?_)
      obtain ⟨f22, a23, g24⟩ := u20
      have hP : va_P D vwCl (mW K o r f22 a23 g24) H := hP
      have hD : va_D A (mW K o r f22 a23 g24) := hD
      refine k_top (z := 0) (hw19) ?_
      exact kI_ret (v := 0) hx hb hr hlocks rfl hK hS dX12_builder_103 (f22, a23, g24) hP hD (by simp [c3, c12])
    · refine lv_aload_n hx hb dX12_builder_20 rfl (lv_at hl 0 rfl) ?_
      refine lv_iconst (v := (-1)) hx hb dX12_builder_21 (by decide) ?_
      refine kI.callV (As := [.int (-1)]) (rest := []) ⟨hx, hb, hml, hown, hg⟩ (c_refuses1 l o r f a g  ) (cwV 1 hg (kgV wt6_72 wt6_74 wp3_5 wt1_14 wt6_75) rfl rfl rfl (by decide +kernel) ⟨by decide, by decide⟩) hK hP hD hS hA mIs [] rfl (wr := []) rfl rfl rfl (fun i h => by cases h) 0 12 rfl rfl rfl hl.1 rfl (Nat.le_of_ble_eq_true rfl) dX12_builder_22 ⟨by decide, by decide⟩ (fun v27 u26 H locs hw25 hP hD hS => ?_)
      obtain ⟨f28, a29, g30⟩ := u26
      have hP : va_P D vwCl (mW K o r f28 a29 g30) H := hP
      have hD : va_D A (mW K o r f28 a29 g30) := hD
      refine k_top (z := (-1)) (hw25) ?_
      exact kI_ret (v := (-1)) hx hb hr hlocks rfl hK hS dX12_builder_25 (f28, a29, g30) hP hD (by simp [c3, c12])
set_option maxHeartbeats 4000000 in
set_option maxRecDepth 100000 in
theorem c_at (l : Launch) {D : va_G} {K : Nat → ClassId} (o : Nat) (r : Nat → Nat) (f : Nat → Int32) (a : Nat → Nat → Int32) (g : Nat → Int64) (h0 : a 2 103 = 0) (x : Int32) (y : Int32)  : kI l yX12_at (Cond.code yX12_at cX12_at 3 (some .int) :: kG) (rmD 3 0 0) D (tysK K) [.ref o, .int x, .int y] (mW K o r f a g) (fun v (_ : Unit) => v = (-1)) (fun _ => mW K o r f a g) 0 0 := by
  refine kI.of (cc := cX12_at) (maxL := 3) (ret := (some .int)) (by decide) rfl (Nat.le_of_ble_eq_true rfl) ?_
  intro p e s m below meth c A hx hb hr hml hown hts hlocks hnm hK hP hD hS hA ls hl
  have hg : ∀ w ∈ kG, w.before _ s = true := fun w h => hts w (List.mem_cons_of_mem _ h)
  have hown : s.vm.findClass RX12 = some m.cls := hown
  have hl : lv_has ls 3 [(0, .ref o), (1, .int x), (2, .int y)] := hl
  refine lv_aload_n hx hb dX12_at_0 rfl (lv_at hl 0 rfl) ?_
  refine lv_iload_n hx hb dX12_at_1 rfl (lv_at hl 1 rfl) ?_
  refine kI.callV (As := [.int x]) (rest := []) ⟨hx, hb, hml, hown, hg⟩ (c_isBuilder l o r f a g h0 x) (cwV 1 hg (kgV wt6_138 wt6_140 wp3_15 wt1_14 wt6_141) rfl rfl rfl (by decide +kernel) ⟨by decide, by decide⟩) hK hP hD hS hA mIs [] rfl (wr := []) rfl rfl rfl (fun i h => by cases h) 0 12 rfl rfl rfl hl.1 rfl (Nat.le_of_ble_eq_true rfl) dX12_at_2 ⟨by decide, by decide⟩ (fun v3 u2 H locs hw1 hP hD hS => ?_)
  have hP : va_P D vwCl (mW K o r f a g) H := hP
  have hD : va_D A (mW K o r f a g) := hD
  refine k_top (z := 0) (hw1) ?_
  refine lv_if_ne (tgt := 10) hx hb dX12_at_5 (by decide) (fun c4 => absurd (by decide +kernel) c4) (fun c4 => ?_)
  refine lv_iconst (v := (-1)) hx hb dX12_at_8 (by decide) ?_
  exact kI_ret (v := (-1)) hx hb hr hlocks rfl hK hS dX12_at_9 () hP hD rfl
set_option maxHeartbeats 4000000 in
set_option maxRecDepth 100000 in
theorem c_asks (l : Launch) {D : va_G} {K : Nat → ClassId} (o : Nat) (r : Nat → Nat) (f : Nat → Int32) (a : Nat → Nat → Int32) (g : Nat → Int64) (h0 : a 2 103 = 0) (x : Int32) (y : Int32) (z : Int32)  : kI l yX12_asks (Cond.code yX12_asks cX12_asks 4 (some .int) :: kG) (rmD 3 0 0) D (tysK K) [.ref o, .int x, .int y, .int z] (mW K o r f a g) (fun v (_ : Unit) => v = (-1)) (fun _ => mW K o r f a g) 0 0 := by
  refine kI.of (cc := cX12_asks) (maxL := 4) (ret := (some .int)) (by decide) rfl (Nat.le_of_ble_eq_true rfl) ?_
  intro p e s m below meth c A hx hb hr hml hown hts hlocks hnm hK hP hD hS hA ls hl
  have hg : ∀ w ∈ kG, w.before _ s = true := fun w h => hts w (List.mem_cons_of_mem _ h)
  have hown : s.vm.findClass RX12 = some m.cls := hown
  have hl : lv_has ls 4 [(0, .ref o), (1, .int x), (2, .int y), (3, .int z)] := hl
  refine lv_aload_n hx hb dX12_asks_0 rfl (lv_at hl 0 rfl) ?_
  refine lv_iload_n hx hb dX12_asks_1 rfl (lv_at hl 1 rfl) ?_
  refine kI.callV (As := [.int x]) (rest := []) ⟨hx, hb, hml, hown, hg⟩ (c_isBuilder l o r f a g h0 x) (cwV 1 hg (kgV wt6_138 wt6_140 wp3_15 wt1_14 wt6_141) rfl rfl rfl (by decide +kernel) ⟨by decide, by decide⟩) hK hP hD hS hA mIs [] rfl (wr := []) rfl rfl rfl (fun i h => by cases h) 0 12 rfl rfl rfl hl.1 rfl (Nat.le_of_ble_eq_true rfl) dX12_asks_2 ⟨by decide, by decide⟩ (fun v3 u2 H locs hw1 hP hD hS => ?_)
  have hP : va_P D vwCl (mW K o r f a g) H := hP
  have hD : va_D A (mW K o r f a g) := hD
  refine k_top (z := 0) (hw1) ?_
  refine lv_if_eq (tgt := 16) hx hb dX12_asks_5 (by decide) (fun c4 => ?_) (fun c4 => absurd (by decide +kernel) c4)
  refine lv_iconst (v := (-1)) hx hb dX12_asks_16 (by decide) ?_
  exact kI_ret (v := (-1)) hx hb hr hlocks rfl hK hS dX12_asks_17 () hP hD rfl
set_option maxHeartbeats 4000000 in
set_option maxRecDepth 100000 in
theorem c_isTerm (l : Launch) (x : Int32) (y : Int32)  : kN l yX12_isTerm (Cond.code yX12_isTerm cX12_isTerm 2 (some .boolean) :: kG) (rmD 2 0 0) [.int x, .int y] (fun v => v = mIsTerm x y) := by
  refine kN.of (cc := cX12_isTerm) (maxL := 2) (ret := (some .boolean)) (by decide) rfl (Nat.le_of_ble_eq_true rfl) ?_
  intro p e s m below meth c hx hb hr hml hown hts hlocks hS ls hl
  have hg : ∀ w ∈ kG, w.before _ s = true := fun w h => hts w (List.mem_cons_of_mem _ h)
  have hown : s.vm.findClass RX12 = some m.cls := hown
  have hl : lv_has ls 2 [(0, .int x), (1, .int y)] := hl
  refine lv_iload_n hx hb dX12_isTerm_0 rfl (lv_at hl 0 rfl) ?_
  by_cases q1 : x = 0
  · subst q1
    refine lv_tableIn (tgt := 32) hx hb dX12_isTerm_1 (by decide +kernel) (by decide +kernel) (by rfl) (by decide) ?_
    refine lv_iload_n hx hb dX12_isTerm_32 rfl (lv_at hl 1 rfl) ?_
    refine lv_iconst (v := 0) hx hb dX12_isTerm_33 (by decide) ?_
    refine lv_sipush (v := 999) hx hb dX12_isTerm_34 (by decide) ?_
    refine kN.callS (As := [.int y, .int 0, .int 999]) (rest := []) ⟨hx, hb, hml, hown, hg⟩ (c_lies l y 0 999) (va_cwS 3 hg (kgS wt6_69 wt6_70 wt1_14 wt6_71) rfl rfl rfl (by decide +kernel) ⟨by decide, by decide⟩) (D := (fun _ => 0, fun _ _ => 0)) (ws := []) (fun k q h => by cases k <;> cases h) hS rfl hl.1 rfl (Nat.le_of_ble_eq_true rfl) dX12_isTerm_37 ⟨by decide, by decide⟩ (fun v3 H locs hw2 hP hS => ?_)
    refine k_top (z := mLies y 0 999) hw2 ?_
    exact kN_ret (v := mLies y 0 999) hx hb hr hlocks (mLies_n _ _ _) hS dX12_isTerm_40 rfl
  by_cases q4 : x = 1
  · subst q4
    refine lv_tableIn (tgt := 41) hx hb dX12_isTerm_1 (by decide +kernel) (by decide +kernel) (by rfl) (by decide) ?_
    refine lv_iload_n hx hb dX12_isTerm_41 rfl (lv_at hl 1 rfl) ?_
    refine lv_iconst (v := 1) hx hb dX12_isTerm_42 (by decide) ?_
    refine lv_bipush (v := 99) hx hb dX12_isTerm_43 (by decide) ?_
    refine kN.callS (As := [.int y, .int 1, .int 99]) (rest := []) ⟨hx, hb, hml, hown, hg⟩ (c_lies l y 1 99) (va_cwS 3 hg (kgS wt6_69 wt6_70 wt1_14 wt6_71) rfl rfl rfl (by decide +kernel) ⟨by decide, by decide⟩) (D := (fun _ => 0, fun _ _ => 0)) (ws := []) (fun k q h => by cases k <;> cases h) hS rfl hl.1 rfl (Nat.le_of_ble_eq_true rfl) dX12_isTerm_45 ⟨by decide, by decide⟩ (fun v6 H locs hw5 hP hS => ?_)
    refine k_top (z := mLies y 1 99) hw5 ?_
    exact kN_ret (v := mLies y 1 99) hx hb hr hlocks (mLies_n _ _ _) hS dX12_isTerm_48 rfl
  by_cases q7 : x = 2
  · subst q7
    refine lv_tableIn (tgt := 49) hx hb dX12_isTerm_1 (by decide +kernel) (by decide +kernel) (by rfl) (by decide) ?_
    refine lv_iload_n hx hb dX12_isTerm_49 rfl (lv_at hl 1 rfl) ?_
    refine lv_iconst (v := 0) hx hb dX12_isTerm_50 (by decide) ?_
    refine lv_bipush (v := 10) hx hb dX12_isTerm_51 (by decide) ?_
    refine kN.callS (As := [.int y, .int 0, .int 10]) (rest := []) ⟨hx, hb, hml, hown, hg⟩ (c_lies l y 0 10) (va_cwS 3 hg (kgS wt6_69 wt6_70 wt1_14 wt6_71) rfl rfl rfl (by decide +kernel) ⟨by decide, by decide⟩) (D := (fun _ => 0, fun _ _ => 0)) (ws := []) (fun k q h => by cases k <;> cases h) hS rfl hl.1 rfl (Nat.le_of_ble_eq_true rfl) dX12_isTerm_53 ⟨by decide, by decide⟩ (fun v9 H locs hw8 hP hS => ?_)
    refine k_top (z := mLies y 0 10) hw8 ?_
    exact kN_ret (v := mLies y 0 10) hx hb hr hlocks (mLies_n _ _ _) hS dX12_isTerm_56 rfl
  by_cases q10 : x = 3
  · subst q10
    refine lv_tableIn (tgt := 57) hx hb dX12_isTerm_1 (by decide +kernel) (by decide +kernel) (by rfl) (by decide) ?_
    refine lv_iload_n hx hb dX12_isTerm_57 rfl (lv_at hl 1 rfl) ?_
    refine lv_iconst (v := 0) hx hb dX12_isTerm_58 (by decide) ?_
    refine lv_bipush (v := 9) hx hb dX12_isTerm_59 (by decide) ?_
    refine kN.callS (As := [.int y, .int 0, .int 9]) (rest := []) ⟨hx, hb, hml, hown, hg⟩ (c_lies l y 0 9) (va_cwS 3 hg (kgS wt6_69 wt6_70 wt1_14 wt6_71) rfl rfl rfl (by decide +kernel) ⟨by decide, by decide⟩) (D := (fun _ => 0, fun _ _ => 0)) (ws := []) (fun k q h => by cases k <;> cases h) hS rfl hl.1 rfl (Nat.le_of_ble_eq_true rfl) dX12_isTerm_61 ⟨by decide, by decide⟩ (fun v12 H locs hw11 hP hS => ?_)
    refine k_top (z := mLies y 0 9) hw11 ?_
    exact kN_ret (v := mLies y 0 9) hx hb hr hlocks (mLies_n _ _ _) hS dX12_isTerm_64 rfl
  refine lv_tableOut (tgt := 65) hx hb dX12_isTerm_1 (by have gq1 := lv_neT q1 (a := 0) (by decide +kernel); have gq4 := lv_neT q4 (a := 1) (by decide +kernel); have gq7 := lv_neT q7 (a := 2) (by decide +kernel); have gq10 := lv_neT q10 (a := 3) (by decide +kernel); omega) (by decide) ?_
  refine lv_iconst (v := 0) hx hb dX12_isTerm_65 (by decide) ?_
  exact kN_ret (v := 0) hx hb hr hlocks (by decide +kernel) hS dX12_isTerm_66 (by simp [mIsTerm, q1, q4, q7, q10])
set_option maxHeartbeats 4000000 in
set_option maxRecDepth 100000 in
theorem c_row (l : Launch) {D : va_G} {K : Nat → ClassId} (o : Nat) (r : Nat → Nat) (f : Nat → Int32) (a : Nat → Nat → Int32) (g : Nat → Int64) (h0 : f 13 = 0)   : kI l yX12_row (Cond.code yX12_row cX12_row 6 (some .int) :: kG) (rmD 2 0 0) D (tysK K) [.ref o] (mW K o r f a g) (fun v (u : mS) => v = (-6)) (fun u => mW K o r u.1 u.2.1 u.2.2) 0 0 := by
  refine kI.of (cc := cX12_row) (maxL := 6) (ret := (some .int)) (by decide) rfl (Nat.le_of_ble_eq_true rfl) ?_
  intro p e s m below meth c A hx hb hr hml hown hts hlocks hnm hK hP hD hS hA ls hl
  have hg : ∀ w ∈ kG, w.before _ s = true := fun w h => hts w (List.mem_cons_of_mem _ h)
  have hown : s.vm.findClass RX12 = some m.cls := hown
  have hl : lv_has ls 6 [(0, .ref o)] := hl
  refine lv_aload_n hx hb dX12_row_0 rfl (lv_at hl 0 rfl) ?_
  refine va_get (D := D) (ci := 12) (v := .int (f 13)) (C := RX12) (T := TX12) (N := 48) hx hb hg inC12 hown hK hP 0 rfl rfl 13 (by decide) (hg _ wt5_173) (fun _ h9 => h9) rfl dX12_row_1 ?_
  refine k_top (z := 0) h0 ?_
  refine lv_istore_n (lv' := [(1, .int 0), (0, .ref o)]) hx hb dX12_row_4 rfl hl (by decide) rfl (fun ls hl => ?_)
  refine lv_aload_n hx hb dX12_row_5 rfl (lv_at hl 1 rfl) ?_
  refine lv_iconst (v := 0) hx hb dX12_row_6 (by decide) ?_
  refine va_put (D := D) (ci := 12) (v := .int 0) (ty := .int) (C := RX12) (T := TX12) (N := 48) hx hb hg inC12 tyX12 tyX12_ok nmX12 hown hK hP hD hS 0 rfl rfl 13 (by decide) (hg _ wt5_173) (fun _ h9 => h9) rfl (by decide +kernel) rfl rfl (Nat.le_of_ble_eq_true rfl) dX12_row_7 (fun H locs hP hD hS => ?_)
  have hP : va_P D vwCl (mW K o r (upd f 13 0) a g) H := hP
  have hD : va_D A (mW K o r (upd f 13 0) a g) := hD
  refine k_gen (P := fun z => va_P D vwCl (mW K o r z a g) H ∧ va_D A (mW K o r z a g)) (upd f 13 0) ⟨hP, hD⟩ (fun f_1 ef_1 hPD => ?_)
  have hP := hPD.1
  have hD := hPD.2
  refine lv_iload_n hx hb dX12_row_10 rfl (lv_at hl 0 rfl) ?_
  refine lv_if_ne (tgt := 21) hx hb dX12_row_11 (by decide) (fun c2 => absurd (by decide +kernel) c2) (fun c2 => ?_)
  refine lv_aload_n hx hb dX12_row_14 rfl (lv_at hl 1 rfl) ?_
  refine lv_bipush (v := (-6)) hx hb dX12_row_15 (by decide) ?_
  refine kI.callV (As := [.int (-6)]) (rest := []) ⟨hx, hb, hml, hown, hg⟩ (c_refuses6 l o r f_1 a g  ) (cwV 1 hg (kgV wt6_72 wt6_74 wp3_5 wt1_14 wt6_75) rfl rfl rfl (by decide +kernel) ⟨by decide, by decide⟩) hK hP hD hS hA mIs [] rfl (wr := []) rfl rfl rfl (fun i h => by cases h) 0 12 rfl rfl rfl hl.1 rfl (Nat.le_of_ble_eq_true rfl) dX12_row_17 ⟨by decide, by decide⟩ (fun v5 u4 H locs hw3 hP hD hS => ?_)
  obtain ⟨f6, a7, g8⟩ := u4
  have hP : va_P D vwCl (mW K o r f6 a7 g8) H := hP
  have hD : va_D A (mW K o r f6 a7 g8) := hD
  refine k_top (z := (-6)) (hw3) ?_
  exact kI_ret (v := (-6)) hx hb hr hlocks rfl hK hS dX12_row_20 (f6, a7, g8) hP hD rfl
set_option maxHeartbeats 4000000 in
set_option maxRecDepth 100000 in
theorem c_chaff (l : Launch) {D : va_G} {K : Nat → ClassId} (o : Nat) (r : Nat → Nat) (f : Nat → Int32) (a : Nat → Nat → Int32) (g : Nat → Int64) (h0 : f 6 = 0)   : kI l yX12_chaff (Cond.code yX12_chaff cX12_chaff 1 (some .int) :: kG) (rmD 1 0 0) D (tysK K) [.ref o] (mW K o r f a g) (fun v (_ : Unit) => v = 0) (fun _ => mW K o r f a g) 0 0 := by
  refine kI.of (cc := cX12_chaff) (maxL := 1) (ret := (some .int)) (by decide) rfl (Nat.le_of_ble_eq_true rfl) ?_
  intro p e s m below meth c A hx hb hr hml hown hts hlocks hnm hK hP hD hS hA ls hl
  have hg : ∀ w ∈ kG, w.before _ s = true := fun w h => hts w (List.mem_cons_of_mem _ h)
  have hown : s.vm.findClass RX12 = some m.cls := hown
  have hl : lv_has ls 1 [(0, .ref o)] := hl
  refine lv_aload_n hx hb dX12_chaff_0 rfl (lv_at hl 0 rfl) ?_
  refine va_get (D := D) (ci := 12) (v := .int (f 6)) (C := RX12) (T := TX12) (N := 48) hx hb hg inC12 hown hK hP 0 rfl rfl 6 (by decide) (hg _ wt5_166) (fun _ h9 => h9) rfl dX12_chaff_1 ?_
  refine k_top (z := 0) h0 ?_
  exact kI_ret (v := 0) hx hb hr hlocks rfl hK hS dX12_chaff_4 () hP hD rfl
set_option maxHeartbeats 4000000 in
set_option maxRecDepth 100000 in
theorem c_end (l : Launch) {D : va_G} {K : Nat → ClassId} (o : Nat) (r : Nat → Nat) (f : Nat → Int32) (a : Nat → Nat → Int32) (g : Nat → Int64) (h0 : f 13 = 0) (x : Int32)  : kI l yX12_end (Cond.code yX12_end cX12_end 2 (some .int) :: kG) (rmD 2 0 0) D (tysK K) [.ref o, .int x] (mW K o r f a g) (fun v (u : mS) => v = (if mLies x 0 0 = 0 then (-1 : Int32) else x)) (fun u => mW K o r u.1 u.2.1 u.2.2) 0 0 := by
  refine kI.of (cc := cX12_end) (maxL := 2) (ret := (some .int)) (by decide) rfl (Nat.le_of_ble_eq_true rfl) ?_
  intro p e s m below meth c A hx hb hr hml hown hts hlocks hnm hK hP hD hS hA ls hl
  have hg : ∀ w ∈ kG, w.before _ s = true := fun w h => hts w (List.mem_cons_of_mem _ h)
  have hown : s.vm.findClass RX12 = some m.cls := hown
  have hl : lv_has ls 2 [(0, .ref o), (1, .int x)] := hl
  refine lv_iload_n hx hb dX12_end_0 rfl (lv_at hl 1 rfl) ?_
  refine lv_iconst (v := 0) hx hb dX12_end_1 (by decide) ?_
  refine lv_aload_n hx hb dX12_end_2 rfl (lv_at hl 0 rfl) ?_
  refine va_get (D := D) (ci := 12) (v := .int (f 13)) (C := RX12) (T := TX12) (N := 48) hx hb hg inC12 hown hK hP 0 rfl rfl 13 (by decide) (hg _ wt5_173) (fun _ h9 => h9) rfl dX12_end_3 ?_
  refine k_top (z := 0) h0 ?_
  refine kN.callS (As := [.int x, .int 0, .int 0]) (rest := []) ⟨hx, hb, hml, hown, hg⟩ (c_lies l x 0 0) (va_cwS 3 hg (kgS wt6_69 wt6_70 wt1_14 wt6_71) rfl rfl rfl (by decide +kernel) ⟨by decide, by decide⟩) hP hS rfl hl.1 rfl (Nat.le_of_ble_eq_true rfl) dX12_end_6 ⟨by decide, by decide⟩ (fun v2 H locs hw1 hP hS => ?_)
  refine k_top (z := mLies x 0 0) hw1 ?_
  refine lv_if_ne (tgt := 14) hx hb dX12_end_9 (by decide) (fun c3 => ?_) (fun c3 => ?_)
  · refine lv_aload_n hx hb dX12_end_14 rfl (lv_at hl 0 rfl) ?_
    refine lv_iload_n hx hb dX12_end_15 rfl (lv_at hl 1 rfl) ?_
    refine va_put (D := D) (ci := 12) (v := .int x) (ty := .int) (C := RX12) (T := TX12) (N := 48) hx hb hg inC12 tyX12 tyX12_ok nmX12 hown hK hP hD hS 0 rfl rfl 13 (by decide) (hg _ wt5_173) (fun _ h9 => h9) rfl (by decide +kernel) rfl rfl (Nat.le_of_ble_eq_true rfl) dX12_end_16 (fun H locs hP hD hS => ?_)
    have hP : va_P D vwCl (mW K o r (upd f 13 x) a g) H := hP
    have hD : va_D A (mW K o r (upd f 13 x) a g) := hD
    refine k_gen (P := fun z => va_P D vwCl (mW K o r z a g) H ∧ va_D A (mW K o r z a g)) (upd f 13 x) ⟨hP, hD⟩ (fun f_4 ef_4 hPD => ?_)
    have hP := hPD.1
    have hD := hPD.2
    refine lv_iload_n hx hb dX12_end_19 rfl (lv_at hl 1 rfl) ?_
    exact kI_ret (v := x) hx hb hr hlocks rfl hK hS dX12_end_20 (f_4, a, g) hP hD (by simp [c3])
  · refine lv_iconst (v := (-1)) hx hb dX12_end_12 (by decide) ?_
    exact kI_ret (v := (-1)) hx hb hr hlocks rfl hK hS dX12_end_13 (f, a, g) hP hD (by simp [c3])
set_option maxHeartbeats 4000000 in
set_option maxRecDepth 100000 in
theorem c_fault (l : Launch) {D : va_G} {K : Nat → ClassId} (o : Nat) (r : Nat → Nat) (f : Nat → Int32) (a : Nat → Nat → Int32) (g : Nat → Int64) (h0 : f 14 = (-1))   : kI l yX12_fault (Cond.code yX12_fault cX12_fault 1 (some .int) :: kG) (rmD 1 0 0) D (tysK K) [.ref o] (mW K o r f a g) (fun v (_ : Unit) => v = (-1)) (fun _ => mW K o r f a g) 0 0 := by
  refine kI.of (cc := cX12_fault) (maxL := 1) (ret := (some .int)) (by decide) rfl (Nat.le_of_ble_eq_true rfl) ?_
  intro p e s m below meth c A hx hb hr hml hown hts hlocks hnm hK hP hD hS hA ls hl
  have hg : ∀ w ∈ kG, w.before _ s = true := fun w h => hts w (List.mem_cons_of_mem _ h)
  have hown : s.vm.findClass RX12 = some m.cls := hown
  have hl : lv_has ls 1 [(0, .ref o)] := hl
  refine lv_aload_n hx hb dX12_fault_0 rfl (lv_at hl 0 rfl) ?_
  refine va_get (D := D) (ci := 12) (v := .int (f 14)) (C := RX12) (T := TX12) (N := 48) hx hb hg inC12 hown hK hP 0 rfl rfl 14 (by decide) (hg _ wt5_174) (fun _ h9 => h9) rfl dX12_fault_1 ?_
  refine k_top (z := (-1)) h0 ?_
  exact kI_ret (v := (-1)) hx hb hr hlocks rfl hK hS dX12_fault_4 () hP hD rfl
set_option maxHeartbeats 4000000 in
set_option maxRecDepth 100000 in
theorem c_stopped (l : Launch) {D : va_G} {K : Nat → ClassId} (o : Nat) (r : Nat → Nat) (f : Nat → Int32) (a : Nat → Nat → Int32) (g : Nat → Int64) (h0 : f 37 = (-1))   : kI l yX12_stopped (Cond.code yX12_stopped cX12_stopped 1 (some .int) :: kG) (rmD 1 0 0) D (tysK K) [.ref o] (mW K o r f a g) (fun v (_ : Unit) => v = (-1)) (fun _ => mW K o r f a g) 0 0 := by
  refine kI.of (cc := cX12_stopped) (maxL := 1) (ret := (some .int)) (by decide) rfl (Nat.le_of_ble_eq_true rfl) ?_
  intro p e s m below meth c A hx hb hr hml hown hts hlocks hnm hK hP hD hS hA ls hl
  have hg : ∀ w ∈ kG, w.before _ s = true := fun w h => hts w (List.mem_cons_of_mem _ h)
  have hown : s.vm.findClass RX12 = some m.cls := hown
  have hl : lv_has ls 1 [(0, .ref o)] := hl
  refine lv_aload_n hx hb dX12_stopped_0 rfl (lv_at hl 0 rfl) ?_
  refine va_get (D := D) (ci := 12) (v := .int (f 37)) (C := RX12) (T := TX12) (N := 48) hx hb hg inC12 hown hK hP 0 rfl rfl 37 (by decide) (hg _ wt5_197) (fun _ h9 => h9) rfl dX12_stopped_1 ?_
  refine k_top (z := (-1)) h0 ?_
  exact kI_ret (v := (-1)) hx hb hr hlocks rfl hK hS dX12_stopped_4 () hP hD rfl
set_option maxHeartbeats 4000000 in
set_option maxRecDepth 100000 in
theorem c_status (l : Launch) {D : va_G} {K : Nat → ClassId} (o : Nat) (r : Nat → Nat) (f : Nat → Int32) (a : Nat → Nat → Int32) (g : Nat → Int64) (h0 : f 0 = 0)   : kI l yX12_status (Cond.code yX12_status cX12_status 1 (some .int) :: kG) (rmD 1 0 0) D (tysK K) [.ref o] (mW K o r f a g) (fun v (_ : Unit) => v = 0) (fun _ => mW K o r f a g) 0 0 := by
  refine kI.of (cc := cX12_status) (maxL := 1) (ret := (some .int)) (by decide) rfl (Nat.le_of_ble_eq_true rfl) ?_
  intro p e s m below meth c A hx hb hr hml hown hts hlocks hnm hK hP hD hS hA ls hl
  have hg : ∀ w ∈ kG, w.before _ s = true := fun w h => hts w (List.mem_cons_of_mem _ h)
  have hown : s.vm.findClass RX12 = some m.cls := hown
  have hl : lv_has ls 1 [(0, .ref o)] := hl
  refine lv_aload_n hx hb dX12_status_0 rfl (lv_at hl 0 rfl) ?_
  refine va_get (D := D) (ci := 12) (v := .int (f 0)) (C := RX12) (T := TX12) (N := 48) hx hb hg inC12 hown hK hP 0 rfl rfl 0 (by decide) (hg _ wt5_160) (fun _ h9 => h9) rfl dX12_status_1 ?_
  refine k_top (z := 0) h0 ?_
  exact kI_ret (v := 0) hx hb hr hlocks rfl hK hS dX12_status_4 () hP hD rfl
set_option maxHeartbeats 4000000 in
set_option maxRecDepth 100000 in
theorem c_force (l : Launch) {D : va_G} {K : Nat → ClassId} (o : Nat) (r : Nat → Nat) (f : Nat → Int32) (a : Nat → Nat → Int32) (g : Nat → Int64) (h0 : a 2 105 = 0) (h1 : a 2 106 = (-1)) (x : Int32)  : kI l yX12_force (Cond.code yX12_force cX12_force 3 (some .int) :: kG) (rmD 2 0 0) D (tysK K) [.ref o, .int x] (mW K o r f a g) (fun v (u : mS) => v = (if mLies x (-1) (-1) = 0 then (-2 : Int32) else -1)) (fun u => mW K o r u.1 u.2.1 u.2.2) 0 0 := by
  refine kI.of (cc := cX12_force) (maxL := 3) (ret := (some .int)) (by decide) rfl (Nat.le_of_ble_eq_true rfl) ?_
  intro p e s m below meth c A hx hb hr hml hown hts hlocks hnm hK hP hD hS hA ls hl
  have hg : ∀ w ∈ kG, w.before _ s = true := fun w h => hts w (List.mem_cons_of_mem _ h)
  have hown : s.vm.findClass RX12 = some m.cls := hown
  have hl : lv_has ls 3 [(0, .ref o), (1, .int x)] := hl
  refine lv_iload_n hx hb dX12_force_0 rfl (lv_at hl 1 rfl) ?_
  refine lv_iconst (v := (-1)) hx hb dX12_force_1 (by decide) ?_
  refine lv_aload_n hx hb dX12_force_2 rfl (lv_at hl 0 rfl) ?_
  refine va_get (D := D) (ci := 12) (v := .ref (r 2)) (C := RX12) (T := TX12) (N := 48) hx hb hg inC12 hown hK hP 0 rfl rfl 2 (by decide) (hg _ wt5_162) (fun _ h9 => h9) rfl dX12_force_3 ?_
  refine lv_bipush (v := 105) hx hb dX12_force_6 (by decide) ?_
  refine va_iald hx hb hK hP 2 0 rfl rfl (k_in (by decide +kernel)) dX12_force_8 ?_
  refine k_top (z := 0) (by rw [cl_105]; exact h0) ?_
  refine lv_iconst (v := 1) hx hb dX12_force_9 (by decide) ?_
  refine lv_isub hx hb dX12_force_10 ?_
  refine k_top (z := (-1)) (by decide +kernel) ?_
  refine kN.callS (As := [.int x, .int (-1), .int (-1)]) (rest := []) ⟨hx, hb, hml, hown, hg⟩ (c_lies l x (-1) (-1)) (va_cwS 3 hg (kgS wt6_69 wt6_70 wt1_14 wt6_71) rfl rfl rfl (by decide +kernel) ⟨by decide, by decide⟩) hP hS rfl hl.1 rfl (Nat.le_of_ble_eq_true rfl) dX12_force_11 ⟨by decide, by decide⟩ (fun v2 H locs hw1 hP hS => ?_)
  refine k_top (z := mLies x (-1) (-1)) hw1 ?_
  refine lv_if_ne (tgt := 24) hx hb dX12_force_14 (by decide) (fun c3 => ?_) (fun c3 => ?_)
  · refine lv_aload_n hx hb dX12_force_24 rfl (lv_at hl 0 rfl) ?_
    refine va_get (D := D) (ci := 12) (v := .ref (r 2)) (C := RX12) (T := TX12) (N := 48) hx hb hg inC12 hown hK hP 0 rfl rfl 2 (by decide) (hg _ wt5_162) (fun _ h9 => h9) rfl dX12_force_25 ?_
    refine lv_bipush (v := 106) hx hb dX12_force_28 (by decide) ?_
    refine va_iald hx hb hK hP 2 0 rfl rfl (k_in (by decide +kernel)) dX12_force_30 ?_
    refine k_top (z := (-1)) (by rw [cl_106]; exact h1) ?_
    refine lv_istore_n (lv' := [(2, .int (-1)), (0, .ref o), (1, .int x)]) hx hb dX12_force_31 rfl hl (by decide) rfl (fun ls hl => ?_)
    refine lv_aload_n hx hb dX12_force_32 rfl (lv_at hl 1 rfl) ?_
    refine va_get (D := D) (ci := 12) (v := .ref (r 2)) (C := RX12) (T := TX12) (N := 48) hx hb hg inC12 hown hK hP 0 rfl rfl 2 (by decide) (hg _ wt5_162) (fun _ h9 => h9) rfl dX12_force_33 ?_
    refine lv_bipush (v := 106) hx hb dX12_force_36 (by decide) ?_
    refine lv_iload_n hx hb dX12_force_38 rfl (lv_at hl 2 rfl) ?_
    refine va_iast hx hb hK hP hD hS 2 0 rfl rfl (k_in (by decide +kernel)) dX12_force_39 (fun H locs hP hD hS => ?_)
    rw [cl_106] at hP hD
    have hP : va_P D vwCl (mW K o r f (va_up a 2 (upd (a 2) 106 x)) g) H := hP
    have hD : va_D A (mW K o r f (va_up a 2 (upd (a 2) 106 x)) g) := hD
    refine k_gen (P := fun z => va_P D vwCl (mW K o r f z g) H ∧ va_D A (mW K o r f z g)) (va_up a 2 (upd (a 2) 106 x)) ⟨hP, hD⟩ (fun a_4 ea_4 hPD => ?_)
    have hP := hPD.1
    have hD := hPD.2
    refine lv_aload_n hx hb dX12_force_40 rfl (lv_at hl 1 rfl) ?_
    refine lv_iload_n hx hb dX12_force_41 rfl (lv_at hl 0 rfl) ?_
    refine kI.callV (As := [.int (-1)]) (rest := []) ⟨hx, hb, hml, hown, hg⟩ (c_good l o r f a_4 g  (-1)) (cwV 1 hg (kgV wt6_76 wt6_78 wp3_6 wt1_14 wt6_79) rfl rfl rfl (by decide +kernel) ⟨by decide, by decide⟩) hK hP hD hS hA mIs [] rfl (wr := []) rfl rfl rfl (fun i h => by cases h) 0 12 rfl rfl rfl hl.1 rfl (Nat.le_of_ble_eq_true rfl) dX12_force_42 ⟨by decide, by decide⟩ (fun v7 u6 H locs hw5 hP hD hS => ?_)
    obtain ⟨f8, a9, g10⟩ := u6
    have hP : va_P D vwCl (mW K o r f8 a9 g10) H := hP
    have hD : va_D A (mW K o r f8 a9 g10) := hD
    refine k_top (z := (-1)) (hw5) ?_
    exact kI_ret (v := (-1)) hx hb hr hlocks rfl hK hS dX12_force_45 (f8, a9, g10) hP hD (by simp [c3])
  · refine lv_aload_n hx hb dX12_force_17 rfl (lv_at hl 0 rfl) ?_
    refine lv_bipush (v := (-2)) hx hb dX12_force_18 (by decide) ?_
    refine kI.callV (As := [.int (-2)]) (rest := []) ⟨hx, hb, hml, hown, hg⟩ (c_refuses2 l o r f a g  ) (cwV 1 hg (kgV wt6_72 wt6_74 wp3_5 wt1_14 wt6_75) rfl rfl rfl (by decide +kernel) ⟨by decide, by decide⟩) hK hP hD hS hA mIs [] rfl (wr := []) rfl rfl rfl (fun i h => by cases h) 0 12 rfl rfl rfl hl.1 rfl (Nat.le_of_ble_eq_true rfl) dX12_force_20 ⟨by decide, by decide⟩ (fun v13 u12 H locs hw11 hP hD hS => ?_)
    obtain ⟨f14, a15, g16⟩ := u12
    have hP : va_P D vwCl (mW K o r f14 a15 g16) H := hP
    have hD : va_D A (mW K o r f14 a15 g16) := hD
    refine k_top (z := (-2)) (hw11) ?_
    exact kI_ret (v := (-2)) hx hb hr hlocks rfl hK hS dX12_force_23 (f14, a15, g16) hP hD (by simp [c3])
set_option maxHeartbeats 4000000 in
set_option maxRecDepth 100000 in
theorem c_stands (l : Launch) {D : va_G} {K : Nat → ClassId} (o : Nat) (r : Nat → Nat) (f : Nat → Int32) (a : Nat → Nat → Int32) (g : Nat → Int64) (h0 : a 2 102 = 0) (x : Int32)  : kI l yX12_stands (Cond.code yX12_stands cX12_stands 4 (some .int) :: kG) (rmD 2 0 0) D (tysK K) [.ref o, .int x] (mW K o r f a g) (fun v (_ : Unit) => v = (if mLies x 0 1 = 0 then (-1 : Int32) else 0)) (fun _ => mW K o r f a g) 0 0 := by
  refine kI.of (cc := cX12_stands) (maxL := 4) (ret := (some .int)) (by decide) rfl (Nat.le_of_ble_eq_true rfl) ?_
  intro p e s m below meth c A hx hb hr hml hown hts hlocks hnm hK hP hD hS hA ls hl
  have hg : ∀ w ∈ kG, w.before _ s = true := fun w h => hts w (List.mem_cons_of_mem _ h)
  have hown : s.vm.findClass RX12 = some m.cls := hown
  have hl : lv_has ls 4 [(0, .ref o), (1, .int x)] := hl
  refine lv_iload_n hx hb dX12_stands_0 rfl (lv_at hl 1 rfl) ?_
  refine lv_iconst (v := 0) hx hb dX12_stands_1 (by decide) ?_
  refine lv_iconst (v := 1) hx hb dX12_stands_2 (by decide) ?_
  refine kN.callS (As := [.int x, .int 0, .int 1]) (rest := []) ⟨hx, hb, hml, hown, hg⟩ (c_lies l x 0 1) (va_cwS 3 hg (kgS wt6_69 wt6_70 wt1_14 wt6_71) rfl rfl rfl (by decide +kernel) ⟨by decide, by decide⟩) hP hS rfl hl.1 rfl (Nat.le_of_ble_eq_true rfl) dX12_stands_3 ⟨by decide, by decide⟩ (fun v2 H locs hw1 hP hS => ?_)
  refine k_top (z := mLies x 0 1) hw1 ?_
  refine lv_if_ne (tgt := 11) hx hb dX12_stands_6 (by decide) (fun c3 => ?_) (fun c3 => ?_)
  · refine lv_iload_n hx hb dX12_stands_11 rfl (lv_at hl 1 rfl) ?_
    refine lv_if_ne (tgt := 20) hx hb dX12_stands_12 (by decide) (fun c4 => ?_) (fun c4 => ?_)
    · refine lv_iconst (v := 0) hx hb dX12_stands_20 (by decide) ?_
      refine lv_istore_n (lv' := [(2, .int 0), (0, .ref o), (1, .int x)]) hx hb dX12_stands_21 rfl hl (by decide) rfl (fun ls hl => ?_)
      refine lv_iconst (v := 0) hx hb dX12_stands_22 (by decide) ?_
      refine lv_istore_n (lv' := [(3, .int 0), (2, .int 0), (0, .ref o), (1, .int x)]) hx hb dX12_stands_23 rfl hl (by decide) rfl (fun ls hl => ?_)
      refine lv_iload_n hx hb dX12_stands_24 rfl (lv_at hl 0 rfl) ?_
      refine lv_aload_n hx hb dX12_stands_25 rfl (lv_at hl 2 rfl) ?_
      refine va_get (D := D) (ci := 12) (v := .ref (r 2)) (C := RX12) (T := TX12) (N := 48) hx hb hg inC12 hown hK hP 0 rfl rfl 2 (by decide) (hg _ wt5_162) (fun _ h9 => h9) rfl dX12_stands_26 ?_
      refine lv_bipush (v := 102) hx hb dX12_stands_29 (by decide) ?_
      refine va_iald hx hb hK hP 2 0 rfl rfl (k_in (by decide +kernel)) dX12_stands_31 ?_
      refine k_top (z := 0) (by rw [cl_102]; exact h0) ?_
      refine lv_icmp_ge (tgt := 59) hx hb dX12_stands_32 (by decide) (fun c5 => ?_) (fun c5 => absurd (by decide +kernel) c5)
      refine lv_iload_n hx hb dX12_stands_59 rfl (lv_at hl 1 rfl) ?_
      exact kI_ret (v := 0) hx hb hr hlocks rfl hK hS dX12_stands_60 () hP hD (by simp [c3])
    · refine lv_aload_n hx hb dX12_stands_15 rfl (lv_at hl 0 rfl) ?_
      refine kI.callV (As := []) (rest := []) ⟨hx, hb, hml, hown, hg⟩ (c_standing l o r f a g h0 ) (cwV 0 hg (kgV wt6_116 wt6_118 wp3_13 wt1_14 wt6_119) rfl rfl rfl (by decide +kernel) ⟨by decide, by decide⟩) hK hP hD hS hA mIs [] rfl (wr := []) rfl rfl rfl (fun i h => by cases h) 0 12 rfl rfl rfl hl.1 rfl (Nat.le_of_ble_eq_true rfl) dX12_stands_16 ⟨by decide, by decide⟩ (fun v8 u7 H locs hw6 hP hD hS => ?_)
      have hP : va_P D vwCl (mW K o r f a g) H := hP
      have hD : va_D A (mW K o r f a g) := hD
      refine k_top (z := 0) (hw6) ?_
      exact kI_ret (v := 0) hx hb hr hlocks rfl hK hS dX12_stands_19 () hP hD (by simp [c3])
  · refine lv_iconst (v := (-1)) hx hb dX12_stands_9 (by decide) ?_
    exact kI_ret (v := (-1)) hx hb hr hlocks rfl hK hS dX12_stands_10 () hP hD (by simp [c3])
set_option maxHeartbeats 4000000 in
set_option maxRecDepth 100000 in
theorem c_sendsKept (l : Launch) {D : va_G} {K : Nat → ClassId} (o : Nat) (r : Nat → Nat) (f : Nat → Int32) (a : Nat → Nat → Int32) (g : Nat → Int64) (h0 : a 2 103 = 0) (x : Int32) (y : Int32)  : kI l yX12_sendsKept (Cond.code yX12_sendsKept cX12_sendsKept 3 (some .int) :: kG) (rmD 3 0 0) D (tysK K) [.ref o, .int x, .int y] (mW K o r f a g) (fun v (_ : Unit) => v = (-2)) (fun _ => mW K o r f a g) 0 0 := by
  refine kI.of (cc := cX12_sendsKept) (maxL := 3) (ret := (some .int)) (by decide) rfl (Nat.le_of_ble_eq_true rfl) ?_
  intro p e s m below meth c A hx hb hr hml hown hts hlocks hnm hK hP hD hS hA ls hl
  have hg : ∀ w ∈ kG, w.before _ s = true := fun w h => hts w (List.mem_cons_of_mem _ h)
  have hown : s.vm.findClass RX12 = some m.cls := hown
  have hl : lv_has ls 3 [(0, .ref o), (1, .int x), (2, .int y)] := hl
  refine lv_aload_n hx hb dX12_sendsKept_0 rfl (lv_at hl 0 rfl) ?_
  refine lv_iload_n hx hb dX12_sendsKept_1 rfl (lv_at hl 1 rfl) ?_
  refine kI.callV (As := [.int x]) (rest := []) ⟨hx, hb, hml, hown, hg⟩ (c_isBuilder l o r f a g h0 x) (cwV 1 hg (kgV wt6_138 wt6_140 wp3_15 wt1_14 wt6_141) rfl rfl rfl (by decide +kernel) ⟨by decide, by decide⟩) hK hP hD hS hA mIs [] rfl (wr := []) rfl rfl rfl (fun i h => by cases h) 0 12 rfl rfl rfl hl.1 rfl (Nat.le_of_ble_eq_true rfl) dX12_sendsKept_2 ⟨by decide, by decide⟩ (fun v3 u2 H locs hw1 hP hD hS => ?_)
  have hP : va_P D vwCl (mW K o r f a g) H := hP
  have hD : va_D A (mW K o r f a g) := hD
  refine k_top (z := 0) (hw1) ?_
  refine lv_if_eq (tgt := 16) hx hb dX12_sendsKept_5 (by decide) (fun c4 => ?_) (fun c4 => absurd (by decide +kernel) c4)
  refine lv_bipush (v := (-2)) hx hb dX12_sendsKept_16 (by decide) ?_
  exact kI_ret (v := (-2)) hx hb hr hlocks rfl hK hS dX12_sendsKept_18 () hP hD rfl
set_option maxHeartbeats 4000000 in
set_option maxRecDepth 100000 in
theorem c_restsKept (l : Launch) {D : va_G} {K : Nat → ClassId} (o : Nat) (r : Nat → Nat) (f : Nat → Int32) (a : Nat → Nat → Int32) (g : Nat → Int64) (h0 : a 2 103 = 0) (x : Int32)  : kI l yX12_restsKept (Cond.code yX12_restsKept cX12_restsKept 3 (some .int) :: kG) (rmD 3 0 0) D (tysK K) [.ref o, .int x] (mW K o r f a g) (fun v (_ : Unit) => v = (-2)) (fun _ => mW K o r f a g) 0 0 := by
  refine kI.of (cc := cX12_restsKept) (maxL := 3) (ret := (some .int)) (by decide) rfl (Nat.le_of_ble_eq_true rfl) ?_
  intro p e s m below meth c A hx hb hr hml hown hts hlocks hnm hK hP hD hS hA ls hl
  have hg : ∀ w ∈ kG, w.before _ s = true := fun w h => hts w (List.mem_cons_of_mem _ h)
  have hown : s.vm.findClass RX12 = some m.cls := hown
  have hl : lv_has ls 3 [(0, .ref o), (1, .int x)] := hl
  refine lv_aload_n hx hb dX12_restsKept_0 rfl (lv_at hl 0 rfl) ?_
  refine lv_iload_n hx hb dX12_restsKept_1 rfl (lv_at hl 1 rfl) ?_
  refine kI.callV (As := [.int x]) (rest := []) ⟨hx, hb, hml, hown, hg⟩ (c_isBuilder l o r f a g h0 x) (cwV 1 hg (kgV wt6_138 wt6_140 wp3_15 wt1_14 wt6_141) rfl rfl rfl (by decide +kernel) ⟨by decide, by decide⟩) hK hP hD hS hA mIs [] rfl (wr := []) rfl rfl rfl (fun i h => by cases h) 0 12 rfl rfl rfl hl.1 rfl (Nat.le_of_ble_eq_true rfl) dX12_restsKept_2 ⟨by decide, by decide⟩ (fun v3 u2 H locs hw1 hP hD hS => ?_)
  have hP : va_P D vwCl (mW K o r f a g) H := hP
  have hD : va_D A (mW K o r f a g) := hD
  refine k_top (z := 0) (hw1) ?_
  refine lv_if_ne (tgt := 11) hx hb dX12_restsKept_5 (by decide) (fun c4 => absurd (by decide +kernel) c4) (fun c4 => ?_)
  refine lv_bipush (v := (-2)) hx hb dX12_restsKept_8 (by decide) ?_
  exact kI_ret (v := (-2)) hx hb hr hlocks rfl hK hS dX12_restsKept_10 () hP hD rfl
set_option maxHeartbeats 4000000 in
set_option maxRecDepth 100000 in
theorem c_throwsKept (l : Launch) {D : va_G} {K : Nat → ClassId} (o : Nat) (r : Nat → Nat) (f : Nat → Int32) (a : Nat → Nat → Int32) (g : Nat → Int64) (h0 : a 2 102 = 0) (x : Int32)  : kI l yX12_throwsKept (Cond.code yX12_throwsKept cX12_throwsKept 2 (some .int) :: kG) (rmD 3 0 0) D (tysK K) [.ref o, .int x] (mW K o r f a g) (fun v (_ : Unit) => v = (-2)) (fun _ => mW K o r f a g) 0 0 := by
  refine kI.of (cc := cX12_throwsKept) (maxL := 2) (ret := (some .int)) (by decide) rfl (Nat.le_of_ble_eq_true rfl) ?_
  intro p e s m below meth c A hx hb hr hml hown hts hlocks hnm hK hP hD hS hA ls hl
  have hg : ∀ w ∈ kG, w.before _ s = true := fun w h => hts w (List.mem_cons_of_mem _ h)
  have hown : s.vm.findClass RX12 = some m.cls := hown
  have hl : lv_has ls 2 [(0, .ref o), (1, .int x)] := hl
  refine lv_aload_n hx hb dX12_throwsKept_0 rfl (lv_at hl 0 rfl) ?_
  refine lv_iload_n hx hb dX12_throwsKept_1 rfl (lv_at hl 1 rfl) ?_
  refine kI.callV (As := [.int x]) (rest := []) ⟨hx, hb, hml, hown, hg⟩ (c_isPart l o r f a g h0 x) (cwV 1 hg (kgV wt6_104 wt6_106 wp3_10 wt1_14 wt6_107) rfl rfl rfl (by decide +kernel) ⟨by decide, by decide⟩) hK hP hD hS hA mIs [] rfl (wr := []) rfl rfl rfl (fun i h => by cases h) 0 12 rfl rfl rfl hl.1 rfl (Nat.le_of_ble_eq_true rfl) dX12_throwsKept_2 ⟨by decide, by decide⟩ (fun v3 u2 H locs hw1 hP hD hS => ?_)
  have hP : va_P D vwCl (mW K o r f a g) H := hP
  have hD : va_D A (mW K o r f a g) := hD
  refine k_top (z := 0) (hw1) ?_
  refine lv_if_ne (tgt := 11) hx hb dX12_throwsKept_5 (by decide) (fun c4 => absurd (by decide +kernel) c4) (fun c4 => ?_)
  refine lv_bipush (v := (-2)) hx hb dX12_throwsKept_8 (by decide) ?_
  exact kI_ret (v := (-2)) hx hb hr hlocks rfl hK hS dX12_throwsKept_10 () hP hD rfl
set_option maxHeartbeats 4000000 in
set_option maxRecDepth 100000 in
theorem c_goodOr2 (l : Launch) {D : va_G} {K : Nat → ClassId} (o : Nat) (r : Nat → Nat) (f : Nat → Int32) (a : Nat → Nat → Int32) (g : Nat → Int64)    : kI l yX12_goodOr (Cond.code yX12_goodOr cX12_goodOr 2 (some .int) :: kG) (rmD 2 0 0) D (tysK K) [.ref o, .int (-2)] (mW K o r f a g) (fun v (u : mS) => v = (-2)) (fun u => mW K o r u.1 u.2.1 u.2.2) 0 0 := by
  refine kI.of (cc := cX12_goodOr) (maxL := 2) (ret := (some .int)) (by decide) rfl (Nat.le_of_ble_eq_true rfl) ?_
  intro p e s m below meth c A hx hb hr hml hown hts hlocks hnm hK hP hD hS hA ls hl
  have hg : ∀ w ∈ kG, w.before _ s = true := fun w h => hts w (List.mem_cons_of_mem _ h)
  have hown : s.vm.findClass RX12 = some m.cls := hown
  have hl : lv_has ls 2 [(0, .ref o), (1, .int (-2))] := hl
  refine lv_iload_n hx hb dX12_goodOr_0 rfl (lv_at hl 1 rfl) ?_
  refine lv_if_ge (tgt := 12) hx hb dX12_goodOr_1 (by decide) (fun c1 => absurd c1 (by decide +kernel)) (fun c1 => ?_)
  refine lv_aload_n hx hb dX12_goodOr_4 rfl (lv_at hl 0 rfl) ?_
  refine lv_iload_n hx hb dX12_goodOr_5 rfl (lv_at hl 1 rfl) ?_
  refine kI.callV (As := [.int (-2)]) (rest := []) ⟨hx, hb, hml, hown, hg⟩ (c_refuses2 l o r f a g  ) (cwV 1 hg (kgV wt6_72 wt6_74 wp3_5 wt1_14 wt6_75) rfl rfl rfl (by decide +kernel) ⟨by decide, by decide⟩) hK hP hD hS hA mIs [] rfl (wr := []) rfl rfl rfl (fun i h => by cases h) 0 12 rfl rfl rfl hl.1 rfl (Nat.le_of_ble_eq_true rfl) dX12_goodOr_6 ⟨by decide, by decide⟩ (fun v4 u3 H locs hw2 hP hD hS => ?_)
  obtain ⟨f5, a6, g7⟩ := u3
  have hP : va_P D vwCl (mW K o r f5 a6 g7) H := hP
  have hD : va_D A (mW K o r f5 a6 g7) := hD
  refine k_top (z := (-2)) (hw2) ?_
  refine lv_goto (tgt := 17) hx hb dX12_goodOr_9 (by decide) ?_
  exact kI_ret (v := (-2)) hx hb hr hlocks rfl hK hS dX12_goodOr_17 (f5, a6, g7) hP hD rfl
set_option maxHeartbeats 4000000 in
set_option maxRecDepth 100000 in
theorem c_goodOr0 (l : Launch) {D : va_G} {K : Nat → ClassId} (o : Nat) (r : Nat → Nat) (f : Nat → Int32) (a : Nat → Nat → Int32) (g : Nat → Int64)    : kI l yX12_goodOr (Cond.code yX12_goodOr cX12_goodOr 2 (some .int) :: kG) (rmD 2 0 0) D (tysK K) [.ref o, .int 0] (mW K o r f a g) (fun v (u : mS) => v = 0) (fun u => mW K o r u.1 u.2.1 u.2.2) 0 0 := by
  refine kI.of (cc := cX12_goodOr) (maxL := 2) (ret := (some .int)) (by decide) rfl (Nat.le_of_ble_eq_true rfl) ?_
  intro p e s m below meth c A hx hb hr hml hown hts hlocks hnm hK hP hD hS hA ls hl
  have hg : ∀ w ∈ kG, w.before _ s = true := fun w h => hts w (List.mem_cons_of_mem _ h)
  have hown : s.vm.findClass RX12 = some m.cls := hown
  have hl : lv_has ls 2 [(0, .ref o), (1, .int 0)] := hl
  refine lv_iload_n hx hb dX12_goodOr_0 rfl (lv_at hl 1 rfl) ?_
  refine lv_if_ge (tgt := 12) hx hb dX12_goodOr_1 (by decide) (fun c1 => ?_) (fun c1 => absurd (by decide +kernel) c1)
  refine lv_aload_n hx hb dX12_goodOr_12 rfl (lv_at hl 0 rfl) ?_
  refine lv_iload_n hx hb dX12_goodOr_13 rfl (lv_at hl 1 rfl) ?_
  refine kI.callV (As := [.int 0]) (rest := []) ⟨hx, hb, hml, hown, hg⟩ (c_good l o r f a g  0) (cwV 1 hg (kgV wt6_76 wt6_78 wp3_6 wt1_14 wt6_79) rfl rfl rfl (by decide +kernel) ⟨by decide, by decide⟩) hK hP hD hS hA mIs [] rfl (wr := []) rfl rfl rfl (fun i h => by cases h) 0 12 rfl rfl rfl hl.1 rfl (Nat.le_of_ble_eq_true rfl) dX12_goodOr_14 ⟨by decide, by decide⟩ (fun v4 u3 H locs hw2 hP hD hS => ?_)
  obtain ⟨f5, a6, g7⟩ := u3
  have hP : va_P D vwCl (mW K o r f5 a6 g7) H := hP
  have hD : va_D A (mW K o r f5 a6 g7) := hD
  refine k_top (z := 0) (hw2) ?_
  exact kI_ret (v := 0) hx hb hr hlocks rfl hK hS dX12_goodOr_17 (f5, a6, g7) hP hD rfl
set_option maxHeartbeats 4000000 in
set_option maxRecDepth 100000 in
theorem c_send (l : Launch) {D : va_G} {K : Nat → ClassId} (o : Nat) (r : Nat → Nat) (f : Nat → Int32) (a : Nat → Nat → Int32) (g : Nat → Int64) (h0 : a 2 103 = 0) (x : Int32) (y : Int32)  : kI l yX12_send (Cond.code yX12_send cX12_send 3 (some .int) :: kG) (rmD 4 0 0) D (tysK K) [.ref o, .int x, .int y] (mW K o r f a g) (fun v (u : mS) => v = (-2)) (fun u => mW K o r u.1 u.2.1 u.2.2) 0 0 := by
  refine kI.of (cc := cX12_send) (maxL := 3) (ret := (some .int)) (by decide) rfl (Nat.le_of_ble_eq_true rfl) ?_
  intro p e s m below meth c A hx hb hr hml hown hts hlocks hnm hK hP hD hS hA ls hl
  have hg : ∀ w ∈ kG, w.before _ s = true := fun w h => hts w (List.mem_cons_of_mem _ h)
  have hown : s.vm.findClass RX12 = some m.cls := hown
  have hl : lv_has ls 3 [(0, .ref o), (1, .int x), (2, .int y)] := hl
  refine lv_aload_n hx hb dX12_send_0 rfl (lv_at hl 0 rfl) ?_
  refine lv_aload_n hx hb dX12_send_1 rfl (lv_at hl 0 rfl) ?_
  refine lv_iload_n hx hb dX12_send_2 rfl (lv_at hl 1 rfl) ?_
  refine lv_iload_n hx hb dX12_send_3 rfl (lv_at hl 2 rfl) ?_
  refine kI.callV (As := [.int x, .int y]) (rest := [.ref o]) ⟨hx, hb, hml, hown, hg⟩ (c_sendsKept l o r f a g h0 x y) (cwV 2 hg (kgV wt7_120 wt7_122 wp6_6 wt1_14 wt7_123) rfl rfl rfl (by decide +kernel) ⟨by decide, by decide⟩) hK hP hD hS hA mIs [] rfl (wr := []) rfl rfl rfl (fun i h => by cases h) 0 12 rfl rfl rfl hl.1 rfl (Nat.le_of_ble_eq_true rfl) dX12_send_4 ⟨by decide, by decide⟩ (fun v3 u2 H locs hw1 hP hD hS => ?_)
  have hP : va_P D vwCl (mW K o r f a g) H := hP
  have hD : va_D A (mW K o r f a g) := hD
  refine k_top (z := (-2)) (hw1) ?_
  refine kI.callV (As := [.int (-2)]) (rest := []) ⟨hx, hb, hml, hown, hg⟩ (c_goodOr2 l o r f a g  ) (cwV 1 hg (kgV wt7_128 wt7_130 wp6_8 wt1_14 wt7_131) rfl rfl rfl (by decide +kernel) ⟨by decide, by decide⟩) hK hP hD hS hA mIs [] rfl (wr := []) rfl rfl rfl (fun i h => by cases h) 0 12 rfl rfl rfl hl.1 rfl (Nat.le_of_ble_eq_true rfl) dX12_send_7 ⟨by decide, by decide⟩ (fun v6 u5 H locs hw4 hP hD hS => ?_)
  obtain ⟨f7, a8, g9⟩ := u5
  have hP : va_P D vwCl (mW K o r f7 a8 g9) H := hP
  have hD : va_D A (mW K o r f7 a8 g9) := hD
  refine k_top (z := (-2)) (hw4) ?_
  exact kI_ret (v := (-2)) hx hb hr hlocks rfl hK hS dX12_send_10 (f7, a8, g9) hP hD rfl
