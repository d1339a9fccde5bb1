set_option maxHeartbeats 4000000 in
set_option maxRecDepth 100000 in
theorem x_placeInHand (l : Launch) {D : va_G} {K : Nat → ClassId} (r : Nat → Nat) (f : Nat → Int32) (a : Nat → Nat → Int32) (g : xG) (h0 : f 1604 = 0) (h1 : f 1603 = 1) (h2 : a 56 0 = 4000) (h3 : a 57 0 = 0)   : kI l yX4_placeInHand (Cond.code yX4_placeInHand cX4_placeInHand 1 (some .int) :: kG) (rmD 1 0 0) D (tysK K) [.ref (r 50)] (xW K r f a g) (fun v (_ : Unit) => v = 0) (fun _ => xW K r f a g) 0 0 := by
  refine kI.of (cc := cX4_placeInHand) (maxL := 1) (ret := (some .int)) (by decide) rfl (Nat.le_of_ble_eq_true rfl) ?_
  intro p e s m below meth c A hx hb hr hml hown hts hlocks hnm hK hP hD hS hA ls hl
  have hg : ∀ w ∈ kG, w.before _ s = true := fun w h => hts w (List.mem_cons_of_mem _ h)
  have hown : s.vm.findClass RX4 = some m.cls := hown
  have hl : lv_has ls 1 [(0, .ref (r 50))] := hl
  refine lv_aload_n hx hb dX4_placeInHand_0 rfl (lv_at hl 0 rfl) ?_
  refine va_get (D := D) (ci := 4) (v := .int (f 1604)) (C := RX4) (T := TX4) (N := 7) hx hb hg inC4 hown hK hP 50 rfl rfl 4 (by decide) (hg _ wt2_69) (fun _ h9 => h9) rfl dX4_placeInHand_1 ?_
  refine k_top (z := 0) h0 ?_
  refine lv_if_lt (tgt := 42) hx hb dX4_placeInHand_4 (by decide) (fun c1 => absurd c1 (by decide +kernel)) (fun c1 => ?_)
  refine lv_aload_n hx hb dX4_placeInHand_7 rfl (lv_at hl 0 rfl) ?_
  refine va_get (D := D) (ci := 4) (v := .int (f 1604)) (C := RX4) (T := TX4) (N := 7) hx hb hg inC4 hown hK hP 50 rfl rfl 4 (by decide) (hg _ wt2_69) (fun _ h9 => h9) rfl dX4_placeInHand_8 ?_
  refine k_top (z := 0) h0 ?_
  refine lv_aload_n hx hb dX4_placeInHand_11 rfl (lv_at hl 0 rfl) ?_
  refine va_get (D := D) (ci := 4) (v := .int (f 1603)) (C := RX4) (T := TX4) (N := 7) hx hb hg inC4 hown hK hP 50 rfl rfl 3 (by decide) (hg _ wt2_68) (fun _ h9 => h9) rfl dX4_placeInHand_12 ?_
  refine k_top (z := 1) h1 ?_
  refine lv_icmp_ge (tgt := 42) hx hb dX4_placeInHand_15 (by decide) (fun c2 => absurd c2 (by decide +kernel)) (fun c2 => ?_)
  refine lv_aload_n hx hb dX4_placeInHand_18 rfl (lv_at hl 0 rfl) ?_
  refine va_get (D := D) (ci := 4) (v := .int (f 1604)) (C := RX4) (T := TX4) (N := 7) hx hb hg inC4 hown hK hP 50 rfl rfl 4 (by decide) (hg _ wt2_69) (fun _ h9 => h9) rfl dX4_placeInHand_19 ?_
  refine k_top (z := 0) h0 ?_
  refine lv_aload_n hx hb dX4_placeInHand_22 rfl (lv_at hl 0 rfl) ?_
  refine va_get (D := D) (ci := 4) (v := .ref (r 57)) (C := RX4) (T := TX4) (N := 7) hx hb hg inC4 hown hK hP 50 rfl rfl 2 (by decide) (hg _ wt2_67) (fun _ h9 => h9) rfl dX4_placeInHand_23 ?_
  refine va_alen (v := 401) hx hb hK hP 57 0 rfl rfl rfl dX4_placeInHand_26 ?_
  refine lv_icmp_ge (tgt := 42) hx hb dX4_placeInHand_27 (by decide) (fun c3 => absurd c3 (by decide +kernel)) (fun c3 => ?_)
  refine lv_aload_n hx hb dX4_placeInHand_30 rfl (lv_at hl 0 rfl) ?_
  refine va_get (D := D) (ci := 4) (v := .ref (r 57)) (C := RX4) (T := TX4) (N := 7) hx hb hg inC4 hown hK hP 50 rfl rfl 2 (by decide) (hg _ wt2_67) (fun _ h9 => h9) rfl dX4_placeInHand_31 ?_
  refine lv_aload_n hx hb dX4_placeInHand_34 rfl (lv_at hl 0 rfl) ?_
  refine va_get (D := D) (ci := 4) (v := .int (f 1604)) (C := RX4) (T := TX4) (N := 7) hx hb hg inC4 hown hK hP 50 rfl rfl 4 (by decide) (hg _ wt2_69) (fun _ h9 => h9) rfl dX4_placeInHand_35 ?_
  refine k_top (z := 0) h0 ?_
  refine va_iald hx hb hK hP 57 0 rfl rfl (k_in (by decide +kernel)) dX4_placeInHand_38 ?_
  refine k_top (z := 0) (by rw [cl_0]; exact h3) ?_
  refine lv_goto (tgt := 43) hx hb dX4_placeInHand_39 (by decide) ?_
  exact kI_ret (v := 0) hx hb hr hlocks rfl hK hS dX4_placeInHand_43 () hP hD rfl
set_option maxHeartbeats 4000000 in
set_option maxRecDepth 100000 in
theorem x_readRule (l : Launch) {D : va_G} {K : Nat → ClassId} (r : Nat → Nat) (f : Nat → Int32) (a : Nat → Nat → Int32) (g : xG) (h0 : f 1604 = 0) (h1 : f 1603 = 1) (h2 : a 56 0 = 4000) (h3 : a 57 0 = 0)   : kI l yX4_readRule (Cond.code yX4_readRule cX4_readRule 2 (some .boolean) :: kG) (rmD 2 0 0) D (tysK K) [.ref (r 50)] (xW K r f a g) (fun v (_ : Unit) => v = 0) (fun _ => xW K r f a g) 0 0 := by
  refine kI.of (cc := cX4_readRule) (maxL := 2) (ret := (some .boolean)) (by decide) rfl (Nat.le_of_ble_eq_true rfl) ?_
  intro p e s m below meth c A hx hb hr hml hown hts hlocks hnm hK hP hD hS hA ls hl
  have hg : ∀ w ∈ kG, w.before _ s = true := fun w h => hts w (List.mem_cons_of_mem _ h)
  have hown : s.vm.findClass RX4 = some m.cls := hown
  have hl : lv_has ls 2 [(0, .ref (r 50))] := hl
  refine lv_aload_n hx hb dX4_readRule_0 rfl (lv_at hl 0 rfl) ?_
  refine kI.callW (As := []) (rest := []) ⟨hx, hb, hml, hown, hg⟩ (x_inHand l r f a g h0 h1 h2 h3 ) (cwV 0 hg (kgV wt3_238 wt4_0 wp1_12 wt1_7 wt4_1) rfl rfl rfl (by decide +kernel) ⟨by decide, by decide⟩) hK hP hD hS hA 50 4 rfl rfl rfl hl.1 rfl (Nat.le_of_ble_eq_true rfl) dX4_readRule_1 ⟨by decide, by decide⟩ (fun v3 u2 H locs hw1 hP hD hS => ?_)
  have hP : va_P D vwCl (xW K r f a g) H := hP
  have hD : va_D A (xW K r f a g) := hD
  refine k_top (z := 4000) (hw1) ?_
  refine lv_sipush (v := 2004) hx hb dX4_readRule_4 (by decide) ?_
  refine lv_isub hx hb dX4_readRule_7 ?_
  refine k_top (z := 1996) (by decide +kernel) ?_
  refine lv_istore_n (lv' := [(1, .int 1996), (0, .ref (r 50))]) hx hb dX4_readRule_8 rfl hl (by decide) rfl (fun ls hl => ?_)
  refine lv_iload_n hx hb dX4_readRule_9 rfl (lv_at hl 0 rfl) ?_
  refine lv_if_lt (tgt := 29) hx hb dX4_readRule_10 (by decide) (fun c4 => absurd c4 (by decide +kernel)) (fun c4 => ?_)
  refine lv_iload_n hx hb dX4_readRule_13 rfl (lv_at hl 0 rfl) ?_
  refine lv_iconst (v := 4) hx hb dX4_readRule_14 (by decide) ?_
  refine lv_icmp_ge (tgt := 29) hx hb dX4_readRule_15 (by decide) (fun c5 => ?_) (fun c5 => absurd (by decide +kernel) c5)
  refine lv_iconst (v := 0) hx hb dX4_readRule_29 (by decide) ?_
  exact kI_ret (v := 0) hx hb hr hlocks (by decide +kernel) hK hS dX4_readRule_30 () hP hD rfl
set_option maxHeartbeats 4000000 in
set_option maxRecDepth 100000 in
theorem x_readOrder (l : Launch) {D : va_G} {K : Nat → ClassId} (r : Nat → Nat) (f : Nat → Int32) (a : Nat → Nat → Int32) (g : xG) (h0 : f 1604 = 0) (h1 : f 1603 = 1) (h2 : a 56 0 = 4000) (h3 : a 57 0 = 0)   : kI l yX4_readOrder (Cond.code yX4_readOrder cX4_readOrder 2 (some .boolean) :: kG) (rmD 2 0 0) D (tysK K) [.ref (r 50)] (xW K r f a g) (fun v (_ : Unit) => v = 0) (fun _ => xW K r f a g) 0 0 := by
  refine kI.of (cc := cX4_readOrder) (maxL := 2) (ret := (some .boolean)) (by decide) rfl (Nat.le_of_ble_eq_true rfl) ?_
  intro p e s m below meth c A hx hb hr hml hown hts hlocks hnm hK hP hD hS hA ls hl
  have hg : ∀ w ∈ kG, w.before _ s = true := fun w h => hts w (List.mem_cons_of_mem _ h)
  have hown : s.vm.findClass RX4 = some m.cls := hown
  have hl : lv_has ls 2 [(0, .ref (r 50))] := hl
  refine lv_aload_n hx hb dX4_readOrder_0 rfl (lv_at hl 0 rfl) ?_
  refine kI.callW (As := []) (rest := []) ⟨hx, hb, hml, hown, hg⟩ (x_inHand l r f a g h0 h1 h2 h3 ) (cwV 0 hg (kgV wt3_238 wt4_0 wp1_12 wt1_7 wt4_1) rfl rfl rfl (by decide +kernel) ⟨by decide, by decide⟩) hK hP hD hS hA 50 4 rfl rfl rfl hl.1 rfl (Nat.le_of_ble_eq_true rfl) dX4_readOrder_1 ⟨by decide, by decide⟩ (fun v3 u2 H locs hw1 hP hD hS => ?_)
  have hP : va_P D vwCl (xW K r f a g) H := hP
  have hD : va_D A (xW K r f a g) := hD
  refine k_top (z := 4000) (hw1) ?_
  refine lv_sipush (v := 2018) hx hb dX4_readOrder_4 (by decide) ?_
  refine lv_isub hx hb dX4_readOrder_7 ?_
  refine k_top (z := 1982) (by decide +kernel) ?_
  refine lv_istore_n (lv' := [(1, .int 1982), (0, .ref (r 50))]) hx hb dX4_readOrder_8 rfl hl (by decide) rfl (fun ls hl => ?_)
  refine lv_iload_n hx hb dX4_readOrder_9 rfl (lv_at hl 0 rfl) ?_
  refine lv_if_lt (tgt := 29) hx hb dX4_readOrder_10 (by decide) (fun c4 => absurd c4 (by decide +kernel)) (fun c4 => ?_)
  refine lv_iload_n hx hb dX4_readOrder_13 rfl (lv_at hl 0 rfl) ?_
  refine lv_iconst (v := 4) hx hb dX4_readOrder_14 (by decide) ?_
  refine lv_icmp_ge (tgt := 29) hx hb dX4_readOrder_15 (by decide) (fun c5 => ?_) (fun c5 => absurd (by decide +kernel) c5)
  refine lv_iconst (v := 0) hx hb dX4_readOrder_29 (by decide) ?_
  exact kI_ret (v := 0) hx hb hr hlocks (by decide +kernel) hK hS dX4_readOrder_30 () hP hD rfl
set_option maxHeartbeats 4000000 in
set_option maxRecDepth 100000 in
theorem x_read0 (l : Launch) {D : va_G} {K : Nat → ClassId} (r : Nat → Nat) (f : Nat → Int32) (a : Nat → Nat → Int32) (g : xG)    : kI l yX4_read (Cond.code yX4_read cX4_read 5 (some .int) :: kG) (rmD 3 0 0) D (tysK K) [.ref (r 50), .ref (r 93), .int 0, .int 0] (xW K r f a g) (fun v (u : xS) => v = 0) (fun u => xW K r u.1 u.2.1 u.2.2) 0 0 := by
  refine kI.of (cc := cX4_read) (maxL := 5) (ret := (some .int)) (by decide) rfl (Nat.le_of_ble_eq_true rfl) ?_
  intro p e s m below meth c A hx hb hr hml hown hts hlocks hnm hK hP hD hS hA ls hl
  have hg : ∀ w ∈ kG, w.before _ s = true := fun w h => hts w (List.mem_cons_of_mem _ h)
  have hown : s.vm.findClass RX4 = some m.cls := hown
  have hl : lv_has ls 5 [(0, .ref (r 50)), (1, .ref (r 93)), (2, .int 0), (3, .int 0)] := hl
  refine lv_aload_n hx hb dX4_read_0 rfl (lv_at hl 0 rfl) ?_
  refine lv_aload_n hx hb dX4_read_1 rfl (lv_at hl 1 rfl) ?_
  refine lv_iload_n hx hb dX4_read_2 rfl (lv_at hl 2 rfl) ?_
  refine lv_aload_n hx hb dX4_read_3 rfl (lv_at hl 1 rfl) ?_
  refine va_alen (v := 400) hx hb hK hP 93 1 rfl rfl rfl dX4_read_4 ?_
  refine lv_sipush (v := 400) hx hb dX4_read_5 (by decide) ?_
  refine va_mmin hx hb (hml.trans hl.1.symm) hown (hg _ wt3_157) (hg _ wt3_52) (hg _ wt1_9) (hg _ wt3_53) (by decide) (Nat.le_of_ble_eq_true rfl) (by decide) (by decide) dX4_read_8 ?_
  refine k_top (z := 400) (by decide +kernel) ?_
  refine va_mmin hx hb (hml.trans hl.1.symm) hown (hg _ wt3_157) (hg _ wt3_52) (hg _ wt1_9) (hg _ wt3_53) (by decide) (Nat.le_of_ble_eq_true rfl) (by decide) (by decide) dX4_read_11 ?_
  refine k_top (z := 0) (by decide +kernel) ?_
  refine kV.callW (As := [.ref (r 93), .int 0]) (rest := []) ⟨hx, hb, hml, hown, hg⟩ (x_split l r f a g  ) (cwV 2 hg (kgV wt3_158 wt3_160 wp1_9 wt1_7 wt3_161) rfl rfl rfl (by decide +kernel) ⟨by decide, by decide⟩) hK hP hD hS hA 50 4 rfl rfl rfl hl.1 rfl (Nat.le_of_ble_eq_true rfl) dX4_read_14 ⟨by decide, by decide⟩ (fun u2 H locs hw1 hP hD hS => ?_)
  obtain ⟨f4, a5, g6⟩ := u2
  have hP : va_P D vwCl (xW K r f4 a5 g6) H := hP
  have hD : va_D A (xW K r f4 a5 g6) := hD
  refine lv_aload_n hx hb dX4_read_17 rfl (lv_at hl 0 rfl) ?_
  refine va_get (D := D) (ci := 4) (v := .ref (r 51)) (C := RX4) (T := TX4) (N := 7) hx hb hg inC4 hown hK hP 50 rfl rfl 0 (by decide) (hg _ wt2_64) (fun _ h9 => h9) rfl dX4_read_18 ?_
  refine kV.callW (As := []) (rest := []) ⟨hx, hb, hml, hown, hg⟩ (x_textClear l r f4 a5 g6 hw1.1 hw1.2.1 hw1.2.2 ) (cwV 0 hg (kgV wt3_227 wt3_228 wt3_229 wt1_8 wt3_230) rfl rfl rfl (by decide +kernel) ⟨by decide, by decide⟩) hK hP hD hS hA 51 10 rfl rfl rfl hl.1 rfl (Nat.le_of_ble_eq_true rfl) dX4_read_21 ⟨by decide, by decide⟩ (fun u8 H locs hw7 hP hD hS => ?_)
  obtain ⟨f10, a11, g12⟩ := u8
  have hP : va_P D vwCl (xW K r f10 a11 g12) H := hP
  have hD : va_D A (xW K r f10 a11 g12) := hD
  refine lv_aload_n hx hb dX4_read_24 rfl (lv_at hl 0 rfl) ?_
  refine lv_iconst (v := 0) hx hb dX4_read_25 (by decide) ?_
  refine va_put (D := D) (ci := 4) (v := .int 0) (ty := .int) (C := RX4) (T := TX4) (N := 7) hx hb hg inC4 tyX4 tyX4_ok nmX4 hown hK hP hD hS 50 rfl rfl 4 (by decide) (hg _ wt2_69) (fun _ h9 => h9) rfl (by decide +kernel) rfl rfl (Nat.le_of_ble_eq_true rfl) dX4_read_26 (fun H locs hP hD hS => ?_)
  have hP : va_P D vwCl (xW K r (upd f10 1604 0) a11 g12) H := hP
  have hD : va_D A (xW K r (upd f10 1604 0) a11 g12) := hD
  refine k_gen (P := fun z => va_P D vwCl (xW K r z a11 g12) H ∧ va_D A (xW K r z a11 g12)) (upd f10 1604 0) ⟨hP, hD⟩ (fun f_13 ef_13 hPD => ?_)
  have hP := hPD.1
  have hD := hPD.2
  refine lv_aload_n hx hb dX4_read_29 rfl (lv_at hl 0 rfl) ?_
  refine lv_iconst (v := 0) hx hb dX4_read_30 (by decide) ?_
  refine va_put (D := D) (ci := 4) (v := .int 0) (ty := .int) (C := RX4) (T := TX4) (N := 7) hx hb hg inC4 tyX4 tyX4_ok nmX4 hown hK hP hD hS 50 rfl rfl 5 (by decide) (hg _ wt2_70) (fun _ h9 => h9) rfl (by decide +kernel) rfl rfl (Nat.le_of_ble_eq_true rfl) dX4_read_31 (fun H locs hP hD hS => ?_)
  have hP : va_P D vwCl (xW K r (upd f_13 1605 0) a11 g12) H := hP
  have hD : va_D A (xW K r (upd f_13 1605 0) a11 g12) := hD
  refine k_gen (P := fun z => va_P D vwCl (xW K r z a11 g12) H ∧ va_D A (xW K r z a11 g12)) (upd f_13 1605 0) ⟨hP, hD⟩ (fun f_14 ef_14 hPD => ?_)
  have hP := hPD.1
  have hD := hPD.2
  refine lv_aload_n hx hb dX4_read_34 rfl (lv_at hl 0 rfl) ?_
  refine lv_iload_n hx hb dX4_read_35 rfl (lv_at hl 3 rfl) ?_
  refine va_put (D := D) (ci := 4) (v := .int 0) (ty := .boolean) (C := RX4) (T := TX4) (N := 7) hx hb hg inC4 tyX4 tyX4_ok nmX4 hown hK hP hD hS 50 rfl rfl 6 (by decide) (hg _ wt2_71) (fun _ h9 => h9) rfl (by decide +kernel) rfl rfl (Nat.le_of_ble_eq_true rfl) dX4_read_36 (fun H locs hP hD hS => ?_)
  have hP : va_P D vwCl (xW K r (upd f_14 1606 0) a11 g12) H := hP
  have hD : va_D A (xW K r (upd f_14 1606 0) a11 g12) := hD
  refine k_gen (P := fun z => va_P D vwCl (xW K r z a11 g12) H ∧ va_D A (xW K r z a11 g12)) (upd f_14 1606 0) ⟨hP, hD⟩ (fun f_15 ef_15 hPD => ?_)
  have hP := hPD.1
  have hD := hPD.2
  refine lv_iconst (v := 0) hx hb dX4_read_39 (by decide) ?_
  refine lv_istore (lv' := [(4, .int 0), (0, .ref (r 50)), (1, .ref (r 93)), (2, .int 0), (3, .int 0)]) hx hb dX4_read_40 hl (by decide) rfl (fun ls hl => ?_)
  refine lv_iload hx hb dX4_read_42 (lv_at hl 0 rfl) ?_
  refine lv_bipush (v := 12) hx hb dX4_read_44 (by decide) ?_
  refine lv_icmp_ge (tgt := 159) hx hb dX4_read_46 (by decide) (fun c16 => absurd c16 (by decide +kernel)) (fun c16 => ?_)
  refine lv_iload_n hx hb dX4_read_49 rfl (lv_at hl 4 rfl) ?_
  refine lv_if_eq (tgt := 63) hx hb dX4_read_50 (by decide) (fun c17 => ?_) (fun c17 => absurd (by decide +kernel) c17)
  refine lv_aload_n hx hb dX4_read_63 rfl (lv_at hl 1 rfl) ?_
  refine kI.callW (As := []) (rest := []) ⟨hx, hb, hml, hown, hg⟩ (x_readRule l r f_15 a11 g12 ((show f_15 1604 = f_14 1604 from by rw [← ef_15]; rfl).trans ((show f_14 1604 = f_13 1604 from by rw [← ef_14]; rfl).trans (show f_13 1604 = 0 from by rw [← ef_13]; rfl))) ((show f_15 1603 = f_14 1603 from by rw [← ef_15]; rfl).trans ((show f_14 1603 = f_13 1603 from by rw [← ef_14]; rfl).trans ((show f_13 1603 = f10 1603 from by rw [← ef_13]; rfl).trans hw7.1))) hw7.2.1 hw7.2.2 ) (cwV 0 hg (kgV wt4_42 wt4_44 wp2_3 wt1_7 wt4_45) rfl rfl rfl (by decide +kernel) ⟨by decide, by decide⟩) hK hP hD hS hA 50 4 rfl rfl rfl hl.1 rfl (Nat.le_of_ble_eq_true rfl) dX4_read_64 ⟨by decide, by decide⟩ (fun v20 u19 H locs hw18 hP hD hS => ?_)
  have hP : va_P D vwCl (xW K r f_15 a11 g12) H := hP
  have hD : va_D A (xW K r f_15 a11 g12) := hD
  refine k_top (z := 0) (hw18) ?_
  refine lv_if_ne (tgt := 75) hx hb dX4_read_67 (by decide) (fun c21 => absurd (by decide +kernel) c21) (fun c21 => ?_)
  refine lv_aload_n hx hb dX4_read_70 rfl (lv_at hl 1 rfl) ?_
  refine kI.callW (As := []) (rest := []) ⟨hx, hb, hml, hown, hg⟩ (x_placeInHand l r f_15 a11 g12 ((show f_15 1604 = f_14 1604 from by rw [← ef_15]; rfl).trans ((show f_14 1604 = f_13 1604 from by rw [← ef_14]; rfl).trans (show f_13 1604 = 0 from by rw [← ef_13]; rfl))) ((show f_15 1603 = f_14 1603 from by rw [← ef_15]; rfl).trans ((show f_14 1603 = f_13 1603 from by rw [← ef_14]; rfl).trans ((show f_13 1603 = f10 1603 from by rw [← ef_13]; rfl).trans hw7.1))) hw7.2.1 hw7.2.2 ) (cwV 0 hg (kgV wt4_46 wt4_48 wp2_4 wt1_7 wt4_49) rfl rfl rfl (by decide +kernel) ⟨by decide, by decide⟩) hK hP hD hS hA 50 4 rfl rfl rfl hl.1 rfl (Nat.le_of_ble_eq_true rfl) dX4_read_71 ⟨by decide, by decide⟩ (fun v24 u23 H locs hw22 hP hD hS => ?_)
  have hP : va_P D vwCl (xW K r f_15 a11 g12) H := hP
  have hD : va_D A (xW K r f_15 a11 g12) := hD
  refine k_top (z := 0) (hw22) ?_
  exact kI_ret (v := 0) hx hb hr hlocks rfl hK hS dX4_read_74 (f_15, a11, g12) hP hD rfl
set_option maxHeartbeats 4000000 in
set_option maxRecDepth 100000 in
theorem x_read1 (l : Launch) {D : va_G} {K : Nat → ClassId} (r : Nat → Nat) (f : Nat → Int32) (a : Nat → Nat → Int32) (g : xG)    : kI l yX4_read (Cond.code yX4_read cX4_read 5 (some .int) :: kG) (rmD 3 0 0) D (tysK K) [.ref (r 50), .ref (r 93), .int 0, .int 1] (xW K r f a g) (fun v (u : xS) => v = 0) (fun u => xW K r u.1 u.2.1 u.2.2) 0 0 := by
  refine kI.of (cc := cX4_read) (maxL := 5) (ret := (some .int)) (by decide) rfl (Nat.le_of_ble_eq_true rfl) ?_
  intro p e s m below meth c A hx hb hr hml hown hts hlocks hnm hK hP hD hS hA ls hl
  have hg : ∀ w ∈ kG, w.before _ s = true := fun w h => hts w (List.mem_cons_of_mem _ h)
  have hown : s.vm.findClass RX4 = some m.cls := hown
  have hl : lv_has ls 5 [(0, .ref (r 50)), (1, .ref (r 93)), (2, .int 0), (3, .int 1)] := hl
  refine lv_aload_n hx hb dX4_read_0 rfl (lv_at hl 0 rfl) ?_
  refine lv_aload_n hx hb dX4_read_1 rfl (lv_at hl 1 rfl) ?_
  refine lv_iload_n hx hb dX4_read_2 rfl (lv_at hl 2 rfl) ?_
  refine lv_aload_n hx hb dX4_read_3 rfl (lv_at hl 1 rfl) ?_
  refine va_alen (v := 400) hx hb hK hP 93 1 rfl rfl rfl dX4_read_4 ?_
  refine lv_sipush (v := 400) hx hb dX4_read_5 (by decide) ?_
  refine va_mmin hx hb (hml.trans hl.1.symm) hown (hg _ wt3_157) (hg _ wt3_52) (hg _ wt1_9) (hg _ wt3_53) (by decide) (Nat.le_of_ble_eq_true rfl) (by decide) (by decide) dX4_read_8 ?_
  refine k_top (z := 400) (by decide +kernel) ?_
  refine va_mmin hx hb (hml.trans hl.1.symm) hown (hg _ wt3_157) (hg _ wt3_52) (hg _ wt1_9) (hg _ wt3_53) (by decide) (Nat.le_of_ble_eq_true rfl) (by decide) (by decide) dX4_read_11 ?_
  refine k_top (z := 0) (by decide +kernel) ?_
  refine kV.callW (As := [.ref (r 93), .int 0]) (rest := []) ⟨hx, hb, hml, hown, hg⟩ (x_split l r f a g  ) (cwV 2 hg (kgV wt3_158 wt3_160 wp1_9 wt1_7 wt3_161) rfl rfl rfl (by decide +kernel) ⟨by decide, by decide⟩) hK hP hD hS hA 50 4 rfl rfl rfl hl.1 rfl (Nat.le_of_ble_eq_true rfl) dX4_read_14 ⟨by decide, by decide⟩ (fun u2 H locs hw1 hP hD hS => ?_)
  obtain ⟨f4, a5, g6⟩ := u2
  have hP : va_P D vwCl (xW K r f4 a5 g6) H := hP
  have hD : va_D A (xW K r f4 a5 g6) := hD
  refine lv_aload_n hx hb dX4_read_17 rfl (lv_at hl 0 rfl) ?_
  refine va_get (D := D) (ci := 4) (v := .ref (r 51)) (C := RX4) (T := TX4) (N := 7) hx hb hg inC4 hown hK hP 50 rfl rfl 0 (by decide) (hg _ wt2_64) (fun _ h9 => h9) rfl dX4_read_18 ?_
  refine kV.callW (As := []) (rest := []) ⟨hx, hb, hml, hown, hg⟩ (x_textClear l r f4 a5 g6 hw1.1 hw1.2.1 hw1.2.2 ) (cwV 0 hg (kgV wt3_227 wt3_228 wt3_229 wt1_8 wt3_230) rfl rfl rfl (by decide +kernel) ⟨by decide, by decide⟩) hK hP hD hS hA 51 10 rfl rfl rfl hl.1 rfl (Nat.le_of_ble_eq_true rfl) dX4_read_21 ⟨by decide, by decide⟩ (fun u8 H locs hw7 hP hD hS => ?_)
  obtain ⟨f10, a11, g12⟩ := u8
  have hP : va_P D vwCl (xW K r f10 a11 g12) H := hP
  have hD : va_D A (xW K r f10 a11 g12) := hD
  refine lv_aload_n hx hb dX4_read_24 rfl (lv_at hl 0 rfl) ?_
  refine lv_iconst (v := 0) hx hb dX4_read_25 (by decide) ?_
  refine va_put (D := D) (ci := 4) (v := .int 0) (ty := .int) (C := RX4) (T := TX4) (N := 7) hx hb hg inC4 tyX4 tyX4_ok nmX4 hown hK hP hD hS 50 rfl rfl 4 (by decide) (hg _ wt2_69) (fun _ h9 => h9) rfl (by decide +kernel) rfl rfl (Nat.le_of_ble_eq_true rfl) dX4_read_26 (fun H locs hP hD hS => ?_)
  have hP : va_P D vwCl (xW K r (upd f10 1604 0) a11 g12) H := hP
  have hD : va_D A (xW K r (upd f10 1604 0) a11 g12) := hD
  refine k_gen (P := fun z => va_P D vwCl (xW K r z a11 g12) H ∧ va_D A (xW K r z a11 g12)) (upd f10 1604 0) ⟨hP, hD⟩ (fun f_13 ef_13 hPD => ?_)
  have hP := hPD.1
  have hD := hPD.2
  refine lv_aload_n hx hb dX4_read_29 rfl (lv_at hl 0 rfl) ?_
  refine lv_iconst (v := 0) hx hb dX4_read_30 (by decide) ?_
  refine va_put (D := D) (ci := 4) (v := .int 0) (ty := .int) (C := RX4) (T := TX4) (N := 7) hx hb hg inC4 tyX4 tyX4_ok nmX4 hown hK hP hD hS 50 rfl rfl 5 (by decide) (hg _ wt2_70) (fun _ h9 => h9) rfl (by decide +kernel) rfl rfl (Nat.le_of_ble_eq_true rfl) dX4_read_31 (fun H locs hP hD hS => ?_)
  have hP : va_P D vwCl (xW K r (upd f_13 1605 0) a11 g12) H := hP
  have hD : va_D A (xW K r (upd f_13 1605 0) a11 g12) := hD
  refine k_gen (P := fun z => va_P D vwCl (xW K r z a11 g12) H ∧ va_D A (xW K r z a11 g12)) (upd f_13 1605 0) ⟨hP, hD⟩ (fun f_14 ef_14 hPD => ?_)
  have hP := hPD.1
  have hD := hPD.2
  refine lv_aload_n hx hb dX4_read_34 rfl (lv_at hl 0 rfl) ?_
  refine lv_iload_n hx hb dX4_read_35 rfl (lv_at hl 3 rfl) ?_
  refine va_put (D := D) (ci := 4) (v := .int 1) (ty := .boolean) (C := RX4) (T := TX4) (N := 7) hx hb hg inC4 tyX4 tyX4_ok nmX4 hown hK hP hD hS 50 rfl rfl 6 (by decide) (hg _ wt2_71) (fun _ h9 => h9) rfl (by decide +kernel) rfl rfl (Nat.le_of_ble_eq_true rfl) dX4_read_36 (fun H locs hP hD hS => ?_)
  have hP : va_P D vwCl (xW K r (upd f_14 1606 1) a11 g12) H := hP
  have hD : va_D A (xW K r (upd f_14 1606 1) a11 g12) := hD
  refine k_gen (P := fun z => va_P D vwCl (xW K r z a11 g12) H ∧ va_D A (xW K r z a11 g12)) (upd f_14 1606 1) ⟨hP, hD⟩ (fun f_15 ef_15 hPD => ?_)
  have hP := hPD.1
  have hD := hPD.2
  refine lv_iconst (v := 0) hx hb dX4_read_39 (by decide) ?_
  refine lv_istore (lv' := [(4, .int 0), (0, .ref (r 50)), (1, .ref (r 93)), (2, .int 0), (3, .int 1)]) hx hb dX4_read_40 hl (by decide) rfl (fun ls hl => ?_)
  refine lv_iload hx hb dX4_read_42 (lv_at hl 0 rfl) ?_
  refine lv_bipush (v := 12) hx hb dX4_read_44 (by decide) ?_
  refine lv_icmp_ge (tgt := 159) hx hb dX4_read_46 (by decide) (fun c16 => absurd c16 (by decide +kernel)) (fun c16 => ?_)
  refine lv_iload_n hx hb dX4_read_49 rfl (lv_at hl 4 rfl) ?_
  refine lv_if_eq (tgt := 63) hx hb dX4_read_50 (by decide) (fun c17 => absurd c17 (by decide +kernel)) (fun c17 => ?_)
  refine lv_aload_n hx hb dX4_read_53 rfl (lv_at hl 1 rfl) ?_
  refine kI.callW (As := []) (rest := []) ⟨hx, hb, hml, hown, hg⟩ (x_readOrder l r f_15 a11 g12 ((show f_15 1604 = f_14 1604 from by rw [← ef_15]; rfl).trans ((show f_14 1604 = f_13 1604 from by rw [← ef_14]; rfl).trans (show f_13 1604 = 0 from by rw [← ef_13]; rfl))) ((show f_15 1603 = f_14 1603 from by rw [← ef_15]; rfl).trans ((show f_14 1603 = f_13 1603 from by rw [← ef_14]; rfl).trans ((show f_13 1603 = f10 1603 from by rw [← ef_13]; rfl).trans hw7.1))) hw7.2.1 hw7.2.2 ) (cwV 0 hg (kgV wt3_234 wt3_236 wp1_11 wt1_7 wt3_237) rfl rfl rfl (by decide +kernel) ⟨by decide, by decide⟩) hK hP hD hS hA 50 4 rfl rfl rfl hl.1 rfl (Nat.le_of_ble_eq_true rfl) dX4_read_54 ⟨by decide, by decide⟩ (fun v20 u19 H locs hw18 hP hD hS => ?_)
  have hP : va_P D vwCl (xW K r f_15 a11 g12) H := hP
  have hD : va_D A (xW K r f_15 a11 g12) := hD
  refine k_top (z := 0) (hw18) ?_
  refine lv_if_eq (tgt := 70) hx hb dX4_read_57 (by decide) (fun c21 => ?_) (fun c21 => absurd (by decide +kernel) c21)
  refine lv_aload_n hx hb dX4_read_70 rfl (lv_at hl 1 rfl) ?_
  refine kI.callW (As := []) (rest := []) ⟨hx, hb, hml, hown, hg⟩ (x_placeInHand l r f_15 a11 g12 ((show f_15 1604 = f_14 1604 from by rw [← ef_15]; rfl).trans ((show f_14 1604 = f_13 1604 from by rw [← ef_14]; rfl).trans (show f_13 1604 = 0 from by rw [← ef_13]; rfl))) ((show f_15 1603 = f_14 1603 from by rw [← ef_15]; rfl).trans ((show f_14 1603 = f_13 1603 from by rw [← ef_14]; rfl).trans ((show f_13 1603 = f10 1603 from by rw [← ef_13]; rfl).trans hw7.1))) hw7.2.1 hw7.2.2 ) (cwV 0 hg (kgV wt4_46 wt4_48 wp2_4 wt1_7 wt4_49) rfl rfl rfl (by decide +kernel) ⟨by decide, by decide⟩) hK hP hD hS hA 50 4 rfl rfl rfl hl.1 rfl (Nat.le_of_ble_eq_true rfl) dX4_read_71 ⟨by decide, by decide⟩ (fun v24 u23 H locs hw22 hP hD hS => ?_)
  have hP : va_P D vwCl (xW K r f_15 a11 g12) H := hP
  have hD : va_D A (xW K r f_15 a11 g12) := hD
  refine k_top (z := 0) (hw22) ?_
  exact kI_ret (v := 0) hx hb hr hlocks rfl hK hS dX4_read_74 (f_15, a11, g12) hP hD rfl
set_option maxHeartbeats 4000000 in
set_option maxRecDepth 100000 in
theorem x_emptyTapeL (l : Launch) {D : va_G} {K : Nat → ClassId} (r : Nat → Nat) (f : Nat → Int32) (a : Nat → Nat → Int32) (g : xG) (h0 : f 12 = 0) (h1 : f 49 = 0)   : kI l yX11_emptyTape (Cond.code yX11_emptyTape cX11_emptyTape 2 (some .int) :: kG) (rmD 1 0 0) D (tysK K) [.ref (r 0)] (xW K r f a g) (fun v (u : xS) => v = 0 ∧ u.1 12 = 0 ∧ u.1 49 = 0) (fun u => xW K r u.1 u.2.1 u.2.2) 0 0 := by
  refine kI.of (cc := cX11_emptyTape) (maxL := 2) (ret := (some .int)) (by decide) rfl (Nat.le_of_ble_eq_true rfl) ?_
  intro p e s m below meth c A hx hb hr hml hown hts hlocks hnm hK hP hD hS hA ls hl
  have hg : ∀ w ∈ kG, w.before _ s = true := fun w h => hts w (List.mem_cons_of_mem _ h)
  have hown : s.vm.findClass RX11 = some m.cls := hown
  have hl : lv_has ls 2 [(0, .ref (r 0))] := hl
  refine lv_aload_n hx hb dX11_emptyTape_0 rfl (lv_at hl 0 rfl) ?_
  refine va_get (D := D) (ci := 11) (v := .int (f 12)) (C := RX11) (T := TX11) (N := 17) hx hb hg inC11 hown hK hP 0 rfl rfl 12 (by decide) (hg _ wt2_198) (fun _ h9 => h9) rfl dX11_emptyTape_1 ?_
  refine k_top (z := 0) h0 ?_
  refine lv_istore_n (lv' := [(1, .int 0), (0, .ref (r 0))]) hx hb dX11_emptyTape_4 rfl hl (by decide) rfl (fun ls hl => ?_)
  refine lv_aload_n hx hb dX11_emptyTape_5 rfl (lv_at hl 1 rfl) ?_
  refine lv_iconst (v := 0) hx hb dX11_emptyTape_6 (by decide) ?_
  refine va_put (D := D) (ci := 11) (v := .int 0) (ty := .int) (C := RX11) (T := TX11) (N := 17) hx hb hg inC11 tyX11 tyX11_ok nmX11 hown hK hP hD hS 0 rfl rfl 12 (by decide) (hg _ wt2_198) (fun _ h9 => h9) rfl (by decide +kernel) rfl rfl (Nat.le_of_ble_eq_true rfl) dX11_emptyTape_7 (fun H locs hP hD hS => ?_)
  have hP : va_P D vwCl (xW K r (upd f 12 0) a g) H := hP
  have hD : va_D A (xW K r (upd f 12 0) a g) := hD
  refine k_gen (P := fun z => va_P D vwCl (xW K r z a g) H ∧ va_D A (xW K r z a g)) (upd f 12 0) ⟨hP, hD⟩ (fun f_1 ef_1 hPD => ?_)
  have hP := hPD.1
  have hD := hPD.2
  refine lv_iload_n hx hb dX11_emptyTape_10 rfl (lv_at hl 0 rfl) ?_
  exact kI_ret (v := 0) hx hb hr hlocks rfl hK hS dX11_emptyTape_11 (f_1, a, g) hP hD ⟨rfl, (show f_1 12 = 0 from by rw [← ef_1]; rfl), ((show f_1 49 = f 49 from by rw [← ef_1]; rfl).trans h1)⟩
set_option maxHeartbeats 4000000 in
set_option maxRecDepth 100000 in
theorem x_law (l : Launch) {D : va_G} {K : Nat → ClassId} (r : Nat → Nat) (f : Nat → Int32) (a : Nat → Nat → Int32) (g : xG) (h0 : f 12 = 0) (h1 : f 49 = 0)   : kI l yX11_law (Cond.code yX11_law cX11_law 3 (some .int) :: kG) (rmD 4 0 0) D (tysK K) [.ref (r 0)] (xW K r f a g) (fun v (u : xS) => v = (-6)) (fun u => xW K r u.1 u.2.1 u.2.2) 0 0 := by
  refine kI.of (cc := cX11_law) (maxL := 3) (ret := (some .int)) (by decide) rfl (Nat.le_of_ble_eq_true rfl) ?_
  intro p e s m below meth c A hx hb hr hml hown hts hlocks hnm hK hP hD hS hA ls hl
  have hg : ∀ w ∈ kG, w.before _ s = true := fun w h => hts w (List.mem_cons_of_mem _ h)
  have hown : s.vm.findClass RX11 = some m.cls := hown
  have hl : lv_has ls 3 [(0, .ref (r 0))] := hl
  refine lv_aload_n hx hb dX11_law_0 rfl (lv_at hl 0 rfl) ?_
  refine kI.callW (As := []) (rest := []) ⟨hx, hb, hml, hown, hg⟩ (x_emptyTapeL l r f a g h0 h1 ) (cwV 0 hg (kgV wt3_137 wt3_139 wp1_7 wt1_1 wt3_140) rfl rfl rfl (by decide +kernel) ⟨by decide, by decide⟩) hK hP hD hS hA 0 11 rfl rfl rfl hl.1 rfl (Nat.le_of_ble_eq_true rfl) dX11_law_1 ⟨by decide, by decide⟩ (fun v3 u2 H locs hw1 hP hD hS => ?_)
  obtain ⟨f4, a5, g6⟩ := u2
  have hP : va_P D vwCl (xW K r f4 a5 g6) H := hP
  have hD : va_D A (xW K r f4 a5 g6) := hD
  refine k_top (z := 0) (hw1.1) ?_
  refine lv_istore_n (lv' := [(1, .int 0), (0, .ref (r 0))]) hx hb dX11_law_4 rfl hl (by decide) rfl (fun ls hl => ?_)
  refine lv_aload_n hx hb dX11_law_5 rfl (lv_at hl 1 rfl) ?_
  refine va_get (D := D) (ci := 11) (v := .ref (r 1)) (C := RX11) (T := TX11) (N := 17) hx hb hg inC11 hown hK hP 0 rfl rfl 0 (by decide) (hg _ wt2_186) (fun _ h9 => h9) rfl dX11_law_6 ?_
  refine va_get (D := D) (ci := 7) (v := .int (f4 49)) (C := RX7) (T := TX7) (N := 20) hx hb hg inC7 hown hK hP 1 rfl rfl 17 (by decide) (hg _ wt1_150) (fun _ h9 => h9) rfl dX11_law_9 ?_
  refine k_top (z := 0) hw1.2.2 ?_
  refine lv_if_lt (tgt := 27) hx hb dX11_law_12 (by decide) (fun c7 => absurd c7 (by decide +kernel)) (fun c7 => ?_)
  refine lv_aload_n hx hb dX11_law_15 rfl (lv_at hl 1 rfl) ?_
  refine va_get (D := D) (ci := 11) (v := .ref (r 1)) (C := RX11) (T := TX11) (N := 17) hx hb hg inC11 hown hK hP 0 rfl rfl 0 (by decide) (hg _ wt2_186) (fun _ h9 => h9) rfl dX11_law_16 ?_
  refine va_get (D := D) (ci := 7) (v := .int (f4 49)) (C := RX7) (T := TX7) (N := 20) hx hb hg inC7 hown hK hP 1 rfl rfl 17 (by decide) (hg _ wt1_150) (fun _ h9 => h9) rfl dX11_law_19 ?_
  refine k_top (z := 0) hw1.2.2 ?_
  refine lv_bipush (v := 6) hx hb dX11_law_22 (by decide) ?_
  refine lv_icmp_lt (tgt := 34) hx hb dX11_law_24 (by decide) (fun c8 => ?_) (fun c8 => absurd (by decide +kernel) c8)
  refine lv_aload_n hx hb dX11_law_34 rfl (lv_at hl 1 rfl) ?_
  refine lv_aload_n hx hb dX11_law_35 rfl (lv_at hl 1 rfl) ?_
  refine va_get (D := D) (ci := 11) (v := .ref (r 50)) (C := RX11) (T := TX11) (N := 17) hx hb hg inC11 hown hK hP 0 rfl rfl 4 (by decide) (hg _ wt2_190) (fun _ h9 => h9) rfl dX11_law_36 ?_
  refine lv_aload_n hx hb dX11_law_39 rfl (lv_at hl 1 rfl) ?_
  refine va_get (D := D) (ci := 11) (v := .ref (r 93)) (C := RX11) (T := TX11) (N := 17) hx hb hg inC11 hown hK hP 0 rfl rfl 10 (by decide) (hg _ wt2_196) (fun _ h9 => h9) rfl dX11_law_40 ?_
  refine lv_iload_n hx hb dX11_law_43 rfl (lv_at hl 0 rfl) ?_
  refine lv_iconst (v := 0) hx hb dX11_law_44 (by decide) ?_
  refine kI.callW (As := [.ref (r 93), .int 0, .int 0]) (rest := [.ref (r 0)]) ⟨hx, hb, hml, hown, hg⟩ (x_read0 l r f4 a5 g6  ) (cwV 3 hg (kgV wt3_153 wt3_154 wt3_155 wt1_7 wt3_156) rfl rfl rfl (by decide +kernel) ⟨by decide, by decide⟩) hK hP hD hS hA 50 4 rfl rfl rfl hl.1 rfl (Nat.le_of_ble_eq_true rfl) dX11_law_45 ⟨by decide, by decide⟩ (fun v11 u10 H locs hw9 hP hD hS => ?_)
  obtain ⟨f12, a13, g14⟩ := u10
  have hP : va_P D vwCl (xW K r f12 a13 g14) H := hP
  have hD : va_D A (xW K r f12 a13 g14) := hD
  refine k_top (z := 0) (hw9) ?_
  refine va_put (D := D) (ci := 11) (v := .int 0) (ty := .int) (C := RX11) (T := TX11) (N := 17) hx hb hg inC11 tyX11 tyX11_ok nmX11 hown hK hP hD hS 0 rfl rfl 13 (by decide) (hg _ wt2_199) (fun _ h9 => h9) rfl (by decide +kernel) rfl rfl (Nat.le_of_ble_eq_true rfl) dX11_law_48 (fun H locs hP hD hS => ?_)
  have hP : va_P D vwCl (xW K r (upd f12 13 0) a13 g14) H := hP
  have hD : va_D A (xW K r (upd f12 13 0) a13 g14) := hD
  refine k_gen (P := fun z => va_P D vwCl (xW K r z a13 g14) H ∧ va_D A (xW K r z a13 g14)) (upd f12 13 0) ⟨hP, hD⟩ (fun f_15 ef_15 hPD => ?_)
  have hP := hPD.1
  have hD := hPD.2
  refine lv_aload_n hx hb dX11_law_51 rfl (lv_at hl 1 rfl) ?_
  refine va_get (D := D) (ci := 11) (v := .int (f_15 13)) (C := RX11) (T := TX11) (N := 17) hx hb hg inC11 hown hK hP 0 rfl rfl 13 (by decide) (hg _ wt2_199) (fun _ h9 => h9) rfl dX11_law_52 ?_
  refine k_top (z := 0) (show f_15 13 = 0 from by rw [← ef_15]; rfl) ?_
  refine lv_iconst (v := (-1)) hx hb dX11_law_55 (by decide) ?_
  refine lv_icmp_eq (tgt := 66) hx hb dX11_law_56 (by decide) (fun c16 => absurd c16 (by decide +kernel)) (fun c16 => ?_)
  refine lv_aload_n hx hb dX11_law_59 rfl (lv_at hl 1 rfl) ?_
  refine lv_bipush (v := (-6)) hx hb dX11_law_60 (by decide) ?_
  refine kI.callW (As := [.int (-6)]) (rest := []) ⟨hx, hb, hml, hown, hg⟩ (x_refuse6 l r f_15 a13 g14  ) (cwV 1 hg (kgV wt3_7 wt3_9 wp1_0 wt1_1 wt3_10) rfl rfl rfl (by decide +kernel) ⟨by decide, by decide⟩) hK hP hD hS hA 0 11 rfl rfl rfl hl.1 rfl (Nat.le_of_ble_eq_true rfl) dX11_law_62 ⟨by decide, by decide⟩ (fun v19 u18 H locs hw17 hP hD hS => ?_)
  obtain ⟨f20, a21, g22⟩ := u18
  have hP : va_P D vwCl (xW K r f20 a21 g22) H := hP
  have hD : va_D A (xW K r f20 a21 g22) := hD
  refine k_top (z := (-6)) (hw17) ?_
  exact kI_ret (v := (-6)) hx hb hr hlocks rfl hK hS dX11_law_65 (f20, a21, g22) hP hD rfl
set_option maxHeartbeats 4000000 in
set_option maxRecDepth 100000 in
theorem x_orders (l : Launch) {D : va_G} {K : Nat → ClassId} (r : Nat → Nat) (f : Nat → Int32) (a : Nat → Nat → Int32) (g : xG) (h0 : f 12 = 0)   : kI l yX11_orders (Cond.code yX11_orders cX11_orders 2 (some .int) :: kG) (rmD 4 0 0) D (tysK K) [.ref (r 0)] (xW K r f a g) (fun v (u : xS) => v = (-6)) (fun u => xW K r u.1 u.2.1 u.2.2) 0 0 := by
  refine kI.of (cc := cX11_orders) (maxL := 2) (ret := (some .int)) (by decide) rfl (Nat.le_of_ble_eq_true rfl) ?_
  intro p e s m below meth c A hx hb hr hml hown hts hlocks hnm hK hP hD hS hA ls hl
  have hg : ∀ w ∈ kG, w.before _ s = true := fun w h => hts w (List.mem_cons_of_mem _ h)
  have hown : s.vm.findClass RX11 = some m.cls := hown
  have hl : lv_has ls 2 [(0, .ref (r 0))] := hl
  refine lv_aload_n hx hb dX11_orders_0 rfl (lv_at hl 0 rfl) ?_
  refine kI.callW (As := []) (rest := []) ⟨hx, hb, hml, hown, hg⟩ (x_emptyTape l r f a g h0 ) (cwV 0 hg (kgV wt3_137 wt3_139 wp1_7 wt1_1 wt3_140) rfl rfl rfl (by decide +kernel) ⟨by decide, by decide⟩) hK hP hD hS hA 0 11 rfl rfl rfl hl.1 rfl (Nat.le_of_ble_eq_true rfl) dX11_orders_1 ⟨by decide, by decide⟩ (fun v3 u2 H locs hw1 hP hD hS => ?_)
  obtain ⟨f4, a5, g6⟩ := u2
  have hP : va_P D vwCl (xW K r f4 a5 g6) H := hP
  have hD : va_D A (xW K r f4 a5 g6) := hD
  refine k_top (z := 0) (hw1.1) ?_
  refine lv_istore_n (lv' := [(1, .int 0), (0, .ref (r 0))]) hx hb dX11_orders_4 rfl hl (by decide) rfl (fun ls hl => ?_)
  refine lv_aload_n hx hb dX11_orders_5 rfl (lv_at hl 1 rfl) ?_
  refine lv_iconst (v := (-1)) hx hb dX11_orders_6 (by decide) ?_
  refine va_put (D := D) (ci := 11) (v := .int (-1)) (ty := .int) (C := RX11) (T := TX11) (N := 17) hx hb hg inC11 tyX11 tyX11_ok nmX11 hown hK hP hD hS 0 rfl rfl 15 (by decide) (hg _ wt2_201) (fun _ h9 => h9) rfl (by decide +kernel) rfl rfl (Nat.le_of_ble_eq_true rfl) dX11_orders_7 (fun H locs hP hD hS => ?_)
  have hP : va_P D vwCl (xW K r (upd f4 15 (-1)) a5 g6) H := hP
  have hD : va_D A (xW K r (upd f4 15 (-1)) a5 g6) := hD
  refine k_gen (P := fun z => va_P D vwCl (xW K r z a5 g6) H ∧ va_D A (xW K r z a5 g6)) (upd f4 15 (-1)) ⟨hP, hD⟩ (fun f_7 ef_7 hPD => ?_)
  have hP := hPD.1
  have hD := hPD.2
  refine lv_aload_n hx hb dX11_orders_10 rfl (lv_at hl 1 rfl) ?_
  refine lv_aload_n hx hb dX11_orders_11 rfl (lv_at hl 1 rfl) ?_
  refine va_get (D := D) (ci := 11) (v := .ref (r 50)) (C := RX11) (T := TX11) (N := 17) hx hb hg inC11 hown hK hP 0 rfl rfl 4 (by decide) (hg _ wt2_190) (fun _ h9 => h9) rfl dX11_orders_12 ?_
  refine lv_aload_n hx hb dX11_orders_15 rfl (lv_at hl 1 rfl) ?_
  refine va_get (D := D) (ci := 11) (v := .ref (r 93)) (C := RX11) (T := TX11) (N := 17) hx hb hg inC11 hown hK hP 0 rfl rfl 10 (by decide) (hg _ wt2_196) (fun _ h9 => h9) rfl dX11_orders_16 ?_
  refine lv_iload_n hx hb dX11_orders_19 rfl (lv_at hl 0 rfl) ?_
  refine lv_iconst (v := 1) hx hb dX11_orders_20 (by decide) ?_
  refine kI.callW (As := [.ref (r 93), .int 0, .int 1]) (rest := [.ref (r 0)]) ⟨hx, hb, hml, hown, hg⟩ (x_read1 l r f_7 a5 g6  ) (cwV 3 hg (kgV wt3_153 wt3_154 wt3_155 wt1_7 wt3_156) rfl rfl rfl (by decide +kernel) ⟨by decide, by decide⟩) hK hP hD hS hA 50 4 rfl rfl rfl hl.1 rfl (Nat.le_of_ble_eq_true rfl) dX11_orders_21 ⟨by decide, by decide⟩ (fun v10 u9 H locs hw8 hP hD hS => ?_)
  obtain ⟨f11, a12, g13⟩ := u9
  have hP : va_P D vwCl (xW K r f11 a12 g13) H := hP
  have hD : va_D A (xW K r f11 a12 g13) := hD
  refine k_top (z := 0) (hw8) ?_
  refine va_put (D := D) (ci := 11) (v := .int 0) (ty := .int) (C := RX11) (T := TX11) (N := 17) hx hb hg inC11 tyX11 tyX11_ok nmX11 hown hK hP hD hS 0 rfl rfl 13 (by decide) (hg _ wt2_199) (fun _ h9 => h9) rfl (by decide +kernel) rfl rfl (Nat.le_of_ble_eq_true rfl) dX11_orders_24 (fun H locs hP hD hS => ?_)
  have hP : va_P D vwCl (xW K r (upd f11 13 0) a12 g13) H := hP
  have hD : va_D A (xW K r (upd f11 13 0) a12 g13) := hD
  refine k_gen (P := fun z => va_P D vwCl (xW K r z a12 g13) H ∧ va_D A (xW K r z a12 g13)) (upd f11 13 0) ⟨hP, hD⟩ (fun f_14 ef_14 hPD => ?_)
  have hP := hPD.1
  have hD := hPD.2
  refine lv_aload_n hx hb dX11_orders_27 rfl (lv_at hl 1 rfl) ?_
  refine va_get (D := D) (ci := 11) (v := .int (f_14 13)) (C := RX11) (T := TX11) (N := 17) hx hb hg inC11 hown hK hP 0 rfl rfl 13 (by decide) (hg _ wt2_199) (fun _ h9 => h9) rfl dX11_orders_28 ?_
  refine k_top (z := 0) (show f_14 13 = 0 from by rw [← ef_14]; rfl) ?_
  refine lv_iconst (v := (-1)) hx hb dX11_orders_31 (by decide) ?_
  refine lv_icmp_eq (tgt := 42) hx hb dX11_orders_32 (by decide) (fun c15 => absurd c15 (by decide +kernel)) (fun c15 => ?_)
  refine lv_aload_n hx hb dX11_orders_35 rfl (lv_at hl 1 rfl) ?_
  refine lv_bipush (v := (-6)) hx hb dX11_orders_36 (by decide) ?_
  refine kI.callW (As := [.int (-6)]) (rest := []) ⟨hx, hb, hml, hown, hg⟩ (x_refuse6 l r f_14 a12 g13  ) (cwV 1 hg (kgV wt3_7 wt3_9 wp1_0 wt1_1 wt3_10) rfl rfl rfl (by decide +kernel) ⟨by decide, by decide⟩) hK hP hD hS hA 0 11 rfl rfl rfl hl.1 rfl (Nat.le_of_ble_eq_true rfl) dX11_orders_38 ⟨by decide, by decide⟩ (fun v18 u17 H locs hw16 hP hD hS => ?_)
  obtain ⟨f19, a20, g21⟩ := u17
  have hP : va_P D vwCl (xW K r f19 a20 g21) H := hP
  have hD : va_D A (xW K r f19 a20 g21) := hD
  refine k_top (z := (-6)) (hw16) ?_
  exact kI_ret (v := (-6)) hx hb hr hlocks rfl hK hS dX11_orders_41 (f19, a20, g21) hP hD rfl
set_option maxHeartbeats 4000000 in
set_option maxRecDepth 100000 in
theorem x_reckonWays (l : Launch) {D : va_G} {K : Nat → ClassId} (r : Nat → Nat) (f : Nat → Int32) (a : Nat → Nat → Int32) (g : xG) (h0 : f 32 = 0) (h1 : f 2786 = 0)   : kV l yX6_reckonWays (Cond.code yX6_reckonWays cX6_reckonWays 6 none :: kG) (rmD 2 0 0) D (tysK K) [.ref (r 87)] (xW K r f a g) (fun (u : xS) => u.1 32 = 0 ∧ u.2.1 88 0 = 1) (fun u => xW K r u.1 u.2.1 u.2.2) 0 0 := by
  refine kV.of (cc := cX6_reckonWays) (maxL := 6) (ret := none) (by decide) rfl (Nat.le_of_ble_eq_true rfl) ?_
  intro p e s m below meth c A hx hb hr hml hown hts hlocks hnm hK hP hD hS hA ls hl
  have hg : ∀ w ∈ kG, w.before _ s = true := fun w h => hts w (List.mem_cons_of_mem _ h)
  have hown : s.vm.findClass RX6 = some m.cls := hown
  have hl : lv_has ls 6 [(0, .ref (r 87))] := hl
  refine lv_aload_n hx hb dX6_reckonWays_0 rfl (lv_at hl 0 rfl) ?_
  refine va_get (D := D) (ci := 6) (v := .int (f 2786)) (C := RX6) (T := TX6) (N := 3) hx hb hg inC6 hown hK hP 87 rfl rfl 2 (by decide) (hg _ wt2_155) (fun _ h9 => h9) rfl dX6_reckonWays_1 ?_
  refine k_top (z := 0) h1 ?_
  refine lv_if_eq (tgt := 8) hx hb dX6_reckonWays_4 (by decide) (fun c1 => ?_) (fun c1 => absurd (by decide +kernel) c1)
  refine lv_aload_n hx hb dX6_reckonWays_8 rfl (lv_at hl 0 rfl) ?_
  refine va_get (D := D) (ci := 6) (v := .ref (r 1)) (C := RX6) (T := TX6) (N := 3) hx hb hg inC6 hown hK hP 87 rfl rfl 0 (by decide) (hg _ wt2_153) (fun _ h9 => h9) rfl dX6_reckonWays_9 ?_
  refine kI.callW (As := []) (rest := []) ⟨hx, hb, hml, hown, hg⟩ (x_upMask_now l r f a g h0 ) (cwV 0 hg (kgV wt4_213 wt3_44 wt3_45 wt1_2 wt3_46) rfl rfl rfl (by decide +kernel) ⟨by decide, by decide⟩) hK hP hD hS hA 1 7 rfl rfl rfl hl.1 rfl (Nat.le_of_ble_eq_true rfl) dX6_reckonWays_12 ⟨by decide, by decide⟩ (fun v4 u3 H locs hw2 hP hD hS => ?_)
  have hP : va_P D vwCl (xW K r f a g) H := hP
  have hD : va_D A (xW K r f a g) := hD
  refine k_top (z := 0) (hw2) ?_
  refine lv_istore_n (lv' := [(1, .int 0), (0, .ref (r 87))]) hx hb dX6_reckonWays_15 rfl hl (by decide) rfl (fun ls hl => ?_)
  refine lv_iconst (v := 1) hx hb dX6_reckonWays_16 (by decide) ?_
  refine lv_aload_n hx hb dX6_reckonWays_17 rfl (lv_at hl 1 rfl) ?_
  refine va_get (D := D) (ci := 6) (v := .ref (r 1)) (C := RX6) (T := TX6) (N := 3) hx hb hg inC6 hown hK hP 87 rfl rfl 0 (by decide) (hg _ wt2_153) (fun _ h9 => h9) rfl dX6_reckonWays_18 ?_
  refine va_get (D := D) (ci := 7) (v := .int (f 32)) (C := RX7) (T := TX7) (N := 20) hx hb hg inC7 hown hK hP 1 rfl rfl 0 (by decide) (hg _ wt1_81) (fun _ h9 => h9) rfl dX6_reckonWays_21 ?_
  refine k_top (z := 0) h0 ?_
  refine lv_ishl hx hb dX6_reckonWays_24 ?_
  refine k_top (z := 1) (by decide +kernel) ?_
  refine lv_iconst (v := 1) hx hb dX6_reckonWays_25 (by decide) ?_
  refine lv_isub hx hb dX6_reckonWays_26 ?_
  refine k_top (z := 0) (by decide +kernel) ?_
  refine lv_istore_n (lv' := [(2, .int 0), (1, .int 0), (0, .ref (r 87))]) hx hb dX6_reckonWays_27 rfl hl (by decide) rfl (fun ls hl => ?_)
  refine lv_iload_n hx hb dX6_reckonWays_28 rfl (lv_at hl 0 rfl) ?_
  refine lv_sipush (v := 1023) hx hb dX6_reckonWays_29 (by decide) ?_
  refine va_mmin hx hb (hml.trans hl.1.symm) hown (hg _ wt4_214) (hg _ wt3_52) (hg _ wt1_9) (hg _ wt3_53) (by decide) (Nat.le_of_ble_eq_true rfl) (by decide) (by decide) dX6_reckonWays_32 ?_
  refine k_top (z := 0) (by decide +kernel) ?_
  refine lv_istore_n (lv' := [(3, .int 0), (2, .int 0), (1, .int 0), (0, .ref (r 87))]) hx hb dX6_reckonWays_35 rfl hl (by decide) rfl (fun ls hl => ?_)
  refine lv_iload_n hx hb dX6_reckonWays_36 rfl (lv_at hl 0 rfl) ?_
  refine lv_if_lt (tgt := 116) hx hb dX6_reckonWays_37 (by decide) (fun c5 => absurd c5 (by decide +kernel)) (fun c5 => ?_)
  refine lv_iload_n hx hb dX6_reckonWays_40 rfl (lv_at hl 0 rfl) ?_
  refine lv_iload_n hx hb dX6_reckonWays_41 rfl (lv_at hl 2 rfl) ?_
  refine lv_iand hx hb dX6_reckonWays_42 ?_
  refine k_top (z := 0) (by decide +kernel) ?_
  refine lv_iload_n hx hb dX6_reckonWays_43 rfl (lv_at hl 2 rfl) ?_
  refine lv_icmp_eq (tgt := 50) hx hb dX6_reckonWays_44 (by decide) (fun c6 => ?_) (fun c6 => absurd (by decide +kernel) c6)
  refine lv_iload_n hx hb dX6_reckonWays_50 rfl (lv_at hl 0 rfl) ?_
  refine lv_iload_n hx hb dX6_reckonWays_51 rfl (lv_at hl 1 rfl) ?_
  refine lv_icmp_ne (tgt := 59) hx hb dX6_reckonWays_52 (by decide) (fun c7 => absurd (by decide +kernel) c7) (fun c7 => ?_)
  refine lv_iconst (v := 1) hx hb dX6_reckonWays_55 (by decide) ?_
  refine lv_goto (tgt := 60) hx hb dX6_reckonWays_56 (by decide) ?_
  refine lv_istore (lv' := [(4, .int 1), (3, .int 0), (2, .int 0), (1, .int 0), (0, .ref (r 87))]) hx hb dX6_reckonWays_60 hl (by decide) rfl (fun ls hl => ?_)
  refine lv_iconst (v := 0) hx hb dX6_reckonWays_62 (by decide) ?_
  refine lv_istore (lv' := [(5, .int 0), (4, .int 1), (3, .int 0), (2, .int 0), (1, .int 0), (0, .ref (r 87))]) hx hb dX6_reckonWays_63 hl (by decide) rfl (fun ls hl => ?_)
  refine lv_iload hx hb dX6_reckonWays_65 (lv_at hl 0 rfl) ?_
  refine lv_aload_n hx hb dX6_reckonWays_67 rfl (lv_at hl 5 rfl) ?_
  refine va_get (D := D) (ci := 6) (v := .ref (r 1)) (C := RX6) (T := TX6) (N := 3) hx hb hg inC6 hown hK hP 87 rfl rfl 0 (by decide) (hg _ wt2_153) (fun _ h9 => h9) rfl dX6_reckonWays_68 ?_
  refine va_get (D := D) (ci := 7) (v := .int (f 32)) (C := RX7) (T := TX7) (N := 20) hx hb hg inC7 hown hK hP 1 rfl rfl 0 (by decide) (hg _ wt1_81) (fun _ h9 => h9) rfl dX6_reckonWays_71 ?_
  refine k_top (z := 0) h0 ?_
  refine lv_icmp_ge (tgt := 102) hx hb dX6_reckonWays_74 (by decide) (fun c8 => ?_) (fun c8 => absurd (by decide +kernel) c8)
  refine lv_aload_n hx hb dX6_reckonWays_102 rfl (lv_at hl 5 rfl) ?_
  refine va_get (D := D) (ci := 6) (v := .ref (r 88)) (C := RX6) (T := TX6) (N := 3) hx hb hg inC6 hown hK hP 87 rfl rfl 1 (by decide) (hg _ wt2_154) (fun _ h9 => h9) rfl dX6_reckonWays_103 ?_
  refine lv_iload_n hx hb dX6_reckonWays_106 rfl (lv_at hl 2 rfl) ?_
  refine lv_iload hx hb dX6_reckonWays_107 (lv_at hl 1 rfl) ?_
  refine va_iast hx hb hK hP hD hS 88 0 rfl rfl (k_in (by decide +kernel)) dX6_reckonWays_109 (fun H locs hP hD hS => ?_)
  rw [cl_0] at hP hD
  have hP : va_P D vwCl (xW K r f (va_up a 88 (upd (a 88) 0 1)) g) H := hP
  have hD : va_D A (xW K r f (va_up a 88 (upd (a 88) 0 1)) g) := hD
  refine k_gen (P := fun z => va_P D vwCl (xW K r f z g) H ∧ va_D A (xW K r f z g)) (va_up a 88 (upd (a 88) 0 1)) ⟨hP, hD⟩ (fun a_9 ea_9 hPD => ?_)
  have hP := hPD.1
  have hD := hPD.2
  refine lv_iinc (v := (-1)) (lv' := [(3, .int (-1)), (5, .int 0), (4, .int 1), (2, .int 0), (1, .int 0), (0, .ref (r 87))]) hx hb dX6_reckonWays_110 hl (k := 2) rfl (by decide +kernel) (by decide) rfl (fun ls hl => ?_)
  refine lv_goto (tgt := 36) hx hb dX6_reckonWays_113 (by decide) ?_
  refine lv_iload_n hx hb dX6_reckonWays_36 rfl (lv_at hl 0 rfl) ?_
  refine lv_if_lt (tgt := 116) hx hb dX6_reckonWays_37 (by decide) (fun c10 => ?_) (fun c10 => absurd (by decide +kernel) c10)
  refine lv_aload_n hx hb dX6_reckonWays_116 rfl (lv_at hl 5 rfl) ?_
  refine lv_iconst (v := 1) hx hb dX6_reckonWays_117 (by decide) ?_
  refine va_put (D := D) (ci := 6) (v := .int 1) (ty := .boolean) (C := RX6) (T := TX6) (N := 3) hx hb hg inC6 tyX6 tyX6_ok nmX6 hown hK hP hD hS 87 rfl rfl 2 (by decide) (hg _ wt2_155) (fun _ h9 => h9) rfl (by decide +kernel) rfl rfl (Nat.le_of_ble_eq_true rfl) dX6_reckonWays_118 (fun H locs hP hD hS => ?_)
  have hP : va_P D vwCl (xW K r (upd f 2786 1) a_9 g) H := hP
  have hD : va_D A (xW K r (upd f 2786 1) a_9 g) := hD
  refine k_gen (P := fun z => va_P D vwCl (xW K r z a_9 g) H ∧ va_D A (xW K r z a_9 g)) (upd f 2786 1) ⟨hP, hD⟩ (fun f_11 ef_11 hPD => ?_)
  have hP := hPD.1
  have hD := hPD.2
  exact kV_ret hx hb hr hlocks hK hS dX6_reckonWays_121 (f_11, a_9, g) hP hD ⟨((show f_11 32 = f 32 from by rw [← ef_11]; rfl).trans h0), (show a_9 88 0 = 1 from by rw [← ea_9]; rfl)⟩
set_option maxHeartbeats 4000000 in
set_option maxRecDepth 100000 in
theorem x_total (l : Launch) {D : va_G} {K : Nat → ClassId} (r : Nat → Nat) (f : Nat → Int32) (a : Nat → Nat → Int32) (g : xG) (h0 : f 32 = 0) (h1 : f 2786 = 0)   : kI l yX6_total (Cond.code yX6_total cX6_total 2 (some .int) :: kG) (rmD 3 0 0) D (tysK K) [.ref (r 87)] (xW K r f a g) (fun v (u : xS) => v = 1 ∧ u.1 32 = 0) (fun u => xW K r u.1 u.2.1 u.2.2) 0 0 := by
  refine kI.of (cc := cX6_total) (maxL := 2) (ret := (some .int)) (by decide) rfl (Nat.le_of_ble_eq_true rfl) ?_
  intro p e s m below meth c A hx hb hr hml hown hts hlocks hnm hK hP hD hS hA ls hl
  have hg : ∀ w ∈ kG, w.before _ s = true := fun w h => hts w (List.mem_cons_of_mem _ h)
  have hown : s.vm.findClass RX6 = some m.cls := hown
  have hl : lv_has ls 2 [(0, .ref (r 87))] := hl
  refine lv_aload_n hx hb dX6_total_0 rfl (lv_at hl 0 rfl) ?_
  refine kV.callW (As := []) (rest := []) ⟨hx, hb, hml, hown, hg⟩ (x_reckonWays l r f a g h0 h1 ) (cwV 0 hg (kgV wt4_209 wt4_211 wp2_12 wt1_12 wt4_212) rfl rfl rfl (by decide +kernel) ⟨by decide, by decide⟩) hK hP hD hS hA 87 6 rfl rfl rfl hl.1 rfl (Nat.le_of_ble_eq_true rfl) dX6_total_1 ⟨by decide, by decide⟩ (fun u2 H locs hw1 hP hD hS => ?_)
  obtain ⟨f4, a5, g6⟩ := u2
  have hP : va_P D vwCl (xW K r f4 a5 g6) H := hP
  have hD : va_D A (xW K r f4 a5 g6) := hD
  refine lv_aload_n hx hb dX6_total_4 rfl (lv_at hl 0 rfl) ?_
  refine va_get (D := D) (ci := 6) (v := .ref (r 1)) (C := RX6) (T := TX6) (N := 3) hx hb hg inC6 hown hK hP 87 rfl rfl 0 (by decide) (hg _ wt2_153) (fun _ h9 => h9) rfl dX6_total_5 ?_
  refine kI.callW (As := []) (rest := []) ⟨hx, hb, hml, hown, hg⟩ (x_upMask_now l r f4 a5 g6 hw1.1 ) (cwV 0 hg (kgV wt4_213 wt3_44 wt3_45 wt1_2 wt3_46) rfl rfl rfl (by decide +kernel) ⟨by decide, by decide⟩) hK hP hD hS hA 1 7 rfl rfl rfl hl.1 rfl (Nat.le_of_ble_eq_true rfl) dX6_total_8 ⟨by decide, by decide⟩ (fun v9 u8 H locs hw7 hP hD hS => ?_)
  have hP : va_P D vwCl (xW K r f4 a5 g6) H := hP
  have hD : va_D A (xW K r f4 a5 g6) := hD
  refine k_top (z := 0) (hw7) ?_
  refine lv_istore_n (lv' := [(1, .int 0), (0, .ref (r 87))]) hx hb dX6_total_11 rfl hl (by decide) rfl (fun ls hl => ?_)
  refine lv_iload_n hx hb dX6_total_12 rfl (lv_at hl 0 rfl) ?_
  refine lv_if_lt (tgt := 32) hx hb dX6_total_13 (by decide) (fun c10 => absurd c10 (by decide +kernel)) (fun c10 => ?_)
  refine lv_iload_n hx hb dX6_total_16 rfl (lv_at hl 0 rfl) ?_
  refine lv_sipush (v := 1024) hx hb dX6_total_17 (by decide) ?_
  refine lv_icmp_ge (tgt := 32) hx hb dX6_total_20 (by decide) (fun c11 => absurd c11 (by decide +kernel)) (fun c11 => ?_)
  refine lv_aload_n hx hb dX6_total_23 rfl (lv_at hl 1 rfl) ?_
  refine va_get (D := D) (ci := 6) (v := .ref (r 88)) (C := RX6) (T := TX6) (N := 3) hx hb hg inC6 hown hK hP 87 rfl rfl 1 (by decide) (hg _ wt2_154) (fun _ h9 => h9) rfl dX6_total_24 ?_
  refine lv_iload_n hx hb dX6_total_27 rfl (lv_at hl 0 rfl) ?_
  refine va_iald hx hb hK hP 88 0 rfl rfl (k_in (by decide +kernel)) dX6_total_28 ?_
  refine k_top (z := 1) (by rw [cl_0]; exact hw1.2) ?_
  refine lv_goto (tgt := 33) hx hb dX6_total_29 (by decide) ?_
  exact kI_ret (v := 1) hx hb hr hlocks rfl hK hS dX6_total_33 (f4, a5, g6) hP hD ⟨rfl, hw1.1⟩
set_option maxHeartbeats 4000000 in
set_option maxRecDepth 100000 in
theorem x_partAt (l : Launch) {D : va_G} {K : Nat → ClassId} (r : Nat → Nat) (f : Nat → Int32) (a : Nat → Nat → Int32) (g : xG) (h0 : f 32 = 0) (h1 : f 2786 = 0) (x : Int32) (y : Int32)  : kI l yX6_partAt (Cond.code yX6_partAt cX6_partAt 9 (some .int) :: kG) (rmD 4 0 0) D (tysK K) [.ref (r 87), .int x, .int y] (xW K r f a g) (fun v (u : xS) => v = (-1)) (fun u => xW K r u.1 u.2.1 u.2.2) 0 0 := by
  refine kI.of (cc := cX6_partAt) (maxL := 9) (ret := (some .int)) (by decide) rfl (Nat.le_of_ble_eq_true rfl) ?_
  intro p e s m below meth c A hx hb hr hml hown hts hlocks hnm hK hP hD hS hA ls hl
  have hg : ∀ w ∈ kG, w.before _ s = true := fun w h => hts w (List.mem_cons_of_mem _ h)
  have hown : s.vm.findClass RX6 = some m.cls := hown
  have hl : lv_has ls 9 [(0, .ref (r 87)), (1, .int x), (2, .int y)] := hl
  refine lv_iload_n hx hb dX6_partAt_0 rfl (lv_at hl 1 rfl) ?_
  refine lv_if_lt (tgt := 22) hx hb dX6_partAt_1 (by decide) (fun c1 => ?_) (fun c1 => ?_)
  · refine lv_iconst (v := (-1)) hx hb dX6_partAt_22 (by decide) ?_
    exact kI_ret (v := (-1)) hx hb hr hlocks rfl hK hS dX6_partAt_23 (f, a, g) hP hD rfl
  · refine lv_iload_n hx hb dX6_partAt_4 rfl (lv_at hl 1 rfl) ?_
    refine lv_aload_n hx hb dX6_partAt_5 rfl (lv_at hl 0 rfl) ?_
    refine kI.callW (As := []) (rest := [.int x]) ⟨hx, hb, hml, hown, hg⟩ (x_total l r f a g h0 h1 ) (cwV 0 hg (kgV wt4_223 wt4_206 wt4_207 wt1_12 wt4_208) rfl rfl rfl (by decide +kernel) ⟨by decide, by decide⟩) hK hP hD hS hA 87 6 rfl rfl rfl hl.1 rfl (Nat.le_of_ble_eq_true rfl) dX6_partAt_6 ⟨by decide, by decide⟩ (fun v4 u3 H locs hw2 hP hD hS => ?_)
    obtain ⟨f5, a6, g7⟩ := u3
    have hP : va_P D vwCl (xW K r f5 a6 g7) H := hP
    have hD : va_D A (xW K r f5 a6 g7) := hD
    refine k_top (z := 1) (hw2.1) ?_
    refine lv_icmp_ge (tgt := 22) hx hb dX6_partAt_9 (by decide) (fun c8 => ?_) (fun c8 => ?_)
    · refine lv_iconst (v := (-1)) hx hb dX6_partAt_22 (by decide) ?_
      exact kI_ret (v := (-1)) hx hb hr hlocks rfl hK hS dX6_partAt_23 (f5, a6, g7) hP hD rfl
    · refine lv_iload_n hx hb dX6_partAt_12 rfl (lv_at hl 2 rfl) ?_
      refine lv_if_lt (tgt := 22) hx hb dX6_partAt_13 (by decide) (fun c9 => ?_) (fun c9 => ?_)
      · refine lv_iconst (v := (-1)) hx hb dX6_partAt_22 (by decide) ?_
        exact kI_ret (v := (-1)) hx hb hr hlocks rfl hK hS dX6_partAt_23 (f5, a6, g7) hP hD rfl
      · refine lv_iload_n hx hb dX6_partAt_16 rfl (lv_at hl 2 rfl) ?_
        refine lv_bipush (v := 10) hx hb dX6_partAt_17 (by decide) ?_
        refine lv_icmp_lt (tgt := 24) hx hb dX6_partAt_19 (by decide) (fun c10 => ?_) (fun c10 => ?_)
        · refine lv_aload_n hx hb dX6_partAt_24 rfl (lv_at hl 0 rfl) ?_
          refine va_get (D := D) (ci := 6) (v := .ref (r 1)) (C := RX6) (T := TX6) (N := 3) hx hb hg inC6 hown hK hP 87 rfl rfl 0 (by decide) (hg _ wt2_153) (fun _ h9 => h9) rfl dX6_partAt_25 ?_
          refine kI.callW (As := []) (rest := []) ⟨hx, hb, hml, hown, hg⟩ (x_upMask_now l r f5 a6 g7 hw2.2 ) (cwV 0 hg (kgV wt4_213 wt3_44 wt3_45 wt1_2 wt3_46) rfl rfl rfl (by decide +kernel) ⟨by decide, by decide⟩) hK hP hD hS hA 1 7 rfl rfl rfl hl.1 rfl (Nat.le_of_ble_eq_true rfl) dX6_partAt_28 ⟨by decide, by decide⟩ (fun v13 u12 H locs hw11 hP hD hS => ?_)
          have hP : va_P D vwCl (xW K r f5 a6 g7) H := hP
          have hD : va_D A (xW K r f5 a6 g7) := hD
          refine k_top (z := 0) (hw11) ?_
          refine lv_istore_n (lv' := [(3, .int 0), (0, .ref (r 87)), (1, .int x), (2, .int y)]) hx hb dX6_partAt_31 rfl hl (by decide) rfl (fun ls hl => ?_)
          refine lv_iload_n hx hb dX6_partAt_32 rfl (lv_at hl 2 rfl) ?_
          refine lv_istore (lv' := [(4, .int x), (3, .int 0), (0, .ref (r 87)), (1, .int x), (2, .int y)]) hx hb dX6_partAt_33 hl (by decide) rfl (fun ls hl => ?_)
          refine lv_iconst (v := (-1)) hx hb dX6_partAt_35 (by decide) ?_
          refine lv_istore (lv' := [(5, .int (-1)), (4, .int x), (3, .int 0), (0, .ref (r 87)), (1, .int x), (2, .int y)]) hx hb dX6_partAt_36 hl (by decide) rfl (fun ls hl => ?_)
          refine lv_iconst (v := 0) hx hb dX6_partAt_38 (by decide) ?_
          refine lv_istore (lv' := [(6, .int 0), (5, .int (-1)), (4, .int x), (3, .int 0), (0, .ref (r 87)), (1, .int x), (2, .int y)]) hx hb dX6_partAt_39 hl (by decide) rfl (fun ls hl => ?_)
          refine lv_iload hx hb dX6_partAt_41 (lv_at hl 0 rfl) ?_
          refine lv_iload_n hx hb dX6_partAt_43 rfl (lv_at hl 6 rfl) ?_
          refine lv_icmp_gt (tgt := 135) hx hb dX6_partAt_44 (by decide) (fun c14 => ?_) (fun c14 => ?_)
          · refine lv_iload hx hb dX6_partAt_135 (lv_at hl 1 rfl) ?_
            exact kI_ret (v := (-1)) hx hb hr hlocks rfl hK hS dX6_partAt_137 (f5, a6, g7) hP hD rfl
          · refine lv_iconst (v := (-1)) hx hb dX6_partAt_47 (by decide) ?_
            refine lv_istore (lv' := [(5, .int (-1)), (6, .int 0), (4, .int x), (3, .int 0), (0, .ref (r 87)), (1, .int x), (2, .int y)]) hx hb dX6_partAt_48 hl (by decide) rfl (fun ls hl => ?_)
            refine lv_iconst (v := 0) hx hb dX6_partAt_50 (by decide) ?_
            refine lv_istore (lv' := [(7, .int 0), (5, .int (-1)), (6, .int 0), (4, .int x), (3, .int 0), (0, .ref (r 87)), (1, .int x), (2, .int y)]) hx hb dX6_partAt_51 hl (by decide) rfl (fun ls hl => ?_)
            refine lv_iload hx hb dX6_partAt_53 (lv_at hl 0 rfl) ?_
            refine lv_aload_n hx hb dX6_partAt_55 rfl (lv_at hl 5 rfl) ?_
            refine va_get (D := D) (ci := 6) (v := .ref (r 1)) (C := RX6) (T := TX6) (N := 3) hx hb hg inC6 hown hK hP 87 rfl rfl 0 (by decide) (hg _ wt2_153) (fun _ h9 => h9) rfl dX6_partAt_56 ?_
            refine va_get (D := D) (ci := 7) (v := .int (f5 32)) (C := RX7) (T := TX7) (N := 20) hx hb hg inC7 hown hK hP 1 rfl rfl 0 (by decide) (hg _ wt1_81) (fun _ h9 => h9) rfl dX6_partAt_59 ?_
            refine k_top (z := 0) hw2.2 ?_
            refine lv_icmp_ge (tgt := 114) hx hb dX6_partAt_62 (by decide) (fun c15 => ?_) (fun c15 => absurd (by decide +kernel) c15)
            refine lv_iload hx hb dX6_partAt_114 (lv_at hl 1 rfl) ?_
            refine lv_iconst (v := (-1)) hx hb dX6_partAt_116 (by decide) ?_
            refine lv_icmp_ne (tgt := 122) hx hb dX6_partAt_117 (by decide) (fun c16 => absurd (by decide +kernel) c16) (fun c16 => ?_)
            refine lv_iconst (v := (-1)) hx hb dX6_partAt_120 (by decide) ?_
            exact kI_ret (v := (-1)) hx hb hr hlocks rfl hK hS dX6_partAt_121 (f5, a6, g7) hP hD rfl
        · refine lv_iconst (v := (-1)) hx hb dX6_partAt_22 (by decide) ?_
          exact kI_ret (v := (-1)) hx hb hr hlocks rfl hK hS dX6_partAt_23 (f5, a6, g7) hP hD rfl
set_option maxHeartbeats 4000000 in
set_option maxRecDepth 100000 in
theorem x_rows (l : Launch) {D : va_G} {K : Nat → ClassId} (r : Nat → Nat) (f : Nat → Int32) (a : Nat → Nat → Int32) (g : xG) (h0 : f 32 = 0) (h1 : f 2786 = 0) (x : Int32) (y : Int32)  : kI l yX11_rows (Cond.code yX11_rows cX11_rows 3 (some .int) :: kG) (rmD 5 0 0) D (tysK K) [.ref (r 0), .int x, .int y] (xW K r f a g) (fun v (u : xS) => v = (if x = (-1) then (1 : Int32) else -1)) (fun u => xW K r u.1 u.2.1 u.2.2) 0 0 := by
  refine kI.of (cc := cX11_rows) (maxL := 3) (ret := (some .int)) (by decide) rfl (Nat.le_of_ble_eq_true rfl) ?_
  intro p e s m below meth c A hx hb hr hml hown hts hlocks hnm hK hP hD hS hA ls hl
  have hg : ∀ w ∈ kG, w.before _ s = true := fun w h => hts w (List.mem_cons_of_mem _ h)
  have hown : s.vm.findClass RX11 = some m.cls := hown
  have hl : lv_has ls 3 [(0, .ref (r 0)), (1, .int x), (2, .int y)] := hl
  refine lv_iload_n hx hb dX11_rows_0 rfl (lv_at hl 1 rfl) ?_
  refine lv_iconst (v := (-1)) hx hb dX11_rows_1 (by decide) ?_
  refine lv_icmp_ne (tgt := 15) hx hb dX11_rows_2 (by decide) (fun c1 => ?_) (fun c1 => ?_)
  · refine lv_aload_n hx hb dX11_rows_15 rfl (lv_at hl 0 rfl) ?_
    refine va_get (D := D) (ci := 11) (v := .ref (r 87)) (C := RX11) (T := TX11) (N := 17) hx hb hg inC11 hown hK hP 0 rfl rfl 7 (by decide) (hg _ wt2_193) (fun _ h9 => h9) rfl dX11_rows_16 ?_
    refine lv_iload_n hx hb dX11_rows_19 rfl (lv_at hl 1 rfl) ?_
    refine lv_iload_n hx hb dX11_rows_20 rfl (lv_at hl 2 rfl) ?_
    refine kI.callW (As := [.int x, .int y]) (rest := []) ⟨hx, hb, hml, hown, hg⟩ (x_partAt l r f a g h0 h1 x y) (cwV 2 hg (kgV wt4_219 wt4_220 wt4_221 wt1_12 wt4_222) rfl rfl rfl (by decide +kernel) ⟨by decide, by decide⟩) hK hP hD hS hA 87 6 rfl rfl rfl hl.1 rfl (Nat.le_of_ble_eq_true rfl) dX11_rows_21 ⟨by decide, by decide⟩ (fun v4 u3 H locs hw2 hP hD hS => ?_)
    obtain ⟨f5, a6, g7⟩ := u3
    have hP : va_P D vwCl (xW K r f5 a6 g7) H := hP
    have hD : va_D A (xW K r f5 a6 g7) := hD
    refine k_top (z := (-1)) (hw2) ?_
    exact kI_ret (v := (-1)) hx hb hr hlocks rfl hK hS dX11_rows_24 (f5, a6, g7) hP hD (by rw [if_neg c1])
  · refine lv_aload_n hx hb dX11_rows_5 rfl (lv_at hl 0 rfl) ?_
    refine va_get (D := D) (ci := 11) (v := .ref (r 87)) (C := RX11) (T := TX11) (N := 17) hx hb hg inC11 hown hK hP 0 rfl rfl 7 (by decide) (hg _ wt2_193) (fun _ h9 => h9) rfl dX11_rows_6 ?_
    refine kI.callW (As := []) (rest := []) ⟨hx, hb, hml, hown, hg⟩ (x_total l r f a g h0 h1 ) (cwV 0 hg (kgV wt4_205 wt4_206 wt4_207 wt1_12 wt4_208) rfl rfl rfl (by decide +kernel) ⟨by decide, by decide⟩) hK hP hD hS hA 87 6 rfl rfl rfl hl.1 rfl (Nat.le_of_ble_eq_true rfl) dX11_rows_9 ⟨by decide, by decide⟩ (fun v10 u9 H locs hw8 hP hD hS => ?_)
    obtain ⟨f11, a12, g13⟩ := u9
    have hP : va_P D vwCl (xW K r f11 a12 g13) H := hP
    have hD : va_D A (xW K r f11 a12 g13) := hD
    refine k_top (z := 1) (hw8.1) ?_
    refine lv_goto (tgt := 24) hx hb dX11_rows_12 (by decide) ?_
    exact kI_ret (v := 1) hx hb hr hlocks rfl hK hS dX11_rows_24 (f11, a12, g13) hP hD (by rw [if_pos c1])
set_option maxHeartbeats 4000000 in
set_option maxRecDepth 100000 in
theorem x_sight (l : Launch) {D : va_G} {K : Nat → ClassId} (r : Nat → Nat) (f : Nat → Int32) (a : Nat → Nat → Int32) (g : xG) (h0 : f 32 = 0) (x : Int32) (y : Int32) (z : Int32)  : kI l yX11_sight (Cond.code yX11_sight cX11_sight 4 (some .int) :: kG) (rmD 2 0 0) D (tysK K) [.ref (r 0), .int x, .int y, .int z] (xW K r f a g) (fun v (u : xS) => v = (if x < 0 then (-1 : Int32) else if 99 < x then -1 else if z < 0 then -1 else if z ≤ 1 then -2 else -1)) (fun u => xW K r u.1 u.2.1 u.2.2) 0 0 := by
  refine kI.of (cc := cX11_sight) (maxL := 4) (ret := (some .int)) (by decide) rfl (Nat.le_of_ble_eq_true rfl) ?_
  intro p e s m below meth c A hx hb hr hml hown hts hlocks hnm hK hP hD hS hA ls hl
  have hg : ∀ w ∈ kG, w.before _ s = true := fun w h => hts w (List.mem_cons_of_mem _ h)
  have hown : s.vm.findClass RX11 = some m.cls := hown
  have hl : lv_has ls 4 [(0, .ref (r 0)), (1, .int x), (2, .int y), (3, .int z)] := hl
  refine lv_iload_n hx hb dX11_sight_0 rfl (lv_at hl 1 rfl) ?_
  refine lv_if_lt (tgt := 19) hx hb dX11_sight_1 (by decide) (fun c1 => ?_) (fun c1 => ?_)
  · refine lv_aload_n hx hb dX11_sight_19 rfl (lv_at hl 0 rfl) ?_
    refine lv_iconst (v := (-1)) hx hb dX11_sight_20 (by decide) ?_
    refine kI.callW (As := [.int (-1)]) (rest := []) ⟨hx, hb, hml, hown, hg⟩ (x_refuse1 l r f a g  ) (cwV 1 hg (kgV wt3_7 wt3_9 wp1_0 wt1_1 wt3_10) rfl rfl rfl (by decide +kernel) ⟨by decide, by decide⟩) hK hP hD hS hA 0 11 rfl rfl rfl hl.1 rfl (Nat.le_of_ble_eq_true rfl) dX11_sight_21 ⟨by decide, by decide⟩ (fun v4 u3 H locs hw2 hP hD hS => ?_)
    obtain ⟨f5, a6, g7⟩ := u3
    have hP : va_P D vwCl (xW K r f5 a6 g7) H := hP
    have hD : va_D A (xW K r f5 a6 g7) := hD
    refine k_top (z := (-1)) (hw2) ?_
    exact kI_ret (v := (-1)) hx hb hr hlocks rfl hK hS dX11_sight_24 (f5, a6, g7) hP hD (by rw [if_pos c1])
  · refine lv_iload_n hx hb dX11_sight_4 rfl (lv_at hl 1 rfl) ?_
    refine lv_bipush (v := 99) hx hb dX11_sight_5 (by decide) ?_
    refine lv_icmp_gt (tgt := 19) hx hb dX11_sight_7 (by decide) (fun c8 => ?_) (fun c8 => ?_)
    · refine lv_aload_n hx hb dX11_sight_19 rfl (lv_at hl 0 rfl) ?_
      refine lv_iconst (v := (-1)) hx hb dX11_sight_20 (by decide) ?_
      refine kI.callW (As := [.int (-1)]) (rest := []) ⟨hx, hb, hml, hown, hg⟩ (x_refuse1 l r f a g  ) (cwV 1 hg (kgV wt3_7 wt3_9 wp1_0 wt1_1 wt3_10) rfl rfl rfl (by decide +kernel) ⟨by decide, by decide⟩) hK hP hD hS hA 0 11 rfl rfl rfl hl.1 rfl (Nat.le_of_ble_eq_true rfl) dX11_sight_21 ⟨by decide, by decide⟩ (fun v11 u10 H locs hw9 hP hD hS => ?_)
      obtain ⟨f12, a13, g14⟩ := u10
      have hP : va_P D vwCl (xW K r f12 a13 g14) H := hP
      have hD : va_D A (xW K r f12 a13 g14) := hD
      refine k_top (z := (-1)) (hw9) ?_
      exact kI_ret (v := (-1)) hx hb hr hlocks rfl hK hS dX11_sight_24 (f12, a13, g14) hP hD (by rw [if_neg c1, if_pos c8])
    · refine lv_iload_n hx hb dX11_sight_10 rfl (lv_at hl 3 rfl) ?_
      refine lv_if_lt (tgt := 19) hx hb dX11_sight_11 (by decide) (fun c15 => ?_) (fun c15 => ?_)
      · refine lv_aload_n hx hb dX11_sight_19 rfl (lv_at hl 0 rfl) ?_
        refine lv_iconst (v := (-1)) hx hb dX11_sight_20 (by decide) ?_
        refine kI.callW (As := [.int (-1)]) (rest := []) ⟨hx, hb, hml, hown, hg⟩ (x_refuse1 l r f a g  ) (cwV 1 hg (kgV wt3_7 wt3_9 wp1_0 wt1_1 wt3_10) rfl rfl rfl (by decide +kernel) ⟨by decide, by decide⟩) hK hP hD hS hA 0 11 rfl rfl rfl hl.1 rfl (Nat.le_of_ble_eq_true rfl) dX11_sight_21 ⟨by decide, by decide⟩ (fun v18 u17 H locs hw16 hP hD hS => ?_)
        obtain ⟨f19, a20, g21⟩ := u17
        have hP : va_P D vwCl (xW K r f19 a20 g21) H := hP
        have hD : va_D A (xW K r f19 a20 g21) := hD
        refine k_top (z := (-1)) (hw16) ?_
        exact kI_ret (v := (-1)) hx hb hr hlocks rfl hK hS dX11_sight_24 (f19, a20, g21) hP hD (by rw [if_neg c1, if_neg c8, if_pos c15])
      · refine lv_iload_n hx hb dX11_sight_14 rfl (lv_at hl 3 rfl) ?_
        refine lv_iconst (v := 1) hx hb dX11_sight_15 (by decide) ?_
        refine lv_icmp_le (tgt := 25) hx hb dX11_sight_16 (by decide) (fun c22 => ?_) (fun c22 => ?_)
        · refine lv_aload_n hx hb dX11_sight_25 rfl (lv_at hl 0 rfl) ?_
          refine va_get (D := D) (ci := 11) (v := .ref (r 1)) (C := RX11) (T := TX11) (N := 17) hx hb hg inC11 hown hK hP 0 rfl rfl 0 (by decide) (hg _ wt2_186) (fun _ h9 => h9) rfl dX11_sight_26 ?_
          refine lv_iload_n hx hb dX11_sight_29 rfl (lv_at hl 2 rfl) ?_
          refine kI.callW (As := [.int y]) (rest := []) ⟨hx, hb, hml, hown, hg⟩ (x_hasPart_now l r f a g h0 y) (cwV 1 hg (kgV wt3_35 wt3_36 wt3_37 wt1_2 wt3_38) rfl rfl rfl (by decide +kernel) ⟨by decide, by decide⟩) hK hP hD hS hA 1 7 rfl rfl rfl hl.1 rfl (Nat.le_of_ble_eq_true rfl) dX11_sight_30 ⟨by decide, by decide⟩ (fun v25 u24 H locs hw23 hP hD hS => ?_)
          have hP : va_P D vwCl (xW K r f a g) H := hP
          have hD : va_D A (xW K r f a g) := hD
          refine k_top (z := 0) (hw23) ?_
          refine lv_if_ne (tgt := 43) hx hb dX11_sight_33 (by decide) (fun c26 => absurd (by decide +kernel) c26) (fun c26 => ?_)
          refine lv_aload_n hx hb dX11_sight_36 rfl (lv_at hl 0 rfl) ?_
          refine lv_bipush (v := (-2)) hx hb dX11_sight_37 (by decide) ?_
          refine kI.callW (As := [.int (-2)]) (rest := []) ⟨hx, hb, hml, hown, hg⟩ (x_refuse2 l r f a g  ) (cwV 1 hg (kgV wt3_7 wt3_9 wp1_0 wt1_1 wt3_10) rfl rfl rfl (by decide +kernel) ⟨by decide, by decide⟩) hK hP hD hS hA 0 11 rfl rfl rfl hl.1 rfl (Nat.le_of_ble_eq_true rfl) dX11_sight_39 ⟨by decide, by decide⟩ (fun v29 u28 H locs hw27 hP hD hS => ?_)
          obtain ⟨f30, a31, g32⟩ := u28
          have hP : va_P D vwCl (xW K r f30 a31 g32) H := hP
          have hD : va_D A (xW K r f30 a31 g32) := hD
          refine k_top (z := (-2)) (hw27) ?_
          exact kI_ret (v := (-2)) hx hb hr hlocks rfl hK hS dX11_sight_42 (f30, a31, g32) hP hD (by rw [if_neg c1, if_neg c8, if_neg c15, if_pos c22])
        · refine lv_aload_n hx hb dX11_sight_19 rfl (lv_at hl 0 rfl) ?_
          refine lv_iconst (v := (-1)) hx hb dX11_sight_20 (by decide) ?_
          refine kI.callW (As := [.int (-1)]) (rest := []) ⟨hx, hb, hml, hown, hg⟩ (x_refuse1 l r f a g  ) (cwV 1 hg (kgV wt3_7 wt3_9 wp1_0 wt1_1 wt3_10) rfl rfl rfl (by decide +kernel) ⟨by decide, by decide⟩) hK hP hD hS hA 0 11 rfl rfl rfl hl.1 rfl (Nat.le_of_ble_eq_true rfl) dX11_sight_21 ⟨by decide, by decide⟩ (fun v35 u34 H locs hw33 hP hD hS => ?_)
          obtain ⟨f36, a37, g38⟩ := u34
          have hP : va_P D vwCl (xW K r f36 a37 g38) H := hP
          have hD : va_D A (xW K r f36 a37 g38) := hD
          refine k_top (z := (-1)) (hw33) ?_
          exact kI_ret (v := (-1)) hx hb hr hlocks rfl hK hS dX11_sight_24 (f36, a37, g38) hP hD (by rw [if_neg c1, if_neg c8, if_neg c15, if_neg c22])
set_option maxHeartbeats 4000000 in
set_option maxRecDepth 100000 in
theorem x_forget (l : Launch) {D : va_G} {K : Nat → ClassId} (r : Nat → Nat) (f : Nat → Int32) (a : Nat → Nat → Int32) (g : xG) (h0 : f 44 = 0)   : kI l yX11_forget (Cond.code yX11_forget cX11_forget 2 (some .int) :: kG) (rmD 1 0 0) D (tysK K) [.ref (r 0)] (xW K r f a g) (fun v (u : xS) => v = 0) (fun u => xW K r u.1 u.2.1 u.2.2) 0 0 := by
  refine kI.of (cc := cX11_forget) (maxL := 2) (ret := (some .int)) (by decide) rfl (Nat.le_of_ble_eq_true rfl) ?_
  intro p e s m below meth c A hx hb hr hml hown hts hlocks hnm hK hP hD hS hA ls hl
  have hg : ∀ w ∈ kG, w.before _ s = true := fun w h => hts w (List.mem_cons_of_mem _ h)
  have hown : s.vm.findClass RX11 = some m.cls := hown
  have hl : lv_has ls 2 [(0, .ref (r 0))] := hl
  refine lv_aload_n hx hb dX11_forget_0 rfl (lv_at hl 0 rfl) ?_
  refine va_get (D := D) (ci := 11) (v := .ref (r 1)) (C := RX11) (T := TX11) (N := 17) hx hb hg inC11 hown hK hP 0 rfl rfl 0 (by decide) (hg _ wt2_186) (fun _ h9 => h9) rfl dX11_forget_1 ?_
  refine va_get (D := D) (ci := 7) (v := .int (f 44)) (C := RX7) (T := TX7) (N := 20) hx hb hg inC7 hown hK hP 1 rfl rfl 12 (by decide) (hg _ wt1_137) (fun _ h9 => h9) rfl dX11_forget_4 ?_
  refine k_top (z := 0) h0 ?_
  refine lv_istore_n (lv' := [(1, .int 0), (0, .ref (r 0))]) hx hb dX11_forget_7 rfl hl (by decide) rfl (fun ls hl => ?_)
  refine lv_aload_n hx hb dX11_forget_8 rfl (lv_at hl 1 rfl) ?_
  refine va_get (D := D) (ci := 11) (v := .ref (r 1)) (C := RX11) (T := TX11) (N := 17) hx hb hg inC11 hown hK hP 0 rfl rfl 0 (by decide) (hg _ wt2_186) (fun _ h9 => h9) rfl dX11_forget_9 ?_
  refine lv_iconst (v := 0) hx hb dX11_forget_12 (by decide) ?_
  refine va_put (D := D) (ci := 7) (v := .int 0) (ty := .int) (C := RX7) (T := TX7) (N := 20) hx hb hg inC7 tyX7 tyX7_ok nmX7 hown hK hP hD hS 1 rfl rfl 12 (by decide) (hg _ wt1_137) (fun _ h9 => h9) rfl (by decide +kernel) rfl rfl (Nat.le_of_ble_eq_true rfl) dX11_forget_13 (fun H locs hP hD hS => ?_)
  have hP : va_P D vwCl (xW K r (upd f 44 0) a g) H := hP
  have hD : va_D A (xW K r (upd f 44 0) a g) := hD
  refine k_gen (P := fun z => va_P D vwCl (xW K r z a g) H ∧ va_D A (xW K r z a g)) (upd f 44 0) ⟨hP, hD⟩ (fun f_1 ef_1 hPD => ?_)
  have hP := hPD.1
  have hD := hPD.2
  refine lv_iload_n hx hb dX11_forget_16 rfl (lv_at hl 0 rfl) ?_
  exact kI_ret (v := 0) hx hb hr hlocks rfl hK hS dX11_forget_17 (f_1, a, g) hP hD rfl
