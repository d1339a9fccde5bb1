set_option maxHeartbeats 4000000 in
set_option maxRecDepth 100000 in
theorem k_X8_init (l : Launch) {D : va_G} {K : Nat → ClassId} (q : Nat)  : kV l yX8_init (Cond.code yX8_init cX8_init 1 none :: kG) (rmD 1 5 64) D (tysK K) [.ref q] [(q, .inr (8, [.null, .null, .null, .null, .null]))] (fun (_ : Nat → Nat) => True) (fun u => [(q, .inr (8, [.ref (u 1), .ref (u 2), .ref (u 3), .ref (u 4), .ref (u 5)])), (u 1, .inl (K 3, 10, .inr (.inl (fun _ => 0)))), (u 2, .inl (K 3, 32, .inr (.inl (fun _ => 0)))), (u 3, .inl (K 0, 6, .inl (fun _ => 0))), (u 4, .inl (K 0, 6, .inl (fun _ => 0))), (u 5, .inl (K 0, 10, .inl (fun _ => 0)))]) 5 64 := by
  refine kV.of (cc := cX8_init) (maxL := 1) (ret := none) (by decide) rfl (Nat.le_of_ble_eq_true rfl) ?_
  intro p e s m below meth c A hx hb hr hml hown hts hlocks hin hK hP hD hS hA ls hl
  have hg : ∀ w ∈ kG, w.before _ s = true := fun w h => hts w (List.mem_cons_of_mem _ h)
  have hown : s.vm.findClass RX8 = some m.cls := hown
  have hl : lv_has ls 1 [(0, .ref q)] := hl
  refine lv_aload_n hx hb dX8_init_0 rfl (lv_at hl 0 rfl) ?_
  refine W.objInit hx hb hown (hg _ wt1_52) (hg _ wt1_28) (hg _ wt1_29) rfl (by rw [hml]; exact hl.1) rfl dX8_init_1 (Nat.le_of_ble_eq_true rfl) (Nat.le_of_ble_eq_true rfl) ?_
  refine W.eq (g2 := F0 m 4 ls []) rfl ?_
  refine lv_aload_n hx hb dX8_init_4 rfl (lv_at hl 0 rfl) ?_
  refine lv_bipush (v := 10) hx hb dX8_init_5 (by decide) ?_
  refine k_newa (atype := .long) (a0 := (10, .inr (.inl (fun _ => 0)))) hx hb (hg _ wt1_78) rfl hK hP hD hS hA 3 rfl (fun _ => rfl) (by decide) (by decide +kernel) (by decide) (by decide) (by decide) dX8_init_7 (fun q0 H hP hD hS => ?_)
  have hP : va_P D vwCl [(q, .inr (8, [.null, .null, .null, .null, .null])), (q0, .inl (K 3, 10, .inr (.inl (fun _ => 0))))] H := hP
  have hD : va_D A [(q, .inr (8, [.null, .null, .null, .null, .null])), (q0, .inl (K 3, 10, .inr (.inl (fun _ => 0))))] := hD
  refine va_putF (D := D) (ci := 8) (v := .ref q0) (ty := (.array .long)) (C := RX8) (T := TX8) (N := 5) hx hb hg inC8 tyX8 tyX8_ok nmX8 hown hK hP hD hS 0 rfl rfl 0 (by decide) (hg _ wt1_53) (fun _ h9 => h9) rfl hin rfl (by decide +kernel) rfl rfl (Nat.le_of_ble_eq_true rfl) dX8_init_9 (fun H locs hP hD hS => ?_)
  have hP : va_P D vwCl [(q, .inr (8, [.ref q0, .null, .null, .null, .null])), (q0, .inl (K 3, 10, .inr (.inl (fun _ => 0))))] H := hP
  have hD : va_D A [(q, .inr (8, [.ref q0, .null, .null, .null, .null])), (q0, .inl (K 3, 10, .inr (.inl (fun _ => 0))))] := hD
  refine lv_aload_n hx hb dX8_init_12 rfl (lv_at hl 0 rfl) ?_
  refine lv_bipush (v := 32) hx hb dX8_init_13 (by decide) ?_
  refine k_newa (atype := .long) (a0 := (32, .inr (.inl (fun _ => 0)))) hx hb (hg _ wt1_78) rfl hK hP hD hS hA 3 rfl (fun _ => rfl) (by decide) (by decide +kernel) (by decide) (by decide) (by decide) dX8_init_15 (fun q1 H hP hD hS => ?_)
  have hP : va_P D vwCl [(q, .inr (8, [.ref q0, .null, .null, .null, .null])), (q0, .inl (K 3, 10, .inr (.inl (fun _ => 0)))), (q1, .inl (K 3, 32, .inr (.inl (fun _ => 0))))] H := hP
  have hD : va_D A [(q, .inr (8, [.ref q0, .null, .null, .null, .null])), (q0, .inl (K 3, 10, .inr (.inl (fun _ => 0)))), (q1, .inl (K 3, 32, .inr (.inl (fun _ => 0))))] := hD
  refine va_putF (D := D) (ci := 8) (v := .ref q1) (ty := (.array .long)) (C := RX8) (T := TX8) (N := 5) hx hb hg inC8 tyX8 tyX8_ok nmX8 hown hK hP hD hS 0 rfl rfl 1 (by decide) (hg _ wt1_55) (fun _ h9 => h9) rfl hin rfl (by decide +kernel) rfl rfl (Nat.le_of_ble_eq_true rfl) dX8_init_17 (fun H locs hP hD hS => ?_)
  have hP : va_P D vwCl [(q, .inr (8, [.ref q0, .ref q1, .null, .null, .null])), (q0, .inl (K 3, 10, .inr (.inl (fun _ => 0)))), (q1, .inl (K 3, 32, .inr (.inl (fun _ => 0))))] H := hP
  have hD : va_D A [(q, .inr (8, [.ref q0, .ref q1, .null, .null, .null])), (q0, .inl (K 3, 10, .inr (.inl (fun _ => 0)))), (q1, .inl (K 3, 32, .inr (.inl (fun _ => 0))))] := hD
  refine lv_aload_n hx hb dX8_init_20 rfl (lv_at hl 0 rfl) ?_
  refine lv_bipush (v := 6) hx hb dX8_init_21 (by decide) ?_
  refine k_newa (atype := .int) (a0 := (6, .inl (fun _ => 0))) hx hb (hg _ wt1_77) rfl hK hP hD hS hA 0 rfl (fun _ => rfl) (by decide) (by decide +kernel) (by decide) (by decide) (by decide) dX8_init_23 (fun q2 H hP hD hS => ?_)
  have hP : va_P D vwCl [(q, .inr (8, [.ref q0, .ref q1, .null, .null, .null])), (q0, .inl (K 3, 10, .inr (.inl (fun _ => 0)))), (q1, .inl (K 3, 32, .inr (.inl (fun _ => 0)))), (q2, .inl (K 0, 6, .inl (fun _ => 0)))] H := hP
  have hD : va_D A [(q, .inr (8, [.ref q0, .ref q1, .null, .null, .null])), (q0, .inl (K 3, 10, .inr (.inl (fun _ => 0)))), (q1, .inl (K 3, 32, .inr (.inl (fun _ => 0)))), (q2, .inl (K 0, 6, .inl (fun _ => 0)))] := hD
  refine va_putF (D := D) (ci := 8) (v := .ref q2) (ty := (.array .int)) (C := RX8) (T := TX8) (N := 5) hx hb hg inC8 tyX8 tyX8_ok nmX8 hown hK hP hD hS 0 rfl rfl 2 (by decide) (hg _ wt1_58) (fun _ h9 => h9) rfl hin rfl (by decide +kernel) rfl rfl (Nat.le_of_ble_eq_true rfl) dX8_init_25 (fun H locs hP hD hS => ?_)
  have hP : va_P D vwCl [(q, .inr (8, [.ref q0, .ref q1, .ref q2, .null, .null])), (q0, .inl (K 3, 10, .inr (.inl (fun _ => 0)))), (q1, .inl (K 3, 32, .inr (.inl (fun _ => 0)))), (q2, .inl (K 0, 6, .inl (fun _ => 0)))] H := hP
  have hD : va_D A [(q, .inr (8, [.ref q0, .ref q1, .ref q2, .null, .null])), (q0, .inl (K 3, 10, .inr (.inl (fun _ => 0)))), (q1, .inl (K 3, 32, .inr (.inl (fun _ => 0)))), (q2, .inl (K 0, 6, .inl (fun _ => 0)))] := hD
  refine lv_aload_n hx hb dX8_init_28 rfl (lv_at hl 0 rfl) ?_
  refine lv_bipush (v := 6) hx hb dX8_init_29 (by decide) ?_
  refine k_newa (atype := .int) (a0 := (6, .inl (fun _ => 0))) hx hb (hg _ wt1_77) rfl hK hP hD hS hA 0 rfl (fun _ => rfl) (by decide) (by decide +kernel) (by decide) (by decide) (by decide) dX8_init_31 (fun q3 H hP hD hS => ?_)
  have hP : va_P D vwCl [(q, .inr (8, [.ref q0, .ref q1, .ref q2, .null, .null])), (q0, .inl (K 3, 10, .inr (.inl (fun _ => 0)))), (q1, .inl (K 3, 32, .inr (.inl (fun _ => 0)))), (q2, .inl (K 0, 6, .inl (fun _ => 0))), (q3, .inl (K 0, 6, .inl (fun _ => 0)))] H := hP
  have hD : va_D A [(q, .inr (8, [.ref q0, .ref q1, .ref q2, .null, .null])), (q0, .inl (K 3, 10, .inr (.inl (fun _ => 0)))), (q1, .inl (K 3, 32, .inr (.inl (fun _ => 0)))), (q2, .inl (K 0, 6, .inl (fun _ => 0))), (q3, .inl (K 0, 6, .inl (fun _ => 0)))] := hD
  refine va_putF (D := D) (ci := 8) (v := .ref q3) (ty := (.array .int)) (C := RX8) (T := TX8) (N := 5) hx hb hg inC8 tyX8 tyX8_ok nmX8 hown hK hP hD hS 0 rfl rfl 3 (by decide) (hg _ wt1_60) (fun _ h9 => h9) rfl hin rfl (by decide +kernel) rfl rfl (Nat.le_of_ble_eq_true rfl) dX8_init_33 (fun H locs hP hD hS => ?_)
  have hP : va_P D vwCl [(q, .inr (8, [.ref q0, .ref q1, .ref q2, .ref q3, .null])), (q0, .inl (K 3, 10, .inr (.inl (fun _ => 0)))), (q1, .inl (K 3, 32, .inr (.inl (fun _ => 0)))), (q2, .inl (K 0, 6, .inl (fun _ => 0))), (q3, .inl (K 0, 6, .inl (fun _ => 0)))] H := hP
  have hD : va_D A [(q, .inr (8, [.ref q0, .ref q1, .ref q2, .ref q3, .null])), (q0, .inl (K 3, 10, .inr (.inl (fun _ => 0)))), (q1, .inl (K 3, 32, .inr (.inl (fun _ => 0)))), (q2, .inl (K 0, 6, .inl (fun _ => 0))), (q3, .inl (K 0, 6, .inl (fun _ => 0)))] := hD
  refine lv_aload_n hx hb dX8_init_36 rfl (lv_at hl 0 rfl) ?_
  refine lv_bipush (v := 10) hx hb dX8_init_37 (by decide) ?_
  refine k_newa (atype := .int) (a0 := (10, .inl (fun _ => 0))) hx hb (hg _ wt1_77) rfl hK hP hD hS hA 0 rfl (fun _ => rfl) (by decide) (by decide +kernel) (by decide) (by decide) (by decide) dX8_init_39 (fun q4 H hP hD hS => ?_)
  have hP : va_P D vwCl [(q, .inr (8, [.ref q0, .ref q1, .ref q2, .ref q3, .null])), (q0, .inl (K 3, 10, .inr (.inl (fun _ => 0)))), (q1, .inl (K 3, 32, .inr (.inl (fun _ => 0)))), (q2, .inl (K 0, 6, .inl (fun _ => 0))), (q3, .inl (K 0, 6, .inl (fun _ => 0))), (q4, .inl (K 0, 10, .inl (fun _ => 0)))] H := hP
  have hD : va_D A [(q, .inr (8, [.ref q0, .ref q1, .ref q2, .ref q3, .null])), (q0, .inl (K 3, 10, .inr (.inl (fun _ => 0)))), (q1, .inl (K 3, 32, .inr (.inl (fun _ => 0)))), (q2, .inl (K 0, 6, .inl (fun _ => 0))), (q3, .inl (K 0, 6, .inl (fun _ => 0))), (q4, .inl (K 0, 10, .inl (fun _ => 0)))] := hD
  refine va_putF (D := D) (ci := 8) (v := .ref q4) (ty := (.array .int)) (C := RX8) (T := TX8) (N := 5) hx hb hg inC8 tyX8 tyX8_ok nmX8 hown hK hP hD hS 0 rfl rfl 4 (by decide) (hg _ wt1_62) (fun _ h9 => h9) rfl hin rfl (by decide +kernel) rfl rfl (Nat.le_of_ble_eq_true rfl) dX8_init_41 (fun H locs hP hD hS => ?_)
  have hP : va_P D vwCl [(q, .inr (8, [.ref q0, .ref q1, .ref q2, .ref q3, .ref q4])), (q0, .inl (K 3, 10, .inr (.inl (fun _ => 0)))), (q1, .inl (K 3, 32, .inr (.inl (fun _ => 0)))), (q2, .inl (K 0, 6, .inl (fun _ => 0))), (q3, .inl (K 0, 6, .inl (fun _ => 0))), (q4, .inl (K 0, 10, .inl (fun _ => 0)))] H := hP
  have hD : va_D A [(q, .inr (8, [.ref q0, .ref q1, .ref q2, .ref q3, .ref q4])), (q0, .inl (K 3, 10, .inr (.inl (fun _ => 0)))), (q1, .inl (K 3, 32, .inr (.inl (fun _ => 0)))), (q2, .inl (K 0, 6, .inl (fun _ => 0))), (q3, .inl (K 0, 6, .inl (fun _ => 0))), (q4, .inl (K 0, 10, .inl (fun _ => 0)))] := hD
  exact kV_ret hx hb hr hlocks hK hS dX8_init_44 (fun k => [q, q0, q1, q2, q3, q4].getD k 0) hP hD trivial
set_option maxHeartbeats 4000000 in
set_option maxRecDepth 100000 in
theorem k_X2_init (l : Launch) {D : va_G} {K : Nat → ClassId} (q : Nat)  : kV l yX2_init (Cond.code yX2_init cX2_init 1 none :: kG) (rmD 1 1 384) D (tysK K) [.ref q] [(q, .inr (2, [.int 0, .int 0, .null]))] (fun (_ : Nat → Nat) => True) (fun u => [(q, .inr (2, [.int 0, .int 0, .ref (u 1)])), (u 1, .inl (K 0, 384, .inl (fun _ => 0)))]) 1 384 := by
  refine kV.of (cc := cX2_init) (maxL := 1) (ret := none) (by decide) rfl (Nat.le_of_ble_eq_true rfl) ?_
  intro p e s m below meth c A hx hb hr hml hown hts hlocks hin hK hP hD hS hA ls hl
  have hg : ∀ w ∈ kG, w.before _ s = true := fun w h => hts w (List.mem_cons_of_mem _ h)
  have hown : s.vm.findClass RX2 = some m.cls := hown
  have hl : lv_has ls 1 [(0, .ref q)] := hl
  refine lv_aload_n hx hb dX2_init_0 rfl (lv_at hl 0 rfl) ?_
  refine W.objInit hx hb hown (hg _ wt1_204) (hg _ wt1_28) (hg _ wt1_29) rfl (by rw [hml]; exact hl.1) rfl dX2_init_1 (Nat.le_of_ble_eq_true rfl) (Nat.le_of_ble_eq_true rfl) ?_
  refine W.eq (g2 := F0 m 4 ls []) rfl ?_
  refine lv_aload_n hx hb dX2_init_4 rfl (lv_at hl 0 rfl) ?_
  refine lv_iconst (v := 0) hx hb dX2_init_5 (by decide) ?_
  refine va_put (D := D) (ci := 2) (v := .int 0) (ty := .int) (C := RX2) (T := TX2) (N := 3) hx hb hg inC2 tyX2 tyX2_ok nmX2 hown hK hP hD hS 0 rfl rfl 0 (by decide) (hg _ wt1_205) (fun _ h9 => h9) rfl (by decide +kernel) rfl rfl (Nat.le_of_ble_eq_true rfl) dX2_init_6 (fun H locs hP hD hS => ?_)
  have hP : va_P D vwCl [(q, .inr (2, [.int 0, .int 0, .null]))] H := hP
  have hD : va_D A [(q, .inr (2, [.int 0, .int 0, .null]))] := hD
  refine lv_aload_n hx hb dX2_init_9 rfl (lv_at hl 0 rfl) ?_
  refine lv_iconst (v := 0) hx hb dX2_init_10 (by decide) ?_
  refine va_put (D := D) (ci := 2) (v := .int 0) (ty := .int) (C := RX2) (T := TX2) (N := 3) hx hb hg inC2 tyX2 tyX2_ok nmX2 hown hK hP hD hS 0 rfl rfl 1 (by decide) (hg _ wt1_207) (fun _ h9 => h9) rfl (by decide +kernel) rfl rfl (Nat.le_of_ble_eq_true rfl) dX2_init_11 (fun H locs hP hD hS => ?_)
  have hP : va_P D vwCl [(q, .inr (2, [.int 0, .int 0, .null]))] H := hP
  have hD : va_D A [(q, .inr (2, [.int 0, .int 0, .null]))] := hD
  refine lv_aload_n hx hb dX2_init_14 rfl (lv_at hl 0 rfl) ?_
  refine lv_sipush (v := 384) hx hb dX2_init_15 (by decide) ?_
  refine k_newa (atype := .int) (a0 := (384, .inl (fun _ => 0))) hx hb (hg _ wt1_77) rfl hK hP hD hS hA 0 rfl (fun _ => rfl) (by decide) (by decide +kernel) (by decide) (by decide) (by decide) dX2_init_18 (fun q0 H hP hD hS => ?_)
  have hP : va_P D vwCl [(q, .inr (2, [.int 0, .int 0, .null])), (q0, .inl (K 0, 384, .inl (fun _ => 0)))] H := hP
  have hD : va_D A [(q, .inr (2, [.int 0, .int 0, .null])), (q0, .inl (K 0, 384, .inl (fun _ => 0)))] := hD
  refine va_putF (D := D) (ci := 2) (v := .ref q0) (ty := (.array .int)) (C := RX2) (T := TX2) (N := 3) hx hb hg inC2 tyX2 tyX2_ok nmX2 hown hK hP hD hS 0 rfl rfl 2 (by decide) (hg _ wt1_208) (fun _ h9 => h9) rfl hin rfl (by decide +kernel) rfl rfl (Nat.le_of_ble_eq_true rfl) dX2_init_20 (fun H locs hP hD hS => ?_)
  have hP : va_P D vwCl [(q, .inr (2, [.int 0, .int 0, .ref q0])), (q0, .inl (K 0, 384, .inl (fun _ => 0)))] H := hP
  have hD : va_D A [(q, .inr (2, [.int 0, .int 0, .ref q0])), (q0, .inl (K 0, 384, .inl (fun _ => 0)))] := hD
  exact kV_ret hx hb hr hlocks hK hS dX2_init_23 (fun k => [q, q0].getD k 0) hP hD trivial
set_option maxHeartbeats 4000000 in
set_option maxRecDepth 100000 in
theorem k_X0_init (l : Launch) {D : va_G} {K : Nat → ClassId} (q : Nat) (b1 : Nat) (b2 : Nat) : kV l yX0_init (Cond.code yX0_init cX0_init 3 none :: kG) (rmD 1 0 0) D (tysK K) [.ref q, .ref b1, .ref b2] [(q, .inr (0, [.null, .null]))] (fun (_ : Nat → Nat) => True) (fun u => [(q, .inr (0, [.ref b1, .ref b2]))]) 0 0 := by
  refine kV.of (cc := cX0_init) (maxL := 3) (ret := none) (by decide) rfl (Nat.le_of_ble_eq_true rfl) ?_
  intro p e s m below meth c A hx hb hr hml hown hts hlocks hin hK hP hD hS hA ls hl
  have hg : ∀ w ∈ kG, w.before _ s = true := fun w h => hts w (List.mem_cons_of_mem _ h)
  have hown : s.vm.findClass RX0 = some m.cls := hown
  have hl : lv_has ls 3 [(0, .ref q), (1, .ref b1), (2, .ref b2)] := hl
  refine lv_aload_n hx hb dX0_init_0 rfl (lv_at hl 0 rfl) ?_
  refine W.objInit hx hb hown (hg _ wt1_221) (hg _ wt1_28) (hg _ wt1_29) rfl (by rw [hml]; exact hl.1) rfl dX0_init_1 (Nat.le_of_ble_eq_true rfl) (Nat.le_of_ble_eq_true rfl) ?_
  refine W.eq (g2 := F0 m 4 ls []) rfl ?_
  refine lv_aload_n hx hb dX0_init_4 rfl (lv_at hl 0 rfl) ?_
  refine lv_aload_n hx hb dX0_init_5 rfl (lv_at hl 1 rfl) ?_
  refine va_putF (D := D) (ci := 0) (v := .ref b1) (ty := (.object "SunriseRoof$Site")) (C := RX0) (T := TX0) (N := 2) hx hb hg inC0 tyX0 tyX0_ok nmX0 hown hK hP hD hS 0 rfl rfl 0 (by decide) (hg _ wt1_222) (fun _ h9 => h9) rfl hin rfl (by decide +kernel) rfl rfl (Nat.le_of_ble_eq_true rfl) dX0_init_6 (fun H locs hP hD hS => ?_)
  have hP : va_P D vwCl [(q, .inr (0, [.ref b1, .null]))] H := hP
  have hD : va_D A [(q, .inr (0, [.ref b1, .null]))] := hD
  refine lv_aload_n hx hb dX0_init_9 rfl (lv_at hl 0 rfl) ?_
  refine lv_aload_n hx hb dX0_init_10 rfl (lv_at hl 2 rfl) ?_
  refine va_putF (D := D) (ci := 0) (v := .ref b2) (ty := (.object "SunriseRoof$Past")) (C := RX0) (T := TX0) (N := 2) hx hb hg inC0 tyX0 tyX0_ok nmX0 hown hK hP hD hS 0 rfl rfl 1 (by decide) (hg _ wt1_223) (fun _ h9 => h9) rfl hin rfl (by decide +kernel) rfl rfl (Nat.le_of_ble_eq_true rfl) dX0_init_11 (fun H locs hP hD hS => ?_)
  have hP : va_P D vwCl [(q, .inr (0, [.ref b1, .ref b2]))] H := hP
  have hD : va_D A [(q, .inr (0, [.ref b1, .ref b2]))] := hD
  exact kV_ret hx hb hr hlocks hK hS dX0_init_14 (fun k => [q].getD k 0) hP hD trivial
set_option maxHeartbeats 4000000 in
set_option maxRecDepth 100000 in
theorem k_X6_init (l : Launch) {D : va_G} {K : Nat → ClassId} (q : Nat) (b1 : Nat) : kV l yX6_init (Cond.code yX6_init cX6_init 2 none :: kG) (rmD 1 1 1024) D (tysK K) [.ref q, .ref b1] [(q, .inr (6, [.null, .null, .int 0]))] (fun (_ : Nat → Nat) => True) (fun u => [(q, .inr (6, [.ref b1, .ref (u 1), .int 0])), (u 1, .inl (K 0, 1024, .inl (fun _ => 0)))]) 1 1024 := by
  refine kV.of (cc := cX6_init) (maxL := 2) (ret := none) (by decide) rfl (Nat.le_of_ble_eq_true rfl) ?_
  intro p e s m below meth c A hx hb hr hml hown hts hlocks hin hK hP hD hS hA ls hl
  have hg : ∀ w ∈ kG, w.before _ s = true := fun w h => hts w (List.mem_cons_of_mem _ h)
  have hown : s.vm.findClass RX6 = some m.cls := hown
  have hl : lv_has ls 2 [(0, .ref q), (1, .ref b1)] := hl
  refine lv_aload_n hx hb dX6_init_0 rfl (lv_at hl 0 rfl) ?_
  refine W.objInit hx hb hown (hg _ wt2_152) (hg _ wt1_28) (hg _ wt1_29) rfl (by rw [hml]; exact hl.1) rfl dX6_init_1 (Nat.le_of_ble_eq_true rfl) (Nat.le_of_ble_eq_true rfl) ?_
  refine W.eq (g2 := F0 m 4 ls []) rfl ?_
  refine lv_aload_n hx hb dX6_init_4 rfl (lv_at hl 0 rfl) ?_
  refine lv_sipush (v := 1024) hx hb dX6_init_5 (by decide) ?_
  refine k_newa (atype := .int) (a0 := (1024, .inl (fun _ => 0))) hx hb (hg _ wt1_77) rfl hK hP hD hS hA 0 rfl (fun _ => rfl) (by decide) (by decide +kernel) (by decide) (by decide) (by decide) dX6_init_8 (fun q0 H hP hD hS => ?_)
  have hP : va_P D vwCl [(q, .inr (6, [.null, .null, .int 0])), (q0, .inl (K 0, 1024, .inl (fun _ => 0)))] H := hP
  have hD : va_D A [(q, .inr (6, [.null, .null, .int 0])), (q0, .inl (K 0, 1024, .inl (fun _ => 0)))] := hD
  refine va_putF (D := D) (ci := 6) (v := .ref q0) (ty := (.array .int)) (C := RX6) (T := TX6) (N := 3) hx hb hg inC6 tyX6 tyX6_ok nmX6 hown hK hP hD hS 0 rfl rfl 1 (by decide) (hg _ wt2_154) (fun _ h9 => h9) rfl hin rfl (by decide +kernel) rfl rfl (Nat.le_of_ble_eq_true rfl) dX6_init_10 (fun H locs hP hD hS => ?_)
  have hP : va_P D vwCl [(q, .inr (6, [.null, .ref q0, .int 0])), (q0, .inl (K 0, 1024, .inl (fun _ => 0)))] H := hP
  have hD : va_D A [(q, .inr (6, [.null, .ref q0, .int 0])), (q0, .inl (K 0, 1024, .inl (fun _ => 0)))] := hD
  refine lv_aload_n hx hb dX6_init_13 rfl (lv_at hl 0 rfl) ?_
  refine lv_iconst (v := 0) hx hb dX6_init_14 (by decide) ?_
  refine va_put (D := D) (ci := 6) (v := .int 0) (ty := .boolean) (C := RX6) (T := TX6) (N := 3) hx hb hg inC6 tyX6 tyX6_ok nmX6 hown hK hP hD hS 0 rfl rfl 2 (by decide) (hg _ wt2_155) (fun _ h9 => h9) rfl (by decide +kernel) rfl rfl (Nat.le_of_ble_eq_true rfl) dX6_init_15 (fun H locs hP hD hS => ?_)
  have hP : va_P D vwCl [(q, .inr (6, [.null, .ref q0, .int 0])), (q0, .inl (K 0, 1024, .inl (fun _ => 0)))] H := hP
  have hD : va_D A [(q, .inr (6, [.null, .ref q0, .int 0])), (q0, .inl (K 0, 1024, .inl (fun _ => 0)))] := hD
  refine lv_aload_n hx hb dX6_init_18 rfl (lv_at hl 0 rfl) ?_
  refine lv_aload_n hx hb dX6_init_19 rfl (lv_at hl 1 rfl) ?_
  refine va_putF (D := D) (ci := 6) (v := .ref b1) (ty := (.object "SunriseRoof$Site")) (C := RX6) (T := TX6) (N := 3) hx hb hg inC6 tyX6 tyX6_ok nmX6 hown hK hP hD hS 0 rfl rfl 0 (by decide) (hg _ wt2_153) (fun _ h9 => h9) rfl hin rfl (by decide +kernel) rfl rfl (Nat.le_of_ble_eq_true rfl) dX6_init_20 (fun H locs hP hD hS => ?_)
  have hP : va_P D vwCl [(q, .inr (6, [.ref b1, .ref q0, .int 0])), (q0, .inl (K 0, 1024, .inl (fun _ => 0)))] H := hP
  have hD : va_D A [(q, .inr (6, [.ref b1, .ref q0, .int 0])), (q0, .inl (K 0, 1024, .inl (fun _ => 0)))] := hD
  exact kV_ret hx hb hr hlocks hK hS dX6_init_23 (fun k => [q, q0].getD k 0) hP hD trivial
set_option maxHeartbeats 4000000 in
set_option maxRecDepth 100000 in
theorem k_X1_init (l : Launch) {D : va_G} {K : Nat → ClassId} (q : Nat) (b1 : Nat) : kV l yX1_init (Cond.code yX1_init cX1_init 2 none :: kG) (rmD 1 2 16) D (tysK K) [.ref q, .ref b1] [(q, .inr (1, [.null, .int 0, .int 0, .null, .null]))] (fun (_ : Nat → Nat) => True) (fun u => [(q, .inr (1, [.ref b1, .int 0, .int 0, .ref (u 1), .ref (u 2)])), (u 1, .inl (K 0, 10, .inl (fun _ => 0))), (u 2, .inl (K 0, 6, .inl (fun _ => 0)))]) 2 16 := by
  refine kV.of (cc := cX1_init) (maxL := 2) (ret := none) (by decide) rfl (Nat.le_of_ble_eq_true rfl) ?_
  intro p e s m below meth c A hx hb hr hml hown hts hlocks hin hK hP hD hS hA ls hl
  have hg : ∀ w ∈ kG, w.before _ s = true := fun w h => hts w (List.mem_cons_of_mem _ h)
  have hown : s.vm.findClass RX1 = some m.cls := hown
  have hl : lv_has ls 2 [(0, .ref q), (1, .ref b1)] := hl
  refine lv_aload_n hx hb dX1_init_0 rfl (lv_at hl 0 rfl) ?_
  refine W.objInit hx hb hown (hg _ wt2_168) (hg _ wt1_28) (hg _ wt1_29) rfl (by rw [hml]; exact hl.1) rfl dX1_init_1 (Nat.le_of_ble_eq_true rfl) (Nat.le_of_ble_eq_true rfl) ?_
  refine W.eq (g2 := F0 m 4 ls []) rfl ?_
  refine lv_aload_n hx hb dX1_init_4 rfl (lv_at hl 0 rfl) ?_
  refine lv_iconst (v := 0) hx hb dX1_init_5 (by decide) ?_
  refine va_put (D := D) (ci := 1) (v := .int 0) (ty := .int) (C := RX1) (T := TX1) (N := 5) hx hb hg inC1 tyX1 tyX1_ok nmX1 hown hK hP hD hS 0 rfl rfl 1 (by decide) (hg _ wt2_170) (fun _ h9 => h9) rfl (by decide +kernel) rfl rfl (Nat.le_of_ble_eq_true rfl) dX1_init_6 (fun H locs hP hD hS => ?_)
  have hP : va_P D vwCl [(q, .inr (1, [.null, .int 0, .int 0, .null, .null]))] H := hP
  have hD : va_D A [(q, .inr (1, [.null, .int 0, .int 0, .null, .null]))] := hD
  refine lv_aload_n hx hb dX1_init_9 rfl (lv_at hl 0 rfl) ?_
  refine lv_iconst (v := 0) hx hb dX1_init_10 (by decide) ?_
  refine va_put (D := D) (ci := 1) (v := .int 0) (ty := .int) (C := RX1) (T := TX1) (N := 5) hx hb hg inC1 tyX1 tyX1_ok nmX1 hown hK hP hD hS 0 rfl rfl 2 (by decide) (hg _ wt2_171) (fun _ h9 => h9) rfl (by decide +kernel) rfl rfl (Nat.le_of_ble_eq_true rfl) dX1_init_11 (fun H locs hP hD hS => ?_)
  have hP : va_P D vwCl [(q, .inr (1, [.null, .int 0, .int 0, .null, .null]))] H := hP
  have hD : va_D A [(q, .inr (1, [.null, .int 0, .int 0, .null, .null]))] := hD
  refine lv_aload_n hx hb dX1_init_14 rfl (lv_at hl 0 rfl) ?_
  refine lv_bipush (v := 10) hx hb dX1_init_15 (by decide) ?_
  refine k_newa (atype := .int) (a0 := (10, .inl (fun _ => 0))) hx hb (hg _ wt1_77) rfl hK hP hD hS hA 0 rfl (fun _ => rfl) (by decide) (by decide +kernel) (by decide) (by decide) (by decide) dX1_init_17 (fun q0 H hP hD hS => ?_)
  have hP : va_P D vwCl [(q, .inr (1, [.null, .int 0, .int 0, .null, .null])), (q0, .inl (K 0, 10, .inl (fun _ => 0)))] H := hP
  have hD : va_D A [(q, .inr (1, [.null, .int 0, .int 0, .null, .null])), (q0, .inl (K 0, 10, .inl (fun _ => 0)))] := hD
  refine va_putF (D := D) (ci := 1) (v := .ref q0) (ty := (.array .int)) (C := RX1) (T := TX1) (N := 5) hx hb hg inC1 tyX1 tyX1_ok nmX1 hown hK hP hD hS 0 rfl rfl 3 (by decide) (hg _ wt2_172) (fun _ h9 => h9) rfl hin rfl (by decide +kernel) rfl rfl (Nat.le_of_ble_eq_true rfl) dX1_init_19 (fun H locs hP hD hS => ?_)
  have hP : va_P D vwCl [(q, .inr (1, [.null, .int 0, .int 0, .ref q0, .null])), (q0, .inl (K 0, 10, .inl (fun _ => 0)))] H := hP
  have hD : va_D A [(q, .inr (1, [.null, .int 0, .int 0, .ref q0, .null])), (q0, .inl (K 0, 10, .inl (fun _ => 0)))] := hD
  refine lv_aload_n hx hb dX1_init_22 rfl (lv_at hl 0 rfl) ?_
  refine lv_bipush (v := 6) hx hb dX1_init_23 (by decide) ?_
  refine k_newa (atype := .int) (a0 := (6, .inl (fun _ => 0))) hx hb (hg _ wt1_77) rfl hK hP hD hS hA 0 rfl (fun _ => rfl) (by decide) (by decide +kernel) (by decide) (by decide) (by decide) dX1_init_25 (fun q1 H hP hD hS => ?_)
  have hP : va_P D vwCl [(q, .inr (1, [.null, .int 0, .int 0, .ref q0, .null])), (q0, .inl (K 0, 10, .inl (fun _ => 0))), (q1, .inl (K 0, 6, .inl (fun _ => 0)))] H := hP
  have hD : va_D A [(q, .inr (1, [.null, .int 0, .int 0, .ref q0, .null])), (q0, .inl (K 0, 10, .inl (fun _ => 0))), (q1, .inl (K 0, 6, .inl (fun _ => 0)))] := hD
  refine va_putF (D := D) (ci := 1) (v := .ref q1) (ty := (.array .int)) (C := RX1) (T := TX1) (N := 5) hx hb hg inC1 tyX1 tyX1_ok nmX1 hown hK hP hD hS 0 rfl rfl 4 (by decide) (hg _ wt2_173) (fun _ h9 => h9) rfl hin rfl (by decide +kernel) rfl rfl (Nat.le_of_ble_eq_true rfl) dX1_init_27 (fun H locs hP hD hS => ?_)
  have hP : va_P D vwCl [(q, .inr (1, [.null, .int 0, .int 0, .ref q0, .ref q1])), (q0, .inl (K 0, 10, .inl (fun _ => 0))), (q1, .inl (K 0, 6, .inl (fun _ => 0)))] H := hP
  have hD : va_D A [(q, .inr (1, [.null, .int 0, .int 0, .ref q0, .ref q1])), (q0, .inl (K 0, 10, .inl (fun _ => 0))), (q1, .inl (K 0, 6, .inl (fun _ => 0)))] := hD
  refine lv_aload_n hx hb dX1_init_30 rfl (lv_at hl 0 rfl) ?_
  refine lv_aload_n hx hb dX1_init_31 rfl (lv_at hl 1 rfl) ?_
  refine va_putF (D := D) (ci := 1) (v := .ref b1) (ty := (.object "SunriseRoof$Planner")) (C := RX1) (T := TX1) (N := 5) hx hb hg inC1 tyX1 tyX1_ok nmX1 hown hK hP hD hS 0 rfl rfl 0 (by decide) (hg _ wt2_169) (fun _ h9 => h9) rfl hin rfl (by decide +kernel) rfl rfl (Nat.le_of_ble_eq_true rfl) dX1_init_32 (fun H locs hP hD hS => ?_)
  have hP : va_P D vwCl [(q, .inr (1, [.ref b1, .int 0, .int 0, .ref q0, .ref q1])), (q0, .inl (K 0, 10, .inl (fun _ => 0))), (q1, .inl (K 0, 6, .inl (fun _ => 0)))] H := hP
  have hD : va_D A [(q, .inr (1, [.ref b1, .int 0, .int 0, .ref q0, .ref q1])), (q0, .inl (K 0, 10, .inl (fun _ => 0))), (q1, .inl (K 0, 6, .inl (fun _ => 0)))] := hD
  exact kV_ret hx hb hr hlocks hK hS dX1_init_35 (fun k => [q, q0, q1].getD k 0) hP hD trivial
set_option maxHeartbeats 4000000 in
set_option maxRecDepth 100000 in
theorem k_X9_init (l : Launch) {D : va_G} {K : Nat → ClassId} (q : Nat) (b1 : Nat) (b2 : Nat) : kV l yX9_init (Cond.code yX9_init cX9_init 3 none :: kG) (rmD 1 6 804) D (tysK K) [.ref q, .ref b1, .ref b2] [(q, .inr (9, [.null, .null, .null, .null, .null, .int 0, .int 0, .null, .null, .null]))] (fun (_ : Nat → Nat) => True) (fun u => [(q, .inr (9, [.ref b1, .ref b2, .ref (u 1), .ref (u 2), .ref (u 3), .int 0, .int 0, .ref (u 4), .ref (u 5), .ref (u 6)])), (u 1, .inl (K 0, 11, .inl (upd (fun _ => 0) 0 (-2)))), (u 2, .inl (K 0, 11, .inl (fun _ => 0))), (u 3, .inl (K 0, 704, .inl (fun _ => 0))), (u 4, .inl (K 0, 3, .inl (fun _ => 0))), (u 5, .inl (K 2, 64, .inl (fun _ => 0))), (u 6, .inl (K 0, 11, .inl (fun _ => 0)))]) 6 804 := by
  refine kV.of (cc := cX9_init) (maxL := 3) (ret := none) (by decide) rfl (Nat.le_of_ble_eq_true rfl) ?_
  intro p e s m below meth c A hx hb hr hml hown hts hlocks hin hK hP hD hS hA ls hl
  have hg : ∀ w ∈ kG, w.before _ s = true := fun w h => hts w (List.mem_cons_of_mem _ h)
  have hown : s.vm.findClass RX9 = some m.cls := hown
  have hl : lv_has ls 3 [(0, .ref q), (1, .ref b1), (2, .ref b2)] := hl
  refine lv_aload_n hx hb dX9_init_0 rfl (lv_at hl 0 rfl) ?_
  refine W.objInit hx hb hown (hg _ wt2_114) (hg _ wt1_28) (hg _ wt1_29) rfl (by rw [hml]; exact hl.1) rfl dX9_init_1 (Nat.le_of_ble_eq_true rfl) (Nat.le_of_ble_eq_true rfl) ?_
  refine W.eq (g2 := F0 m 4 ls []) rfl ?_
  refine lv_aload_n hx hb dX9_init_4 rfl (lv_at hl 0 rfl) ?_
  refine lv_bipush (v := 11) hx hb dX9_init_5 (by decide) ?_
  refine k_newa (atype := .int) (a0 := (11, .inl (fun _ => 0))) hx hb (hg _ wt1_77) rfl hK hP hD hS hA 0 rfl (fun _ => rfl) (by decide) (by decide +kernel) (by decide) (by decide) (by decide) dX9_init_7 (fun q0 H hP hD hS => ?_)
  have hP : va_P D vwCl [(q, .inr (9, [.null, .null, .null, .null, .null, .int 0, .int 0, .null, .null, .null])), (q0, .inl (K 0, 11, .inl (fun _ => 0)))] H := hP
  have hD : va_D A [(q, .inr (9, [.null, .null, .null, .null, .null, .int 0, .int 0, .null, .null, .null])), (q0, .inl (K 0, 11, .inl (fun _ => 0)))] := hD
  refine va_putF (D := D) (ci := 9) (v := .ref q0) (ty := (.array .int)) (C := RX9) (T := TX9) (N := 10) hx hb hg inC9 tyX9 tyX9_ok nmX9 hown hK hP hD hS 0 rfl rfl 2 (by decide) (hg _ wt2_117) (fun _ h9 => h9) rfl hin rfl (by decide +kernel) rfl rfl (Nat.le_of_ble_eq_true rfl) dX9_init_9 (fun H locs hP hD hS => ?_)
  have hP : va_P D vwCl [(q, .inr (9, [.null, .null, .ref q0, .null, .null, .int 0, .int 0, .null, .null, .null])), (q0, .inl (K 0, 11, .inl (fun _ => 0)))] H := hP
  have hD : va_D A [(q, .inr (9, [.null, .null, .ref q0, .null, .null, .int 0, .int 0, .null, .null, .null])), (q0, .inl (K 0, 11, .inl (fun _ => 0)))] := hD
  refine lv_aload_n hx hb dX9_init_12 rfl (lv_at hl 0 rfl) ?_
  refine lv_bipush (v := 11) hx hb dX9_init_13 (by decide) ?_
  refine k_newa (atype := .int) (a0 := (11, .inl (fun _ => 0))) hx hb (hg _ wt1_77) rfl hK hP hD hS hA 0 rfl (fun _ => rfl) (by decide) (by decide +kernel) (by decide) (by decide) (by decide) dX9_init_15 (fun q1 H hP hD hS => ?_)
  have hP : va_P D vwCl [(q, .inr (9, [.null, .null, .ref q0, .null, .null, .int 0, .int 0, .null, .null, .null])), (q0, .inl (K 0, 11, .inl (fun _ => 0))), (q1, .inl (K 0, 11, .inl (fun _ => 0)))] H := hP
  have hD : va_D A [(q, .inr (9, [.null, .null, .ref q0, .null, .null, .int 0, .int 0, .null, .null, .null])), (q0, .inl (K 0, 11, .inl (fun _ => 0))), (q1, .inl (K 0, 11, .inl (fun _ => 0)))] := hD
  refine va_putF (D := D) (ci := 9) (v := .ref q1) (ty := (.array .int)) (C := RX9) (T := TX9) (N := 10) hx hb hg inC9 tyX9 tyX9_ok nmX9 hown hK hP hD hS 0 rfl rfl 3 (by decide) (hg _ wt2_118) (fun _ h9 => h9) rfl hin rfl (by decide +kernel) rfl rfl (Nat.le_of_ble_eq_true rfl) dX9_init_17 (fun H locs hP hD hS => ?_)
  have hP : va_P D vwCl [(q, .inr (9, [.null, .null, .ref q0, .ref q1, .null, .int 0, .int 0, .null, .null, .null])), (q0, .inl (K 0, 11, .inl (fun _ => 0))), (q1, .inl (K 0, 11, .inl (fun _ => 0)))] H := hP
  have hD : va_D A [(q, .inr (9, [.null, .null, .ref q0, .ref q1, .null, .int 0, .int 0, .null, .null, .null])), (q0, .inl (K 0, 11, .inl (fun _ => 0))), (q1, .inl (K 0, 11, .inl (fun _ => 0)))] := hD
  refine lv_aload_n hx hb dX9_init_20 rfl (lv_at hl 0 rfl) ?_
  refine lv_sipush (v := 704) hx hb dX9_init_21 (by decide) ?_
  refine k_newa (atype := .int) (a0 := (704, .inl (fun _ => 0))) hx hb (hg _ wt1_77) rfl hK hP hD hS hA 0 rfl (fun _ => rfl) (by decide) (by decide +kernel) (by decide) (by decide) (by decide) dX9_init_24 (fun q2 H hP hD hS => ?_)
  have hP : va_P D vwCl [(q, .inr (9, [.null, .null, .ref q0, .ref q1, .null, .int 0, .int 0, .null, .null, .null])), (q0, .inl (K 0, 11, .inl (fun _ => 0))), (q1, .inl (K 0, 11, .inl (fun _ => 0))), (q2, .inl (K 0, 704, .inl (fun _ => 0)))] H := hP
  have hD : va_D A [(q, .inr (9, [.null, .null, .ref q0, .ref q1, .null, .int 0, .int 0, .null, .null, .null])), (q0, .inl (K 0, 11, .inl (fun _ => 0))), (q1, .inl (K 0, 11, .inl (fun _ => 0))), (q2, .inl (K 0, 704, .inl (fun _ => 0)))] := hD
  refine va_putF (D := D) (ci := 9) (v := .ref q2) (ty := (.array .int)) (C := RX9) (T := TX9) (N := 10) hx hb hg inC9 tyX9 tyX9_ok nmX9 hown hK hP hD hS 0 rfl rfl 4 (by decide) (hg _ wt2_119) (fun _ h9 => h9) rfl hin rfl (by decide +kernel) rfl rfl (Nat.le_of_ble_eq_true rfl) dX9_init_26 (fun H locs hP hD hS => ?_)
  have hP : va_P D vwCl [(q, .inr (9, [.null, .null, .ref q0, .ref q1, .ref q2, .int 0, .int 0, .null, .null, .null])), (q0, .inl (K 0, 11, .inl (fun _ => 0))), (q1, .inl (K 0, 11, .inl (fun _ => 0))), (q2, .inl (K 0, 704, .inl (fun _ => 0)))] H := hP
  have hD : va_D A [(q, .inr (9, [.null, .null, .ref q0, .ref q1, .ref q2, .int 0, .int 0, .null, .null, .null])), (q0, .inl (K 0, 11, .inl (fun _ => 0))), (q1, .inl (K 0, 11, .inl (fun _ => 0))), (q2, .inl (K 0, 704, .inl (fun _ => 0)))] := hD
  refine lv_aload_n hx hb dX9_init_29 rfl (lv_at hl 0 rfl) ?_
  refine lv_iconst (v := 0) hx hb dX9_init_30 (by decide) ?_
  refine va_put (D := D) (ci := 9) (v := .int 0) (ty := .int) (C := RX9) (T := TX9) (N := 10) hx hb hg inC9 tyX9 tyX9_ok nmX9 hown hK hP hD hS 0 rfl rfl 5 (by decide) (hg _ wt2_120) (fun _ h9 => h9) rfl (by decide +kernel) rfl rfl (Nat.le_of_ble_eq_true rfl) dX9_init_31 (fun H locs hP hD hS => ?_)
  have hP : va_P D vwCl [(q, .inr (9, [.null, .null, .ref q0, .ref q1, .ref q2, .int 0, .int 0, .null, .null, .null])), (q0, .inl (K 0, 11, .inl (fun _ => 0))), (q1, .inl (K 0, 11, .inl (fun _ => 0))), (q2, .inl (K 0, 704, .inl (fun _ => 0)))] H := hP
  have hD : va_D A [(q, .inr (9, [.null, .null, .ref q0, .ref q1, .ref q2, .int 0, .int 0, .null, .null, .null])), (q0, .inl (K 0, 11, .inl (fun _ => 0))), (q1, .inl (K 0, 11, .inl (fun _ => 0))), (q2, .inl (K 0, 704, .inl (fun _ => 0)))] := hD
  refine lv_aload_n hx hb dX9_init_34 rfl (lv_at hl 0 rfl) ?_
  refine lv_iconst (v := 0) hx hb dX9_init_35 (by decide) ?_
  refine va_put (D := D) (ci := 9) (v := .int 0) (ty := .boolean) (C := RX9) (T := TX9) (N := 10) hx hb hg inC9 tyX9 tyX9_ok nmX9 hown hK hP hD hS 0 rfl rfl 6 (by decide) (hg _ wt2_121) (fun _ h9 => h9) rfl (by decide +kernel) rfl rfl (Nat.le_of_ble_eq_true rfl) dX9_init_36 (fun H locs hP hD hS => ?_)
  have hP : va_P D vwCl [(q, .inr (9, [.null, .null, .ref q0, .ref q1, .ref q2, .int 0, .int 0, .null, .null, .null])), (q0, .inl (K 0, 11, .inl (fun _ => 0))), (q1, .inl (K 0, 11, .inl (fun _ => 0))), (q2, .inl (K 0, 704, .inl (fun _ => 0)))] H := hP
  have hD : va_D A [(q, .inr (9, [.null, .null, .ref q0, .ref q1, .ref q2, .int 0, .int 0, .null, .null, .null])), (q0, .inl (K 0, 11, .inl (fun _ => 0))), (q1, .inl (K 0, 11, .inl (fun _ => 0))), (q2, .inl (K 0, 704, .inl (fun _ => 0)))] := hD
  refine lv_aload_n hx hb dX9_init_39 rfl (lv_at hl 0 rfl) ?_
  refine lv_iconst (v := 3) hx hb dX9_init_40 (by decide) ?_
  refine k_newa (atype := .int) (a0 := (3, .inl (fun _ => 0))) hx hb (hg _ wt1_77) rfl hK hP hD hS hA 0 rfl (fun _ => rfl) (by decide) (by decide +kernel) (by decide) (by decide) (by decide) dX9_init_41 (fun q3 H hP hD hS => ?_)
  have hP : va_P D vwCl [(q, .inr (9, [.null, .null, .ref q0, .ref q1, .ref q2, .int 0, .int 0, .null, .null, .null])), (q0, .inl (K 0, 11, .inl (fun _ => 0))), (q1, .inl (K 0, 11, .inl (fun _ => 0))), (q2, .inl (K 0, 704, .inl (fun _ => 0))), (q3, .inl (K 0, 3, .inl (fun _ => 0)))] H := hP
  have hD : va_D A [(q, .inr (9, [.null, .null, .ref q0, .ref q1, .ref q2, .int 0, .int 0, .null, .null, .null])), (q0, .inl (K 0, 11, .inl (fun _ => 0))), (q1, .inl (K 0, 11, .inl (fun _ => 0))), (q2, .inl (K 0, 704, .inl (fun _ => 0))), (q3, .inl (K 0, 3, .inl (fun _ => 0)))] := hD
  refine va_putF (D := D) (ci := 9) (v := .ref q3) (ty := (.array .int)) (C := RX9) (T := TX9) (N := 10) hx hb hg inC9 tyX9 tyX9_ok nmX9 hown hK hP hD hS 0 rfl rfl 7 (by decide) (hg _ wt2_122) (fun _ h9 => h9) rfl hin rfl (by decide +kernel) rfl rfl (Nat.le_of_ble_eq_true rfl) dX9_init_43 (fun H locs hP hD hS => ?_)
  have hP : va_P D vwCl [(q, .inr (9, [.null, .null, .ref q0, .ref q1, .ref q2, .int 0, .int 0, .ref q3, .null, .null])), (q0, .inl (K 0, 11, .inl (fun _ => 0))), (q1, .inl (K 0, 11, .inl (fun _ => 0))), (q2, .inl (K 0, 704, .inl (fun _ => 0))), (q3, .inl (K 0, 3, .inl (fun _ => 0)))] H := hP
  have hD : va_D A [(q, .inr (9, [.null, .null, .ref q0, .ref q1, .ref q2, .int 0, .int 0, .ref q3, .null, .null])), (q0, .inl (K 0, 11, .inl (fun _ => 0))), (q1, .inl (K 0, 11, .inl (fun _ => 0))), (q2, .inl (K 0, 704, .inl (fun _ => 0))), (q3, .inl (K 0, 3, .inl (fun _ => 0)))] := hD
  refine lv_aload_n hx hb dX9_init_46 rfl (lv_at hl 0 rfl) ?_
  refine lv_bipush (v := 64) hx hb dX9_init_47 (by decide) ?_
  refine k_newa (atype := .boolean) (a0 := (64, .inl (fun _ => 0))) hx hb (hg _ wt2_146) rfl hK hP hD hS hA 2 rfl (fun _ => rfl) (by decide) (by decide +kernel) (by decide) (by decide) (by decide) dX9_init_49 (fun q4 H hP hD hS => ?_)
  have hP : va_P D vwCl [(q, .inr (9, [.null, .null, .ref q0, .ref q1, .ref q2, .int 0, .int 0, .ref q3, .null, .null])), (q0, .inl (K 0, 11, .inl (fun _ => 0))), (q1, .inl (K 0, 11, .inl (fun _ => 0))), (q2, .inl (K 0, 704, .inl (fun _ => 0))), (q3, .inl (K 0, 3, .inl (fun _ => 0))), (q4, .inl (K 2, 64, .inl (fun _ => 0)))] H := hP
  have hD : va_D A [(q, .inr (9, [.null, .null, .ref q0, .ref q1, .ref q2, .int 0, .int 0, .ref q3, .null, .null])), (q0, .inl (K 0, 11, .inl (fun _ => 0))), (q1, .inl (K 0, 11, .inl (fun _ => 0))), (q2, .inl (K 0, 704, .inl (fun _ => 0))), (q3, .inl (K 0, 3, .inl (fun _ => 0))), (q4, .inl (K 2, 64, .inl (fun _ => 0)))] := hD
  refine va_putF (D := D) (ci := 9) (v := .ref q4) (ty := (.array .boolean)) (C := RX9) (T := TX9) (N := 10) hx hb hg inC9 tyX9 tyX9_ok nmX9 hown hK hP hD hS 0 rfl rfl 8 (by decide) (hg _ wt2_123) (fun _ h9 => h9) rfl hin rfl (by decide +kernel) rfl rfl (Nat.le_of_ble_eq_true rfl) dX9_init_51 (fun H locs hP hD hS => ?_)
  have hP : va_P D vwCl [(q, .inr (9, [.null, .null, .ref q0, .ref q1, .ref q2, .int 0, .int 0, .ref q3, .ref q4, .null])), (q0, .inl (K 0, 11, .inl (fun _ => 0))), (q1, .inl (K 0, 11, .inl (fun _ => 0))), (q2, .inl (K 0, 704, .inl (fun _ => 0))), (q3, .inl (K 0, 3, .inl (fun _ => 0))), (q4, .inl (K 2, 64, .inl (fun _ => 0)))] H := hP
  have hD : va_D A [(q, .inr (9, [.null, .null, .ref q0, .ref q1, .ref q2, .int 0, .int 0, .ref q3, .ref q4, .null])), (q0, .inl (K 0, 11, .inl (fun _ => 0))), (q1, .inl (K 0, 11, .inl (fun _ => 0))), (q2, .inl (K 0, 704, .inl (fun _ => 0))), (q3, .inl (K 0, 3, .inl (fun _ => 0))), (q4, .inl (K 2, 64, .inl (fun _ => 0)))] := hD
  refine lv_aload_n hx hb dX9_init_54 rfl (lv_at hl 0 rfl) ?_
  refine lv_bipush (v := 11) hx hb dX9_init_55 (by decide) ?_
  refine k_newa (atype := .int) (a0 := (11, .inl (fun _ => 0))) hx hb (hg _ wt1_77) rfl hK hP hD hS hA 0 rfl (fun _ => rfl) (by decide) (by decide +kernel) (by decide) (by decide) (by decide) dX9_init_57 (fun q5 H hP hD hS => ?_)
  have hP : va_P D vwCl [(q, .inr (9, [.null, .null, .ref q0, .ref q1, .ref q2, .int 0, .int 0, .ref q3, .ref q4, .null])), (q0, .inl (K 0, 11, .inl (fun _ => 0))), (q1, .inl (K 0, 11, .inl (fun _ => 0))), (q2, .inl (K 0, 704, .inl (fun _ => 0))), (q3, .inl (K 0, 3, .inl (fun _ => 0))), (q4, .inl (K 2, 64, .inl (fun _ => 0))), (q5, .inl (K 0, 11, .inl (fun _ => 0)))] H := hP
  have hD : va_D A [(q, .inr (9, [.null, .null, .ref q0, .ref q1, .ref q2, .int 0, .int 0, .ref q3, .ref q4, .null])), (q0, .inl (K 0, 11, .inl (fun _ => 0))), (q1, .inl (K 0, 11, .inl (fun _ => 0))), (q2, .inl (K 0, 704, .inl (fun _ => 0))), (q3, .inl (K 0, 3, .inl (fun _ => 0))), (q4, .inl (K 2, 64, .inl (fun _ => 0))), (q5, .inl (K 0, 11, .inl (fun _ => 0)))] := hD
  refine va_putF (D := D) (ci := 9) (v := .ref q5) (ty := (.array .int)) (C := RX9) (T := TX9) (N := 10) hx hb hg inC9 tyX9 tyX9_ok nmX9 hown hK hP hD hS 0 rfl rfl 9 (by decide) (hg _ wt2_124) (fun _ h9 => h9) rfl hin rfl (by decide +kernel) rfl rfl (Nat.le_of_ble_eq_true rfl) dX9_init_59 (fun H locs hP hD hS => ?_)
  have hP : va_P D vwCl [(q, .inr (9, [.null, .null, .ref q0, .ref q1, .ref q2, .int 0, .int 0, .ref q3, .ref q4, .ref q5])), (q0, .inl (K 0, 11, .inl (fun _ => 0))), (q1, .inl (K 0, 11, .inl (fun _ => 0))), (q2, .inl (K 0, 704, .inl (fun _ => 0))), (q3, .inl (K 0, 3, .inl (fun _ => 0))), (q4, .inl (K 2, 64, .inl (fun _ => 0))), (q5, .inl (K 0, 11, .inl (fun _ => 0)))] H := hP
  have hD : va_D A [(q, .inr (9, [.null, .null, .ref q0, .ref q1, .ref q2, .int 0, .int 0, .ref q3, .ref q4, .ref q5])), (q0, .inl (K 0, 11, .inl (fun _ => 0))), (q1, .inl (K 0, 11, .inl (fun _ => 0))), (q2, .inl (K 0, 704, .inl (fun _ => 0))), (q3, .inl (K 0, 3, .inl (fun _ => 0))), (q4, .inl (K 2, 64, .inl (fun _ => 0))), (q5, .inl (K 0, 11, .inl (fun _ => 0)))] := hD
  refine lv_aload_n hx hb dX9_init_62 rfl (lv_at hl 0 rfl) ?_
  refine lv_aload_n hx hb dX9_init_63 rfl (lv_at hl 1 rfl) ?_
  refine va_putF (D := D) (ci := 9) (v := .ref b1) (ty := (.object "SunriseRoof$Site")) (C := RX9) (T := TX9) (N := 10) hx hb hg inC9 tyX9 tyX9_ok nmX9 hown hK hP hD hS 0 rfl rfl 0 (by decide) (hg _ wt2_115) (fun _ h9 => h9) rfl hin rfl (by decide +kernel) rfl rfl (Nat.le_of_ble_eq_true rfl) dX9_init_64 (fun H locs hP hD hS => ?_)
  have hP : va_P D vwCl [(q, .inr (9, [.ref b1, .null, .ref q0, .ref q1, .ref q2, .int 0, .int 0, .ref q3, .ref q4, .ref q5])), (q0, .inl (K 0, 11, .inl (fun _ => 0))), (q1, .inl (K 0, 11, .inl (fun _ => 0))), (q2, .inl (K 0, 704, .inl (fun _ => 0))), (q3, .inl (K 0, 3, .inl (fun _ => 0))), (q4, .inl (K 2, 64, .inl (fun _ => 0))), (q5, .inl (K 0, 11, .inl (fun _ => 0)))] H := hP
  have hD : va_D A [(q, .inr (9, [.ref b1, .null, .ref q0, .ref q1, .ref q2, .int 0, .int 0, .ref q3, .ref q4, .ref q5])), (q0, .inl (K 0, 11, .inl (fun _ => 0))), (q1, .inl (K 0, 11, .inl (fun _ => 0))), (q2, .inl (K 0, 704, .inl (fun _ => 0))), (q3, .inl (K 0, 3, .inl (fun _ => 0))), (q4, .inl (K 2, 64, .inl (fun _ => 0))), (q5, .inl (K 0, 11, .inl (fun _ => 0)))] := hD
  refine lv_aload_n hx hb dX9_init_67 rfl (lv_at hl 0 rfl) ?_
  refine lv_aload_n hx hb dX9_init_68 rfl (lv_at hl 2 rfl) ?_
  refine va_putF (D := D) (ci := 9) (v := .ref b2) (ty := (.object "SunriseRoof$Planner")) (C := RX9) (T := TX9) (N := 10) hx hb hg inC9 tyX9 tyX9_ok nmX9 hown hK hP hD hS 0 rfl rfl 1 (by decide) (hg _ wt2_116) (fun _ h9 => h9) rfl hin rfl (by decide +kernel) rfl rfl (Nat.le_of_ble_eq_true rfl) dX9_init_69 (fun H locs hP hD hS => ?_)
  have hP : va_P D vwCl [(q, .inr (9, [.ref b1, .ref b2, .ref q0, .ref q1, .ref q2, .int 0, .int 0, .ref q3, .ref q4, .ref q5])), (q0, .inl (K 0, 11, .inl (fun _ => 0))), (q1, .inl (K 0, 11, .inl (fun _ => 0))), (q2, .inl (K 0, 704, .inl (fun _ => 0))), (q3, .inl (K 0, 3, .inl (fun _ => 0))), (q4, .inl (K 2, 64, .inl (fun _ => 0))), (q5, .inl (K 0, 11, .inl (fun _ => 0)))] H := hP
  have hD : va_D A [(q, .inr (9, [.ref b1, .ref b2, .ref q0, .ref q1, .ref q2, .int 0, .int 0, .ref q3, .ref q4, .ref q5])), (q0, .inl (K 0, 11, .inl (fun _ => 0))), (q1, .inl (K 0, 11, .inl (fun _ => 0))), (q2, .inl (K 0, 704, .inl (fun _ => 0))), (q3, .inl (K 0, 3, .inl (fun _ => 0))), (q4, .inl (K 2, 64, .inl (fun _ => 0))), (q5, .inl (K 0, 11, .inl (fun _ => 0)))] := hD
  refine lv_aload_n hx hb dX9_init_72 rfl (lv_at hl 0 rfl) ?_
  refine va_get (D := D) (ci := 9) (v := .ref q0) (C := RX9) (T := TX9) (N := 10) hx hb hg inC9 hown hK hP 0 rfl rfl 2 (by decide) (hg _ wt2_117) (fun _ h9 => h9) rfl dX9_init_73 ?_
  refine lv_iconst (v := 0) hx hb dX9_init_76 (by decide) ?_
  refine lv_bipush (v := (-2)) hx hb dX9_init_77 (by decide) ?_
  refine va_iast hx hb hK hP hD hS 1 0 rfl rfl (k_in (by decide +kernel)) dX9_init_79 (fun H locs hP hD hS => ?_)
  rw [cl_0] at hP hD
  have hP : va_P D vwCl [(q, .inr (9, [.ref b1, .ref b2, .ref q0, .ref q1, .ref q2, .int 0, .int 0, .ref q3, .ref q4, .ref q5])), (q0, .inl (K 0, 11, .inl (upd (fun _ => 0) 0 (-2)))), (q1, .inl (K 0, 11, .inl (fun _ => 0))), (q2, .inl (K 0, 704, .inl (fun _ => 0))), (q3, .inl (K 0, 3, .inl (fun _ => 0))), (q4, .inl (K 2, 64, .inl (fun _ => 0))), (q5, .inl (K 0, 11, .inl (fun _ => 0)))] H := hP
  have hD : va_D A [(q, .inr (9, [.ref b1, .ref b2, .ref q0, .ref q1, .ref q2, .int 0, .int 0, .ref q3, .ref q4, .ref q5])), (q0, .inl (K 0, 11, .inl (upd (fun _ => 0) 0 (-2)))), (q1, .inl (K 0, 11, .inl (fun _ => 0))), (q2, .inl (K 0, 704, .inl (fun _ => 0))), (q3, .inl (K 0, 3, .inl (fun _ => 0))), (q4, .inl (K 2, 64, .inl (fun _ => 0))), (q5, .inl (K 0, 11, .inl (fun _ => 0)))] := hD
  exact kV_ret hx hb hr hlocks hK hS dX9_init_80 (fun k => [q, q0, q1, q2, q3, q4, q5].getD k 0) hP hD trivial
set_option maxHeartbeats 4000000 in
set_option maxRecDepth 100000 in
theorem k_X10_init (l : Launch) {D : va_G} {K : Nat → ClassId} (q : Nat)  : kV l yX10_init (Cond.code yX10_init cX10_init 2 none :: kG) (rmD 2 4 461) D (tysK K) [.ref q, .int 400] [(q, .inr (10, [.int 0, .null, .null, .null, .null, .int 0]))] (fun (_ : Nat → Nat) => True) (fun u => [(q, .inr (10, [.int 0, .ref (u 1), .ref (u 2), .ref (u 3), .ref (u 4), .int 0])), (u 1, .inl (K 0, 12, .inl (fun _ => 0))), (u 2, .inl (K 0, 12, .inl (fun _ => 0))), (u 3, .inl (K 0, 37, .inl (fun _ => 0))), (u 4, .inl (K 0, 400, .inl (fun _ => 0)))]) 4 461 := by
  refine kV.of (cc := cX10_init) (maxL := 2) (ret := none) (by decide) rfl (Nat.le_of_ble_eq_true rfl) ?_
  intro p e s m below meth c A hx hb hr hml hown hts hlocks hin hK hP hD hS hA ls hl
  have hg : ∀ w ∈ kG, w.before _ s = true := fun w h => hts w (List.mem_cons_of_mem _ h)
  have hown : s.vm.findClass RX10 = some m.cls := hown
  have hl : lv_has ls 2 [(0, .ref q), (1, .int 400)] := hl
  refine lv_aload_n hx hb dX10_init_0 rfl (lv_at hl 0 rfl) ?_
  refine W.objInit hx hb hown (hg _ wt2_36) (hg _ wt1_28) (hg _ wt1_29) rfl (by rw [hml]; exact hl.1) rfl dX10_init_1 (Nat.le_of_ble_eq_true rfl) (Nat.le_of_ble_eq_true rfl) ?_
  refine W.eq (g2 := F0 m 4 ls []) rfl ?_
  refine lv_aload_n hx hb dX10_init_4 rfl (lv_at hl 0 rfl) ?_
  refine lv_iconst (v := 0) hx hb dX10_init_5 (by decide) ?_
  refine va_put (D := D) (ci := 10) (v := .int 0) (ty := .int) (C := RX10) (T := TX10) (N := 6) hx hb hg inC10 tyX10 tyX10_ok nmX10 hown hK hP hD hS 0 rfl rfl 0 (by decide) (hg _ wt2_40) (fun _ h9 => h9) rfl (by decide +kernel) rfl rfl (Nat.le_of_ble_eq_true rfl) dX10_init_6 (fun H locs hP hD hS => ?_)
  have hP : va_P D vwCl [(q, .inr (10, [.int 0, .null, .null, .null, .null, .int 0]))] H := hP
  have hD : va_D A [(q, .inr (10, [.int 0, .null, .null, .null, .null, .int 0]))] := hD
  refine lv_aload_n hx hb dX10_init_9 rfl (lv_at hl 0 rfl) ?_
  refine lv_bipush (v := 12) hx hb dX10_init_10 (by decide) ?_
  refine k_newa (atype := .int) (a0 := (12, .inl (fun _ => 0))) hx hb (hg _ wt1_77) rfl hK hP hD hS hA 0 rfl (fun _ => rfl) (by decide) (by decide +kernel) (by decide) (by decide) (by decide) dX10_init_12 (fun q0 H hP hD hS => ?_)
  have hP : va_P D vwCl [(q, .inr (10, [.int 0, .null, .null, .null, .null, .int 0])), (q0, .inl (K 0, 12, .inl (fun _ => 0)))] H := hP
  have hD : va_D A [(q, .inr (10, [.int 0, .null, .null, .null, .null, .int 0])), (q0, .inl (K 0, 12, .inl (fun _ => 0)))] := hD
  refine va_putF (D := D) (ci := 10) (v := .ref q0) (ty := (.array .int)) (C := RX10) (T := TX10) (N := 6) hx hb hg inC10 tyX10 tyX10_ok nmX10 hown hK hP hD hS 0 rfl rfl 1 (by decide) (hg _ wt2_43) (fun _ h9 => h9) rfl hin rfl (by decide +kernel) rfl rfl (Nat.le_of_ble_eq_true rfl) dX10_init_14 (fun H locs hP hD hS => ?_)
  have hP : va_P D vwCl [(q, .inr (10, [.int 0, .ref q0, .null, .null, .null, .int 0])), (q0, .inl (K 0, 12, .inl (fun _ => 0)))] H := hP
  have hD : va_D A [(q, .inr (10, [.int 0, .ref q0, .null, .null, .null, .int 0])), (q0, .inl (K 0, 12, .inl (fun _ => 0)))] := hD
  refine lv_aload_n hx hb dX10_init_17 rfl (lv_at hl 0 rfl) ?_
  refine lv_bipush (v := 12) hx hb dX10_init_18 (by decide) ?_
  refine k_newa (atype := .int) (a0 := (12, .inl (fun _ => 0))) hx hb (hg _ wt1_77) rfl hK hP hD hS hA 0 rfl (fun _ => rfl) (by decide) (by decide +kernel) (by decide) (by decide) (by decide) dX10_init_20 (fun q1 H hP hD hS => ?_)
  have hP : va_P D vwCl [(q, .inr (10, [.int 0, .ref q0, .null, .null, .null, .int 0])), (q0, .inl (K 0, 12, .inl (fun _ => 0))), (q1, .inl (K 0, 12, .inl (fun _ => 0)))] H := hP
  have hD : va_D A [(q, .inr (10, [.int 0, .ref q0, .null, .null, .null, .int 0])), (q0, .inl (K 0, 12, .inl (fun _ => 0))), (q1, .inl (K 0, 12, .inl (fun _ => 0)))] := hD
  refine va_putF (D := D) (ci := 10) (v := .ref q1) (ty := (.array .int)) (C := RX10) (T := TX10) (N := 6) hx hb hg inC10 tyX10 tyX10_ok nmX10 hown hK hP hD hS 0 rfl rfl 2 (by decide) (hg _ wt2_46) (fun _ h9 => h9) rfl hin rfl (by decide +kernel) rfl rfl (Nat.le_of_ble_eq_true rfl) dX10_init_22 (fun H locs hP hD hS => ?_)
  have hP : va_P D vwCl [(q, .inr (10, [.int 0, .ref q0, .ref q1, .null, .null, .int 0])), (q0, .inl (K 0, 12, .inl (fun _ => 0))), (q1, .inl (K 0, 12, .inl (fun _ => 0)))] H := hP
  have hD : va_D A [(q, .inr (10, [.int 0, .ref q0, .ref q1, .null, .null, .int 0])), (q0, .inl (K 0, 12, .inl (fun _ => 0))), (q1, .inl (K 0, 12, .inl (fun _ => 0)))] := hD
  refine lv_aload_n hx hb dX10_init_25 rfl (lv_at hl 0 rfl) ?_
  refine lv_bipush (v := 37) hx hb dX10_init_26 (by decide) ?_
  refine k_newa (atype := .int) (a0 := (37, .inl (fun _ => 0))) hx hb (hg _ wt1_77) rfl hK hP hD hS hA 0 rfl (fun _ => rfl) (by decide) (by decide +kernel) (by decide) (by decide) (by decide) dX10_init_28 (fun q2 H hP hD hS => ?_)
  have hP : va_P D vwCl [(q, .inr (10, [.int 0, .ref q0, .ref q1, .null, .null, .int 0])), (q0, .inl (K 0, 12, .inl (fun _ => 0))), (q1, .inl (K 0, 12, .inl (fun _ => 0))), (q2, .inl (K 0, 37, .inl (fun _ => 0)))] H := hP
  have hD : va_D A [(q, .inr (10, [.int 0, .ref q0, .ref q1, .null, .null, .int 0])), (q0, .inl (K 0, 12, .inl (fun _ => 0))), (q1, .inl (K 0, 12, .inl (fun _ => 0))), (q2, .inl (K 0, 37, .inl (fun _ => 0)))] := hD
  refine va_putF (D := D) (ci := 10) (v := .ref q2) (ty := (.array .int)) (C := RX10) (T := TX10) (N := 6) hx hb hg inC10 tyX10 tyX10_ok nmX10 hown hK hP hD hS 0 rfl rfl 3 (by decide) (hg _ wt2_48) (fun _ h9 => h9) rfl hin rfl (by decide +kernel) rfl rfl (Nat.le_of_ble_eq_true rfl) dX10_init_30 (fun H locs hP hD hS => ?_)
  have hP : va_P D vwCl [(q, .inr (10, [.int 0, .ref q0, .ref q1, .ref q2, .null, .int 0])), (q0, .inl (K 0, 12, .inl (fun _ => 0))), (q1, .inl (K 0, 12, .inl (fun _ => 0))), (q2, .inl (K 0, 37, .inl (fun _ => 0)))] H := hP
  have hD : va_D A [(q, .inr (10, [.int 0, .ref q0, .ref q1, .ref q2, .null, .int 0])), (q0, .inl (K 0, 12, .inl (fun _ => 0))), (q1, .inl (K 0, 12, .inl (fun _ => 0))), (q2, .inl (K 0, 37, .inl (fun _ => 0)))] := hD
  refine lv_aload_n hx hb dX10_init_33 rfl (lv_at hl 0 rfl) ?_
  refine lv_iconst (v := 0) hx hb dX10_init_34 (by decide) ?_
  refine va_put (D := D) (ci := 10) (v := .int 0) (ty := .int) (C := RX10) (T := TX10) (N := 6) hx hb hg inC10 tyX10 tyX10_ok nmX10 hown hK hP hD hS 0 rfl rfl 5 (by decide) (hg _ wt2_50) (fun _ h9 => h9) rfl (by decide +kernel) rfl rfl (Nat.le_of_ble_eq_true rfl) dX10_init_35 (fun H locs hP hD hS => ?_)
  have hP : va_P D vwCl [(q, .inr (10, [.int 0, .ref q0, .ref q1, .ref q2, .null, .int 0])), (q0, .inl (K 0, 12, .inl (fun _ => 0))), (q1, .inl (K 0, 12, .inl (fun _ => 0))), (q2, .inl (K 0, 37, .inl (fun _ => 0)))] H := hP
  have hD : va_D A [(q, .inr (10, [.int 0, .ref q0, .ref q1, .ref q2, .null, .int 0])), (q0, .inl (K 0, 12, .inl (fun _ => 0))), (q1, .inl (K 0, 12, .inl (fun _ => 0))), (q2, .inl (K 0, 37, .inl (fun _ => 0)))] := hD
  refine lv_aload_n hx hb dX10_init_38 rfl (lv_at hl 0 rfl) ?_
  refine lv_iconst (v := 0) hx hb dX10_init_39 (by decide) ?_
  refine lv_iload_n hx hb dX10_init_40 rfl (lv_at hl 1 rfl) ?_
  refine va_mmax hx hb (hml.trans hl.1.symm) hown (hg _ wt2_37) (hg _ wt2_38) (hg _ wt1_9) (hg _ wt2_39) (by decide) (Nat.le_of_ble_eq_true rfl) (by decide) (by decide) dX10_init_41 ?_
  refine k_top (z := 400) (by decide +kernel) ?_
  refine k_newa (atype := .int) (a0 := (400, .inl (fun _ => 0))) hx hb (hg _ wt1_77) rfl hK hP hD hS hA 0 rfl (fun _ => rfl) (by decide) (by decide +kernel) (by decide) (by decide) (by decide) dX10_init_44 (fun q3 H hP hD hS => ?_)
  have hP : va_P D vwCl [(q, .inr (10, [.int 0, .ref q0, .ref q1, .ref q2, .null, .int 0])), (q0, .inl (K 0, 12, .inl (fun _ => 0))), (q1, .inl (K 0, 12, .inl (fun _ => 0))), (q2, .inl (K 0, 37, .inl (fun _ => 0))), (q3, .inl (K 0, 400, .inl (fun _ => 0)))] H := hP
  have hD : va_D A [(q, .inr (10, [.int 0, .ref q0, .ref q1, .ref q2, .null, .int 0])), (q0, .inl (K 0, 12, .inl (fun _ => 0))), (q1, .inl (K 0, 12, .inl (fun _ => 0))), (q2, .inl (K 0, 37, .inl (fun _ => 0))), (q3, .inl (K 0, 400, .inl (fun _ => 0)))] := hD
  refine va_putF (D := D) (ci := 10) (v := .ref q3) (ty := (.array .int)) (C := RX10) (T := TX10) (N := 6) hx hb hg inC10 tyX10 tyX10_ok nmX10 hown hK hP hD hS 0 rfl rfl 4 (by decide) (hg _ wt2_49) (fun _ h9 => h9) rfl hin rfl (by decide +kernel) rfl rfl (Nat.le_of_ble_eq_true rfl) dX10_init_46 (fun H locs hP hD hS => ?_)
  have hP : va_P D vwCl [(q, .inr (10, [.int 0, .ref q0, .ref q1, .ref q2, .ref q3, .int 0])), (q0, .inl (K 0, 12, .inl (fun _ => 0))), (q1, .inl (K 0, 12, .inl (fun _ => 0))), (q2, .inl (K 0, 37, .inl (fun _ => 0))), (q3, .inl (K 0, 400, .inl (fun _ => 0)))] H := hP
  have hD : va_D A [(q, .inr (10, [.int 0, .ref q0, .ref q1, .ref q2, .ref q3, .int 0])), (q0, .inl (K 0, 12, .inl (fun _ => 0))), (q1, .inl (K 0, 12, .inl (fun _ => 0))), (q2, .inl (K 0, 37, .inl (fun _ => 0))), (q3, .inl (K 0, 400, .inl (fun _ => 0)))] := hD
  exact kV_ret hx hb hr hlocks hK hS dX10_init_49 (fun k => [q, q0, q1, q2, q3].getD k 0) hP hD trivial
set_option maxHeartbeats 4000000 in
set_option maxRecDepth 100000 in
theorem k_X4_init (l : Launch) {D : va_G} {K : Nat → ClassId} (q : Nat)  : kV l yX4_init (Cond.code yX4_init cX4_init 1 none :: kG) (rmD 3 7 1269) D (tysK K) [.ref q] [(q, .inr (4, [.null, .null, .null, .int 0, .int 0, .int 0, .int 0]))] (fun (_ : Nat → Nat) => True) (fun u => [(q, .inr (4, [.ref (u 1), .ref (u 6), .ref (u 7), .int 0, .int 0, .int 0, .int 0])), (u 1, .inr (10, [.int 0, .ref (u 2), .ref (u 3), .ref (u 4), .ref (u 5), .int 0])), (u 2, .inl (K 0, 12, .inl (fun _ => 0))), (u 3, .inl (K 0, 12, .inl (fun _ => 0))), (u 4, .inl (K 0, 37, .inl (fun _ => 0))), (u 5, .inl (K 0, 400, .inl (fun _ => 0))), (u 6, .inl (K 0, 401, .inl (fun _ => 0))), (u 7, .inl (K 0, 401, .inl (fun _ => 0)))]) 7 1269 := by
  refine kV.of (cc := cX4_init) (maxL := 1) (ret := none) (by decide) rfl (Nat.le_of_ble_eq_true rfl) ?_
  intro p e s m below meth c A hx hb hr hml hown hts hlocks hin hK hP hD hS hA ls hl
  have hg : ∀ w ∈ kG, w.before _ s = true := fun w h => hts w (List.mem_cons_of_mem _ h)
  have hown : s.vm.findClass RX4 = some m.cls := hown
  have hl : lv_has ls 1 [(0, .ref q)] := hl
  refine lv_aload_n hx hb dX4_init_0 rfl (lv_at hl 0 rfl) ?_
  refine W.objInit hx hb hown (hg _ wt2_30) (hg _ wt1_28) (hg _ wt1_29) rfl (by rw [hml]; exact hl.1) rfl dX4_init_1 (Nat.le_of_ble_eq_true rfl) (Nat.le_of_ble_eq_true rfl) ?_
  refine W.eq (g2 := F0 m 4 ls []) rfl ?_
  refine lv_aload_n hx hb dX4_init_4 rfl (lv_at hl 0 rfl) ?_
  refine va_new (ci := 10) (fs := [.int 0, .null, .null, .null, .null, .int 0]) (C := RX10) (T := TX10) (N := 6) hx hb hg inC10 tyX10 tyX10_ok hown (hg _ wt2_31) (hg _ wt2_32) (hg _ wt1_8) hK hP hD hS hA rfl (fun j hj => by rcases (show j = 0 ∨ j = 1 ∨ j = 2 ∨ j = 3 ∨ j = 4 ∨ j = 5 by omega) with rfl | rfl | rfl | rfl | rfl | rfl <;> rfl) (by decide) (by decide) dX4_init_5 (fun q0 H hP hD hS => ?_)
  refine lv_dup hx hb dX4_init_8 rfl ?_
  refine lv_sipush (v := 400) hx hb dX4_init_9 (by decide) ?_
  refine kV.callI (ws := [(q, .inr (4, [.null, .null, .null, .int 0, .int 0, .int 0, .int 0]))]) (As := [.int 400]) (rest := [.ref q0, .ref q]) ⟨hx, hb, hml, hown, hg⟩ (k_X10_init l q0 ) (cwI 1 hg (kgC wt2_35) rfl rfl rfl (hg _ wt1_8) (hg _ wt2_33) (hg _ wt2_34) rfl (by decide +kernel) ⟨by decide, by decide⟩) hK hP hD hS hA rfl hl.1 rfl (Nat.le_of_ble_eq_true rfl) dX4_init_12 ⟨by decide, by decide⟩ (fun u1 H locs _ hP hD hS => ?_)
  have hP : va_P D vwCl [(q, .inr (4, [.null, .null, .null, .int 0, .int 0, .int 0, .int 0])), (q0, .inr (10, [.int 0, .ref (u1 1), .ref (u1 2), .ref (u1 3), .ref (u1 4), .int 0])), (u1 1, .inl (K 0, 12, .inl (fun _ => 0))), (u1 2, .inl (K 0, 12, .inl (fun _ => 0))), (u1 3, .inl (K 0, 37, .inl (fun _ => 0))), (u1 4, .inl (K 0, 400, .inl (fun _ => 0)))] H := hP
  have hD : va_D A [(q, .inr (4, [.null, .null, .null, .int 0, .int 0, .int 0, .int 0])), (q0, .inr (10, [.int 0, .ref (u1 1), .ref (u1 2), .ref (u1 3), .ref (u1 4), .int 0])), (u1 1, .inl (K 0, 12, .inl (fun _ => 0))), (u1 2, .inl (K 0, 12, .inl (fun _ => 0))), (u1 3, .inl (K 0, 37, .inl (fun _ => 0))), (u1 4, .inl (K 0, 400, .inl (fun _ => 0)))] := hD
  refine va_putF (D := D) (ci := 4) (v := .ref q0) (ty := (.object "SunriseRoof$Text")) (C := RX4) (T := TX4) (N := 7) hx hb hg inC4 tyX4 tyX4_ok nmX4 hown hK hP hD hS 0 rfl rfl 0 (by decide) (hg _ wt2_64) (fun _ h9 => h9) rfl hin rfl (by decide +kernel) rfl rfl (Nat.le_of_ble_eq_true rfl) dX4_init_15 (fun H locs hP hD hS => ?_)
  have hP : va_P D vwCl [(q, .inr (4, [.ref q0, .null, .null, .int 0, .int 0, .int 0, .int 0])), (q0, .inr (10, [.int 0, .ref (u1 1), .ref (u1 2), .ref (u1 3), .ref (u1 4), .int 0])), (u1 1, .inl (K 0, 12, .inl (fun _ => 0))), (u1 2, .inl (K 0, 12, .inl (fun _ => 0))), (u1 3, .inl (K 0, 37, .inl (fun _ => 0))), (u1 4, .inl (K 0, 400, .inl (fun _ => 0)))] H := hP
  have hD : va_D A [(q, .inr (4, [.ref q0, .null, .null, .int 0, .int 0, .int 0, .int 0])), (q0, .inr (10, [.int 0, .ref (u1 1), .ref (u1 2), .ref (u1 3), .ref (u1 4), .int 0])), (u1 1, .inl (K 0, 12, .inl (fun _ => 0))), (u1 2, .inl (K 0, 12, .inl (fun _ => 0))), (u1 3, .inl (K 0, 37, .inl (fun _ => 0))), (u1 4, .inl (K 0, 400, .inl (fun _ => 0)))] := hD
  refine lv_aload_n hx hb dX4_init_18 rfl (lv_at hl 0 rfl) ?_
  refine lv_sipush (v := 401) hx hb dX4_init_19 (by decide) ?_
  refine k_newa (atype := .int) (a0 := (401, .inl (fun _ => 0))) hx hb (hg _ wt1_77) rfl hK hP hD hS hA 0 rfl (fun _ => rfl) (by decide) (by decide +kernel) (by decide) (by decide) (by decide) dX4_init_22 (fun q2 H hP hD hS => ?_)
  have hP : va_P D vwCl [(q, .inr (4, [.ref q0, .null, .null, .int 0, .int 0, .int 0, .int 0])), (q0, .inr (10, [.int 0, .ref (u1 1), .ref (u1 2), .ref (u1 3), .ref (u1 4), .int 0])), (u1 1, .inl (K 0, 12, .inl (fun _ => 0))), (u1 2, .inl (K 0, 12, .inl (fun _ => 0))), (u1 3, .inl (K 0, 37, .inl (fun _ => 0))), (u1 4, .inl (K 0, 400, .inl (fun _ => 0))), (q2, .inl (K 0, 401, .inl (fun _ => 0)))] H := hP
  have hD : va_D A [(q, .inr (4, [.ref q0, .null, .null, .int 0, .int 0, .int 0, .int 0])), (q0, .inr (10, [.int 0, .ref (u1 1), .ref (u1 2), .ref (u1 3), .ref (u1 4), .int 0])), (u1 1, .inl (K 0, 12, .inl (fun _ => 0))), (u1 2, .inl (K 0, 12, .inl (fun _ => 0))), (u1 3, .inl (K 0, 37, .inl (fun _ => 0))), (u1 4, .inl (K 0, 400, .inl (fun _ => 0))), (q2, .inl (K 0, 401, .inl (fun _ => 0)))] := hD
  refine va_putF (D := D) (ci := 4) (v := .ref q2) (ty := (.array .int)) (C := RX4) (T := TX4) (N := 7) hx hb hg inC4 tyX4 tyX4_ok nmX4 hown hK hP hD hS 0 rfl rfl 1 (by decide) (hg _ wt2_66) (fun _ h9 => h9) rfl hin rfl (by decide +kernel) rfl rfl (Nat.le_of_ble_eq_true rfl) dX4_init_24 (fun H locs hP hD hS => ?_)
  have hP : va_P D vwCl [(q, .inr (4, [.ref q0, .ref q2, .null, .int 0, .int 0, .int 0, .int 0])), (q0, .inr (10, [.int 0, .ref (u1 1), .ref (u1 2), .ref (u1 3), .ref (u1 4), .int 0])), (u1 1, .inl (K 0, 12, .inl (fun _ => 0))), (u1 2, .inl (K 0, 12, .inl (fun _ => 0))), (u1 3, .inl (K 0, 37, .inl (fun _ => 0))), (u1 4, .inl (K 0, 400, .inl (fun _ => 0))), (q2, .inl (K 0, 401, .inl (fun _ => 0)))] H := hP
  have hD : va_D A [(q, .inr (4, [.ref q0, .ref q2, .null, .int 0, .int 0, .int 0, .int 0])), (q0, .inr (10, [.int 0, .ref (u1 1), .ref (u1 2), .ref (u1 3), .ref (u1 4), .int 0])), (u1 1, .inl (K 0, 12, .inl (fun _ => 0))), (u1 2, .inl (K 0, 12, .inl (fun _ => 0))), (u1 3, .inl (K 0, 37, .inl (fun _ => 0))), (u1 4, .inl (K 0, 400, .inl (fun _ => 0))), (q2, .inl (K 0, 401, .inl (fun _ => 0)))] := hD
  refine lv_aload_n hx hb dX4_init_27 rfl (lv_at hl 0 rfl) ?_
  refine lv_sipush (v := 401) hx hb dX4_init_28 (by decide) ?_
  refine k_newa (atype := .int) (a0 := (401, .inl (fun _ => 0))) hx hb (hg _ wt1_77) rfl hK hP hD hS hA 0 rfl (fun _ => rfl) (by decide) (by decide +kernel) (by decide) (by decide) (by decide) dX4_init_31 (fun q3 H hP hD hS => ?_)
  have hP : va_P D vwCl [(q, .inr (4, [.ref q0, .ref q2, .null, .int 0, .int 0, .int 0, .int 0])), (q0, .inr (10, [.int 0, .ref (u1 1), .ref (u1 2), .ref (u1 3), .ref (u1 4), .int 0])), (u1 1, .inl (K 0, 12, .inl (fun _ => 0))), (u1 2, .inl (K 0, 12, .inl (fun _ => 0))), (u1 3, .inl (K 0, 37, .inl (fun _ => 0))), (u1 4, .inl (K 0, 400, .inl (fun _ => 0))), (q2, .inl (K 0, 401, .inl (fun _ => 0))), (q3, .inl (K 0, 401, .inl (fun _ => 0)))] H := hP
  have hD : va_D A [(q, .inr (4, [.ref q0, .ref q2, .null, .int 0, .int 0, .int 0, .int 0])), (q0, .inr (10, [.int 0, .ref (u1 1), .ref (u1 2), .ref (u1 3), .ref (u1 4), .int 0])), (u1 1, .inl (K 0, 12, .inl (fun _ => 0))), (u1 2, .inl (K 0, 12, .inl (fun _ => 0))), (u1 3, .inl (K 0, 37, .inl (fun _ => 0))), (u1 4, .inl (K 0, 400, .inl (fun _ => 0))), (q2, .inl (K 0, 401, .inl (fun _ => 0))), (q3, .inl (K 0, 401, .inl (fun _ => 0)))] := hD
  refine va_putF (D := D) (ci := 4) (v := .ref q3) (ty := (.array .int)) (C := RX4) (T := TX4) (N := 7) hx hb hg inC4 tyX4 tyX4_ok nmX4 hown hK hP hD hS 0 rfl rfl 2 (by decide) (hg _ wt2_67) (fun _ h9 => h9) rfl hin rfl (by decide +kernel) rfl rfl (Nat.le_of_ble_eq_true rfl) dX4_init_33 (fun H locs hP hD hS => ?_)
  have hP : va_P D vwCl [(q, .inr (4, [.ref q0, .ref q2, .ref q3, .int 0, .int 0, .int 0, .int 0])), (q0, .inr (10, [.int 0, .ref (u1 1), .ref (u1 2), .ref (u1 3), .ref (u1 4), .int 0])), (u1 1, .inl (K 0, 12, .inl (fun _ => 0))), (u1 2, .inl (K 0, 12, .inl (fun _ => 0))), (u1 3, .inl (K 0, 37, .inl (fun _ => 0))), (u1 4, .inl (K 0, 400, .inl (fun _ => 0))), (q2, .inl (K 0, 401, .inl (fun _ => 0))), (q3, .inl (K 0, 401, .inl (fun _ => 0)))] H := hP
  have hD : va_D A [(q, .inr (4, [.ref q0, .ref q2, .ref q3, .int 0, .int 0, .int 0, .int 0])), (q0, .inr (10, [.int 0, .ref (u1 1), .ref (u1 2), .ref (u1 3), .ref (u1 4), .int 0])), (u1 1, .inl (K 0, 12, .inl (fun _ => 0))), (u1 2, .inl (K 0, 12, .inl (fun _ => 0))), (u1 3, .inl (K 0, 37, .inl (fun _ => 0))), (u1 4, .inl (K 0, 400, .inl (fun _ => 0))), (q2, .inl (K 0, 401, .inl (fun _ => 0))), (q3, .inl (K 0, 401, .inl (fun _ => 0)))] := hD
  refine lv_aload_n hx hb dX4_init_36 rfl (lv_at hl 0 rfl) ?_
  refine lv_iconst (v := 0) hx hb dX4_init_37 (by decide) ?_
  refine va_put (D := D) (ci := 4) (v := .int 0) (ty := .int) (C := RX4) (T := TX4) (N := 7) hx hb hg inC4 tyX4 tyX4_ok nmX4 hown hK hP hD hS 0 rfl rfl 3 (by decide) (hg _ wt2_68) (fun _ h9 => h9) rfl (by decide +kernel) rfl rfl (Nat.le_of_ble_eq_true rfl) dX4_init_38 (fun H locs hP hD hS => ?_)
  have hP : va_P D vwCl [(q, .inr (4, [.ref q0, .ref q2, .ref q3, .int 0, .int 0, .int 0, .int 0])), (q0, .inr (10, [.int 0, .ref (u1 1), .ref (u1 2), .ref (u1 3), .ref (u1 4), .int 0])), (u1 1, .inl (K 0, 12, .inl (fun _ => 0))), (u1 2, .inl (K 0, 12, .inl (fun _ => 0))), (u1 3, .inl (K 0, 37, .inl (fun _ => 0))), (u1 4, .inl (K 0, 400, .inl (fun _ => 0))), (q2, .inl (K 0, 401, .inl (fun _ => 0))), (q3, .inl (K 0, 401, .inl (fun _ => 0)))] H := hP
  have hD : va_D A [(q, .inr (4, [.ref q0, .ref q2, .ref q3, .int 0, .int 0, .int 0, .int 0])), (q0, .inr (10, [.int 0, .ref (u1 1), .ref (u1 2), .ref (u1 3), .ref (u1 4), .int 0])), (u1 1, .inl (K 0, 12, .inl (fun _ => 0))), (u1 2, .inl (K 0, 12, .inl (fun _ => 0))), (u1 3, .inl (K 0, 37, .inl (fun _ => 0))), (u1 4, .inl (K 0, 400, .inl (fun _ => 0))), (q2, .inl (K 0, 401, .inl (fun _ => 0))), (q3, .inl (K 0, 401, .inl (fun _ => 0)))] := hD
  refine lv_aload_n hx hb dX4_init_41 rfl (lv_at hl 0 rfl) ?_
  refine lv_iconst (v := 0) hx hb dX4_init_42 (by decide) ?_
  refine va_put (D := D) (ci := 4) (v := .int 0) (ty := .int) (C := RX4) (T := TX4) (N := 7) hx hb hg inC4 tyX4 tyX4_ok nmX4 hown hK hP hD hS 0 rfl rfl 4 (by decide) (hg _ wt2_69) (fun _ h9 => h9) rfl (by decide +kernel) rfl rfl (Nat.le_of_ble_eq_true rfl) dX4_init_43 (fun H locs hP hD hS => ?_)
  have hP : va_P D vwCl [(q, .inr (4, [.ref q0, .ref q2, .ref q3, .int 0, .int 0, .int 0, .int 0])), (q0, .inr (10, [.int 0, .ref (u1 1), .ref (u1 2), .ref (u1 3), .ref (u1 4), .int 0])), (u1 1, .inl (K 0, 12, .inl (fun _ => 0))), (u1 2, .inl (K 0, 12, .inl (fun _ => 0))), (u1 3, .inl (K 0, 37, .inl (fun _ => 0))), (u1 4, .inl (K 0, 400, .inl (fun _ => 0))), (q2, .inl (K 0, 401, .inl (fun _ => 0))), (q3, .inl (K 0, 401, .inl (fun _ => 0)))] H := hP
  have hD : va_D A [(q, .inr (4, [.ref q0, .ref q2, .ref q3, .int 0, .int 0, .int 0, .int 0])), (q0, .inr (10, [.int 0, .ref (u1 1), .ref (u1 2), .ref (u1 3), .ref (u1 4), .int 0])), (u1 1, .inl (K 0, 12, .inl (fun _ => 0))), (u1 2, .inl (K 0, 12, .inl (fun _ => 0))), (u1 3, .inl (K 0, 37, .inl (fun _ => 0))), (u1 4, .inl (K 0, 400, .inl (fun _ => 0))), (q2, .inl (K 0, 401, .inl (fun _ => 0))), (q3, .inl (K 0, 401, .inl (fun _ => 0)))] := hD
  refine lv_aload_n hx hb dX4_init_46 rfl (lv_at hl 0 rfl) ?_
  refine lv_iconst (v := 0) hx hb dX4_init_47 (by decide) ?_
  refine va_put (D := D) (ci := 4) (v := .int 0) (ty := .int) (C := RX4) (T := TX4) (N := 7) hx hb hg inC4 tyX4 tyX4_ok nmX4 hown hK hP hD hS 0 rfl rfl 5 (by decide) (hg _ wt2_70) (fun _ h9 => h9) rfl (by decide +kernel) rfl rfl (Nat.le_of_ble_eq_true rfl) dX4_init_48 (fun H locs hP hD hS => ?_)
  have hP : va_P D vwCl [(q, .inr (4, [.ref q0, .ref q2, .ref q3, .int 0, .int 0, .int 0, .int 0])), (q0, .inr (10, [.int 0, .ref (u1 1), .ref (u1 2), .ref (u1 3), .ref (u1 4), .int 0])), (u1 1, .inl (K 0, 12, .inl (fun _ => 0))), (u1 2, .inl (K 0, 12, .inl (fun _ => 0))), (u1 3, .inl (K 0, 37, .inl (fun _ => 0))), (u1 4, .inl (K 0, 400, .inl (fun _ => 0))), (q2, .inl (K 0, 401, .inl (fun _ => 0))), (q3, .inl (K 0, 401, .inl (fun _ => 0)))] H := hP
  have hD : va_D A [(q, .inr (4, [.ref q0, .ref q2, .ref q3, .int 0, .int 0, .int 0, .int 0])), (q0, .inr (10, [.int 0, .ref (u1 1), .ref (u1 2), .ref (u1 3), .ref (u1 4), .int 0])), (u1 1, .inl (K 0, 12, .inl (fun _ => 0))), (u1 2, .inl (K 0, 12, .inl (fun _ => 0))), (u1 3, .inl (K 0, 37, .inl (fun _ => 0))), (u1 4, .inl (K 0, 400, .inl (fun _ => 0))), (q2, .inl (K 0, 401, .inl (fun _ => 0))), (q3, .inl (K 0, 401, .inl (fun _ => 0)))] := hD
  refine lv_aload_n hx hb dX4_init_51 rfl (lv_at hl 0 rfl) ?_
  refine lv_iconst (v := 0) hx hb dX4_init_52 (by decide) ?_
  refine va_put (D := D) (ci := 4) (v := .int 0) (ty := .boolean) (C := RX4) (T := TX4) (N := 7) hx hb hg inC4 tyX4 tyX4_ok nmX4 hown hK hP hD hS 0 rfl rfl 6 (by decide) (hg _ wt2_71) (fun _ h9 => h9) rfl (by decide +kernel) rfl rfl (Nat.le_of_ble_eq_true rfl) dX4_init_53 (fun H locs hP hD hS => ?_)
  have hP : va_P D vwCl [(q, .inr (4, [.ref q0, .ref q2, .ref q3, .int 0, .int 0, .int 0, .int 0])), (q0, .inr (10, [.int 0, .ref (u1 1), .ref (u1 2), .ref (u1 3), .ref (u1 4), .int 0])), (u1 1, .inl (K 0, 12, .inl (fun _ => 0))), (u1 2, .inl (K 0, 12, .inl (fun _ => 0))), (u1 3, .inl (K 0, 37, .inl (fun _ => 0))), (u1 4, .inl (K 0, 400, .inl (fun _ => 0))), (q2, .inl (K 0, 401, .inl (fun _ => 0))), (q3, .inl (K 0, 401, .inl (fun _ => 0)))] H := hP
  have hD : va_D A [(q, .inr (4, [.ref q0, .ref q2, .ref q3, .int 0, .int 0, .int 0, .int 0])), (q0, .inr (10, [.int 0, .ref (u1 1), .ref (u1 2), .ref (u1 3), .ref (u1 4), .int 0])), (u1 1, .inl (K 0, 12, .inl (fun _ => 0))), (u1 2, .inl (K 0, 12, .inl (fun _ => 0))), (u1 3, .inl (K 0, 37, .inl (fun _ => 0))), (u1 4, .inl (K 0, 400, .inl (fun _ => 0))), (q2, .inl (K 0, 401, .inl (fun _ => 0))), (q3, .inl (K 0, 401, .inl (fun _ => 0)))] := hD
  exact kV_ret hx hb hr hlocks hK hS dX4_init_56 (fun k => [q, q0, u1 1, u1 2, u1 3, u1 4, q2, q3].getD k 0) hP hD trivial
