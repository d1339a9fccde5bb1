set_option maxHeartbeats 4000000 in
set_option maxRecDepth 100000 in
theorem x_writeNumber0 (l : Launch) {D : va_G} {K : Nat → ClassId} (r : Nat → Nat) (f : Nat → Int32) (a : Nat → Nat → Int32) (g : xG) (h0 : f 12 = 0) (x : Int32)  : kV l yX11_writeNumber (Cond.code yX11_writeNumber cX11_writeNumber 4 none :: kG) (rmD 1 0 0) D (tysK K) [.ref (r 0), .int 0, .int x] (xW K r f a g) (fun (u : xS) => u.1 12 = 0) (fun u => xW K r u.1 u.2.1 u.2.2) 0 0 := by
  refine kV.of (cc := cX11_writeNumber) (maxL := 4) (ret := none) (by decide) rfl (Nat.le_of_ble_eq_true rfl) ?_
  intro p e s m below meth c A hx hb hr hml hown hts hlocks hnm hK hP hD hS hA ls hl
  have hg : ∀ w ∈ kG, w.before _ s = true := fun w h => hts w (List.mem_cons_of_mem _ h)
  have hown : s.vm.findClass RX11 = some m.cls := hown
  have hl : lv_has ls 4 [(0, .ref (r 0)), (1, .int 0), (2, .int x)] := hl
  refine lv_iconst (v := 0) hx hb dX11_writeNumber_0 (by decide) ?_
  refine lv_istore_n (lv' := [(3, .int 0), (0, .ref (r 0)), (1, .int 0), (2, .int x)]) hx hb dX11_writeNumber_1 rfl hl (by decide) rfl (fun ls hl => ?_)
  refine lv_iload_n hx hb dX11_writeNumber_2 rfl (lv_at hl 0 rfl) ?_
  refine lv_iconst (v := 4) hx hb dX11_writeNumber_3 (by decide) ?_
  refine lv_icmp_ge (tgt := 48) hx hb dX11_writeNumber_4 (by decide) (fun c1 => absurd c1 (by decide +kernel)) (fun c1 => ?_)
  refine lv_iload_n hx hb dX11_writeNumber_7 rfl (lv_at hl 2 rfl) ?_
  refine lv_iload_n hx hb dX11_writeNumber_8 rfl (lv_at hl 0 rfl) ?_
  refine lv_iadd hx hb dX11_writeNumber_9 ?_
  refine k_top (z := 0) (by decide +kernel) ?_
  refine lv_if_lt (tgt := 42) hx hb dX11_writeNumber_10 (by decide) (fun c2 => absurd c2 (by decide +kernel)) (fun c2 => ?_)
  refine lv_iload_n hx hb dX11_writeNumber_13 rfl (lv_at hl 2 rfl) ?_
  refine lv_iload_n hx hb dX11_writeNumber_14 rfl (lv_at hl 0 rfl) ?_
  refine lv_iadd hx hb dX11_writeNumber_15 ?_
  refine k_top (z := 0) (by decide +kernel) ?_
  refine lv_aload_n hx hb dX11_writeNumber_16 rfl (lv_at hl 1 rfl) ?_
  refine va_get (D := D) (ci := 11) (v := .ref (r 93)) (C := RX11) (T := TX11) (N := 17) hx hb hg inC11 hown hK hP 0 rfl rfl 10 (by decide) (hg _ wt2_196) (fun _ h9 => h9) rfl dX11_writeNumber_17 ?_
  refine va_alen (v := 400) hx hb hK hP 93 1 rfl rfl rfl dX11_writeNumber_20 ?_
  refine lv_icmp_ge (tgt := 42) hx hb dX11_writeNumber_21 (by decide) (fun c3 => absurd c3 (by decide +kernel)) (fun c3 => ?_)
  refine lv_aload_n hx hb dX11_writeNumber_24 rfl (lv_at hl 1 rfl) ?_
  refine va_get (D := D) (ci := 11) (v := .ref (r 93)) (C := RX11) (T := TX11) (N := 17) hx hb hg inC11 hown hK hP 0 rfl rfl 10 (by decide) (hg _ wt2_196) (fun _ h9 => h9) rfl dX11_writeNumber_25 ?_
  refine lv_iload_n hx hb dX11_writeNumber_28 rfl (lv_at hl 2 rfl) ?_
  refine lv_iload_n hx hb dX11_writeNumber_29 rfl (lv_at hl 0 rfl) ?_
  refine lv_iadd hx hb dX11_writeNumber_30 ?_
  refine k_top (z := 0) (by decide +kernel) ?_
  refine lv_iload_n hx hb dX11_writeNumber_31 rfl (lv_at hl 3 rfl) ?_
  refine lv_bipush (v := 24) hx hb dX11_writeNumber_32 (by decide) ?_
  refine lv_bipush (v := 8) hx hb dX11_writeNumber_34 (by decide) ?_
  refine lv_iload_n hx hb dX11_writeNumber_36 rfl (lv_at hl 0 rfl) ?_
  refine lv_imul hx hb dX11_writeNumber_37 ?_
  refine k_top (z := 0) (by decide +kernel) ?_
  refine lv_isub hx hb dX11_writeNumber_38 ?_
  refine k_top (z := 24) (by decide +kernel) ?_
  refine lv_ishr hx hb dX11_writeNumber_39 ?_
  refine lv_topi (fun t4 et4 => ?_)
  refine lv_i2b hx hb dX11_writeNumber_40 rfl ?_
  refine lv_topi (fun t6 et6 => ?_)
  refine va_bast hx hb hK hP hD hS 93 1 rfl rfl (k_in (by decide +kernel)) dX11_writeNumber_41 (fun H locs hP hD hS => ?_)
  rw [cl_0] at hP hD
  have hP : va_P D vwCl (xW K r f (va_up a 93 (upd (a 93) 0 (vp_nar .byte t6))) g) H := hP
  have hD : va_D A (xW K r f (va_up a 93 (upd (a 93) 0 (vp_nar .byte t6))) g) := hD
  refine k_gen (P := fun z => va_P D vwCl (xW K r f z g) H ∧ va_D A (xW K r f z g)) (va_up a 93 (upd (a 93) 0 (vp_nar .byte t6))) ⟨hP, hD⟩ (fun a_7 ea_7 hPD => ?_)
  have hP := hPD.1
  have hD := hPD.2
  refine lv_iinc (v := 1) (lv' := [(3, .int 1), (0, .ref (r 0)), (1, .int 0), (2, .int x)]) hx hb dX11_writeNumber_42 hl (k := 0) rfl (by decide +kernel) (by decide) rfl (fun ls hl => ?_)
  refine lv_goto (tgt := 2) hx hb dX11_writeNumber_45 (by decide) ?_
  refine lv_iload_n hx hb dX11_writeNumber_2 rfl (lv_at hl 0 rfl) ?_
  refine lv_iconst (v := 4) hx hb dX11_writeNumber_3 (by decide) ?_
  refine lv_icmp_ge (tgt := 48) hx hb dX11_writeNumber_4 (by decide) (fun c8 => absurd c8 (by decide +kernel)) (fun c8 => ?_)
  refine lv_iload_n hx hb dX11_writeNumber_7 rfl (lv_at hl 2 rfl) ?_
  refine lv_iload_n hx hb dX11_writeNumber_8 rfl (lv_at hl 0 rfl) ?_
  refine lv_iadd hx hb dX11_writeNumber_9 ?_
  refine k_top (z := 1) (by decide +kernel) ?_
  refine lv_if_lt (tgt := 42) hx hb dX11_writeNumber_10 (by decide) (fun c9 => absurd c9 (by decide +kernel)) (fun c9 => ?_)
  refine lv_iload_n hx hb dX11_writeNumber_13 rfl (lv_at hl 2 rfl) ?_
  refine lv_iload_n hx hb dX11_writeNumber_14 rfl (lv_at hl 0 rfl) ?_
  refine lv_iadd hx hb dX11_writeNumber_15 ?_
  refine k_top (z := 1) (by decide +kernel) ?_
  refine lv_aload_n hx hb dX11_writeNumber_16 rfl (lv_at hl 1 rfl) ?_
  refine va_get (D := D) (ci := 11) (v := .ref (r 93)) (C := RX11) (T := TX11) (N := 17) hx hb hg inC11 hown hK hP 0 rfl rfl 10 (by decide) (hg _ wt2_196) (fun _ h9 => h9) rfl dX11_writeNumber_17 ?_
  refine va_alen (v := 400) hx hb hK hP 93 1 rfl rfl rfl dX11_writeNumber_20 ?_
  refine lv_icmp_ge (tgt := 42) hx hb dX11_writeNumber_21 (by decide) (fun c10 => absurd c10 (by decide +kernel)) (fun c10 => ?_)
  refine lv_aload_n hx hb dX11_writeNumber_24 rfl (lv_at hl 1 rfl) ?_
  refine va_get (D := D) (ci := 11) (v := .ref (r 93)) (C := RX11) (T := TX11) (N := 17) hx hb hg inC11 hown hK hP 0 rfl rfl 10 (by decide) (hg _ wt2_196) (fun _ h9 => h9) rfl dX11_writeNumber_25 ?_
  refine lv_iload_n hx hb dX11_writeNumber_28 rfl (lv_at hl 2 rfl) ?_
  refine lv_iload_n hx hb dX11_writeNumber_29 rfl (lv_at hl 0 rfl) ?_
  refine lv_iadd hx hb dX11_writeNumber_30 ?_
  refine k_top (z := 1) (by decide +kernel) ?_
  refine lv_iload_n hx hb dX11_writeNumber_31 rfl (lv_at hl 3 rfl) ?_
  refine lv_bipush (v := 24) hx hb dX11_writeNumber_32 (by decide) ?_
  refine lv_bipush (v := 8) hx hb dX11_writeNumber_34 (by decide) ?_
  refine lv_iload_n hx hb dX11_writeNumber_36 rfl (lv_at hl 0 rfl) ?_
  refine lv_imul hx hb dX11_writeNumber_37 ?_
  refine k_top (z := 8) (by decide +kernel) ?_
  refine lv_isub hx hb dX11_writeNumber_38 ?_
  refine k_top (z := 16) (by decide +kernel) ?_
  refine lv_ishr hx hb dX11_writeNumber_39 ?_
  refine lv_topi (fun t11 et11 => ?_)
  refine lv_i2b hx hb dX11_writeNumber_40 rfl ?_
  refine lv_topi (fun t13 et13 => ?_)
  refine va_bast hx hb hK hP hD hS 93 1 rfl rfl (k_in (by decide +kernel)) dX11_writeNumber_41 (fun H locs hP hD hS => ?_)
  rw [cl_1] at hP hD
  have hP : va_P D vwCl (xW K r f (va_up a_7 93 (upd (a_7 93) 1 (vp_nar .byte t13))) g) H := hP
  have hD : va_D A (xW K r f (va_up a_7 93 (upd (a_7 93) 1 (vp_nar .byte t13))) g) := hD
  refine k_gen (P := fun z => va_P D vwCl (xW K r f z g) H ∧ va_D A (xW K r f z g)) (va_up a_7 93 (upd (a_7 93) 1 (vp_nar .byte t13))) ⟨hP, hD⟩ (fun a_14 ea_14 hPD => ?_)
  have hP := hPD.1
  have hD := hPD.2
  refine lv_iinc (v := 2) (lv' := [(3, .int 2), (0, .ref (r 0)), (1, .int 0), (2, .int x)]) hx hb dX11_writeNumber_42 hl (k := 0) rfl (by decide +kernel) (by decide) rfl (fun ls hl => ?_)
  refine lv_goto (tgt := 2) hx hb dX11_writeNumber_45 (by decide) ?_
  refine lv_iload_n hx hb dX11_writeNumber_2 rfl (lv_at hl 0 rfl) ?_
  refine lv_iconst (v := 4) hx hb dX11_writeNumber_3 (by decide) ?_
  refine lv_icmp_ge (tgt := 48) hx hb dX11_writeNumber_4 (by decide) (fun c15 => absurd c15 (by decide +kernel)) (fun c15 => ?_)
  refine lv_iload_n hx hb dX11_writeNumber_7 rfl (lv_at hl 2 rfl) ?_
  refine lv_iload_n hx hb dX11_writeNumber_8 rfl (lv_at hl 0 rfl) ?_
  refine lv_iadd hx hb dX11_writeNumber_9 ?_
  refine k_top (z := 2) (by decide +kernel) ?_
  refine lv_if_lt (tgt := 42) hx hb dX11_writeNumber_10 (by decide) (fun c16 => absurd c16 (by decide +kernel)) (fun c16 => ?_)
  refine lv_iload_n hx hb dX11_writeNumber_13 rfl (lv_at hl 2 rfl) ?_
  refine lv_iload_n hx hb dX11_writeNumber_14 rfl (lv_at hl 0 rfl) ?_
  refine lv_iadd hx hb dX11_writeNumber_15 ?_
  refine k_top (z := 2) (by decide +kernel) ?_
  refine lv_aload_n hx hb dX11_writeNumber_16 rfl (lv_at hl 1 rfl) ?_
  refine va_get (D := D) (ci := 11) (v := .ref (r 93)) (C := RX11) (T := TX11) (N := 17) hx hb hg inC11 hown hK hP 0 rfl rfl 10 (by decide) (hg _ wt2_196) (fun _ h9 => h9) rfl dX11_writeNumber_17 ?_
  refine va_alen (v := 400) hx hb hK hP 93 1 rfl rfl rfl dX11_writeNumber_20 ?_
  refine lv_icmp_ge (tgt := 42) hx hb dX11_writeNumber_21 (by decide) (fun c17 => absurd c17 (by decide +kernel)) (fun c17 => ?_)
  refine lv_aload_n hx hb dX11_writeNumber_24 rfl (lv_at hl 1 rfl) ?_
  refine va_get (D := D) (ci := 11) (v := .ref (r 93)) (C := RX11) (T := TX11) (N := 17) hx hb hg inC11 hown hK hP 0 rfl rfl 10 (by decide) (hg _ wt2_196) (fun _ h9 => h9) rfl dX11_writeNumber_25 ?_
  refine lv_iload_n hx hb dX11_writeNumber_28 rfl (lv_at hl 2 rfl) ?_
  refine lv_iload_n hx hb dX11_writeNumber_29 rfl (lv_at hl 0 rfl) ?_
  refine lv_iadd hx hb dX11_writeNumber_30 ?_
  refine k_top (z := 2) (by decide +kernel) ?_
  refine lv_iload_n hx hb dX11_writeNumber_31 rfl (lv_at hl 3 rfl) ?_
  refine lv_bipush (v := 24) hx hb dX11_writeNumber_32 (by decide) ?_
  refine lv_bipush (v := 8) hx hb dX11_writeNumber_34 (by decide) ?_
  refine lv_iload_n hx hb dX11_writeNumber_36 rfl (lv_at hl 0 rfl) ?_
  refine lv_imul hx hb dX11_writeNumber_37 ?_
  refine k_top (z := 16) (by decide +kernel) ?_
  refine lv_isub hx hb dX11_writeNumber_38 ?_
  refine k_top (z := 8) (by decide +kernel) ?_
  refine lv_ishr hx hb dX11_writeNumber_39 ?_
  refine lv_topi (fun t18 et18 => ?_)
  refine lv_i2b hx hb dX11_writeNumber_40 rfl ?_
  refine lv_topi (fun t20 et20 => ?_)
  refine va_bast hx hb hK hP hD hS 93 1 rfl rfl (k_in (by decide +kernel)) dX11_writeNumber_41 (fun H locs hP hD hS => ?_)
  rw [cl_2] at hP hD
  have hP : va_P D vwCl (xW K r f (va_up a_14 93 (upd (a_14 93) 2 (vp_nar .byte t20))) g) H := hP
  have hD : va_D A (xW K r f (va_up a_14 93 (upd (a_14 93) 2 (vp_nar .byte t20))) g) := hD
  refine k_gen (P := fun z => va_P D vwCl (xW K r f z g) H ∧ va_D A (xW K r f z g)) (va_up a_14 93 (upd (a_14 93) 2 (vp_nar .byte t20))) ⟨hP, hD⟩ (fun a_21 ea_21 hPD => ?_)
  have hP := hPD.1
  have hD := hPD.2
  refine lv_iinc (v := 3) (lv' := [(3, .int 3), (0, .ref (r 0)), (1, .int 0), (2, .int x)]) hx hb dX11_writeNumber_42 hl (k := 0) rfl (by decide +kernel) (by decide) rfl (fun ls hl => ?_)
  refine lv_goto (tgt := 2) hx hb dX11_writeNumber_45 (by decide) ?_
  refine lv_iload_n hx hb dX11_writeNumber_2 rfl (lv_at hl 0 rfl) ?_
  refine lv_iconst (v := 4) hx hb dX11_writeNumber_3 (by decide) ?_
  refine lv_icmp_ge (tgt := 48) hx hb dX11_writeNumber_4 (by decide) (fun c22 => absurd c22 (by decide +kernel)) (fun c22 => ?_)
  refine lv_iload_n hx hb dX11_writeNumber_7 rfl (lv_at hl 2 rfl) ?_
  refine lv_iload_n hx hb dX11_writeNumber_8 rfl (lv_at hl 0 rfl) ?_
  refine lv_iadd hx hb dX11_writeNumber_9 ?_
  refine k_top (z := 3) (by decide +kernel) ?_
  refine lv_if_lt (tgt := 42) hx hb dX11_writeNumber_10 (by decide) (fun c23 => absurd c23 (by decide +kernel)) (fun c23 => ?_)
  refine lv_iload_n hx hb dX11_writeNumber_13 rfl (lv_at hl 2 rfl) ?_
  refine lv_iload_n hx hb dX11_writeNumber_14 rfl (lv_at hl 0 rfl) ?_
  refine lv_iadd hx hb dX11_writeNumber_15 ?_
  refine k_top (z := 3) (by decide +kernel) ?_
  refine lv_aload_n hx hb dX11_writeNumber_16 rfl (lv_at hl 1 rfl) ?_
  refine va_get (D := D) (ci := 11) (v := .ref (r 93)) (C := RX11) (T := TX11) (N := 17) hx hb hg inC11 hown hK hP 0 rfl rfl 10 (by decide) (hg _ wt2_196) (fun _ h9 => h9) rfl dX11_writeNumber_17 ?_
  refine va_alen (v := 400) hx hb hK hP 93 1 rfl rfl rfl dX11_writeNumber_20 ?_
  refine lv_icmp_ge (tgt := 42) hx hb dX11_writeNumber_21 (by decide) (fun c24 => absurd c24 (by decide +kernel)) (fun c24 => ?_)
  refine lv_aload_n hx hb dX11_writeNumber_24 rfl (lv_at hl 1 rfl) ?_
  refine va_get (D := D) (ci := 11) (v := .ref (r 93)) (C := RX11) (T := TX11) (N := 17) hx hb hg inC11 hown hK hP 0 rfl rfl 10 (by decide) (hg _ wt2_196) (fun _ h9 => h9) rfl dX11_writeNumber_25 ?_
  refine lv_iload_n hx hb dX11_writeNumber_28 rfl (lv_at hl 2 rfl) ?_
  refine lv_iload_n hx hb dX11_writeNumber_29 rfl (lv_at hl 0 rfl) ?_
  refine lv_iadd hx hb dX11_writeNumber_30 ?_
  refine k_top (z := 3) (by decide +kernel) ?_
  refine lv_iload_n hx hb dX11_writeNumber_31 rfl (lv_at hl 3 rfl) ?_
  refine lv_bipush (v := 24) hx hb dX11_writeNumber_32 (by decide) ?_
  refine lv_bipush (v := 8) hx hb dX11_writeNumber_34 (by decide) ?_
  refine lv_iload_n hx hb dX11_writeNumber_36 rfl (lv_at hl 0 rfl) ?_
  refine lv_imul hx hb dX11_writeNumber_37 ?_
  refine k_top (z := 24) (by decide +kernel) ?_
  refine lv_isub hx hb dX11_writeNumber_38 ?_
  refine k_top (z := 0) (by decide +kernel) ?_
  refine lv_ishr hx hb dX11_writeNumber_39 ?_
  refine lv_topi (fun t25 et25 => ?_)
  refine lv_i2b hx hb dX11_writeNumber_40 rfl ?_
  refine lv_topi (fun t27 et27 => ?_)
  refine va_bast hx hb hK hP hD hS 93 1 rfl rfl (k_in (by decide +kernel)) dX11_writeNumber_41 (fun H locs hP hD hS => ?_)
  rw [cl_3] at hP hD
  have hP : va_P D vwCl (xW K r f (va_up a_21 93 (upd (a_21 93) 3 (vp_nar .byte t27))) g) H := hP
  have hD : va_D A (xW K r f (va_up a_21 93 (upd (a_21 93) 3 (vp_nar .byte t27))) g) := hD
  refine k_gen (P := fun z => va_P D vwCl (xW K r f z g) H ∧ va_D A (xW K r f z g)) (va_up a_21 93 (upd (a_21 93) 3 (vp_nar .byte t27))) ⟨hP, hD⟩ (fun a_28 ea_28 hPD => ?_)
  have hP := hPD.1
  have hD := hPD.2
  refine lv_iinc (v := 4) (lv' := [(3, .int 4), (0, .ref (r 0)), (1, .int 0), (2, .int x)]) hx hb dX11_writeNumber_42 hl (k := 0) rfl (by decide +kernel) (by decide) rfl (fun ls hl => ?_)
  refine lv_goto (tgt := 2) hx hb dX11_writeNumber_45 (by decide) ?_
  refine lv_iload_n hx hb dX11_writeNumber_2 rfl (lv_at hl 0 rfl) ?_
  refine lv_iconst (v := 4) hx hb dX11_writeNumber_3 (by decide) ?_
  refine lv_icmp_ge (tgt := 48) hx hb dX11_writeNumber_4 (by decide) (fun c29 => ?_) (fun c29 => absurd (by decide +kernel) c29)
  exact kV_ret hx hb hr hlocks hK hS dX11_writeNumber_48 (f, a_28, g) hP hD h0
set_option maxHeartbeats 4000000 in
set_option maxRecDepth 100000 in
theorem x_writeNumber4 (l : Launch) {D : va_G} {K : Nat → ClassId} (r : Nat → Nat) (f : Nat → Int32) (a : Nat → Nat → Int32) (g : xG) (h0 : f 12 = 0) (x : Int32)  : kV l yX11_writeNumber (Cond.code yX11_writeNumber cX11_writeNumber 4 none :: kG) (rmD 1 0 0) D (tysK K) [.ref (r 0), .int 4, .int x] (xW K r f a g) (fun (u : xS) => u.1 12 = 0) (fun u => xW K r u.1 u.2.1 u.2.2) 0 0 := by
  refine kV.of (cc := cX11_writeNumber) (maxL := 4) (ret := none) (by decide) rfl (Nat.le_of_ble_eq_true rfl) ?_
  intro p e s m below meth c A hx hb hr hml hown hts hlocks hnm hK hP hD hS hA ls hl
  have hg : ∀ w ∈ kG, w.before _ s = true := fun w h => hts w (List.mem_cons_of_mem _ h)
  have hown : s.vm.findClass RX11 = some m.cls := hown
  have hl : lv_has ls 4 [(0, .ref (r 0)), (1, .int 4), (2, .int x)] := hl
  refine lv_iconst (v := 0) hx hb dX11_writeNumber_0 (by decide) ?_
  refine lv_istore_n (lv' := [(3, .int 0), (0, .ref (r 0)), (1, .int 4), (2, .int x)]) hx hb dX11_writeNumber_1 rfl hl (by decide) rfl (fun ls hl => ?_)
  refine lv_iload_n hx hb dX11_writeNumber_2 rfl (lv_at hl 0 rfl) ?_
  refine lv_iconst (v := 4) hx hb dX11_writeNumber_3 (by decide) ?_
  refine lv_icmp_ge (tgt := 48) hx hb dX11_writeNumber_4 (by decide) (fun c1 => absurd c1 (by decide +kernel)) (fun c1 => ?_)
  refine lv_iload_n hx hb dX11_writeNumber_7 rfl (lv_at hl 2 rfl) ?_
  refine lv_iload_n hx hb dX11_writeNumber_8 rfl (lv_at hl 0 rfl) ?_
  refine lv_iadd hx hb dX11_writeNumber_9 ?_
  refine k_top (z := 4) (by decide +kernel) ?_
  refine lv_if_lt (tgt := 42) hx hb dX11_writeNumber_10 (by decide) (fun c2 => absurd c2 (by decide +kernel)) (fun c2 => ?_)
  refine lv_iload_n hx hb dX11_writeNumber_13 rfl (lv_at hl 2 rfl) ?_
  refine lv_iload_n hx hb dX11_writeNumber_14 rfl (lv_at hl 0 rfl) ?_
  refine lv_iadd hx hb dX11_writeNumber_15 ?_
  refine k_top (z := 4) (by decide +kernel) ?_
  refine lv_aload_n hx hb dX11_writeNumber_16 rfl (lv_at hl 1 rfl) ?_
  refine va_get (D := D) (ci := 11) (v := .ref (r 93)) (C := RX11) (T := TX11) (N := 17) hx hb hg inC11 hown hK hP 0 rfl rfl 10 (by decide) (hg _ wt2_196) (fun _ h9 => h9) rfl dX11_writeNumber_17 ?_
  refine va_alen (v := 400) hx hb hK hP 93 1 rfl rfl rfl dX11_writeNumber_20 ?_
  refine lv_icmp_ge (tgt := 42) hx hb dX11_writeNumber_21 (by decide) (fun c3 => absurd c3 (by decide +kernel)) (fun c3 => ?_)
  refine lv_aload_n hx hb dX11_writeNumber_24 rfl (lv_at hl 1 rfl) ?_
  refine va_get (D := D) (ci := 11) (v := .ref (r 93)) (C := RX11) (T := TX11) (N := 17) hx hb hg inC11 hown hK hP 0 rfl rfl 10 (by decide) (hg _ wt2_196) (fun _ h9 => h9) rfl dX11_writeNumber_25 ?_
  refine lv_iload_n hx hb dX11_writeNumber_28 rfl (lv_at hl 2 rfl) ?_
  refine lv_iload_n hx hb dX11_writeNumber_29 rfl (lv_at hl 0 rfl) ?_
  refine lv_iadd hx hb dX11_writeNumber_30 ?_
  refine k_top (z := 4) (by decide +kernel) ?_
  refine lv_iload_n hx hb dX11_writeNumber_31 rfl (lv_at hl 3 rfl) ?_
  refine lv_bipush (v := 24) hx hb dX11_writeNumber_32 (by decide) ?_
  refine lv_bipush (v := 8) hx hb dX11_writeNumber_34 (by decide) ?_
  refine lv_iload_n hx hb dX11_writeNumber_36 rfl (lv_at hl 0 rfl) ?_
  refine lv_imul hx hb dX11_writeNumber_37 ?_
  refine k_top (z := 0) (by decide +kernel) ?_
  refine lv_isub hx hb dX11_writeNumber_38 ?_
  refine k_top (z := 24) (by decide +kernel) ?_
  refine lv_ishr hx hb dX11_writeNumber_39 ?_
  refine lv_topi (fun t4 et4 => ?_)
  refine lv_i2b hx hb dX11_writeNumber_40 rfl ?_
  refine lv_topi (fun t6 et6 => ?_)
  refine va_bast hx hb hK hP hD hS 93 1 rfl rfl (k_in (by decide +kernel)) dX11_writeNumber_41 (fun H locs hP hD hS => ?_)
  rw [cl_4] at hP hD
  have hP : va_P D vwCl (xW K r f (va_up a 93 (upd (a 93) 4 (vp_nar .byte t6))) g) H := hP
  have hD : va_D A (xW K r f (va_up a 93 (upd (a 93) 4 (vp_nar .byte t6))) g) := hD
  refine k_gen (P := fun z => va_P D vwCl (xW K r f z g) H ∧ va_D A (xW K r f z g)) (va_up a 93 (upd (a 93) 4 (vp_nar .byte t6))) ⟨hP, hD⟩ (fun a_7 ea_7 hPD => ?_)
  have hP := hPD.1
  have hD := hPD.2
  refine lv_iinc (v := 1) (lv' := [(3, .int 1), (0, .ref (r 0)), (1, .int 4), (2, .int x)]) hx hb dX11_writeNumber_42 hl (k := 0) rfl (by decide +kernel) (by decide) rfl (fun ls hl => ?_)
  refine lv_goto (tgt := 2) hx hb dX11_writeNumber_45 (by decide) ?_
  refine lv_iload_n hx hb dX11_writeNumber_2 rfl (lv_at hl 0 rfl) ?_
  refine lv_iconst (v := 4) hx hb dX11_writeNumber_3 (by decide) ?_
  refine lv_icmp_ge (tgt := 48) hx hb dX11_writeNumber_4 (by decide) (fun c8 => absurd c8 (by decide +kernel)) (fun c8 => ?_)
  refine lv_iload_n hx hb dX11_writeNumber_7 rfl (lv_at hl 2 rfl) ?_
  refine lv_iload_n hx hb dX11_writeNumber_8 rfl (lv_at hl 0 rfl) ?_
  refine lv_iadd hx hb dX11_writeNumber_9 ?_
  refine k_top (z := 5) (by decide +kernel) ?_
  refine lv_if_lt (tgt := 42) hx hb dX11_writeNumber_10 (by decide) (fun c9 => absurd c9 (by decide +kernel)) (fun c9 => ?_)
  refine lv_iload_n hx hb dX11_writeNumber_13 rfl (lv_at hl 2 rfl) ?_
  refine lv_iload_n hx hb dX11_writeNumber_14 rfl (lv_at hl 0 rfl) ?_
  refine lv_iadd hx hb dX11_writeNumber_15 ?_
  refine k_top (z := 5) (by decide +kernel) ?_
  refine lv_aload_n hx hb dX11_writeNumber_16 rfl (lv_at hl 1 rfl) ?_
  refine va_get (D := D) (ci := 11) (v := .ref (r 93)) (C := RX11) (T := TX11) (N := 17) hx hb hg inC11 hown hK hP 0 rfl rfl 10 (by decide) (hg _ wt2_196) (fun _ h9 => h9) rfl dX11_writeNumber_17 ?_
  refine va_alen (v := 400) hx hb hK hP 93 1 rfl rfl rfl dX11_writeNumber_20 ?_
  refine lv_icmp_ge (tgt := 42) hx hb dX11_writeNumber_21 (by decide) (fun c10 => absurd c10 (by decide +kernel)) (fun c10 => ?_)
  refine lv_aload_n hx hb dX11_writeNumber_24 rfl (lv_at hl 1 rfl) ?_
  refine va_get (D := D) (ci := 11) (v := .ref (r 93)) (C := RX11) (T := TX11) (N := 17) hx hb hg inC11 hown hK hP 0 rfl rfl 10 (by decide) (hg _ wt2_196) (fun _ h9 => h9) rfl dX11_writeNumber_25 ?_
  refine lv_iload_n hx hb dX11_writeNumber_28 rfl (lv_at hl 2 rfl) ?_
  refine lv_iload_n hx hb dX11_writeNumber_29 rfl (lv_at hl 0 rfl) ?_
  refine lv_iadd hx hb dX11_writeNumber_30 ?_
  refine k_top (z := 5) (by decide +kernel) ?_
  refine lv_iload_n hx hb dX11_writeNumber_31 rfl (lv_at hl 3 rfl) ?_
  refine lv_bipush (v := 24) hx hb dX11_writeNumber_32 (by decide) ?_
  refine lv_bipush (v := 8) hx hb dX11_writeNumber_34 (by decide) ?_
  refine lv_iload_n hx hb dX11_writeNumber_36 rfl (lv_at hl 0 rfl) ?_
  refine lv_imul hx hb dX11_writeNumber_37 ?_
  refine k_top (z := 8) (by decide +kernel) ?_
  refine lv_isub hx hb dX11_writeNumber_38 ?_
  refine k_top (z := 16) (by decide +kernel) ?_
  refine lv_ishr hx hb dX11_writeNumber_39 ?_
  refine lv_topi (fun t11 et11 => ?_)
  refine lv_i2b hx hb dX11_writeNumber_40 rfl ?_
  refine lv_topi (fun t13 et13 => ?_)
  refine va_bast hx hb hK hP hD hS 93 1 rfl rfl (k_in (by decide +kernel)) dX11_writeNumber_41 (fun H locs hP hD hS => ?_)
  rw [cl_5] at hP hD
  have hP : va_P D vwCl (xW K r f (va_up a_7 93 (upd (a_7 93) 5 (vp_nar .byte t13))) g) H := hP
  have hD : va_D A (xW K r f (va_up a_7 93 (upd (a_7 93) 5 (vp_nar .byte t13))) g) := hD
  refine k_gen (P := fun z => va_P D vwCl (xW K r f z g) H ∧ va_D A (xW K r f z g)) (va_up a_7 93 (upd (a_7 93) 5 (vp_nar .byte t13))) ⟨hP, hD⟩ (fun a_14 ea_14 hPD => ?_)
  have hP := hPD.1
  have hD := hPD.2
  refine lv_iinc (v := 2) (lv' := [(3, .int 2), (0, .ref (r 0)), (1, .int 4), (2, .int x)]) hx hb dX11_writeNumber_42 hl (k := 0) rfl (by decide +kernel) (by decide) rfl (fun ls hl => ?_)
  refine lv_goto (tgt := 2) hx hb dX11_writeNumber_45 (by decide) ?_
  refine lv_iload_n hx hb dX11_writeNumber_2 rfl (lv_at hl 0 rfl) ?_
  refine lv_iconst (v := 4) hx hb dX11_writeNumber_3 (by decide) ?_
  refine lv_icmp_ge (tgt := 48) hx hb dX11_writeNumber_4 (by decide) (fun c15 => absurd c15 (by decide +kernel)) (fun c15 => ?_)
  refine lv_iload_n hx hb dX11_writeNumber_7 rfl (lv_at hl 2 rfl) ?_
  refine lv_iload_n hx hb dX11_writeNumber_8 rfl (lv_at hl 0 rfl) ?_
  refine lv_iadd hx hb dX11_writeNumber_9 ?_
  refine k_top (z := 6) (by decide +kernel) ?_
  refine lv_if_lt (tgt := 42) hx hb dX11_writeNumber_10 (by decide) (fun c16 => absurd c16 (by decide +kernel)) (fun c16 => ?_)
  refine lv_iload_n hx hb dX11_writeNumber_13 rfl (lv_at hl 2 rfl) ?_
  refine lv_iload_n hx hb dX11_writeNumber_14 rfl (lv_at hl 0 rfl) ?_
  refine lv_iadd hx hb dX11_writeNumber_15 ?_
  refine k_top (z := 6) (by decide +kernel) ?_
  refine lv_aload_n hx hb dX11_writeNumber_16 rfl (lv_at hl 1 rfl) ?_
  refine va_get (D := D) (ci := 11) (v := .ref (r 93)) (C := RX11) (T := TX11) (N := 17) hx hb hg inC11 hown hK hP 0 rfl rfl 10 (by decide) (hg _ wt2_196) (fun _ h9 => h9) rfl dX11_writeNumber_17 ?_
  refine va_alen (v := 400) hx hb hK hP 93 1 rfl rfl rfl dX11_writeNumber_20 ?_
  refine lv_icmp_ge (tgt := 42) hx hb dX11_writeNumber_21 (by decide) (fun c17 => absurd c17 (by decide +kernel)) (fun c17 => ?_)
  refine lv_aload_n hx hb dX11_writeNumber_24 rfl (lv_at hl 1 rfl) ?_
  refine va_get (D := D) (ci := 11) (v := .ref (r 93)) (C := RX11) (T := TX11) (N := 17) hx hb hg inC11 hown hK hP 0 rfl rfl 10 (by decide) (hg _ wt2_196) (fun _ h9 => h9) rfl dX11_writeNumber_25 ?_
  refine lv_iload_n hx hb dX11_writeNumber_28 rfl (lv_at hl 2 rfl) ?_
  refine lv_iload_n hx hb dX11_writeNumber_29 rfl (lv_at hl 0 rfl) ?_
  refine lv_iadd hx hb dX11_writeNumber_30 ?_
  refine k_top (z := 6) (by decide +kernel) ?_
  refine lv_iload_n hx hb dX11_writeNumber_31 rfl (lv_at hl 3 rfl) ?_
  refine lv_bipush (v := 24) hx hb dX11_writeNumber_32 (by decide) ?_
  refine lv_bipush (v := 8) hx hb dX11_writeNumber_34 (by decide) ?_
  refine lv_iload_n hx hb dX11_writeNumber_36 rfl (lv_at hl 0 rfl) ?_
  refine lv_imul hx hb dX11_writeNumber_37 ?_
  refine k_top (z := 16) (by decide +kernel) ?_
  refine lv_isub hx hb dX11_writeNumber_38 ?_
  refine k_top (z := 8) (by decide +kernel) ?_
  refine lv_ishr hx hb dX11_writeNumber_39 ?_
  refine lv_topi (fun t18 et18 => ?_)
  refine lv_i2b hx hb dX11_writeNumber_40 rfl ?_
  refine lv_topi (fun t20 et20 => ?_)
  refine va_bast hx hb hK hP hD hS 93 1 rfl rfl (k_in (by decide +kernel)) dX11_writeNumber_41 (fun H locs hP hD hS => ?_)
  rw [cl_6] at hP hD
  have hP : va_P D vwCl (xW K r f (va_up a_14 93 (upd (a_14 93) 6 (vp_nar .byte t20))) g) H := hP
  have hD : va_D A (xW K r f (va_up a_14 93 (upd (a_14 93) 6 (vp_nar .byte t20))) g) := hD
  refine k_gen (P := fun z => va_P D vwCl (xW K r f z g) H ∧ va_D A (xW K r f z g)) (va_up a_14 93 (upd (a_14 93) 6 (vp_nar .byte t20))) ⟨hP, hD⟩ (fun a_21 ea_21 hPD => ?_)
  have hP := hPD.1
  have hD := hPD.2
  refine lv_iinc (v := 3) (lv' := [(3, .int 3), (0, .ref (r 0)), (1, .int 4), (2, .int x)]) hx hb dX11_writeNumber_42 hl (k := 0) rfl (by decide +kernel) (by decide) rfl (fun ls hl => ?_)
  refine lv_goto (tgt := 2) hx hb dX11_writeNumber_45 (by decide) ?_
  refine lv_iload_n hx hb dX11_writeNumber_2 rfl (lv_at hl 0 rfl) ?_
  refine lv_iconst (v := 4) hx hb dX11_writeNumber_3 (by decide) ?_
  refine lv_icmp_ge (tgt := 48) hx hb dX11_writeNumber_4 (by decide) (fun c22 => absurd c22 (by decide +kernel)) (fun c22 => ?_)
  refine lv_iload_n hx hb dX11_writeNumber_7 rfl (lv_at hl 2 rfl) ?_
  refine lv_iload_n hx hb dX11_writeNumber_8 rfl (lv_at hl 0 rfl) ?_
  refine lv_iadd hx hb dX11_writeNumber_9 ?_
  refine k_top (z := 7) (by decide +kernel) ?_
  refine lv_if_lt (tgt := 42) hx hb dX11_writeNumber_10 (by decide) (fun c23 => absurd c23 (by decide +kernel)) (fun c23 => ?_)
  refine lv_iload_n hx hb dX11_writeNumber_13 rfl (lv_at hl 2 rfl) ?_
  refine lv_iload_n hx hb dX11_writeNumber_14 rfl (lv_at hl 0 rfl) ?_
  refine lv_iadd hx hb dX11_writeNumber_15 ?_
  refine k_top (z := 7) (by decide +kernel) ?_
  refine lv_aload_n hx hb dX11_writeNumber_16 rfl (lv_at hl 1 rfl) ?_
  refine va_get (D := D) (ci := 11) (v := .ref (r 93)) (C := RX11) (T := TX11) (N := 17) hx hb hg inC11 hown hK hP 0 rfl rfl 10 (by decide) (hg _ wt2_196) (fun _ h9 => h9) rfl dX11_writeNumber_17 ?_
  refine va_alen (v := 400) hx hb hK hP 93 1 rfl rfl rfl dX11_writeNumber_20 ?_
  refine lv_icmp_ge (tgt := 42) hx hb dX11_writeNumber_21 (by decide) (fun c24 => absurd c24 (by decide +kernel)) (fun c24 => ?_)
  refine lv_aload_n hx hb dX11_writeNumber_24 rfl (lv_at hl 1 rfl) ?_
  refine va_get (D := D) (ci := 11) (v := .ref (r 93)) (C := RX11) (T := TX11) (N := 17) hx hb hg inC11 hown hK hP 0 rfl rfl 10 (by decide) (hg _ wt2_196) (fun _ h9 => h9) rfl dX11_writeNumber_25 ?_
  refine lv_iload_n hx hb dX11_writeNumber_28 rfl (lv_at hl 2 rfl) ?_
  refine lv_iload_n hx hb dX11_writeNumber_29 rfl (lv_at hl 0 rfl) ?_
  refine lv_iadd hx hb dX11_writeNumber_30 ?_
  refine k_top (z := 7) (by decide +kernel) ?_
  refine lv_iload_n hx hb dX11_writeNumber_31 rfl (lv_at hl 3 rfl) ?_
  refine lv_bipush (v := 24) hx hb dX11_writeNumber_32 (by decide) ?_
  refine lv_bipush (v := 8) hx hb dX11_writeNumber_34 (by decide) ?_
  refine lv_iload_n hx hb dX11_writeNumber_36 rfl (lv_at hl 0 rfl) ?_
  refine lv_imul hx hb dX11_writeNumber_37 ?_
  refine k_top (z := 24) (by decide +kernel) ?_
  refine lv_isub hx hb dX11_writeNumber_38 ?_
  refine k_top (z := 0) (by decide +kernel) ?_
  refine lv_ishr hx hb dX11_writeNumber_39 ?_
  refine lv_topi (fun t25 et25 => ?_)
  refine lv_i2b hx hb dX11_writeNumber_40 rfl ?_
  refine lv_topi (fun t27 et27 => ?_)
  refine va_bast hx hb hK hP hD hS 93 1 rfl rfl (k_in (by decide +kernel)) dX11_writeNumber_41 (fun H locs hP hD hS => ?_)
  rw [cl_7] at hP hD
  have hP : va_P D vwCl (xW K r f (va_up a_21 93 (upd (a_21 93) 7 (vp_nar .byte t27))) g) H := hP
  have hD : va_D A (xW K r f (va_up a_21 93 (upd (a_21 93) 7 (vp_nar .byte t27))) g) := hD
  refine k_gen (P := fun z => va_P D vwCl (xW K r f z g) H ∧ va_D A (xW K r f z g)) (va_up a_21 93 (upd (a_21 93) 7 (vp_nar .byte t27))) ⟨hP, hD⟩ (fun a_28 ea_28 hPD => ?_)
  have hP := hPD.1
  have hD := hPD.2
  refine lv_iinc (v := 4) (lv' := [(3, .int 4), (0, .ref (r 0)), (1, .int 4), (2, .int x)]) hx hb dX11_writeNumber_42 hl (k := 0) rfl (by decide +kernel) (by decide) rfl (fun ls hl => ?_)
  refine lv_goto (tgt := 2) hx hb dX11_writeNumber_45 (by decide) ?_
  refine lv_iload_n hx hb dX11_writeNumber_2 rfl (lv_at hl 0 rfl) ?_
  refine lv_iconst (v := 4) hx hb dX11_writeNumber_3 (by decide) ?_
  refine lv_icmp_ge (tgt := 48) hx hb dX11_writeNumber_4 (by decide) (fun c29 => ?_) (fun c29 => absurd (by decide +kernel) c29)
  exact kV_ret hx hb hr hlocks hK hS dX11_writeNumber_48 (f, a_28, g) hP hD h0
set_option maxHeartbeats 4000000 in
set_option maxRecDepth 100000 in
theorem x_writeNumber8 (l : Launch) {D : va_G} {K : Nat → ClassId} (r : Nat → Nat) (f : Nat → Int32) (a : Nat → Nat → Int32) (g : xG) (h0 : f 12 = 0) (x : Int32)  : kV l yX11_writeNumber (Cond.code yX11_writeNumber cX11_writeNumber 4 none :: kG) (rmD 1 0 0) D (tysK K) [.ref (r 0), .int 8, .int x] (xW K r f a g) (fun (u : xS) => u.1 12 = 0) (fun u => xW K r u.1 u.2.1 u.2.2) 0 0 := by
  refine kV.of (cc := cX11_writeNumber) (maxL := 4) (ret := none) (by decide) rfl (Nat.le_of_ble_eq_true rfl) ?_
  intro p e s m below meth c A hx hb hr hml hown hts hlocks hnm hK hP hD hS hA ls hl
  have hg : ∀ w ∈ kG, w.before _ s = true := fun w h => hts w (List.mem_cons_of_mem _ h)
  have hown : s.vm.findClass RX11 = some m.cls := hown
  have hl : lv_has ls 4 [(0, .ref (r 0)), (1, .int 8), (2, .int x)] := hl
  refine lv_iconst (v := 0) hx hb dX11_writeNumber_0 (by decide) ?_
  refine lv_istore_n (lv' := [(3, .int 0), (0, .ref (r 0)), (1, .int 8), (2, .int x)]) hx hb dX11_writeNumber_1 rfl hl (by decide) rfl (fun ls hl => ?_)
  refine lv_iload_n hx hb dX11_writeNumber_2 rfl (lv_at hl 0 rfl) ?_
  refine lv_iconst (v := 4) hx hb dX11_writeNumber_3 (by decide) ?_
  refine lv_icmp_ge (tgt := 48) hx hb dX11_writeNumber_4 (by decide) (fun c1 => absurd c1 (by decide +kernel)) (fun c1 => ?_)
  refine lv_iload_n hx hb dX11_writeNumber_7 rfl (lv_at hl 2 rfl) ?_
  refine lv_iload_n hx hb dX11_writeNumber_8 rfl (lv_at hl 0 rfl) ?_
  refine lv_iadd hx hb dX11_writeNumber_9 ?_
  refine k_top (z := 8) (by decide +kernel) ?_
  refine lv_if_lt (tgt := 42) hx hb dX11_writeNumber_10 (by decide) (fun c2 => absurd c2 (by decide +kernel)) (fun c2 => ?_)
  refine lv_iload_n hx hb dX11_writeNumber_13 rfl (lv_at hl 2 rfl) ?_
  refine lv_iload_n hx hb dX11_writeNumber_14 rfl (lv_at hl 0 rfl) ?_
  refine lv_iadd hx hb dX11_writeNumber_15 ?_
  refine k_top (z := 8) (by decide +kernel) ?_
  refine lv_aload_n hx hb dX11_writeNumber_16 rfl (lv_at hl 1 rfl) ?_
  refine va_get (D := D) (ci := 11) (v := .ref (r 93)) (C := RX11) (T := TX11) (N := 17) hx hb hg inC11 hown hK hP 0 rfl rfl 10 (by decide) (hg _ wt2_196) (fun _ h9 => h9) rfl dX11_writeNumber_17 ?_
  refine va_alen (v := 400) hx hb hK hP 93 1 rfl rfl rfl dX11_writeNumber_20 ?_
  refine lv_icmp_ge (tgt := 42) hx hb dX11_writeNumber_21 (by decide) (fun c3 => absurd c3 (by decide +kernel)) (fun c3 => ?_)
  refine lv_aload_n hx hb dX11_writeNumber_24 rfl (lv_at hl 1 rfl) ?_
  refine va_get (D := D) (ci := 11) (v := .ref (r 93)) (C := RX11) (T := TX11) (N := 17) hx hb hg inC11 hown hK hP 0 rfl rfl 10 (by decide) (hg _ wt2_196) (fun _ h9 => h9) rfl dX11_writeNumber_25 ?_
  refine lv_iload_n hx hb dX11_writeNumber_28 rfl (lv_at hl 2 rfl) ?_
  refine lv_iload_n hx hb dX11_writeNumber_29 rfl (lv_at hl 0 rfl) ?_
  refine lv_iadd hx hb dX11_writeNumber_30 ?_
  refine k_top (z := 8) (by decide +kernel) ?_
  refine lv_iload_n hx hb dX11_writeNumber_31 rfl (lv_at hl 3 rfl) ?_
  refine lv_bipush (v := 24) hx hb dX11_writeNumber_32 (by decide) ?_
  refine lv_bipush (v := 8) hx hb dX11_writeNumber_34 (by decide) ?_
  refine lv_iload_n hx hb dX11_writeNumber_36 rfl (lv_at hl 0 rfl) ?_
  refine lv_imul hx hb dX11_writeNumber_37 ?_
  refine k_top (z := 0) (by decide +kernel) ?_
  refine lv_isub hx hb dX11_writeNumber_38 ?_
  refine k_top (z := 24) (by decide +kernel) ?_
  refine lv_ishr hx hb dX11_writeNumber_39 ?_
  refine lv_topi (fun t4 et4 => ?_)
  refine lv_i2b hx hb dX11_writeNumber_40 rfl ?_
  refine lv_topi (fun t6 et6 => ?_)
  refine va_bast hx hb hK hP hD hS 93 1 rfl rfl (k_in (by decide +kernel)) dX11_writeNumber_41 (fun H locs hP hD hS => ?_)
  rw [cl_8] at hP hD
  have hP : va_P D vwCl (xW K r f (va_up a 93 (upd (a 93) 8 (vp_nar .byte t6))) g) H := hP
  have hD : va_D A (xW K r f (va_up a 93 (upd (a 93) 8 (vp_nar .byte t6))) g) := hD
  refine k_gen (P := fun z => va_P D vwCl (xW K r f z g) H ∧ va_D A (xW K r f z g)) (va_up a 93 (upd (a 93) 8 (vp_nar .byte t6))) ⟨hP, hD⟩ (fun a_7 ea_7 hPD => ?_)
  have hP := hPD.1
  have hD := hPD.2
  refine lv_iinc (v := 1) (lv' := [(3, .int 1), (0, .ref (r 0)), (1, .int 8), (2, .int x)]) hx hb dX11_writeNumber_42 hl (k := 0) rfl (by decide +kernel) (by decide) rfl (fun ls hl => ?_)
  refine lv_goto (tgt := 2) hx hb dX11_writeNumber_45 (by decide) ?_
  refine lv_iload_n hx hb dX11_writeNumber_2 rfl (lv_at hl 0 rfl) ?_
  refine lv_iconst (v := 4) hx hb dX11_writeNumber_3 (by decide) ?_
  refine lv_icmp_ge (tgt := 48) hx hb dX11_writeNumber_4 (by decide) (fun c8 => absurd c8 (by decide +kernel)) (fun c8 => ?_)
  refine lv_iload_n hx hb dX11_writeNumber_7 rfl (lv_at hl 2 rfl) ?_
  refine lv_iload_n hx hb dX11_writeNumber_8 rfl (lv_at hl 0 rfl) ?_
  refine lv_iadd hx hb dX11_writeNumber_9 ?_
  refine k_top (z := 9) (by decide +kernel) ?_
  refine lv_if_lt (tgt := 42) hx hb dX11_writeNumber_10 (by decide) (fun c9 => absurd c9 (by decide +kernel)) (fun c9 => ?_)
  refine lv_iload_n hx hb dX11_writeNumber_13 rfl (lv_at hl 2 rfl) ?_
  refine lv_iload_n hx hb dX11_writeNumber_14 rfl (lv_at hl 0 rfl) ?_
  refine lv_iadd hx hb dX11_writeNumber_15 ?_
  refine k_top (z := 9) (by decide +kernel) ?_
  refine lv_aload_n hx hb dX11_writeNumber_16 rfl (lv_at hl 1 rfl) ?_
  refine va_get (D := D) (ci := 11) (v := .ref (r 93)) (C := RX11) (T := TX11) (N := 17) hx hb hg inC11 hown hK hP 0 rfl rfl 10 (by decide) (hg _ wt2_196) (fun _ h9 => h9) rfl dX11_writeNumber_17 ?_
  refine va_alen (v := 400) hx hb hK hP 93 1 rfl rfl rfl dX11_writeNumber_20 ?_
  refine lv_icmp_ge (tgt := 42) hx hb dX11_writeNumber_21 (by decide) (fun c10 => absurd c10 (by decide +kernel)) (fun c10 => ?_)
  refine lv_aload_n hx hb dX11_writeNumber_24 rfl (lv_at hl 1 rfl) ?_
  refine va_get (D := D) (ci := 11) (v := .ref (r 93)) (C := RX11) (T := TX11) (N := 17) hx hb hg inC11 hown hK hP 0 rfl rfl 10 (by decide) (hg _ wt2_196) (fun _ h9 => h9) rfl dX11_writeNumber_25 ?_
  refine lv_iload_n hx hb dX11_writeNumber_28 rfl (lv_at hl 2 rfl) ?_
  refine lv_iload_n hx hb dX11_writeNumber_29 rfl (lv_at hl 0 rfl) ?_
  refine lv_iadd hx hb dX11_writeNumber_30 ?_
  refine k_top (z := 9) (by decide +kernel) ?_
  refine lv_iload_n hx hb dX11_writeNumber_31 rfl (lv_at hl 3 rfl) ?_
  refine lv_bipush (v := 24) hx hb dX11_writeNumber_32 (by decide) ?_
  refine lv_bipush (v := 8) hx hb dX11_writeNumber_34 (by decide) ?_
  refine lv_iload_n hx hb dX11_writeNumber_36 rfl (lv_at hl 0 rfl) ?_
  refine lv_imul hx hb dX11_writeNumber_37 ?_
  refine k_top (z := 8) (by decide +kernel) ?_
  refine lv_isub hx hb dX11_writeNumber_38 ?_
  refine k_top (z := 16) (by decide +kernel) ?_
  refine lv_ishr hx hb dX11_writeNumber_39 ?_
  refine lv_topi (fun t11 et11 => ?_)
  refine lv_i2b hx hb dX11_writeNumber_40 rfl ?_
  refine lv_topi (fun t13 et13 => ?_)
  refine va_bast hx hb hK hP hD hS 93 1 rfl rfl (k_in (by decide +kernel)) dX11_writeNumber_41 (fun H locs hP hD hS => ?_)
  rw [cl_9] at hP hD
  have hP : va_P D vwCl (xW K r f (va_up a_7 93 (upd (a_7 93) 9 (vp_nar .byte t13))) g) H := hP
  have hD : va_D A (xW K r f (va_up a_7 93 (upd (a_7 93) 9 (vp_nar .byte t13))) g) := hD
  refine k_gen (P := fun z => va_P D vwCl (xW K r f z g) H ∧ va_D A (xW K r f z g)) (va_up a_7 93 (upd (a_7 93) 9 (vp_nar .byte t13))) ⟨hP, hD⟩ (fun a_14 ea_14 hPD => ?_)
  have hP := hPD.1
  have hD := hPD.2
  refine lv_iinc (v := 2) (lv' := [(3, .int 2), (0, .ref (r 0)), (1, .int 8), (2, .int x)]) hx hb dX11_writeNumber_42 hl (k := 0) rfl (by decide +kernel) (by decide) rfl (fun ls hl => ?_)
  refine lv_goto (tgt := 2) hx hb dX11_writeNumber_45 (by decide) ?_
  refine lv_iload_n hx hb dX11_writeNumber_2 rfl (lv_at hl 0 rfl) ?_
  refine lv_iconst (v := 4) hx hb dX11_writeNumber_3 (by decide) ?_
  refine lv_icmp_ge (tgt := 48) hx hb dX11_writeNumber_4 (by decide) (fun c15 => absurd c15 (by decide +kernel)) (fun c15 => ?_)
  refine lv_iload_n hx hb dX11_writeNumber_7 rfl (lv_at hl 2 rfl) ?_
  refine lv_iload_n hx hb dX11_writeNumber_8 rfl (lv_at hl 0 rfl) ?_
  refine lv_iadd hx hb dX11_writeNumber_9 ?_
  refine k_top (z := 10) (by decide +kernel) ?_
  refine lv_if_lt (tgt := 42) hx hb dX11_writeNumber_10 (by decide) (fun c16 => absurd c16 (by decide +kernel)) (fun c16 => ?_)
  refine lv_iload_n hx hb dX11_writeNumber_13 rfl (lv_at hl 2 rfl) ?_
  refine lv_iload_n hx hb dX11_writeNumber_14 rfl (lv_at hl 0 rfl) ?_
  refine lv_iadd hx hb dX11_writeNumber_15 ?_
  refine k_top (z := 10) (by decide +kernel) ?_
  refine lv_aload_n hx hb dX11_writeNumber_16 rfl (lv_at hl 1 rfl) ?_
  refine va_get (D := D) (ci := 11) (v := .ref (r 93)) (C := RX11) (T := TX11) (N := 17) hx hb hg inC11 hown hK hP 0 rfl rfl 10 (by decide) (hg _ wt2_196) (fun _ h9 => h9) rfl dX11_writeNumber_17 ?_
  refine va_alen (v := 400) hx hb hK hP 93 1 rfl rfl rfl dX11_writeNumber_20 ?_
  refine lv_icmp_ge (tgt := 42) hx hb dX11_writeNumber_21 (by decide) (fun c17 => absurd c17 (by decide +kernel)) (fun c17 => ?_)
  refine lv_aload_n hx hb dX11_writeNumber_24 rfl (lv_at hl 1 rfl) ?_
  refine va_get (D := D) (ci := 11) (v := .ref (r 93)) (C := RX11) (T := TX11) (N := 17) hx hb hg inC11 hown hK hP 0 rfl rfl 10 (by decide) (hg _ wt2_196) (fun _ h9 => h9) rfl dX11_writeNumber_25 ?_
  refine lv_iload_n hx hb dX11_writeNumber_28 rfl (lv_at hl 2 rfl) ?_
  refine lv_iload_n hx hb dX11_writeNumber_29 rfl (lv_at hl 0 rfl) ?_
  refine lv_iadd hx hb dX11_writeNumber_30 ?_
  refine k_top (z := 10) (by decide +kernel) ?_
  refine lv_iload_n hx hb dX11_writeNumber_31 rfl (lv_at hl 3 rfl) ?_
  refine lv_bipush (v := 24) hx hb dX11_writeNumber_32 (by decide) ?_
  refine lv_bipush (v := 8) hx hb dX11_writeNumber_34 (by decide) ?_
  refine lv_iload_n hx hb dX11_writeNumber_36 rfl (lv_at hl 0 rfl) ?_
  refine lv_imul hx hb dX11_writeNumber_37 ?_
  refine k_top (z := 16) (by decide +kernel) ?_
  refine lv_isub hx hb dX11_writeNumber_38 ?_
  refine k_top (z := 8) (by decide +kernel) ?_
  refine lv_ishr hx hb dX11_writeNumber_39 ?_
  refine lv_topi (fun t18 et18 => ?_)
  refine lv_i2b hx hb dX11_writeNumber_40 rfl ?_
  refine lv_topi (fun t20 et20 => ?_)
  refine va_bast hx hb hK hP hD hS 93 1 rfl rfl (k_in (by decide +kernel)) dX11_writeNumber_41 (fun H locs hP hD hS => ?_)
  rw [cl_10] at hP hD
  have hP : va_P D vwCl (xW K r f (va_up a_14 93 (upd (a_14 93) 10 (vp_nar .byte t20))) g) H := hP
  have hD : va_D A (xW K r f (va_up a_14 93 (upd (a_14 93) 10 (vp_nar .byte t20))) g) := hD
  refine k_gen (P := fun z => va_P D vwCl (xW K r f z g) H ∧ va_D A (xW K r f z g)) (va_up a_14 93 (upd (a_14 93) 10 (vp_nar .byte t20))) ⟨hP, hD⟩ (fun a_21 ea_21 hPD => ?_)
  have hP := hPD.1
  have hD := hPD.2
  refine lv_iinc (v := 3) (lv' := [(3, .int 3), (0, .ref (r 0)), (1, .int 8), (2, .int x)]) hx hb dX11_writeNumber_42 hl (k := 0) rfl (by decide +kernel) (by decide) rfl (fun ls hl => ?_)
  refine lv_goto (tgt := 2) hx hb dX11_writeNumber_45 (by decide) ?_
  refine lv_iload_n hx hb dX11_writeNumber_2 rfl (lv_at hl 0 rfl) ?_
  refine lv_iconst (v := 4) hx hb dX11_writeNumber_3 (by decide) ?_
  refine lv_icmp_ge (tgt := 48) hx hb dX11_writeNumber_4 (by decide) (fun c22 => absurd c22 (by decide +kernel)) (fun c22 => ?_)
  refine lv_iload_n hx hb dX11_writeNumber_7 rfl (lv_at hl 2 rfl) ?_
  refine lv_iload_n hx hb dX11_writeNumber_8 rfl (lv_at hl 0 rfl) ?_
  refine lv_iadd hx hb dX11_writeNumber_9 ?_
  refine k_top (z := 11) (by decide +kernel) ?_
  refine lv_if_lt (tgt := 42) hx hb dX11_writeNumber_10 (by decide) (fun c23 => absurd c23 (by decide +kernel)) (fun c23 => ?_)
  refine lv_iload_n hx hb dX11_writeNumber_13 rfl (lv_at hl 2 rfl) ?_
  refine lv_iload_n hx hb dX11_writeNumber_14 rfl (lv_at hl 0 rfl) ?_
  refine lv_iadd hx hb dX11_writeNumber_15 ?_
  refine k_top (z := 11) (by decide +kernel) ?_
  refine lv_aload_n hx hb dX11_writeNumber_16 rfl (lv_at hl 1 rfl) ?_
  refine va_get (D := D) (ci := 11) (v := .ref (r 93)) (C := RX11) (T := TX11) (N := 17) hx hb hg inC11 hown hK hP 0 rfl rfl 10 (by decide) (hg _ wt2_196) (fun _ h9 => h9) rfl dX11_writeNumber_17 ?_
  refine va_alen (v := 400) hx hb hK hP 93 1 rfl rfl rfl dX11_writeNumber_20 ?_
  refine lv_icmp_ge (tgt := 42) hx hb dX11_writeNumber_21 (by decide) (fun c24 => absurd c24 (by decide +kernel)) (fun c24 => ?_)
  refine lv_aload_n hx hb dX11_writeNumber_24 rfl (lv_at hl 1 rfl) ?_
  refine va_get (D := D) (ci := 11) (v := .ref (r 93)) (C := RX11) (T := TX11) (N := 17) hx hb hg inC11 hown hK hP 0 rfl rfl 10 (by decide) (hg _ wt2_196) (fun _ h9 => h9) rfl dX11_writeNumber_25 ?_
  refine lv_iload_n hx hb dX11_writeNumber_28 rfl (lv_at hl 2 rfl) ?_
  refine lv_iload_n hx hb dX11_writeNumber_29 rfl (lv_at hl 0 rfl) ?_
  refine lv_iadd hx hb dX11_writeNumber_30 ?_
  refine k_top (z := 11) (by decide +kernel) ?_
  refine lv_iload_n hx hb dX11_writeNumber_31 rfl (lv_at hl 3 rfl) ?_
  refine lv_bipush (v := 24) hx hb dX11_writeNumber_32 (by decide) ?_
  refine lv_bipush (v := 8) hx hb dX11_writeNumber_34 (by decide) ?_
  refine lv_iload_n hx hb dX11_writeNumber_36 rfl (lv_at hl 0 rfl) ?_
  refine lv_imul hx hb dX11_writeNumber_37 ?_
  refine k_top (z := 24) (by decide +kernel) ?_
  refine lv_isub hx hb dX11_writeNumber_38 ?_
  refine k_top (z := 0) (by decide +kernel) ?_
  refine lv_ishr hx hb dX11_writeNumber_39 ?_
  refine lv_topi (fun t25 et25 => ?_)
  refine lv_i2b hx hb dX11_writeNumber_40 rfl ?_
  refine lv_topi (fun t27 et27 => ?_)
  refine va_bast hx hb hK hP hD hS 93 1 rfl rfl (k_in (by decide +kernel)) dX11_writeNumber_41 (fun H locs hP hD hS => ?_)
  rw [cl_11] at hP hD
  have hP : va_P D vwCl (xW K r f (va_up a_21 93 (upd (a_21 93) 11 (vp_nar .byte t27))) g) H := hP
  have hD : va_D A (xW K r f (va_up a_21 93 (upd (a_21 93) 11 (vp_nar .byte t27))) g) := hD
  refine k_gen (P := fun z => va_P D vwCl (xW K r f z g) H ∧ va_D A (xW K r f z g)) (va_up a_21 93 (upd (a_21 93) 11 (vp_nar .byte t27))) ⟨hP, hD⟩ (fun a_28 ea_28 hPD => ?_)
  have hP := hPD.1
  have hD := hPD.2
  refine lv_iinc (v := 4) (lv' := [(3, .int 4), (0, .ref (r 0)), (1, .int 8), (2, .int x)]) hx hb dX11_writeNumber_42 hl (k := 0) rfl (by decide +kernel) (by decide) rfl (fun ls hl => ?_)
  refine lv_goto (tgt := 2) hx hb dX11_writeNumber_45 (by decide) ?_
  refine lv_iload_n hx hb dX11_writeNumber_2 rfl (lv_at hl 0 rfl) ?_
  refine lv_iconst (v := 4) hx hb dX11_writeNumber_3 (by decide) ?_
  refine lv_icmp_ge (tgt := 48) hx hb dX11_writeNumber_4 (by decide) (fun c29 => ?_) (fun c29 => absurd (by decide +kernel) c29)
  exact kV_ret hx hb hr hlocks hK hS dX11_writeNumber_48 (f, a_28, g) hP hD h0
