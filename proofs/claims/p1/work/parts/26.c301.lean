set_option maxHeartbeats 4000000 in
set_option maxRecDepth 100000 in
theorem x_writeNumber12 (l : Launch) {D : va_G} {K : Nat → ClassId} (r : Nat → Nat) (f : Nat → Int32) (a : Nat → Nat → Int32) (g : xG) (h0 : f 12 = 0) (x : Int32)  : kV l yX11_writeNumber (Cond.code yX11_writeNumber cX11_writeNumber 4 none :: kG) (rmD 1 0 0) D (tysK K) [.ref (r 0), .int 12, .int x] (xW K r f a g) (fun (u : xS) => u.1 12 = 0) (fun u => xW K r u.1 u.2.1 u.2.2) 0 0 := by
  refine kV.of (cc := cX11_writeNumber) (maxL := 4) (ret := none) (by decide) rfl (Nat.le_of_ble_eq_true rfl) ?_
  intro p e s m below meth c A hx hb hr hml hown hts hlocks hnm hK hP hD hS hA ls hl
  have hg : ∀ w ∈ kG, w.before _ s = true := fun w h => hts w (List.mem_cons_of_mem _ h)
  have hown : s.vm.findClass RX11 = some m.cls := hown
  have hl : lv_has ls 4 [(0, .ref (r 0)), (1, .int 12), (2, .int x)] := hl
  refine lv_iconst (v := 0) hx hb dX11_writeNumber_0 (by decide) ?_
  refine lv_istore_n (lv' := [(3, .int 0), (0, .ref (r 0)), (1, .int 12), (2, .int x)]) hx hb dX11_writeNumber_1 rfl hl (by decide) rfl (fun ls hl => ?_)
  refine lv_iload_n hx hb dX11_writeNumber_2 rfl (lv_at hl 0 rfl) ?_
  refine lv_iconst (v := 4) hx hb dX11_writeNumber_3 (by decide) ?_
  refine lv_icmp_ge (tgt := 48) hx hb dX11_writeNumber_4 (by decide) (fun c1 => absurd c1 (by decide +kernel)) (fun c1 => ?_)
  refine lv_iload_n hx hb dX11_writeNumber_7 rfl (lv_at hl 2 rfl) ?_
  refine lv_iload_n hx hb dX11_writeNumber_8 rfl (lv_at hl 0 rfl) ?_
  refine lv_iadd hx hb dX11_writeNumber_9 ?_
  refine k_top (z := 12) (by decide +kernel) ?_
  refine lv_if_lt (tgt := 42) hx hb dX11_writeNumber_10 (by decide) (fun c2 => absurd c2 (by decide +kernel)) (fun c2 => ?_)
  refine lv_iload_n hx hb dX11_writeNumber_13 rfl (lv_at hl 2 rfl) ?_
  refine lv_iload_n hx hb dX11_writeNumber_14 rfl (lv_at hl 0 rfl) ?_
  refine lv_iadd hx hb dX11_writeNumber_15 ?_
  refine k_top (z := 12) (by decide +kernel) ?_
  refine lv_aload_n hx hb dX11_writeNumber_16 rfl (lv_at hl 1 rfl) ?_
  refine va_get (D := D) (ci := 11) (v := .ref (r 93)) (C := RX11) (T := TX11) (N := 17) hx hb hg inC11 hown hK hP 0 rfl rfl 10 (by decide) (hg _ wt2_196) (fun _ h9 => h9) rfl dX11_writeNumber_17 ?_
  refine va_alen (v := 400) hx hb hK hP 93 1 rfl rfl rfl dX11_writeNumber_20 ?_
  refine lv_icmp_ge (tgt := 42) hx hb dX11_writeNumber_21 (by decide) (fun c3 => absurd c3 (by decide +kernel)) (fun c3 => ?_)
  refine lv_aload_n hx hb dX11_writeNumber_24 rfl (lv_at hl 1 rfl) ?_
  refine va_get (D := D) (ci := 11) (v := .ref (r 93)) (C := RX11) (T := TX11) (N := 17) hx hb hg inC11 hown hK hP 0 rfl rfl 10 (by decide) (hg _ wt2_196) (fun _ h9 => h9) rfl dX11_writeNumber_25 ?_
  refine lv_iload_n hx hb dX11_writeNumber_28 rfl (lv_at hl 2 rfl) ?_
  refine lv_iload_n hx hb dX11_writeNumber_29 rfl (lv_at hl 0 rfl) ?_
  refine lv_iadd hx hb dX11_writeNumber_30 ?_
  refine k_top (z := 12) (by decide +kernel) ?_
  refine lv_iload_n hx hb dX11_writeNumber_31 rfl (lv_at hl 3 rfl) ?_
  refine lv_bipush (v := 24) hx hb dX11_writeNumber_32 (by decide) ?_
  refine lv_bipush (v := 8) hx hb dX11_writeNumber_34 (by decide) ?_
  refine lv_iload_n hx hb dX11_writeNumber_36 rfl (lv_at hl 0 rfl) ?_
  refine lv_imul hx hb dX11_writeNumber_37 ?_
  refine k_top (z := 0) (by decide +kernel) ?_
  refine lv_isub hx hb dX11_writeNumber_38 ?_
  refine k_top (z := 24) (by decide +kernel) ?_
  refine lv_ishr hx hb dX11_writeNumber_39 ?_
  refine lv_topi (fun t4 et4 => ?_)
  refine lv_i2b hx hb dX11_writeNumber_40 rfl ?_
  refine lv_topi (fun t6 et6 => ?_)
  refine va_bast hx hb hK hP hD hS 93 1 rfl rfl (k_in (by decide +kernel)) dX11_writeNumber_41 (fun H locs hP hD hS => ?_)
  rw [cl_12] at hP hD
  have hP : va_P D vwCl (xW K r f (va_up a 93 (upd (a 93) 12 (vp_nar .byte t6))) g) H := hP
  have hD : va_D A (xW K r f (va_up a 93 (upd (a 93) 12 (vp_nar .byte t6))) g) := hD
  refine k_gen (P := fun z => va_P D vwCl (xW K r f z g) H ∧ va_D A (xW K r f z g)) (va_up a 93 (upd (a 93) 12 (vp_nar .byte t6))) ⟨hP, hD⟩ (fun a_7 ea_7 hPD => ?_)
  have hP := hPD.1
  have hD := hPD.2
  refine lv_iinc (v := 1) (lv' := [(3, .int 1), (0, .ref (r 0)), (1, .int 12), (2, .int x)]) hx hb dX11_writeNumber_42 hl (k := 0) rfl (by decide +kernel) (by decide) rfl (fun ls hl => ?_)
  refine lv_goto (tgt := 2) hx hb dX11_writeNumber_45 (by decide) ?_
  refine lv_iload_n hx hb dX11_writeNumber_2 rfl (lv_at hl 0 rfl) ?_
  refine lv_iconst (v := 4) hx hb dX11_writeNumber_3 (by decide) ?_
  refine lv_icmp_ge (tgt := 48) hx hb dX11_writeNumber_4 (by decide) (fun c8 => absurd c8 (by decide +kernel)) (fun c8 => ?_)
  refine lv_iload_n hx hb dX11_writeNumber_7 rfl (lv_at hl 2 rfl) ?_
  refine lv_iload_n hx hb dX11_writeNumber_8 rfl (lv_at hl 0 rfl) ?_
  refine lv_iadd hx hb dX11_writeNumber_9 ?_
  refine k_top (z := 13) (by decide +kernel) ?_
  refine lv_if_lt (tgt := 42) hx hb dX11_writeNumber_10 (by decide) (fun c9 => absurd c9 (by decide +kernel)) (fun c9 => ?_)
  refine lv_iload_n hx hb dX11_writeNumber_13 rfl (lv_at hl 2 rfl) ?_
  refine lv_iload_n hx hb dX11_writeNumber_14 rfl (lv_at hl 0 rfl) ?_
  refine lv_iadd hx hb dX11_writeNumber_15 ?_
  refine k_top (z := 13) (by decide +kernel) ?_
  refine lv_aload_n hx hb dX11_writeNumber_16 rfl (lv_at hl 1 rfl) ?_
  refine va_get (D := D) (ci := 11) (v := .ref (r 93)) (C := RX11) (T := TX11) (N := 17) hx hb hg inC11 hown hK hP 0 rfl rfl 10 (by decide) (hg _ wt2_196) (fun _ h9 => h9) rfl dX11_writeNumber_17 ?_
  refine va_alen (v := 400) hx hb hK hP 93 1 rfl rfl rfl dX11_writeNumber_20 ?_
  refine lv_icmp_ge (tgt := 42) hx hb dX11_writeNumber_21 (by decide) (fun c10 => absurd c10 (by decide +kernel)) (fun c10 => ?_)
  refine lv_aload_n hx hb dX11_writeNumber_24 rfl (lv_at hl 1 rfl) ?_
  refine va_get (D := D) (ci := 11) (v := .ref (r 93)) (C := RX11) (T := TX11) (N := 17) hx hb hg inC11 hown hK hP 0 rfl rfl 10 (by decide) (hg _ wt2_196) (fun _ h9 => h9) rfl dX11_writeNumber_25 ?_
  refine lv_iload_n hx hb dX11_writeNumber_28 rfl (lv_at hl 2 rfl) ?_
  refine lv_iload_n hx hb dX11_writeNumber_29 rfl (lv_at hl 0 rfl) ?_
  refine lv_iadd hx hb dX11_writeNumber_30 ?_
  refine k_top (z := 13) (by decide +kernel) ?_
  refine lv_iload_n hx hb dX11_writeNumber_31 rfl (lv_at hl 3 rfl) ?_
  refine lv_bipush (v := 24) hx hb dX11_writeNumber_32 (by decide) ?_
  refine lv_bipush (v := 8) hx hb dX11_writeNumber_34 (by decide) ?_
  refine lv_iload_n hx hb dX11_writeNumber_36 rfl (lv_at hl 0 rfl) ?_
  refine lv_imul hx hb dX11_writeNumber_37 ?_
  refine k_top (z := 8) (by decide +kernel) ?_
  refine lv_isub hx hb dX11_writeNumber_38 ?_
  refine k_top (z := 16) (by decide +kernel) ?_
  refine lv_ishr hx hb dX11_writeNumber_39 ?_
  refine lv_topi (fun t11 et11 => ?_)
  refine lv_i2b hx hb dX11_writeNumber_40 rfl ?_
  refine lv_topi (fun t13 et13 => ?_)
  refine va_bast hx hb hK hP hD hS 93 1 rfl rfl (k_in (by decide +kernel)) dX11_writeNumber_41 (fun H locs hP hD hS => ?_)
  rw [cl_13] at hP hD
  have hP : va_P D vwCl (xW K r f (va_up a_7 93 (upd (a_7 93) 13 (vp_nar .byte t13))) g) H := hP
  have hD : va_D A (xW K r f (va_up a_7 93 (upd (a_7 93) 13 (vp_nar .byte t13))) g) := hD
  refine k_gen (P := fun z => va_P D vwCl (xW K r f z g) H ∧ va_D A (xW K r f z g)) (va_up a_7 93 (upd (a_7 93) 13 (vp_nar .byte t13))) ⟨hP, hD⟩ (fun a_14 ea_14 hPD => ?_)
  have hP := hPD.1
  have hD := hPD.2
  refine lv_iinc (v := 2) (lv' := [(3, .int 2), (0, .ref (r 0)), (1, .int 12), (2, .int x)]) hx hb dX11_writeNumber_42 hl (k := 0) rfl (by decide +kernel) (by decide) rfl (fun ls hl => ?_)
  refine lv_goto (tgt := 2) hx hb dX11_writeNumber_45 (by decide) ?_
  refine lv_iload_n hx hb dX11_writeNumber_2 rfl (lv_at hl 0 rfl) ?_
  refine lv_iconst (v := 4) hx hb dX11_writeNumber_3 (by decide) ?_
  refine lv_icmp_ge (tgt := 48) hx hb dX11_writeNumber_4 (by decide) (fun c15 => absurd c15 (by decide +kernel)) (fun c15 => ?_)
  refine lv_iload_n hx hb dX11_writeNumber_7 rfl (lv_at hl 2 rfl) ?_
  refine lv_iload_n hx hb dX11_writeNumber_8 rfl (lv_at hl 0 rfl) ?_
  refine lv_iadd hx hb dX11_writeNumber_9 ?_
  refine k_top (z := 14) (by decide +kernel) ?_
  refine lv_if_lt (tgt := 42) hx hb dX11_writeNumber_10 (by decide) (fun c16 => absurd c16 (by decide +kernel)) (fun c16 => ?_)
  refine lv_iload_n hx hb dX11_writeNumber_13 rfl (lv_at hl 2 rfl) ?_
  refine lv_iload_n hx hb dX11_writeNumber_14 rfl (lv_at hl 0 rfl) ?_
  refine lv_iadd hx hb dX11_writeNumber_15 ?_
  refine k_top (z := 14) (by decide +kernel) ?_
  refine lv_aload_n hx hb dX11_writeNumber_16 rfl (lv_at hl 1 rfl) ?_
  refine va_get (D := D) (ci := 11) (v := .ref (r 93)) (C := RX11) (T := TX11) (N := 17) hx hb hg inC11 hown hK hP 0 rfl rfl 10 (by decide) (hg _ wt2_196) (fun _ h9 => h9) rfl dX11_writeNumber_17 ?_
  refine va_alen (v := 400) hx hb hK hP 93 1 rfl rfl rfl dX11_writeNumber_20 ?_
  refine lv_icmp_ge (tgt := 42) hx hb dX11_writeNumber_21 (by decide) (fun c17 => absurd c17 (by decide +kernel)) (fun c17 => ?_)
  refine lv_aload_n hx hb dX11_writeNumber_24 rfl (lv_at hl 1 rfl) ?_
  refine va_get (D := D) (ci := 11) (v := .ref (r 93)) (C := RX11) (T := TX11) (N := 17) hx hb hg inC11 hown hK hP 0 rfl rfl 10 (by decide) (hg _ wt2_196) (fun _ h9 => h9) rfl dX11_writeNumber_25 ?_
  refine lv_iload_n hx hb dX11_writeNumber_28 rfl (lv_at hl 2 rfl) ?_
  refine lv_iload_n hx hb dX11_writeNumber_29 rfl (lv_at hl 0 rfl) ?_
  refine lv_iadd hx hb dX11_writeNumber_30 ?_
  refine k_top (z := 14) (by decide +kernel) ?_
  refine lv_iload_n hx hb dX11_writeNumber_31 rfl (lv_at hl 3 rfl) ?_
  refine lv_bipush (v := 24) hx hb dX11_writeNumber_32 (by decide) ?_
  refine lv_bipush (v := 8) hx hb dX11_writeNumber_34 (by decide) ?_
  refine lv_iload_n hx hb dX11_writeNumber_36 rfl (lv_at hl 0 rfl) ?_
  refine lv_imul hx hb dX11_writeNumber_37 ?_
  refine k_top (z := 16) (by decide +kernel) ?_
  refine lv_isub hx hb dX11_writeNumber_38 ?_
  refine k_top (z := 8) (by decide +kernel) ?_
  refine lv_ishr hx hb dX11_writeNumber_39 ?_
  refine lv_topi (fun t18 et18 => ?_)
  refine lv_i2b hx hb dX11_writeNumber_40 rfl ?_
  refine lv_topi (fun t20 et20 => ?_)
  refine va_bast hx hb hK hP hD hS 93 1 rfl rfl (k_in (by decide +kernel)) dX11_writeNumber_41 (fun H locs hP hD hS => ?_)
  rw [cl_14] at hP hD
  have hP : va_P D vwCl (xW K r f (va_up a_14 93 (upd (a_14 93) 14 (vp_nar .byte t20))) g) H := hP
  have hD : va_D A (xW K r f (va_up a_14 93 (upd (a_14 93) 14 (vp_nar .byte t20))) g) := hD
  refine k_gen (P := fun z => va_P D vwCl (xW K r f z g) H ∧ va_D A (xW K r f z g)) (va_up a_14 93 (upd (a_14 93) 14 (vp_nar .byte t20))) ⟨hP, hD⟩ (fun a_21 ea_21 hPD => ?_)
  have hP := hPD.1
  have hD := hPD.2
  refine lv_iinc (v := 3) (lv' := [(3, .int 3), (0, .ref (r 0)), (1, .int 12), (2, .int x)]) hx hb dX11_writeNumber_42 hl (k := 0) rfl (by decide +kernel) (by decide) rfl (fun ls hl => ?_)
  refine lv_goto (tgt := 2) hx hb dX11_writeNumber_45 (by decide) ?_
  refine lv_iload_n hx hb dX11_writeNumber_2 rfl (lv_at hl 0 rfl) ?_
  refine lv_iconst (v := 4) hx hb dX11_writeNumber_3 (by decide) ?_
  refine lv_icmp_ge (tgt := 48) hx hb dX11_writeNumber_4 (by decide) (fun c22 => absurd c22 (by decide +kernel)) (fun c22 => ?_)
  refine lv_iload_n hx hb dX11_writeNumber_7 rfl (lv_at hl 2 rfl) ?_
  refine lv_iload_n hx hb dX11_writeNumber_8 rfl (lv_at hl 0 rfl) ?_
  refine lv_iadd hx hb dX11_writeNumber_9 ?_
  refine k_top (z := 15) (by decide +kernel) ?_
  refine lv_if_lt (tgt := 42) hx hb dX11_writeNumber_10 (by decide) (fun c23 => absurd c23 (by decide +kernel)) (fun c23 => ?_)
  refine lv_iload_n hx hb dX11_writeNumber_13 rfl (lv_at hl 2 rfl) ?_
  refine lv_iload_n hx hb dX11_writeNumber_14 rfl (lv_at hl 0 rfl) ?_
  refine lv_iadd hx hb dX11_writeNumber_15 ?_
  refine k_top (z := 15) (by decide +kernel) ?_
  refine lv_aload_n hx hb dX11_writeNumber_16 rfl (lv_at hl 1 rfl) ?_
  refine va_get (D := D) (ci := 11) (v := .ref (r 93)) (C := RX11) (T := TX11) (N := 17) hx hb hg inC11 hown hK hP 0 rfl rfl 10 (by decide) (hg _ wt2_196) (fun _ h9 => h9) rfl dX11_writeNumber_17 ?_
  refine va_alen (v := 400) hx hb hK hP 93 1 rfl rfl rfl dX11_writeNumber_20 ?_
  refine lv_icmp_ge (tgt := 42) hx hb dX11_writeNumber_21 (by decide) (fun c24 => absurd c24 (by decide +kernel)) (fun c24 => ?_)
  refine lv_aload_n hx hb dX11_writeNumber_24 rfl (lv_at hl 1 rfl) ?_
  refine va_get (D := D) (ci := 11) (v := .ref (r 93)) (C := RX11) (T := TX11) (N := 17) hx hb hg inC11 hown hK hP 0 rfl rfl 10 (by decide) (hg _ wt2_196) (fun _ h9 => h9) rfl dX11_writeNumber_25 ?_
  refine lv_iload_n hx hb dX11_writeNumber_28 rfl (lv_at hl 2 rfl) ?_
  refine lv_iload_n hx hb dX11_writeNumber_29 rfl (lv_at hl 0 rfl) ?_
  refine lv_iadd hx hb dX11_writeNumber_30 ?_
  refine k_top (z := 15) (by decide +kernel) ?_
  refine lv_iload_n hx hb dX11_writeNumber_31 rfl (lv_at hl 3 rfl) ?_
  refine lv_bipush (v := 24) hx hb dX11_writeNumber_32 (by decide) ?_
  refine lv_bipush (v := 8) hx hb dX11_writeNumber_34 (by decide) ?_
  refine lv_iload_n hx hb dX11_writeNumber_36 rfl (lv_at hl 0 rfl) ?_
  refine lv_imul hx hb dX11_writeNumber_37 ?_
  refine k_top (z := 24) (by decide +kernel) ?_
  refine lv_isub hx hb dX11_writeNumber_38 ?_
  refine k_top (z := 0) (by decide +kernel) ?_
  refine lv_ishr hx hb dX11_writeNumber_39 ?_
  refine lv_topi (fun t25 et25 => ?_)
  refine lv_i2b hx hb dX11_writeNumber_40 rfl ?_
  refine lv_topi (fun t27 et27 => ?_)
  refine va_bast hx hb hK hP hD hS 93 1 rfl rfl (k_in (by decide +kernel)) dX11_writeNumber_41 (fun H locs hP hD hS => ?_)
  rw [cl_15] at hP hD
  have hP : va_P D vwCl (xW K r f (va_up a_21 93 (upd (a_21 93) 15 (vp_nar .byte t27))) g) H := hP
  have hD : va_D A (xW K r f (va_up a_21 93 (upd (a_21 93) 15 (vp_nar .byte t27))) g) := hD
  refine k_gen (P := fun z => va_P D vwCl (xW K r f z g) H ∧ va_D A (xW K r f z g)) (va_up a_21 93 (upd (a_21 93) 15 (vp_nar .byte t27))) ⟨hP, hD⟩ (fun a_28 ea_28 hPD => ?_)
  have hP := hPD.1
  have hD := hPD.2
  refine lv_iinc (v := 4) (lv' := [(3, .int 4), (0, .ref (r 0)), (1, .int 12), (2, .int x)]) hx hb dX11_writeNumber_42 hl (k := 0) rfl (by decide +kernel) (by decide) rfl (fun ls hl => ?_)
  refine lv_goto (tgt := 2) hx hb dX11_writeNumber_45 (by decide) ?_
  refine lv_iload_n hx hb dX11_writeNumber_2 rfl (lv_at hl 0 rfl) ?_
  refine lv_iconst (v := 4) hx hb dX11_writeNumber_3 (by decide) ?_
  refine lv_icmp_ge (tgt := 48) hx hb dX11_writeNumber_4 (by decide) (fun c29 => ?_) (fun c29 => absurd (by decide +kernel) c29)
  exact kV_ret hx hb hr hlocks hK hS dX11_writeNumber_48 (f, a_28, g) hP hD h0
set_option maxHeartbeats 4000000 in
set_option maxRecDepth 100000 in
theorem x_writeNumber16 (l : Launch) {D : va_G} {K : Nat → ClassId} (r : Nat → Nat) (f : Nat → Int32) (a : Nat → Nat → Int32) (g : xG) (h0 : f 12 = 0) (x : Int32)  : kV l yX11_writeNumber (Cond.code yX11_writeNumber cX11_writeNumber 4 none :: kG) (rmD 1 0 0) D (tysK K) [.ref (r 0), .int 16, .int x] (xW K r f a g) (fun (u : xS) => u.1 12 = 0) (fun u => xW K r u.1 u.2.1 u.2.2) 0 0 := by
  refine kV.of (cc := cX11_writeNumber) (maxL := 4) (ret := none) (by decide) rfl (Nat.le_of_ble_eq_true rfl) ?_
  intro p e s m below meth c A hx hb hr hml hown hts hlocks hnm hK hP hD hS hA ls hl
  have hg : ∀ w ∈ kG, w.before _ s = true := fun w h => hts w (List.mem_cons_of_mem _ h)
  have hown : s.vm.findClass RX11 = some m.cls := hown
  have hl : lv_has ls 4 [(0, .ref (r 0)), (1, .int 16), (2, .int x)] := hl
  refine lv_iconst (v := 0) hx hb dX11_writeNumber_0 (by decide) ?_
  refine lv_istore_n (lv' := [(3, .int 0), (0, .ref (r 0)), (1, .int 16), (2, .int x)]) hx hb dX11_writeNumber_1 rfl hl (by decide) rfl (fun ls hl => ?_)
  refine lv_iload_n hx hb dX11_writeNumber_2 rfl (lv_at hl 0 rfl) ?_
  refine lv_iconst (v := 4) hx hb dX11_writeNumber_3 (by decide) ?_
  refine lv_icmp_ge (tgt := 48) hx hb dX11_writeNumber_4 (by decide) (fun c1 => absurd c1 (by decide +kernel)) (fun c1 => ?_)
  refine lv_iload_n hx hb dX11_writeNumber_7 rfl (lv_at hl 2 rfl) ?_
  refine lv_iload_n hx hb dX11_writeNumber_8 rfl (lv_at hl 0 rfl) ?_
  refine lv_iadd hx hb dX11_writeNumber_9 ?_
  refine k_top (z := 16) (by decide +kernel) ?_
  refine lv_if_lt (tgt := 42) hx hb dX11_writeNumber_10 (by decide) (fun c2 => absurd c2 (by decide +kernel)) (fun c2 => ?_)
  refine lv_iload_n hx hb dX11_writeNumber_13 rfl (lv_at hl 2 rfl) ?_
  refine lv_iload_n hx hb dX11_writeNumber_14 rfl (lv_at hl 0 rfl) ?_
  refine lv_iadd hx hb dX11_writeNumber_15 ?_
  refine k_top (z := 16) (by decide +kernel) ?_
  refine lv_aload_n hx hb dX11_writeNumber_16 rfl (lv_at hl 1 rfl) ?_
  refine va_get (D := D) (ci := 11) (v := .ref (r 93)) (C := RX11) (T := TX11) (N := 17) hx hb hg inC11 hown hK hP 0 rfl rfl 10 (by decide) (hg _ wt2_196) (fun _ h9 => h9) rfl dX11_writeNumber_17 ?_
  refine va_alen (v := 400) hx hb hK hP 93 1 rfl rfl rfl dX11_writeNumber_20 ?_
  refine lv_icmp_ge (tgt := 42) hx hb dX11_writeNumber_21 (by decide) (fun c3 => absurd c3 (by decide +kernel)) (fun c3 => ?_)
  refine lv_aload_n hx hb dX11_writeNumber_24 rfl (lv_at hl 1 rfl) ?_
  refine va_get (D := D) (ci := 11) (v := .ref (r 93)) (C := RX11) (T := TX11) (N := 17) hx hb hg inC11 hown hK hP 0 rfl rfl 10 (by decide) (hg _ wt2_196) (fun _ h9 => h9) rfl dX11_writeNumber_25 ?_
  refine lv_iload_n hx hb dX11_writeNumber_28 rfl (lv_at hl 2 rfl) ?_
  refine lv_iload_n hx hb dX11_writeNumber_29 rfl (lv_at hl 0 rfl) ?_
  refine lv_iadd hx hb dX11_writeNumber_30 ?_
  refine k_top (z := 16) (by decide +kernel) ?_
  refine lv_iload_n hx hb dX11_writeNumber_31 rfl (lv_at hl 3 rfl) ?_
  refine lv_bipush (v := 24) hx hb dX11_writeNumber_32 (by decide) ?_
  refine lv_bipush (v := 8) hx hb dX11_writeNumber_34 (by decide) ?_
  refine lv_iload_n hx hb dX11_writeNumber_36 rfl (lv_at hl 0 rfl) ?_
  refine lv_imul hx hb dX11_writeNumber_37 ?_
  refine k_top (z := 0) (by decide +kernel) ?_
  refine lv_isub hx hb dX11_writeNumber_38 ?_
  refine k_top (z := 24) (by decide +kernel) ?_
  refine lv_ishr hx hb dX11_writeNumber_39 ?_
  refine lv_topi (fun t4 et4 => ?_)
  refine lv_i2b hx hb dX11_writeNumber_40 rfl ?_
  refine lv_topi (fun t6 et6 => ?_)
  refine va_bast hx hb hK hP hD hS 93 1 rfl rfl (k_in (by decide +kernel)) dX11_writeNumber_41 (fun H locs hP hD hS => ?_)
  rw [cl_16] at hP hD
  have hP : va_P D vwCl (xW K r f (va_up a 93 (upd (a 93) 16 (vp_nar .byte t6))) g) H := hP
  have hD : va_D A (xW K r f (va_up a 93 (upd (a 93) 16 (vp_nar .byte t6))) g) := hD
  refine k_gen (P := fun z => va_P D vwCl (xW K r f z g) H ∧ va_D A (xW K r f z g)) (va_up a 93 (upd (a 93) 16 (vp_nar .byte t6))) ⟨hP, hD⟩ (fun a_7 ea_7 hPD => ?_)
  have hP := hPD.1
  have hD := hPD.2
  refine lv_iinc (v := 1) (lv' := [(3, .int 1), (0, .ref (r 0)), (1, .int 16), (2, .int x)]) hx hb dX11_writeNumber_42 hl (k := 0) rfl (by decide +kernel) (by decide) rfl (fun ls hl => ?_)
  refine lv_goto (tgt := 2) hx hb dX11_writeNumber_45 (by decide) ?_
  refine lv_iload_n hx hb dX11_writeNumber_2 rfl (lv_at hl 0 rfl) ?_
  refine lv_iconst (v := 4) hx hb dX11_writeNumber_3 (by decide) ?_
  refine lv_icmp_ge (tgt := 48) hx hb dX11_writeNumber_4 (by decide) (fun c8 => absurd c8 (by decide +kernel)) (fun c8 => ?_)
  refine lv_iload_n hx hb dX11_writeNumber_7 rfl (lv_at hl 2 rfl) ?_
  refine lv_iload_n hx hb dX11_writeNumber_8 rfl (lv_at hl 0 rfl) ?_
  refine lv_iadd hx hb dX11_writeNumber_9 ?_
  refine k_top (z := 17) (by decide +kernel) ?_
  refine lv_if_lt (tgt := 42) hx hb dX11_writeNumber_10 (by decide) (fun c9 => absurd c9 (by decide +kernel)) (fun c9 => ?_)
  refine lv_iload_n hx hb dX11_writeNumber_13 rfl (lv_at hl 2 rfl) ?_
  refine lv_iload_n hx hb dX11_writeNumber_14 rfl (lv_at hl 0 rfl) ?_
  refine lv_iadd hx hb dX11_writeNumber_15 ?_
  refine k_top (z := 17) (by decide +kernel) ?_
  refine lv_aload_n hx hb dX11_writeNumber_16 rfl (lv_at hl 1 rfl) ?_
  refine va_get (D := D) (ci := 11) (v := .ref (r 93)) (C := RX11) (T := TX11) (N := 17) hx hb hg inC11 hown hK hP 0 rfl rfl 10 (by decide) (hg _ wt2_196) (fun _ h9 => h9) rfl dX11_writeNumber_17 ?_
  refine va_alen (v := 400) hx hb hK hP 93 1 rfl rfl rfl dX11_writeNumber_20 ?_
  refine lv_icmp_ge (tgt := 42) hx hb dX11_writeNumber_21 (by decide) (fun c10 => absurd c10 (by decide +kernel)) (fun c10 => ?_)
  refine lv_aload_n hx hb dX11_writeNumber_24 rfl (lv_at hl 1 rfl) ?_
  refine va_get (D := D) (ci := 11) (v := .ref (r 93)) (C := RX11) (T := TX11) (N := 17) hx hb hg inC11 hown hK hP 0 rfl rfl 10 (by decide) (hg _ wt2_196) (fun _ h9 => h9) rfl dX11_writeNumber_25 ?_
  refine lv_iload_n hx hb dX11_writeNumber_28 rfl (lv_at hl 2 rfl) ?_
  refine lv_iload_n hx hb dX11_writeNumber_29 rfl (lv_at hl 0 rfl) ?_
  refine lv_iadd hx hb dX11_writeNumber_30 ?_
  refine k_top (z := 17) (by decide +kernel) ?_
  refine lv_iload_n hx hb dX11_writeNumber_31 rfl (lv_at hl 3 rfl) ?_
  refine lv_bipush (v := 24) hx hb dX11_writeNumber_32 (by decide) ?_
  refine lv_bipush (v := 8) hx hb dX11_writeNumber_34 (by decide) ?_
  refine lv_iload_n hx hb dX11_writeNumber_36 rfl (lv_at hl 0 rfl) ?_
  refine lv_imul hx hb dX11_writeNumber_37 ?_
  refine k_top (z := 8) (by decide +kernel) ?_
  refine lv_isub hx hb dX11_writeNumber_38 ?_
  refine k_top (z := 16) (by decide +kernel) ?_
  refine lv_ishr hx hb dX11_writeNumber_39 ?_
  refine lv_topi (fun t11 et11 => ?_)
  refine lv_i2b hx hb dX11_writeNumber_40 rfl ?_
  refine lv_topi (fun t13 et13 => ?_)
  refine va_bast hx hb hK hP hD hS 93 1 rfl rfl (k_in (by decide +kernel)) dX11_writeNumber_41 (fun H locs hP hD hS => ?_)
  rw [cl_17] at hP hD
  have hP : va_P D vwCl (xW K r f (va_up a_7 93 (upd (a_7 93) 17 (vp_nar .byte t13))) g) H := hP
  have hD : va_D A (xW K r f (va_up a_7 93 (upd (a_7 93) 17 (vp_nar .byte t13))) g) := hD
  refine k_gen (P := fun z => va_P D vwCl (xW K r f z g) H ∧ va_D A (xW K r f z g)) (va_up a_7 93 (upd (a_7 93) 17 (vp_nar .byte t13))) ⟨hP, hD⟩ (fun a_14 ea_14 hPD => ?_)
  have hP := hPD.1
  have hD := hPD.2
  refine lv_iinc (v := 2) (lv' := [(3, .int 2), (0, .ref (r 0)), (1, .int 16), (2, .int x)]) hx hb dX11_writeNumber_42 hl (k := 0) rfl (by decide +kernel) (by decide) rfl (fun ls hl => ?_)
  refine lv_goto (tgt := 2) hx hb dX11_writeNumber_45 (by decide) ?_
  refine lv_iload_n hx hb dX11_writeNumber_2 rfl (lv_at hl 0 rfl) ?_
  refine lv_iconst (v := 4) hx hb dX11_writeNumber_3 (by decide) ?_
  refine lv_icmp_ge (tgt := 48) hx hb dX11_writeNumber_4 (by decide) (fun c15 => absurd c15 (by decide +kernel)) (fun c15 => ?_)
  refine lv_iload_n hx hb dX11_writeNumber_7 rfl (lv_at hl 2 rfl) ?_
  refine lv_iload_n hx hb dX11_writeNumber_8 rfl (lv_at hl 0 rfl) ?_
  refine lv_iadd hx hb dX11_writeNumber_9 ?_
  refine k_top (z := 18) (by decide +kernel) ?_
  refine lv_if_lt (tgt := 42) hx hb dX11_writeNumber_10 (by decide) (fun c16 => absurd c16 (by decide +kernel)) (fun c16 => ?_)
  refine lv_iload_n hx hb dX11_writeNumber_13 rfl (lv_at hl 2 rfl) ?_
  refine lv_iload_n hx hb dX11_writeNumber_14 rfl (lv_at hl 0 rfl) ?_
  refine lv_iadd hx hb dX11_writeNumber_15 ?_
  refine k_top (z := 18) (by decide +kernel) ?_
  refine lv_aload_n hx hb dX11_writeNumber_16 rfl (lv_at hl 1 rfl) ?_
  refine va_get (D := D) (ci := 11) (v := .ref (r 93)) (C := RX11) (T := TX11) (N := 17) hx hb hg inC11 hown hK hP 0 rfl rfl 10 (by decide) (hg _ wt2_196) (fun _ h9 => h9) rfl dX11_writeNumber_17 ?_
  refine va_alen (v := 400) hx hb hK hP 93 1 rfl rfl rfl dX11_writeNumber_20 ?_
  refine lv_icmp_ge (tgt := 42) hx hb dX11_writeNumber_21 (by decide) (fun c17 => absurd c17 (by decide +kernel)) (fun c17 => ?_)
  refine lv_aload_n hx hb dX11_writeNumber_24 rfl (lv_at hl 1 rfl) ?_
  refine va_get (D := D) (ci := 11) (v := .ref (r 93)) (C := RX11) (T := TX11) (N := 17) hx hb hg inC11 hown hK hP 0 rfl rfl 10 (by decide) (hg _ wt2_196) (fun _ h9 => h9) rfl dX11_writeNumber_25 ?_
  refine lv_iload_n hx hb dX11_writeNumber_28 rfl (lv_at hl 2 rfl) ?_
  refine lv_iload_n hx hb dX11_writeNumber_29 rfl (lv_at hl 0 rfl) ?_
  refine lv_iadd hx hb dX11_writeNumber_30 ?_
  refine k_top (z := 18) (by decide +kernel) ?_
  refine lv_iload_n hx hb dX11_writeNumber_31 rfl (lv_at hl 3 rfl) ?_
  refine lv_bipush (v := 24) hx hb dX11_writeNumber_32 (by decide) ?_
  refine lv_bipush (v := 8) hx hb dX11_writeNumber_34 (by decide) ?_
  refine lv_iload_n hx hb dX11_writeNumber_36 rfl (lv_at hl 0 rfl) ?_
  refine lv_imul hx hb dX11_writeNumber_37 ?_
  refine k_top (z := 16) (by decide +kernel) ?_
  refine lv_isub hx hb dX11_writeNumber_38 ?_
  refine k_top (z := 8) (by decide +kernel) ?_
  refine lv_ishr hx hb dX11_writeNumber_39 ?_
  refine lv_topi (fun t18 et18 => ?_)
  refine lv_i2b hx hb dX11_writeNumber_40 rfl ?_
  refine lv_topi (fun t20 et20 => ?_)
  refine va_bast hx hb hK hP hD hS 93 1 rfl rfl (k_in (by decide +kernel)) dX11_writeNumber_41 (fun H locs hP hD hS => ?_)
  rw [cl_18] at hP hD
  have hP : va_P D vwCl (xW K r f (va_up a_14 93 (upd (a_14 93) 18 (vp_nar .byte t20))) g) H := hP
  have hD : va_D A (xW K r f (va_up a_14 93 (upd (a_14 93) 18 (vp_nar .byte t20))) g) := hD
  refine k_gen (P := fun z => va_P D vwCl (xW K r f z g) H ∧ va_D A (xW K r f z g)) (va_up a_14 93 (upd (a_14 93) 18 (vp_nar .byte t20))) ⟨hP, hD⟩ (fun a_21 ea_21 hPD => ?_)
  have hP := hPD.1
  have hD := hPD.2
  refine lv_iinc (v := 3) (lv' := [(3, .int 3), (0, .ref (r 0)), (1, .int 16), (2, .int x)]) hx hb dX11_writeNumber_42 hl (k := 0) rfl (by decide +kernel) (by decide) rfl (fun ls hl => ?_)
  refine lv_goto (tgt := 2) hx hb dX11_writeNumber_45 (by decide) ?_
  refine lv_iload_n hx hb dX11_writeNumber_2 rfl (lv_at hl 0 rfl) ?_
  refine lv_iconst (v := 4) hx hb dX11_writeNumber_3 (by decide) ?_
  refine lv_icmp_ge (tgt := 48) hx hb dX11_writeNumber_4 (by decide) (fun c22 => absurd c22 (by decide +kernel)) (fun c22 => ?_)
  refine lv_iload_n hx hb dX11_writeNumber_7 rfl (lv_at hl 2 rfl) ?_
  refine lv_iload_n hx hb dX11_writeNumber_8 rfl (lv_at hl 0 rfl) ?_
  refine lv_iadd hx hb dX11_writeNumber_9 ?_
  refine k_top (z := 19) (by decide +kernel) ?_
  refine lv_if_lt (tgt := 42) hx hb dX11_writeNumber_10 (by decide) (fun c23 => absurd c23 (by decide +kernel)) (fun c23 => ?_)
  refine lv_iload_n hx hb dX11_writeNumber_13 rfl (lv_at hl 2 rfl) ?_
  refine lv_iload_n hx hb dX11_writeNumber_14 rfl (lv_at hl 0 rfl) ?_
  refine lv_iadd hx hb dX11_writeNumber_15 ?_
  refine k_top (z := 19) (by decide +kernel) ?_
  refine lv_aload_n hx hb dX11_writeNumber_16 rfl (lv_at hl 1 rfl) ?_
  refine va_get (D := D) (ci := 11) (v := .ref (r 93)) (C := RX11) (T := TX11) (N := 17) hx hb hg inC11 hown hK hP 0 rfl rfl 10 (by decide) (hg _ wt2_196) (fun _ h9 => h9) rfl dX11_writeNumber_17 ?_
  refine va_alen (v := 400) hx hb hK hP 93 1 rfl rfl rfl dX11_writeNumber_20 ?_
  refine lv_icmp_ge (tgt := 42) hx hb dX11_writeNumber_21 (by decide) (fun c24 => absurd c24 (by decide +kernel)) (fun c24 => ?_)
  refine lv_aload_n hx hb dX11_writeNumber_24 rfl (lv_at hl 1 rfl) ?_
  refine va_get (D := D) (ci := 11) (v := .ref (r 93)) (C := RX11) (T := TX11) (N := 17) hx hb hg inC11 hown hK hP 0 rfl rfl 10 (by decide) (hg _ wt2_196) (fun _ h9 => h9) rfl dX11_writeNumber_25 ?_
  refine lv_iload_n hx hb dX11_writeNumber_28 rfl (lv_at hl 2 rfl) ?_
  refine lv_iload_n hx hb dX11_writeNumber_29 rfl (lv_at hl 0 rfl) ?_
  refine lv_iadd hx hb dX11_writeNumber_30 ?_
  refine k_top (z := 19) (by decide +kernel) ?_
  refine lv_iload_n hx hb dX11_writeNumber_31 rfl (lv_at hl 3 rfl) ?_
  refine lv_bipush (v := 24) hx hb dX11_writeNumber_32 (by decide) ?_
  refine lv_bipush (v := 8) hx hb dX11_writeNumber_34 (by decide) ?_
  refine lv_iload_n hx hb dX11_writeNumber_36 rfl (lv_at hl 0 rfl) ?_
  refine lv_imul hx hb dX11_writeNumber_37 ?_
  refine k_top (z := 24) (by decide +kernel) ?_
  refine lv_isub hx hb dX11_writeNumber_38 ?_
  refine k_top (z := 0) (by decide +kernel) ?_
  refine lv_ishr hx hb dX11_writeNumber_39 ?_
  refine lv_topi (fun t25 et25 => ?_)
  refine lv_i2b hx hb dX11_writeNumber_40 rfl ?_
  refine lv_topi (fun t27 et27 => ?_)
  refine va_bast hx hb hK hP hD hS 93 1 rfl rfl (k_in (by decide +kernel)) dX11_writeNumber_41 (fun H locs hP hD hS => ?_)
  rw [cl_19] at hP hD
  have hP : va_P D vwCl (xW K r f (va_up a_21 93 (upd (a_21 93) 19 (vp_nar .byte t27))) g) H := hP
  have hD : va_D A (xW K r f (va_up a_21 93 (upd (a_21 93) 19 (vp_nar .byte t27))) g) := hD
  refine k_gen (P := fun z => va_P D vwCl (xW K r f z g) H ∧ va_D A (xW K r f z g)) (va_up a_21 93 (upd (a_21 93) 19 (vp_nar .byte t27))) ⟨hP, hD⟩ (fun a_28 ea_28 hPD => ?_)
  have hP := hPD.1
  have hD := hPD.2
  refine lv_iinc (v := 4) (lv' := [(3, .int 4), (0, .ref (r 0)), (1, .int 16), (2, .int x)]) hx hb dX11_writeNumber_42 hl (k := 0) rfl (by decide +kernel) (by decide) rfl (fun ls hl => ?_)
  refine lv_goto (tgt := 2) hx hb dX11_writeNumber_45 (by decide) ?_
  refine lv_iload_n hx hb dX11_writeNumber_2 rfl (lv_at hl 0 rfl) ?_
  refine lv_iconst (v := 4) hx hb dX11_writeNumber_3 (by decide) ?_
  refine lv_icmp_ge (tgt := 48) hx hb dX11_writeNumber_4 (by decide) (fun c29 => ?_) (fun c29 => absurd (by decide +kernel) c29)
  exact kV_ret hx hb hr hlocks hK hS dX11_writeNumber_48 (f, a_28, g) hP hD h0
set_option maxHeartbeats 4000000 in
set_option maxRecDepth 100000 in
theorem x_feed (l : Launch) {D : va_G} {K : Nat → ClassId} (r : Nat → Nat) (f : Nat → Int32) (a : Nat → Nat → Int32) (g : xG) (h0 : f 12 = 0) (x0 : Int32) (x1 : Int32) (x2 : Int32) (x3 : Int32) (x4 : Int32)  : kI l yX11_feed (Cond.code yX11_feed cX11_feed 6 (some .int) :: kG) (rmD 2 0 0) D (tysK K) [.ref (r 0), .int x0, .int x1, .int x2, .int x3, .int x4] (xW K r f a g) (fun v (u : xS) => v = 20) (fun u => xW K r u.1 u.2.1 u.2.2) 0 0 := by
  refine kI.of (cc := cX11_feed) (maxL := 6) (ret := (some .int)) (by decide) rfl (Nat.le_of_ble_eq_true rfl) ?_
  intro p e s m below meth c A hx hb hr hml hown hts hlocks hnm hK hP hD hS hA ls hl
  have hg : ∀ w ∈ kG, w.before _ s = true := fun w h => hts w (List.mem_cons_of_mem _ h)
  have hown : s.vm.findClass RX11 = some m.cls := hown
  have hl : lv_has ls 6 [(0, .ref (r 0)), (1, .int x0), (2, .int x1), (3, .int x2), (4, .int x3), (5, .int x4)] := hl
  refine lv_aload_n hx hb dX11_feed_0 rfl (lv_at hl 0 rfl) ?_
  refine va_get (D := D) (ci := 11) (v := .int (f 12)) (C := RX11) (T := TX11) (N := 17) hx hb hg inC11 hown hK hP 0 rfl rfl 12 (by decide) (hg _ wt2_198) (fun _ h9 => h9) rfl dX11_feed_1 ?_
  refine k_top (z := 0) h0 ?_
  refine lv_if_lt (tgt := 17) hx hb dX11_feed_4 (by decide) (fun c1 => absurd c1 (by decide +kernel)) (fun c1 => ?_)
  refine lv_aload_n hx hb dX11_feed_7 rfl (lv_at hl 0 rfl) ?_
  refine va_get (D := D) (ci := 11) (v := .int (f 12)) (C := RX11) (T := TX11) (N := 17) hx hb hg inC11 hown hK hP 0 rfl rfl 12 (by decide) (hg _ wt2_198) (fun _ h9 => h9) rfl dX11_feed_8 ?_
  refine k_top (z := 0) h0 ?_
  refine lv_sipush (v := 380) hx hb dX11_feed_11 (by decide) ?_
  refine lv_icmp_le (tgt := 19) hx hb dX11_feed_14 (by decide) (fun c2 => ?_) (fun c2 => absurd (by decide +kernel) c2)
  refine lv_aload_n hx hb dX11_feed_19 rfl (lv_at hl 0 rfl) ?_
  refine lv_aload_n hx hb dX11_feed_20 rfl (lv_at hl 0 rfl) ?_
  refine va_get (D := D) (ci := 11) (v := .int (f 12)) (C := RX11) (T := TX11) (N := 17) hx hb hg inC11 hown hK hP 0 rfl rfl 12 (by decide) (hg _ wt2_198) (fun _ h9 => h9) rfl dX11_feed_21 ?_
  refine k_top (z := 0) h0 ?_
  refine lv_iload_n hx hb dX11_feed_24 rfl (lv_at hl 1 rfl) ?_
  refine kV.callW (As := [.int 0, .int x0]) (rest := []) ⟨hx, hb, hml, hown, hg⟩ (x_writeNumber0 l r f a g h0 x0) (cwV 2 hg (kgV wt3_125 wt3_127 wp1_6 wt1_1 wt3_128) rfl rfl rfl (by decide +kernel) ⟨by decide, by decide⟩) hK hP hD hS hA 0 11 rfl rfl rfl hl.1 rfl (Nat.le_of_ble_eq_true rfl) dX11_feed_25 ⟨by decide, by decide⟩ (fun u4 H locs hw3 hP hD hS => ?_)
  obtain ⟨f6, a7, g8⟩ := u4
  have hP : va_P D vwCl (xW K r f6 a7 g8) H := hP
  have hD : va_D A (xW K r f6 a7 g8) := hD
  refine lv_aload_n hx hb dX11_feed_28 rfl (lv_at hl 0 rfl) ?_
  refine lv_aload_n hx hb dX11_feed_29 rfl (lv_at hl 0 rfl) ?_
  refine va_get (D := D) (ci := 11) (v := .int (f6 12)) (C := RX11) (T := TX11) (N := 17) hx hb hg inC11 hown hK hP 0 rfl rfl 12 (by decide) (hg _ wt2_198) (fun _ h9 => h9) rfl dX11_feed_30 ?_
  refine k_top (z := 0) hw3 ?_
  refine lv_iconst (v := 4) hx hb dX11_feed_33 (by decide) ?_
  refine lv_iadd hx hb dX11_feed_34 ?_
  refine k_top (z := 4) (by decide +kernel) ?_
  refine lv_iload_n hx hb dX11_feed_35 rfl (lv_at hl 2 rfl) ?_
  refine kV.callW (As := [.int 4, .int x1]) (rest := []) ⟨hx, hb, hml, hown, hg⟩ (x_writeNumber4 l r f6 a7 g8 hw3 x1) (cwV 2 hg (kgV wt3_125 wt3_127 wp1_6 wt1_1 wt3_128) rfl rfl rfl (by decide +kernel) ⟨by decide, by decide⟩) hK hP hD hS hA 0 11 rfl rfl rfl hl.1 rfl (Nat.le_of_ble_eq_true rfl) dX11_feed_36 ⟨by decide, by decide⟩ (fun u10 H locs hw9 hP hD hS => ?_)
  obtain ⟨f12, a13, g14⟩ := u10
  have hP : va_P D vwCl (xW K r f12 a13 g14) H := hP
  have hD : va_D A (xW K r f12 a13 g14) := hD
  refine lv_aload_n hx hb dX11_feed_39 rfl (lv_at hl 0 rfl) ?_
  refine lv_aload_n hx hb dX11_feed_40 rfl (lv_at hl 0 rfl) ?_
  refine va_get (D := D) (ci := 11) (v := .int (f12 12)) (C := RX11) (T := TX11) (N := 17) hx hb hg inC11 hown hK hP 0 rfl rfl 12 (by decide) (hg _ wt2_198) (fun _ h9 => h9) rfl dX11_feed_41 ?_
  refine k_top (z := 0) hw9 ?_
  refine lv_bipush (v := 8) hx hb dX11_feed_44 (by decide) ?_
  refine lv_iadd hx hb dX11_feed_46 ?_
  refine k_top (z := 8) (by decide +kernel) ?_
  refine lv_iload_n hx hb dX11_feed_47 rfl (lv_at hl 3 rfl) ?_
  refine kV.callW (As := [.int 8, .int x2]) (rest := []) ⟨hx, hb, hml, hown, hg⟩ (x_writeNumber8 l r f12 a13 g14 hw9 x2) (cwV 2 hg (kgV wt3_125 wt3_127 wp1_6 wt1_1 wt3_128) rfl rfl rfl (by decide +kernel) ⟨by decide, by decide⟩) hK hP hD hS hA 0 11 rfl rfl rfl hl.1 rfl (Nat.le_of_ble_eq_true rfl) dX11_feed_48 ⟨by decide, by decide⟩ (fun u16 H locs hw15 hP hD hS => ?_)
  obtain ⟨f18, a19, g20⟩ := u16
  have hP : va_P D vwCl (xW K r f18 a19 g20) H := hP
  have hD : va_D A (xW K r f18 a19 g20) := hD
  refine lv_aload_n hx hb dX11_feed_51 rfl (lv_at hl 0 rfl) ?_
  refine lv_aload_n hx hb dX11_feed_52 rfl (lv_at hl 0 rfl) ?_
  refine va_get (D := D) (ci := 11) (v := .int (f18 12)) (C := RX11) (T := TX11) (N := 17) hx hb hg inC11 hown hK hP 0 rfl rfl 12 (by decide) (hg _ wt2_198) (fun _ h9 => h9) rfl dX11_feed_53 ?_
  refine k_top (z := 0) hw15 ?_
  refine lv_bipush (v := 12) hx hb dX11_feed_56 (by decide) ?_
  refine lv_iadd hx hb dX11_feed_58 ?_
  refine k_top (z := 12) (by decide +kernel) ?_
  refine lv_iload hx hb dX11_feed_59 (lv_at hl 4 rfl) ?_
  refine kV.callW (As := [.int 12, .int x3]) (rest := []) ⟨hx, hb, hml, hown, hg⟩ (x_writeNumber12 l r f18 a19 g20 hw15 x3) (cwV 2 hg (kgV wt3_125 wt3_127 wp1_6 wt1_1 wt3_128) rfl rfl rfl (by decide +kernel) ⟨by decide, by decide⟩) hK hP hD hS hA 0 11 rfl rfl rfl hl.1 rfl (Nat.le_of_ble_eq_true rfl) dX11_feed_61 ⟨by decide, by decide⟩ (fun u22 H locs hw21 hP hD hS => ?_)
  obtain ⟨f24, a25, g26⟩ := u22
  have hP : va_P D vwCl (xW K r f24 a25 g26) H := hP
  have hD : va_D A (xW K r f24 a25 g26) := hD
  refine lv_aload_n hx hb dX11_feed_64 rfl (lv_at hl 0 rfl) ?_
  refine lv_aload_n hx hb dX11_feed_65 rfl (lv_at hl 0 rfl) ?_
  refine va_get (D := D) (ci := 11) (v := .int (f24 12)) (C := RX11) (T := TX11) (N := 17) hx hb hg inC11 hown hK hP 0 rfl rfl 12 (by decide) (hg _ wt2_198) (fun _ h9 => h9) rfl dX11_feed_66 ?_
  refine k_top (z := 0) hw21 ?_
  refine lv_bipush (v := 16) hx hb dX11_feed_69 (by decide) ?_
  refine lv_iadd hx hb dX11_feed_71 ?_
  refine k_top (z := 16) (by decide +kernel) ?_
  refine lv_iload hx hb dX11_feed_72 (lv_at hl 5 rfl) ?_
  refine kV.callW (As := [.int 16, .int x4]) (rest := []) ⟨hx, hb, hml, hown, hg⟩ (x_writeNumber16 l r f24 a25 g26 hw21 x4) (cwV 2 hg (kgV wt3_125 wt3_127 wp1_6 wt1_1 wt3_128) rfl rfl rfl (by decide +kernel) ⟨by decide, by decide⟩) hK hP hD hS hA 0 11 rfl rfl rfl hl.1 rfl (Nat.le_of_ble_eq_true rfl) dX11_feed_74 ⟨by decide, by decide⟩ (fun u28 H locs hw27 hP hD hS => ?_)
  obtain ⟨f30, a31, g32⟩ := u28
  have hP : va_P D vwCl (xW K r f30 a31 g32) H := hP
  have hD : va_D A (xW K r f30 a31 g32) := hD
  refine lv_aload_n hx hb dX11_feed_77 rfl (lv_at hl 0 rfl) ?_
  refine lv_dup hx hb dX11_feed_78 rfl ?_
  refine va_get (D := D) (ci := 11) (v := .int (f30 12)) (C := RX11) (T := TX11) (N := 17) hx hb hg inC11 hown hK hP 0 rfl rfl 12 (by decide) (hg _ wt2_198) (fun _ h9 => h9) rfl dX11_feed_79 ?_
  refine k_top (z := 0) hw27 ?_
  refine lv_bipush (v := 20) hx hb dX11_feed_82 (by decide) ?_
  refine lv_iadd hx hb dX11_feed_84 ?_
  refine k_top (z := 20) (by decide +kernel) ?_
  refine va_put (D := D) (ci := 11) (v := .int 20) (ty := .int) (C := RX11) (T := TX11) (N := 17) hx hb hg inC11 tyX11 tyX11_ok nmX11 hown hK hP hD hS 0 rfl rfl 12 (by decide) (hg _ wt2_198) (fun _ h9 => h9) rfl (by decide +kernel) rfl rfl (Nat.le_of_ble_eq_true rfl) dX11_feed_85 (fun H locs hP hD hS => ?_)
  have hP : va_P D vwCl (xW K r (upd f30 12 20) a31 g32) H := hP
  have hD : va_D A (xW K r (upd f30 12 20) a31 g32) := hD
  refine k_gen (P := fun z => va_P D vwCl (xW K r z a31 g32) H ∧ va_D A (xW K r z a31 g32)) (upd f30 12 20) ⟨hP, hD⟩ (fun f_33 ef_33 hPD => ?_)
  have hP := hPD.1
  have hD := hPD.2
  refine lv_aload_n hx hb dX11_feed_88 rfl (lv_at hl 0 rfl) ?_
  refine va_get (D := D) (ci := 11) (v := .int (f_33 12)) (C := RX11) (T := TX11) (N := 17) hx hb hg inC11 hown hK hP 0 rfl rfl 12 (by decide) (hg _ wt2_198) (fun _ h9 => h9) rfl dX11_feed_89 ?_
  refine k_top (z := 20) (show f_33 12 = 20 from by rw [← ef_33]; rfl) ?_
  exact kI_ret (v := 20) hx hb hr hlocks rfl hK hS dX11_feed_92 (f_33, a31, g32) hP hD rfl
set_option maxHeartbeats 4000000 in
set_option maxRecDepth 100000 in
theorem x_keep (l : Launch) {D : va_G} {K : Nat → ClassId} (r : Nat → Nat) (f : Nat → Int32) (a : Nat → Nat → Int32) (g : xG) (h0 : f 32 = 0) (h1 : f 38 = 0) (h2 : f 705 = 0) (h3 : f 704 = 0)   : kV l yX2_keep (Cond.code yX2_keep cX2_keep 4 none :: kG) (rmD 2 0 0) D (tysK K) [.ref (r 22), .int 3, .ref (r 1)] (xW K r f a g) (fun (u : xS) => u.1 32 = 0 ∧ u.1 38 = 0) (fun u => xW K r u.1 u.2.1 u.2.2) 0 0 := by
  refine kV.of (cc := cX2_keep) (maxL := 4) (ret := none) (by decide) rfl (Nat.le_of_ble_eq_true rfl) ?_
  intro p e s m below meth c A hx hb hr hml hown hts hlocks hnm hK hP hD hS hA ls hl
  have hg : ∀ w ∈ kG, w.before _ s = true := fun w h => hts w (List.mem_cons_of_mem _ h)
  have hown : s.vm.findClass RX2 = some m.cls := hown
  have hl : lv_has ls 4 [(0, .ref (r 22)), (1, .int 3), (2, .ref (r 1))] := hl
  refine lv_aload_n hx hb dX2_keep_0 rfl (lv_at hl 0 rfl) ?_
  refine va_get (D := D) (ci := 2) (v := .int (f 705)) (C := RX2) (T := TX2) (N := 3) hx hb hg inC2 hown hK hP 22 rfl rfl 1 (by decide) (hg _ wt1_207) (fun _ h9 => h9) rfl dX2_keep_1 ?_
  refine k_top (z := 0) h2 ?_
  refine lv_if_lt (tgt := 16) hx hb dX2_keep_4 (by decide) (fun c1 => absurd c1 (by decide +kernel)) (fun c1 => ?_)
  refine lv_aload_n hx hb dX2_keep_7 rfl (lv_at hl 0 rfl) ?_
  refine va_get (D := D) (ci := 2) (v := .int (f 705)) (C := RX2) (T := TX2) (N := 3) hx hb hg inC2 hown hK hP 22 rfl rfl 1 (by decide) (hg _ wt1_207) (fun _ h9 => h9) rfl dX2_keep_8 ?_
  refine k_top (z := 0) h2 ?_
  refine lv_bipush (v := 16) hx hb dX2_keep_11 (by decide) ?_
  refine lv_icmp_lt (tgt := 17) hx hb dX2_keep_13 (by decide) (fun c2 => ?_) (fun c2 => absurd (by decide +kernel) c2)
  refine lv_aload_n hx hb dX2_keep_17 rfl (lv_at hl 0 rfl) ?_
  refine va_get (D := D) (ci := 2) (v := .int (f 705)) (C := RX2) (T := TX2) (N := 3) hx hb hg inC2 hown hK hP 22 rfl rfl 1 (by decide) (hg _ wt1_207) (fun _ h9 => h9) rfl dX2_keep_18 ?_
  refine k_top (z := 0) h2 ?_
  refine lv_bipush (v := 24) hx hb dX2_keep_21 (by decide) ?_
  refine lv_imul hx hb dX2_keep_23 ?_
  refine k_top (z := 0) (by decide +kernel) ?_
  refine lv_istore_n (lv' := [(3, .int 0), (0, .ref (r 22)), (1, .int 3), (2, .ref (r 1))]) hx hb dX2_keep_24 rfl hl (by decide) rfl (fun ls hl => ?_)
  refine lv_aload_n hx hb dX2_keep_25 rfl (lv_at hl 1 rfl) ?_
  refine va_get (D := D) (ci := 2) (v := .ref (r 23)) (C := RX2) (T := TX2) (N := 3) hx hb hg inC2 hown hK hP 22 rfl rfl 2 (by decide) (hg _ wt1_208) (fun _ h9 => h9) rfl dX2_keep_26 ?_
  refine lv_iload_n hx hb dX2_keep_29 rfl (lv_at hl 0 rfl) ?_
  refine lv_iload_n hx hb dX2_keep_30 rfl (lv_at hl 2 rfl) ?_
  refine va_iast hx hb hK hP hD hS 23 0 rfl rfl (k_in (by decide +kernel)) dX2_keep_31 (fun H locs hP hD hS => ?_)
  rw [cl_0] at hP hD
  have hP : va_P D vwCl (xW K r f (va_up a 23 (upd (a 23) 0 3)) g) H := hP
  have hD : va_D A (xW K r f (va_up a 23 (upd (a 23) 0 3)) g) := hD
  refine k_gen (P := fun z => va_P D vwCl (xW K r f z g) H ∧ va_D A (xW K r f z g)) (va_up a 23 (upd (a 23) 0 3)) ⟨hP, hD⟩ (fun a_3 ea_3 hPD => ?_)
  have hP := hPD.1
  have hD := hPD.2
  refine lv_aload_n hx hb dX2_keep_32 rfl (lv_at hl 1 rfl) ?_
  refine va_get (D := D) (ci := 2) (v := .ref (r 23)) (C := RX2) (T := TX2) (N := 3) hx hb hg inC2 hown hK hP 22 rfl rfl 2 (by decide) (hg _ wt1_208) (fun _ h9 => h9) rfl dX2_keep_33 ?_
  refine lv_iload_n hx hb dX2_keep_36 rfl (lv_at hl 0 rfl) ?_
  refine lv_iconst (v := 1) hx hb dX2_keep_37 (by decide) ?_
  refine lv_iadd hx hb dX2_keep_38 ?_
  refine k_top (z := 1) (by decide +kernel) ?_
  refine lv_aload_n hx hb dX2_keep_39 rfl (lv_at hl 3 rfl) ?_
  refine va_get (D := D) (ci := 7) (v := .ref (r 11)) (C := RX7) (T := TX7) (N := 20) hx hb hg inC7 hown hK hP 1 rfl rfl 11 (by decide) (hg _ wt1_130) (fun _ h9 => h9) rfl dX2_keep_40 ?_
  refine lv_iconst (v := 0) hx hb dX2_keep_43 (by decide) ?_
  refine va_iald hx hb hK hP 11 0 rfl rfl (k_in (by decide +kernel)) dX2_keep_44 ?_
  refine lv_topi (fun t4 et4 => ?_)
  rw [cl_0] at et4
  refine va_iast hx hb hK hP hD hS 23 0 rfl rfl (k_in (by decide +kernel)) dX2_keep_45 (fun H locs hP hD hS => ?_)
  rw [cl_1] at hP hD
  have hP : va_P D vwCl (xW K r f (va_up a_3 23 (upd (a_3 23) 1 t4)) g) H := hP
  have hD : va_D A (xW K r f (va_up a_3 23 (upd (a_3 23) 1 t4)) g) := hD
  refine k_gen (P := fun z => va_P D vwCl (xW K r f z g) H ∧ va_D A (xW K r f z g)) (va_up a_3 23 (upd (a_3 23) 1 t4)) ⟨hP, hD⟩ (fun a_5 ea_5 hPD => ?_)
  have hP := hPD.1
  have hD := hPD.2
  refine lv_aload_n hx hb dX2_keep_46 rfl (lv_at hl 3 rfl) ?_
  refine va_get (D := D) (ci := 7) (v := .ref (r 6)) (C := RX7) (T := TX7) (N := 20) hx hb hg inC7 hown hK hP 1 rfl rfl 5 (by decide) (hg _ wt1_101) (fun _ h9 => h9) rfl dX2_keep_47 ?_
  refine lv_iconst (v := 0) hx hb dX2_keep_50 (by decide) ?_
  refine lv_aload_n hx hb dX2_keep_51 rfl (lv_at hl 1 rfl) ?_
  refine va_get (D := D) (ci := 2) (v := .ref (r 23)) (C := RX2) (T := TX2) (N := 3) hx hb hg inC2 hown hK hP 22 rfl rfl 2 (by decide) (hg _ wt1_208) (fun _ h9 => h9) rfl dX2_keep_52 ?_
  refine lv_iload_n hx hb dX2_keep_55 rfl (lv_at hl 0 rfl) ?_
  refine lv_iconst (v := 2) hx hb dX2_keep_56 (by decide) ?_
  refine lv_iadd hx hb dX2_keep_57 ?_
  refine k_top (z := 2) (by decide +kernel) ?_
  refine lv_bipush (v := 10) hx hb dX2_keep_58 (by decide) ?_
  refine va_copyi (ty := .int) hx hb (hml.trans hl.1.symm) hown (hg _ wt4_88) (hg _ wt4_70) (hg _ wt4_69) (hg _ wt1_20) hK hP hD hS 6 23 0 0 rfl rfl rfl rfl rfl (by decide) (by decide) (by decide) (by decide +kernel) (by decide +kernel) (fun i _ => rfl) (by decide) (Nat.le_of_ble_eq_true rfl) dX2_keep_60 (fun H locs hP hD hS => ?_)
  rw [cl_0] at hP hD
  rw [cl_2] at hP hD
  rw [cl_10] at hP hD
  have hP : va_P D vwCl (xW K r f (va_up a_5 23 (va_cpy (a_5 6) (a_5 23) 0 2 10)) g) H := hP
  have hD : va_D A (xW K r f (va_up a_5 23 (va_cpy (a_5 6) (a_5 23) 0 2 10)) g) := hD
  refine k_gen (P := fun z => va_P D vwCl (xW K r f z g) H ∧ va_D A (xW K r f z g)) (va_up a_5 23 (va_cpy (a_5 6) (a_5 23) 0 2 10)) ⟨hP, hD⟩ (fun a_6 ea_6 hPD => ?_)
  have hP := hPD.1
  have hD := hPD.2
  refine lv_aload_n hx hb dX2_keep_63 rfl (lv_at hl 3 rfl) ?_
  refine va_get (D := D) (ci := 7) (v := .ref (r 9)) (C := RX7) (T := TX7) (N := 20) hx hb hg inC7 hown hK hP 1 rfl rfl 9 (by decide) (hg _ wt1_118) (fun _ h9 => h9) rfl dX2_keep_64 ?_
  refine lv_iconst (v := 0) hx hb dX2_keep_67 (by decide) ?_
  refine lv_aload_n hx hb dX2_keep_68 rfl (lv_at hl 1 rfl) ?_
  refine va_get (D := D) (ci := 2) (v := .ref (r 23)) (C := RX2) (T := TX2) (N := 3) hx hb hg inC2 hown hK hP 22 rfl rfl 2 (by decide) (hg _ wt1_208) (fun _ h9 => h9) rfl dX2_keep_69 ?_
  refine lv_iload_n hx hb dX2_keep_72 rfl (lv_at hl 0 rfl) ?_
  refine lv_bipush (v := 12) hx hb dX2_keep_73 (by decide) ?_
  refine lv_iadd hx hb dX2_keep_75 ?_
  refine k_top (z := 12) (by decide +kernel) ?_
  refine lv_bipush (v := 6) hx hb dX2_keep_76 (by decide) ?_
  refine va_copyi (ty := .int) hx hb (hml.trans hl.1.symm) hown (hg _ wt4_88) (hg _ wt4_70) (hg _ wt4_69) (hg _ wt1_20) hK hP hD hS 9 23 0 0 rfl rfl rfl rfl rfl (by decide) (by decide) (by decide) (by decide +kernel) (by decide +kernel) (fun i _ => rfl) (by decide) (Nat.le_of_ble_eq_true rfl) dX2_keep_78 (fun H locs hP hD hS => ?_)
  rw [cl_0] at hP hD
  rw [cl_6] at hP hD
  rw [cl_12] at hP hD
  have hP : va_P D vwCl (xW K r f (va_up a_6 23 (va_cpy (a_6 9) (a_6 23) 0 12 6)) g) H := hP
  have hD : va_D A (xW K r f (va_up a_6 23 (va_cpy (a_6 9) (a_6 23) 0 12 6)) g) := hD
  refine k_gen (P := fun z => va_P D vwCl (xW K r f z g) H ∧ va_D A (xW K r f z g)) (va_up a_6 23 (va_cpy (a_6 9) (a_6 23) 0 12 6)) ⟨hP, hD⟩ (fun a_7 ea_7 hPD => ?_)
  have hP := hPD.1
  have hD := hPD.2
  refine lv_aload_n hx hb dX2_keep_81 rfl (lv_at hl 3 rfl) ?_
  refine va_get (D := D) (ci := 7) (v := .ref (r 10)) (C := RX7) (T := TX7) (N := 20) hx hb hg inC7 hown hK hP 1 rfl rfl 10 (by decide) (hg _ wt1_124) (fun _ h9 => h9) rfl dX2_keep_82 ?_
  refine lv_iconst (v := 0) hx hb dX2_keep_85 (by decide) ?_
  refine lv_aload_n hx hb dX2_keep_86 rfl (lv_at hl 1 rfl) ?_
  refine va_get (D := D) (ci := 2) (v := .ref (r 23)) (C := RX2) (T := TX2) (N := 3) hx hb hg inC2 hown hK hP 22 rfl rfl 2 (by decide) (hg _ wt1_208) (fun _ h9 => h9) rfl dX2_keep_87 ?_
  refine lv_iload_n hx hb dX2_keep_90 rfl (lv_at hl 0 rfl) ?_
  refine lv_bipush (v := 18) hx hb dX2_keep_91 (by decide) ?_
  refine lv_iadd hx hb dX2_keep_93 ?_
  refine k_top (z := 18) (by decide +kernel) ?_
  refine lv_bipush (v := 6) hx hb dX2_keep_94 (by decide) ?_
  refine va_copyi (ty := .int) hx hb (hml.trans hl.1.symm) hown (hg _ wt4_88) (hg _ wt4_70) (hg _ wt4_69) (hg _ wt1_20) hK hP hD hS 10 23 0 0 rfl rfl rfl rfl rfl (by decide) (by decide) (by decide) (by decide +kernel) (by decide +kernel) (fun i _ => rfl) (by decide) (Nat.le_of_ble_eq_true rfl) dX2_keep_96 (fun H locs hP hD hS => ?_)
  rw [cl_0] at hP hD
  rw [cl_6] at hP hD
  rw [cl_18] at hP hD
  have hP : va_P D vwCl (xW K r f (va_up a_7 23 (va_cpy (a_7 10) (a_7 23) 0 18 6)) g) H := hP
  have hD : va_D A (xW K r f (va_up a_7 23 (va_cpy (a_7 10) (a_7 23) 0 18 6)) g) := hD
  refine k_gen (P := fun z => va_P D vwCl (xW K r f z g) H ∧ va_D A (xW K r f z g)) (va_up a_7 23 (va_cpy (a_7 10) (a_7 23) 0 18 6)) ⟨hP, hD⟩ (fun a_8 ea_8 hPD => ?_)
  have hP := hPD.1
  have hD := hPD.2
  refine lv_aload_n hx hb dX2_keep_99 rfl (lv_at hl 1 rfl) ?_
  refine lv_aload_n hx hb dX2_keep_100 rfl (lv_at hl 1 rfl) ?_
  refine va_get (D := D) (ci := 2) (v := .int (f 705)) (C := RX2) (T := TX2) (N := 3) hx hb hg inC2 hown hK hP 22 rfl rfl 1 (by decide) (hg _ wt1_207) (fun _ h9 => h9) rfl dX2_keep_101 ?_
  refine k_top (z := 0) h2 ?_
  refine lv_iconst (v := 1) hx hb dX2_keep_104 (by decide) ?_
  refine lv_iadd hx hb dX2_keep_105 ?_
  refine k_top (z := 1) (by decide +kernel) ?_
  refine lv_bipush (v := 16) hx hb dX2_keep_106 (by decide) ?_
  refine lv_irem hx hb dX2_keep_108 (by decide +kernel) ?_
  refine k_top (z := 1) (by decide +kernel) ?_
  refine va_put (D := D) (ci := 2) (v := .int 1) (ty := .int) (C := RX2) (T := TX2) (N := 3) hx hb hg inC2 tyX2 tyX2_ok nmX2 hown hK hP hD hS 22 rfl rfl 1 (by decide) (hg _ wt1_207) (fun _ h9 => h9) rfl (by decide +kernel) rfl rfl (Nat.le_of_ble_eq_true rfl) dX2_keep_109 (fun H locs hP hD hS => ?_)
  have hP : va_P D vwCl (xW K r (upd f 705 1) a_8 g) H := hP
  have hD : va_D A (xW K r (upd f 705 1) a_8 g) := hD
  refine k_gen (P := fun z => va_P D vwCl (xW K r z a_8 g) H ∧ va_D A (xW K r z a_8 g)) (upd f 705 1) ⟨hP, hD⟩ (fun f_9 ef_9 hPD => ?_)
  have hP := hPD.1
  have hD := hPD.2
  refine lv_aload_n hx hb dX2_keep_112 rfl (lv_at hl 1 rfl) ?_
  refine lv_bipush (v := 16) hx hb dX2_keep_113 (by decide) ?_
  refine lv_aload_n hx hb dX2_keep_115 rfl (lv_at hl 1 rfl) ?_
  refine va_get (D := D) (ci := 2) (v := .int (f_9 704)) (C := RX2) (T := TX2) (N := 3) hx hb hg inC2 hown hK hP 22 rfl rfl 0 (by decide) (hg _ wt1_205) (fun _ h9 => h9) rfl dX2_keep_116 ?_
  refine k_top (z := 0) ((show f_9 704 = f 704 from by rw [← ef_9]; rfl).trans h3) ?_
  refine lv_iconst (v := 1) hx hb dX2_keep_119 (by decide) ?_
  refine lv_iadd hx hb dX2_keep_120 ?_
  refine k_top (z := 1) (by decide +kernel) ?_
  refine va_mmin hx hb (hml.trans hl.1.symm) hown (hg _ wt4_121) (hg _ wt3_52) (hg _ wt1_9) (hg _ wt3_53) (by decide) (Nat.le_of_ble_eq_true rfl) (by decide) (by decide) dX2_keep_121 ?_
  refine k_top (z := 1) (by decide +kernel) ?_
  refine va_put (D := D) (ci := 2) (v := .int 1) (ty := .int) (C := RX2) (T := TX2) (N := 3) hx hb hg inC2 tyX2 tyX2_ok nmX2 hown hK hP hD hS 22 rfl rfl 0 (by decide) (hg _ wt1_205) (fun _ h9 => h9) rfl (by decide +kernel) rfl rfl (Nat.le_of_ble_eq_true rfl) dX2_keep_124 (fun H locs hP hD hS => ?_)
  have hP : va_P D vwCl (xW K r (upd f_9 704 1) a_8 g) H := hP
  have hD : va_D A (xW K r (upd f_9 704 1) a_8 g) := hD
  refine k_gen (P := fun z => va_P D vwCl (xW K r z a_8 g) H ∧ va_D A (xW K r z a_8 g)) (upd f_9 704 1) ⟨hP, hD⟩ (fun f_10 ef_10 hPD => ?_)
  have hP := hPD.1
  have hD := hPD.2
  exact kV_ret hx hb hr hlocks hK hS dX2_keep_127 (f_10, a_8, g) hP hD ⟨((show f_10 32 = f_9 32 from by rw [← ef_10]; rfl).trans ((show f_9 32 = f 32 from by rw [← ef_9]; rfl).trans h0)), ((show f_10 38 = f_9 38 from by rw [← ef_10]; rfl).trans ((show f_9 38 = f 38 from by rw [← ef_9]; rfl).trans h1))⟩
set_option maxHeartbeats 4000000 in
set_option maxRecDepth 100000 in
theorem x_workOneTick_now (l : Launch) {D : va_G} {K : Nat → ClassId} (r : Nat → Nat) (f : Nat → Int32) (a : Nat → Nat → Int32) (g : xG) (h0 : f 32 = 0) (h1 : f 38 = 0)   : kI l yX7_workOneTick (Cond.code yX7_workOneTick cX7_workOneTick 4 (some .int) :: kG) (rmD 2 0 0) D (tysK K) [.ref (r 1)] (xW K r f a g) (fun v (u : xS) => v = 0 ∧ u.1 32 = 0 ∧ u.1 38 = 0) (fun u => xW K r u.1 u.2.1 u.2.2) 0 0 := by
  refine kI.of (cc := cX7_workOneTick) (maxL := 4) (ret := (some .int)) (by decide) rfl (Nat.le_of_ble_eq_true rfl) ?_
  intro p e s m below meth c A hx hb hr hml hown hts hlocks hnm hK hP hD hS hA ls hl
  have hg : ∀ w ∈ kG, w.before _ s = true := fun w h => hts w (List.mem_cons_of_mem _ h)
  have hown : s.vm.findClass RX7 = some m.cls := hown
  have hl : lv_has ls 4 [(0, .ref (r 1))] := hl
  refine lv_iconst (v := 0) hx hb dX7_workOneTick_0 (by decide) ?_
  refine lv_istore_n (lv' := [(1, .int 0), (0, .ref (r 1))]) hx hb dX7_workOneTick_1 rfl hl (by decide) rfl (fun ls hl => ?_)
  refine lv_iload_n hx hb dX7_workOneTick_2 rfl (lv_at hl 0 rfl) ?_
  refine lv_aload_n hx hb dX7_workOneTick_3 rfl (lv_at hl 1 rfl) ?_
  refine va_get (D := D) (ci := 7) (v := .int (f 38)) (C := RX7) (T := TX7) (N := 20) hx hb hg inC7 hown hK hP 1 rfl rfl 6 (by decide) (hg _ wt1_104) (fun _ h9 => h9) rfl dX7_workOneTick_4 ?_
  refine k_top (z := 0) h1 ?_
  refine lv_icmp_ge (tgt := 77) hx hb dX7_workOneTick_7 (by decide) (fun c1 => ?_) (fun c1 => absurd (by decide +kernel) c1)
  refine lv_aload_n hx hb dX7_workOneTick_77 rfl (lv_at hl 1 rfl) ?_
  refine kI.callW (As := []) (rest := []) ⟨hx, hb, hml, hown, hg⟩ (x_upMask_now l r f a g h0 ) (cwV 0 hg (kgV wt3_43 wt3_44 wt3_45 wt1_2 wt3_46) rfl rfl rfl (by decide +kernel) ⟨by decide, by decide⟩) hK hP hD hS hA 1 7 rfl rfl rfl hl.1 rfl (Nat.le_of_ble_eq_true rfl) dX7_workOneTick_78 ⟨by decide, by decide⟩ (fun v4 u3 H locs hw2 hP hD hS => ?_)
  have hP : va_P D vwCl (xW K r f a g) H := hP
  have hD : va_D A (xW K r f a g) := hD
  refine k_top (z := 0) (hw2) ?_
  refine lv_istore_n (lv' := [(1, .int 0), (0, .ref (r 1))]) hx hb dX7_workOneTick_81 rfl hl (by decide) rfl (fun ls hl => ?_)
  refine lv_iconst (v := 0) hx hb dX7_workOneTick_82 (by decide) ?_
  refine lv_istore_n (lv' := [(2, .int 0), (1, .int 0), (0, .ref (r 1))]) hx hb dX7_workOneTick_83 rfl hl (by decide) rfl (fun ls hl => ?_)
  refine lv_iload_n hx hb dX7_workOneTick_84 rfl (lv_at hl 0 rfl) ?_
  refine lv_aload_n hx hb dX7_workOneTick_85 rfl (lv_at hl 2 rfl) ?_
  refine va_get (D := D) (ci := 7) (v := .int (f 38)) (C := RX7) (T := TX7) (N := 20) hx hb hg inC7 hown hK hP 1 rfl rfl 6 (by decide) (hg _ wt1_104) (fun _ h9 => h9) rfl dX7_workOneTick_86 ?_
  refine k_top (z := 0) h1 ?_
  refine lv_icmp_ge (tgt := 193) hx hb dX7_workOneTick_89 (by decide) (fun c5 => ?_) (fun c5 => absurd (by decide +kernel) c5)
  refine lv_iconst (v := 0) hx hb dX7_workOneTick_193 (by decide) ?_
  refine lv_istore_n (lv' := [(2, .int 0), (1, .int 0), (0, .ref (r 1))]) hx hb dX7_workOneTick_194 rfl hl (by decide) rfl (fun ls hl => ?_)
  refine lv_iload_n hx hb dX7_workOneTick_195 rfl (lv_at hl 0 rfl) ?_
  refine lv_aload_n hx hb dX7_workOneTick_196 rfl (lv_at hl 2 rfl) ?_
  refine va_get (D := D) (ci := 7) (v := .int (f 38)) (C := RX7) (T := TX7) (N := 20) hx hb hg inC7 hown hK hP 1 rfl rfl 6 (by decide) (hg _ wt1_104) (fun _ h9 => h9) rfl dX7_workOneTick_197 ?_
  refine k_top (z := 0) h1 ?_
  refine lv_icmp_ge (tgt := 249) hx hb dX7_workOneTick_200 (by decide) (fun c6 => ?_) (fun c6 => absurd (by decide +kernel) c6)
  refine lv_aload_n hx hb dX7_workOneTick_249 rfl (lv_at hl 2 rfl) ?_
  refine va_get (D := D) (ci := 7) (v := .ref (r 11)) (C := RX7) (T := TX7) (N := 20) hx hb hg inC7 hown hK hP 1 rfl rfl 11 (by decide) (hg _ wt1_127) (fun _ h9 => h9) rfl dX7_workOneTick_250 ?_
  refine lv_iconst (v := 0) hx hb dX7_workOneTick_253 (by decide) ?_
  refine lv_dup2_11 hx hb dX7_workOneTick_254 rfl rfl ?_
  refine va_iald hx hb hK hP 11 0 rfl rfl (k_in (by decide +kernel)) dX7_workOneTick_255 ?_
  refine lv_topi (fun t7 et7 => ?_)
  rw [cl_0] at et7
  refine lv_iconst (v := 1) hx hb dX7_workOneTick_256 (by decide) ?_
  refine lv_iadd hx hb dX7_workOneTick_257 ?_
  refine lv_topi (fun t8 et8 => ?_)
  refine va_iast hx hb hK hP hD hS 11 0 rfl rfl (k_in (by decide +kernel)) dX7_workOneTick_258 (fun H locs hP hD hS => ?_)
  rw [cl_0] at hP hD
  have hP : va_P D vwCl (xW K r f (va_up a 11 (upd (a 11) 0 t8)) g) H := hP
  have hD : va_D A (xW K r f (va_up a 11 (upd (a 11) 0 t8)) g) := hD
  refine k_gen (P := fun z => va_P D vwCl (xW K r f z g) H ∧ va_D A (xW K r f z g)) (va_up a 11 (upd (a 11) 0 t8)) ⟨hP, hD⟩ (fun a_9 ea_9 hPD => ?_)
  have hP := hPD.1
  have hD := hPD.2
  refine lv_aload_n hx hb dX7_workOneTick_259 rfl (lv_at hl 2 rfl) ?_
  refine kI.callW (As := []) (rest := []) ⟨hx, hb, hml, hown, hg⟩ (x_upMask_now l r f a_9 g h0 ) (cwV 0 hg (kgV wt3_43 wt3_44 wt3_45 wt1_2 wt3_46) rfl rfl rfl (by decide +kernel) ⟨by decide, by decide⟩) hK hP hD hS hA 1 7 rfl rfl rfl hl.1 rfl (Nat.le_of_ble_eq_true rfl) dX7_workOneTick_260 ⟨by decide, by decide⟩ (fun v12 u11 H locs hw10 hP hD hS => ?_)
  have hP : va_P D vwCl (xW K r f a_9 g) H := hP
  have hD : va_D A (xW K r f a_9 g) := hD
  refine k_top (z := 0) (hw10) ?_
  refine lv_iload_n hx hb dX7_workOneTick_263 rfl (lv_at hl 1 rfl) ?_
  refine lv_iconst (v := (-1)) hx hb dX7_workOneTick_264 (by decide) ?_
  refine lv_ixor hx hb dX7_workOneTick_265 ?_
  refine k_top (z := (-1)) (by decide +kernel) ?_
  refine lv_iand hx hb dX7_workOneTick_266 ?_
  refine k_top (z := 0) (by decide +kernel) ?_
  refine kN.callS (As := [.int 0]) (rest := []) ⟨hx, hb, hml, hown, hg⟩ (x_bitCount0 l ) (va_cwS 1 hg (kgS wt4_147 wt4_99 wt1_21 wt4_100) rfl rfl rfl (by decide +kernel) ⟨by decide, by decide⟩) hP hS rfl hl.1 rfl (Nat.le_of_ble_eq_true rfl) dX7_workOneTick_267 ⟨by decide, by decide⟩ (fun v14 H locs hw13 hP hS => ?_)
  refine k_top (z := 0) (hw13) ?_
  exact kI_ret (v := 0) hx hb hr hlocks rfl hK hS dX7_workOneTick_270 (f, a_9, g) hP hD ⟨rfl, h0, h1⟩
