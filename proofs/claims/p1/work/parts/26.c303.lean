set_option maxHeartbeats 4000000 in
set_option maxRecDepth 100000 in
theorem x_runSet (l : Launch) {D : va_G} {K : Nat → ClassId} (r : Nat → Nat) (f : Nat → Int32) (a : Nat → Nat → Int32) (g : xG) (h0 : f 32 = 0) (h1 : f 38 = 0) (h2 : f 44 = 0) (h3 : a 11 0 = 0) (h4 : a 11 1 = 30) (h5 : a 11 2 = 2) (h6 : f 1858 = (-1)) (h7 : f 50 = (-1)) (h8 : (∀ i, g.2 15 i = none)) (h9 : a 83 0 = (-2))   : kI l yX3_run (Cond.code yX3_run cX3_run 6 (some .int) :: kG) (rmD 4 0 0) D (tysK K) [.ref (r 58), .int 0, .int 40, .ref (r 83), .int 0] (xW K r f a g) (fun v (u : xS) => v = 0 ∧ u.1 32 = 0 ∧ u.1 38 = 0 ∧ u.1 44 = 0 ∧ u.2.1 11 0 = 0 ∧ u.2.1 11 1 = 30 ∧ u.2.1 11 2 = 2 ∧ u.1 1858 = (-1) ∧ u.1 50 = (-1) ∧ (∀ i, u.2.2.2 15 i = none)) (fun u => xW K r u.1 u.2.1 u.2.2) 0 0 := by
  refine kI.of (cc := cX3_run) (maxL := 6) (ret := (some .int)) (by decide) rfl (Nat.le_of_ble_eq_true rfl) ?_
  intro p e s m below meth c A hx hb hr hml hown hts hlocks hnm hK hP hD hS hA ls hl
  have hg : ∀ w ∈ kG, w.before _ s = true := fun w h => hts w (List.mem_cons_of_mem _ h)
  have hown : s.vm.findClass RX3 = some m.cls := hown
  have hl : lv_has ls 6 [(0, .ref (r 58)), (1, .int 0), (2, .int 40), (3, .ref (r 83)), (4, .int 0)] := hl
  refine lv_iload hx hb dX3_run_0 (lv_at hl 4 rfl) ?_
  refine lv_if_lt (tgt := 15) hx hb dX3_run_2 (by decide) (fun c1 => absurd c1 (by decide +kernel)) (fun c1 => ?_)
  refine lv_iload hx hb dX3_run_5 (lv_at hl 4 rfl) ?_
  refine lv_bipush (v := 11) hx hb dX3_run_7 (by decide) ?_
  refine lv_iadd hx hb dX3_run_9 ?_
  refine k_top (z := 11) (by decide +kernel) ?_
  refine lv_aload_n hx hb dX3_run_10 rfl (lv_at hl 3 rfl) ?_
  refine va_alen (v := 704) hx hb hK hP 83 0 rfl rfl rfl dX3_run_11 ?_
  refine lv_icmp_le (tgt := 17) hx hb dX3_run_12 (by decide) (fun c2 => ?_) (fun c2 => absurd (by decide +kernel) c2)
  refine lv_aload_n hx hb dX3_run_17 rfl (lv_at hl 3 rfl) ?_
  refine lv_iload hx hb dX3_run_18 (lv_at hl 4 rfl) ?_
  refine va_iald hx hb hK hP 83 0 rfl rfl (k_in (by decide +kernel)) dX3_run_20 ?_
  refine k_top (z := (-2)) (by rw [cl_0]; exact h9) ?_
  refine lv_bipush (v := (-2)) hx hb dX3_run_21 (by decide) ?_
  refine lv_icmp_eq (tgt := 31) hx hb dX3_run_23 (by decide) (fun c3 => ?_) (fun c3 => absurd (by decide +kernel) c3)
  refine lv_iconst (v := 0) hx hb dX3_run_31 (by decide) ?_
  refine lv_istore (lv' := [(5, .int 0), (0, .ref (r 58)), (1, .int 0), (2, .int 40), (3, .ref (r 83)), (4, .int 0)]) hx hb dX3_run_32 hl (by decide) rfl (fun ls hl => ?_)
  have lp4 : ∀ (n i : Nat) (F : Nat → Int32) (B : Nat → Nat → Int32) (G : xG) (H : Heap) (locs : List Loc) (ls : Array Slot), i + n = 11 →  F 32 = 0 → F 38 = 0 → F 44 = 0 → B 11 0 = 0 → B 11 1 = 30 → B 11 2 = 2 → F 1858 = (-1) → F 50 = (-1) → (∀ i, G.2 15 i = none) → va_P D vwCl (xW K r F B G) H → va_D A (xW K r F B G) → va_S A s.heap H locs → lv_has ls 6 [(5, .int (nI i)), (0, .ref (r 58)), (1, .int 0), (2, .int 40), (3, .ref (r 83)), (4, .int 0)] → W p l e (rmD 4 0 0) s m ([.ref (r 58), .int 0, .int 40, .ref (r 83), .int 0] : List Value).toArray below meth c H locs 0 0 (kQi D (tysK K) (fun v (u : xS) => v = 0 ∧ u.1 32 = 0 ∧ u.1 38 = 0 ∧ u.1 44 = 0 ∧ u.2.1 11 0 = 0 ∧ u.2.1 11 1 = 30 ∧ u.2.1 11 2 = 2 ∧ u.1 1858 = (-1) ∧ u.1 50 = (-1) ∧ (∀ i, u.2.2.2 15 i = none)) (fun u => xW K r u.1 u.2.1 u.2.2) A below ([.ref (r 58), .int 0, .int 40, .ref (r 83), .int 0] : List Value).toArray s 0 0) (F0 m 34 ls []) := by
    intro n
    induction n with
    | zero =>
      intro i F B G H locs ls  hin  z0 z1 z2 z3 z4 z5 z6 z7 z8 hP hD hS hl
      obtain rfl : 11 = i := by omega
      have hl : lv_has ls 6 [(5, .int 11), (0, .ref (r 58)), (1, .int 0), (2, .int 40), (3, .ref (r 83)), (4, .int 0)] := hl
      refine lv_iload hx hb dX3_run_34 (lv_at hl 0 rfl) ?_
      refine lv_bipush (v := 11) hx hb dX3_run_36 (by decide) ?_
      refine lv_icmp_ge (tgt := 55) hx hb dX3_run_38 (by decide) (fun c5 => ?_) (fun c5 => absurd (by decide +kernel) c5)
      refine lv_aload_n hx hb dX3_run_55 rfl (lv_at hl 1 rfl) ?_
      refine kV.callW (As := []) (rest := []) ⟨hx, hb, hml, hown, hg⟩ (x_begin l r F B G z0 z1 z2 z3 z4 z5 z6 z7 z8 ) (cwV 0 hg (kgV wt4_236 wt4_237 wt4_238 wt1_10 wt4_239) rfl rfl rfl (by decide +kernel) ⟨by decide, by decide⟩) hK hP hD hS hA 58 3 rfl rfl rfl hl.1 rfl (Nat.le_of_ble_eq_true rfl) dX3_run_56 ⟨by decide, by decide⟩ (fun u7 H locs hw6 hP hD hS => ?_)
      obtain ⟨f9, a10, g11⟩ := u7
      have hP : va_P D vwCl (xW K r f9 a10 g11) H := hP
      have hD : va_D A (xW K r f9 a10 g11) := hD
      refine lv_iconst (v := 0) hx hb dX3_run_59 (by decide) ?_
      refine lv_istore (lv' := [(5, .int 0), (0, .ref (r 58)), (1, .int 0), (2, .int 40), (3, .ref (r 83)), (4, .int 0)]) hx hb dX3_run_60 hl (by decide) rfl (fun ls hl => ?_)
      refine lv_iload hx hb dX3_run_62 (lv_at hl 0 rfl) ?_
      refine lv_iload_n hx hb dX3_run_64 rfl (lv_at hl 3 rfl) ?_
      refine lv_icmp_gt (tgt := 132) hx hb dX3_run_65 (by decide) (fun c12 => absurd c12 (by decide +kernel)) (fun c12 => ?_)
      refine lv_aload_n hx hb dX3_run_68 rfl (lv_at hl 1 rfl) ?_
      refine lv_iload hx hb dX3_run_69 (lv_at hl 0 rfl) ?_
      refine lv_aload_n hx hb dX3_run_71 rfl (lv_at hl 4 rfl) ?_
      refine lv_iload hx hb dX3_run_72 (lv_at hl 5 rfl) ?_
      refine kI.callW (As := [.int 0, .ref (r 83), .int 0]) (rest := []) ⟨hx, hb, hml, hown, hg⟩ (x_noteStanding_set l r f9 a10 g11 hw6.2.2.2.2.2.2.2.2.2.1 ) (cwV 3 hg (kgV wt5_3 wt5_5 wp2_14 wt1_10 wt5_6) rfl rfl rfl (by decide +kernel) ⟨by decide, by decide⟩) hK hP hD hS hA 58 3 rfl rfl rfl hl.1 rfl (Nat.le_of_ble_eq_true rfl) dX3_run_74 ⟨by decide, by decide⟩ (fun v15 u14 H locs hw13 hP hD hS => ?_)
      have hP : va_P D vwCl (xW K r f9 a10 g11) H := hP
      have hD : va_D A (xW K r f9 a10 g11) := hD
      refine k_top (z := 1) (hw13) ?_
      refine lv_if_eq (tgt := 89) hx hb dX3_run_77 (by decide) (fun c16 => absurd c16 (by decide +kernel)) (fun c16 => ?_)
      refine lv_aload_n hx hb dX3_run_80 rfl (lv_at hl 4 rfl) ?_
      refine lv_iload hx hb dX3_run_81 (lv_at hl 5 rfl) ?_
      refine lv_iload hx hb dX3_run_83 (lv_at hl 0 rfl) ?_
      refine va_iast hx hb hK hP hD hS 83 0 rfl rfl (k_in (by decide +kernel)) dX3_run_85 (fun H locs hP hD hS => ?_)
      rw [cl_0] at hP hD
      have hP : va_P D vwCl (xW K r f9 (va_up a10 83 (upd (a10 83) 0 0)) g11) H := hP
      have hD : va_D A (xW K r f9 (va_up a10 83 (upd (a10 83) 0 0)) g11) := hD
      refine k_gen (P := fun z => va_P D vwCl (xW K r f9 z g11) H ∧ va_D A (xW K r f9 z g11)) (va_up a10 83 (upd (a10 83) 0 0)) ⟨hP, hD⟩ (fun a_17 ea_17 hPD => ?_)
      have hP := hPD.1
      have hD := hPD.2
      refine lv_iload hx hb dX3_run_86 (lv_at hl 0 rfl) ?_
      exact kI_ret (v := 0) hx hb hr hlocks rfl hK hS dX3_run_88 (f9, a_17, g11) hP hD ⟨rfl, hw6.1, hw6.2.1, hw6.2.2.1, ((show a_17 11 0 = a10 11 0 from by rw [← ea_17]; rfl).trans hw6.2.2.2.1), ((show a_17 11 1 = a10 11 1 from by rw [← ea_17]; rfl).trans hw6.2.2.2.2.1), ((show a_17 11 2 = a10 11 2 from by rw [← ea_17]; rfl).trans hw6.2.2.2.2.2.1), hw6.2.2.2.2.2.2.1, hw6.2.2.2.2.2.2.2.1, hw6.2.2.2.2.2.2.2.2.1⟩
    | succ n ih =>
      intro i F B G H locs ls  hin  z0 z1 z2 z3 z4 z5 z6 z7 z8 hP hD hS hl
      have hlt : i < 11 := by omega
      refine lv_iload hx hb dX3_run_34 (lv_at hl 0 rfl) ?_
      refine lv_bipush (v := 11) hx hb dX3_run_36 (by decide) ?_
      refine lv_icmp_ge (tgt := 55) hx hb dX3_run_38 (by decide) (fun c18 => absurd c18 (nI_ge (b := 11) hlt (by decide))) (fun c18 => ?_)
      refine lv_aload_n hx hb dX3_run_41 rfl (lv_at hl 4 rfl) ?_
      refine lv_iload hx hb dX3_run_42 (lv_at hl 5 rfl) ?_
      refine lv_iload hx hb dX3_run_44 (lv_at hl 0 rfl) ?_
      refine lv_iadd hx hb dX3_run_46 ?_
      refine k_top (z := nI (0 + i)) (nI_add 0 i) ?_
      refine lv_iconst (v := (-1)) hx hb dX3_run_47 (by decide) ?_
      refine va_iast hx hb hK hP hD hS 83 0 rfl rfl (vp_in_nI (by omega) (by decide)) dX3_run_48 (fun H locs hP hD hS => ?_)
      rw [nI_clamp (n := (0 + i)) (by omega)] at hP hD
      have hP : va_P D vwCl (xW K r F (va_up B 83 (upd (B 83) (0 + i) (-1))) G) H := hP
      have hD : va_D A (xW K r F (va_up B 83 (upd (B 83) (0 + i) (-1))) G) := hD
      refine k_gen (P := fun z => va_P D vwCl (xW K r F z G) H ∧ va_D A (xW K r F z G)) (va_up B 83 (upd (B 83) (0 + i) (-1))) ⟨hP, hD⟩ (fun a_19 ea_19 hPD => ?_)
      have hP := hPD.1
      have hD := hPD.2
      refine lv_iinc (v := nI (i + 1)) (lv' := [(5, .int (nI (i + 1))), (0, .ref (r 58)), (1, .int 0), (2, .int 40), (3, .ref (r 83)), (4, .int 0)]) hx hb dX3_run_49 hl (k := 0) rfl (nI_1 _) (by decide) rfl (fun ls hl => ?_)
      refine lv_goto (tgt := 34) hx hb dX3_run_52 (by decide) ?_
      exact ih (i + 1) F a_19 G _ _ _  (by omega)  z0 z1 z2 ((show a_19 11 0 = B 11 0 from by rw [← ea_19]; rfl).trans z3) ((show a_19 11 1 = B 11 1 from by rw [← ea_19]; rfl).trans z4) ((show a_19 11 2 = B 11 2 from by rw [← ea_19]; rfl).trans z5) z6 z7 z8 hP hD hS (lv_sub hl [0, 1, 2, 3, 4, 5] rfl)
  exact lp4 (11 - 0) 0 f a g _ _ _  (by omega)  h0 h1 h2 h3 h4 h5 h6 h7 h8 hP hD hS hl
