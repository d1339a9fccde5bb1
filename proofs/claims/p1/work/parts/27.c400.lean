set_option maxHeartbeats 4000000 in
set_option maxRecDepth 100000 in
theorem x_planTicks (l : Launch) {D : va_G} {K : Nat → ClassId} (r : Nat → Nat) (f : Nat → Int32) (a : Nat → Nat → Int32) (g : xG) (h0 : f 32 = 0) (h1 : f 38 = 0) (h2 : f 44 = 0) (h3 : a 11 0 = 0) (h4 : a 11 1 = 30) (h5 : a 11 2 = 2) (h6 : f 1858 = (-1)) (h7 : f 50 = (-1)) (h8 : (∀ i, g.2 15 i = none)) (h9 : a 81 0 = (-2))   : kI l yX9_planTicks (Cond.code yX9_planTicks cX9_planTicks 1 (some .int) :: kG) (rmD 5 0 0) D (tysK K) [.ref (r 80)] (xW K r f a g) (fun v (u : xS) => v = 0 ∧ u.1 32 = 0 ∧ u.1 38 = 0 ∧ u.1 44 = 0 ∧ u.2.1 11 0 = 0 ∧ u.2.1 11 1 = 30 ∧ u.2.1 11 2 = 2 ∧ u.1 1858 = (-1) ∧ u.1 50 = (-1) ∧ (∀ i, u.2.2.2 15 i = none)) (fun u => xW K r u.1 u.2.1 u.2.2) 0 0 := by
  refine kI.of (cc := cX9_planTicks) (maxL := 1) (ret := (some .int)) (by decide) rfl (Nat.le_of_ble_eq_true rfl) ?_
  intro p e s m below meth c A hx hb hr hml hown hts hlocks hnm hK hP hD hS hA ls hl
  have hg : ∀ w ∈ kG, w.before _ s = true := fun w h => hts w (List.mem_cons_of_mem _ h)
  have hown : s.vm.findClass RX9 = some m.cls := hown
  have hl : lv_has ls 1 [(0, .ref (r 80))] := hl
  refine lv_aload_n hx hb dX9_planTicks_0 rfl (lv_at hl 0 rfl) ?_
  refine va_get (D := D) (ci := 9) (v := .ref (r 58)) (C := RX9) (T := TX9) (N := 10) hx hb hg inC9 hown hK hP 80 rfl rfl 1 (by decide) (hg _ wt2_116) (fun _ h9 => h9) rfl dX9_planTicks_1 ?_
  refine lv_bipush (v := 63) hx hb dX9_planTicks_4 (by decide) ?_
  refine lv_sipush (v := 200) hx hb dX9_planTicks_6 (by decide) ?_
  refine lv_aload_n hx hb dX9_planTicks_9 rfl (lv_at hl 0 rfl) ?_
  refine va_get (D := D) (ci := 9) (v := .ref (r 81)) (C := RX9) (T := TX9) (N := 10) hx hb hg inC9 hown hK hP 80 rfl rfl 2 (by decide) (hg _ wt2_117) (fun _ h9 => h9) rfl dX9_planTicks_10 ?_
  refine lv_iconst (v := 0) hx hb dX9_planTicks_13 (by decide) ?_
  refine kI.callW (As := [.int 63, .int 200, .ref (r 81), .int 0]) (rest := []) ⟨hx, hb, hml, hown, hg⟩ (x_runPlan l r f a g h0 h1 h2 h3 h4 h5 h6 h7 h8 h9 ) (cwV 4 hg (kgV wt4_232 wt4_233 wt4_234 wt1_10 wt4_235) rfl rfl rfl (by decide +kernel) ⟨by decide, by decide⟩) hK hP hD hS hA 58 3 rfl rfl rfl hl.1 rfl (Nat.le_of_ble_eq_true rfl) dX9_planTicks_14 ⟨by decide, by decide⟩ (fun v3 u2 H locs hw1 hP hD hS => ?_)
  obtain ⟨f4, a5, g6⟩ := u2
  have hP : va_P D vwCl (xW K r f4 a5 g6) H := hP
  have hD : va_D A (xW K r f4 a5 g6) := hD
  refine k_top (z := 0) (hw1.1) ?_
  exact kI_ret (v := 0) hx hb hr hlocks rfl hK hS dX9_planTicks_17 (f4, a5, g6) hP hD ⟨rfl, hw1.2.1, hw1.2.2.1, hw1.2.2.2.1, hw1.2.2.2.2.1, hw1.2.2.2.2.2.1, hw1.2.2.2.2.2.2.1, hw1.2.2.2.2.2.2.2.1, hw1.2.2.2.2.2.2.2.2.1, hw1.2.2.2.2.2.2.2.2.2⟩
set_option maxHeartbeats 4000000 in
set_option maxRecDepth 100000 in
theorem x_plan (l : Launch) {D : va_G} {K : Nat → ClassId} (r : Nat → Nat) (f : Nat → Int32) (a : Nat → Nat → Int32) (g : xG) (h0 : f 32 = 0) (h1 : f 38 = 0) (h2 : f 44 = 0) (h3 : a 11 0 = 0) (h4 : a 11 1 = 30) (h5 : a 11 2 = 2) (h6 : f 1858 = (-1)) (h7 : f 50 = (-1)) (h8 : (∀ i, g.2 15 i = none)) (h9 : a 81 0 = (-2)) (x : Int32)  : kI l yX11_plan (Cond.code yX11_plan cX11_plan 2 (some .int) :: kG) (rmD 6 0 0) D (tysK K) [.ref (r 0), .int x] (xW K r f a g) (fun v (u : xS) => v = (if x = (-1) then (0 : Int32) else -1)) (fun u => xW K r u.1 u.2.1 u.2.2) 0 0 := by
  refine kI.of (cc := cX11_plan) (maxL := 2) (ret := (some .int)) (by decide) rfl (Nat.le_of_ble_eq_true rfl) ?_
  intro p e s m below meth c A hx hb hr hml hown hts hlocks hnm hK hP hD hS hA ls hl
  have hg : ∀ w ∈ kG, w.before _ s = true := fun w h => hts w (List.mem_cons_of_mem _ h)
  have hown : s.vm.findClass RX11 = some m.cls := hown
  have hl : lv_has ls 2 [(0, .ref (r 0)), (1, .int x)] := hl
  refine lv_iload_n hx hb dX11_plan_0 rfl (lv_at hl 1 rfl) ?_
  refine lv_iconst (v := (-1)) hx hb dX11_plan_1 (by decide) ?_
  refine lv_icmp_ne (tgt := 13) hx hb dX11_plan_2 (by decide) (fun c1 => ?_) (fun c1 => ?_)
  · refine lv_aload_n hx hb dX11_plan_13 rfl (lv_at hl 0 rfl) ?_
    refine va_get (D := D) (ci := 11) (v := .ref (r 1)) (C := RX11) (T := TX11) (N := 17) hx hb hg inC11 hown hK hP 0 rfl rfl 0 (by decide) (hg _ wt2_186) (fun _ h9 => h9) rfl dX11_plan_14 ?_
    refine lv_iload_n hx hb dX11_plan_17 rfl (lv_at hl 1 rfl) ?_
    refine kI.callW (As := [.int x]) (rest := []) ⟨hx, hb, hml, hown, hg⟩ (x_hasPart_now l r f a g h0 x) (cwV 1 hg (kgV wt3_35 wt3_36 wt3_37 wt1_2 wt3_38) rfl rfl rfl (by decide +kernel) ⟨by decide, by decide⟩) hK hP hD hS hA 1 7 rfl rfl rfl hl.1 rfl (Nat.le_of_ble_eq_true rfl) dX11_plan_18 ⟨by decide, by decide⟩ (fun v4 u3 H locs hw2 hP hD hS => ?_)
    have hP : va_P D vwCl (xW K r f a g) H := hP
    have hD : va_D A (xW K r f a g) := hD
    refine k_top (z := 0) (hw2) ?_
    refine lv_if_eq (tgt := 35) hx hb dX11_plan_21 (by decide) (fun c5 => ?_) (fun c5 => absurd (by decide +kernel) c5)
    refine lv_iconst (v := (-1)) hx hb dX11_plan_35 (by decide) ?_
    exact kI_ret (v := (-1)) hx hb hr hlocks rfl hK hS dX11_plan_36 (f, a, g) hP hD (by rw [if_neg c1])
  · refine lv_aload_n hx hb dX11_plan_5 rfl (lv_at hl 0 rfl) ?_
    refine va_get (D := D) (ci := 11) (v := .ref (r 80)) (C := RX11) (T := TX11) (N := 17) hx hb hg inC11 hown hK hP 0 rfl rfl 6 (by decide) (hg _ wt2_192) (fun _ h9 => h9) rfl dX11_plan_6 ?_
    refine kI.callW (As := []) (rest := []) ⟨hx, hb, hml, hown, hg⟩ (x_planTicks l r f a g h0 h1 h2 h3 h4 h5 h6 h7 h8 h9 ) (cwV 0 hg (kgV wt4_228 wt4_229 wt4_230 wt1_11 wt4_231) rfl rfl rfl (by decide +kernel) ⟨by decide, by decide⟩) hK hP hD hS hA 80 9 rfl rfl rfl hl.1 rfl (Nat.le_of_ble_eq_true rfl) dX11_plan_9 ⟨by decide, by decide⟩ (fun v8 u7 H locs hw6 hP hD hS => ?_)
    obtain ⟨f9, a10, g11⟩ := u7
    have hP : va_P D vwCl (xW K r f9 a10 g11) H := hP
    have hD : va_D A (xW K r f9 a10 g11) := hD
    refine k_top (z := 0) (hw6.1) ?_
    exact kI_ret (v := 0) hx hb hr hlocks rfl hK hS dX11_plan_12 (f9, a10, g11) hP hD (by rw [if_pos c1])
set_option maxHeartbeats 4000000 in
set_option maxRecDepth 100000 in
theorem x_openSets (l : Launch) {D : va_G} {K : Nat → ClassId} (r : Nat → Nat) (f : Nat → Int32) (a : Nat → Nat → Int32) (g : xG) (h0 : f 32 = 0) (h1 : f 38 = 0) (h2 : f 44 = 0) (h3 : a 11 0 = 0) (h4 : a 11 1 = 30) (h5 : a 11 2 = 2) (h6 : f 1858 = (-1)) (h7 : f 50 = (-1)) (h8 : (∀ i, g.2 15 i = none)) (h9 : f 2565 = 0)   : kV l yX9_openSets (Cond.code yX9_openSets cX9_openSets 3 none :: kG) (rmD 2 0 0) D (tysK K) [.ref (r 80)] (xW K r f a g) (fun (u : xS) => u.1 32 = 0 ∧ u.1 38 = 0 ∧ u.1 44 = 0 ∧ u.2.1 11 0 = 0 ∧ u.2.1 11 1 = 30 ∧ u.2.1 11 2 = 2 ∧ u.1 1858 = (-1) ∧ u.1 50 = (-1) ∧ (∀ i, u.2.2.2 15 i = none) ∧ u.1 2565 = 40 ∧ u.2.1 83 0 = (-2)) (fun u => xW K r u.1 u.2.1 u.2.2) 0 0 := by
  refine kV.of (cc := cX9_openSets) (maxL := 3) (ret := none) (by decide) rfl (Nat.le_of_ble_eq_true rfl) ?_
  intro p e s m below meth c A hx hb hr hml hown hts hlocks hnm hK hP hD hS hA ls hl
  have hg : ∀ w ∈ kG, w.before _ s = true := fun w h => hts w (List.mem_cons_of_mem _ h)
  have hown : s.vm.findClass RX9 = some m.cls := hown
  have hl : lv_has ls 3 [(0, .ref (r 80))] := hl
  refine lv_bipush (v := 40) hx hb dX9_openSets_0 (by decide) ?_
  refine lv_aload_n hx hb dX9_openSets_2 rfl (lv_at hl 0 rfl) ?_
  refine va_get (D := D) (ci := 9) (v := .ref (r 1)) (C := RX9) (T := TX9) (N := 10) hx hb hg inC9 hown hK hP 80 rfl rfl 0 (by decide) (hg _ wt2_115) (fun _ h9 => h9) rfl dX9_openSets_3 ?_
  refine va_get (D := D) (ci := 7) (v := .ref (r 11)) (C := RX7) (T := TX7) (N := 20) hx hb hg inC7 hown hK hP 1 rfl rfl 11 (by decide) (hg _ wt1_133) (fun _ h9 => h9) rfl dX9_openSets_6 ?_
  refine lv_iconst (v := 1) hx hb dX9_openSets_9 (by decide) ?_
  refine va_iald hx hb hK hP 11 0 rfl rfl (k_in (by decide +kernel)) dX9_openSets_10 ?_
  refine k_top (z := 30) (by rw [cl_1]; exact h4) ?_
  refine va_mmax hx hb (hml.trans hl.1.symm) hown (hg _ wt5_40) (hg _ wt2_38) (hg _ wt1_9) (hg _ wt2_39) (by decide) (Nat.le_of_ble_eq_true rfl) (by decide) (by decide) dX9_openSets_11 ?_
  refine k_top (z := 40) (by decide +kernel) ?_
  refine lv_istore_n (lv' := [(1, .int 40), (0, .ref (r 80))]) hx hb dX9_openSets_14 rfl hl (by decide) rfl (fun ls hl => ?_)
  refine lv_iconst (v := 0) hx hb dX9_openSets_15 (by decide) ?_
  refine lv_istore_n (lv' := [(2, .int 0), (1, .int 40), (0, .ref (r 80))]) hx hb dX9_openSets_16 rfl hl (by decide) rfl (fun ls hl => ?_)
  refine lv_iload_n hx hb dX9_openSets_17 rfl (lv_at hl 0 rfl) ?_
  refine lv_aload_n hx hb dX9_openSets_18 rfl (lv_at hl 2 rfl) ?_
  refine va_get (D := D) (ci := 9) (v := .ref (r 1)) (C := RX9) (T := TX9) (N := 10) hx hb hg inC9 hown hK hP 80 rfl rfl 0 (by decide) (hg _ wt2_115) (fun _ h9 => h9) rfl dX9_openSets_19 ?_
  refine va_get (D := D) (ci := 7) (v := .int (f 44)) (C := RX7) (T := TX7) (N := 20) hx hb hg inC7 hown hK hP 1 rfl rfl 12 (by decide) (hg _ wt1_136) (fun _ h9 => h9) rfl dX9_openSets_22 ?_
  refine k_top (z := 0) h2 ?_
  refine lv_icmp_ge (tgt := 54) hx hb dX9_openSets_25 (by decide) (fun c1 => ?_) (fun c1 => absurd (by decide +kernel) c1)
  refine lv_iload_n hx hb dX9_openSets_54 rfl (lv_at hl 1 rfl) ?_
  refine lv_aload_n hx hb dX9_openSets_55 rfl (lv_at hl 2 rfl) ?_
  refine va_get (D := D) (ci := 9) (v := .int (f 2565)) (C := RX9) (T := TX9) (N := 10) hx hb hg inC9 hown hK hP 80 rfl rfl 5 (by decide) (hg _ wt2_120) (fun _ h9 => h9) rfl dX9_openSets_56 ?_
  refine k_top (z := 0) h9 ?_
  refine lv_icmp_le (tgt := 92) hx hb dX9_openSets_59 (by decide) (fun c2 => absurd c2 (by decide +kernel)) (fun c2 => ?_)
  refine lv_aload_n hx hb dX9_openSets_62 rfl (lv_at hl 2 rfl) ?_
  refine lv_iload_n hx hb dX9_openSets_63 rfl (lv_at hl 1 rfl) ?_
  refine va_put (D := D) (ci := 9) (v := .int 40) (ty := .int) (C := RX9) (T := TX9) (N := 10) hx hb hg inC9 tyX9 tyX9_ok nmX9 hown hK hP hD hS 80 rfl rfl 5 (by decide) (hg _ wt2_120) (fun _ h9 => h9) rfl (by decide +kernel) rfl rfl (Nat.le_of_ble_eq_true rfl) dX9_openSets_64 (fun H locs hP hD hS => ?_)
  have hP : va_P D vwCl (xW K r (upd f 2565 40) a g) H := hP
  have hD : va_D A (xW K r (upd f 2565 40) a g) := hD
  refine k_gen (P := fun z => va_P D vwCl (xW K r z a g) H ∧ va_D A (xW K r z a g)) (upd f 2565 40) ⟨hP, hD⟩ (fun f_3 ef_3 hPD => ?_)
  have hP := hPD.1
  have hD := hPD.2
  refine lv_iconst (v := 0) hx hb dX9_openSets_67 (by decide) ?_
  refine lv_istore_n (lv' := [(2, .int 0), (1, .int 40), (0, .ref (r 80))]) hx hb dX9_openSets_68 rfl hl (by decide) rfl (fun ls hl => ?_)
  refine lv_iload_n hx hb dX9_openSets_69 rfl (lv_at hl 0 rfl) ?_
  refine lv_bipush (v := 64) hx hb dX9_openSets_70 (by decide) ?_
  refine lv_icmp_ge (tgt := 92) hx hb dX9_openSets_72 (by decide) (fun c4 => absurd c4 (by decide +kernel)) (fun c4 => ?_)
  refine lv_aload_n hx hb dX9_openSets_75 rfl (lv_at hl 2 rfl) ?_
  refine va_get (D := D) (ci := 9) (v := .ref (r 83)) (C := RX9) (T := TX9) (N := 10) hx hb hg inC9 hown hK hP 80 rfl rfl 4 (by decide) (hg _ wt2_119) (fun _ h9 => h9) rfl dX9_openSets_76 ?_
  refine lv_iload_n hx hb dX9_openSets_79 rfl (lv_at hl 0 rfl) ?_
  refine lv_bipush (v := 11) hx hb dX9_openSets_80 (by decide) ?_
  refine lv_imul hx hb dX9_openSets_82 ?_
  refine k_top (z := 0) (by decide +kernel) ?_
  refine lv_bipush (v := (-2)) hx hb dX9_openSets_83 (by decide) ?_
  refine va_iast hx hb hK hP hD hS 83 0 rfl rfl (k_in (by decide +kernel)) dX9_openSets_85 (fun H locs hP hD hS => ?_)
  rw [cl_0] at hP hD
  have hP : va_P D vwCl (xW K r f_3 (va_up a 83 (upd (a 83) 0 (-2))) g) H := hP
  have hD : va_D A (xW K r f_3 (va_up a 83 (upd (a 83) 0 (-2))) g) := hD
  refine k_gen (P := fun z => va_P D vwCl (xW K r f_3 z g) H ∧ va_D A (xW K r f_3 z g)) (va_up a 83 (upd (a 83) 0 (-2))) ⟨hP, hD⟩ (fun a_5 ea_5 hPD => ?_)
  have hP := hPD.1
  have hD := hPD.2
  refine lv_iinc (v := 1) (lv' := [(2, .int 1), (1, .int 40), (0, .ref (r 80))]) hx hb dX9_openSets_86 hl (k := 0) rfl (by decide +kernel) (by decide) rfl (fun ls hl => ?_)
  refine lv_goto (tgt := 69) hx hb dX9_openSets_89 (by decide) ?_
  have lp6 : ∀ (n i : Nat) (F : Nat → Int32) (B : Nat → Nat → Int32) (G : xG) (H : Heap) (locs : List Loc) (ls : Array Slot), i + n = 64 → 1 ≤ i → F 32 = 0 → F 38 = 0 → F 44 = 0 → B 11 0 = 0 → B 11 1 = 30 → B 11 2 = 2 → F 1858 = (-1) → F 50 = (-1) → (∀ i, G.2 15 i = none) → F 2565 = 40 → B 83 0 = (-2) → va_P D vwCl (xW K r F B G) H → va_D A (xW K r F B G) → va_S A s.heap H locs → lv_has ls 3 [(2, .int (nI i)), (1, .int 40), (0, .ref (r 80))] → W p l e (rmD 2 0 0) s m ([.ref (r 80)] : List Value).toArray below meth c H locs 0 0 (kQv D (tysK K) (fun (u : xS) => u.1 32 = 0 ∧ u.1 38 = 0 ∧ u.1 44 = 0 ∧ u.2.1 11 0 = 0 ∧ u.2.1 11 1 = 30 ∧ u.2.1 11 2 = 2 ∧ u.1 1858 = (-1) ∧ u.1 50 = (-1) ∧ (∀ i, u.2.2.2 15 i = none) ∧ u.1 2565 = 40 ∧ u.2.1 83 0 = (-2)) (fun u => xW K r u.1 u.2.1 u.2.2) A below ([.ref (r 80)] : List Value).toArray s 0 0) (F0 m 69 ls []) := by
    intro n
    induction n with
    | zero =>
      intro i F B G H locs ls  hin hlo z0 z1 z2 z3 z4 z5 z6 z7 z8 z9 z10 hP hD hS hl
      obtain rfl : 64 = i := by omega
      have hl : lv_has ls 3 [(2, .int 64), (1, .int 40), (0, .ref (r 80))] := hl
      refine lv_iload_n hx hb dX9_openSets_69 rfl (lv_at hl 0 rfl) ?_
      refine lv_bipush (v := 64) hx hb dX9_openSets_70 (by decide) ?_
      refine lv_icmp_ge (tgt := 92) hx hb dX9_openSets_72 (by decide) (fun c7 => ?_) (fun c7 => absurd (by decide +kernel) c7)
      exact kV_ret hx hb hr hlocks hK hS dX9_openSets_92 (F, B, G) hP hD ⟨z0, z1, z2, z3, z4, z5, z6, z7, z8, z9, z10⟩
    | succ n ih =>
      intro i F B G H locs ls  hin hlo z0 z1 z2 z3 z4 z5 z6 z7 z8 z9 z10 hP hD hS hl
      have hlt : i < 64 := by omega
      refine lv_iload_n hx hb dX9_openSets_69 rfl (lv_at hl 0 rfl) ?_
      refine lv_bipush (v := 64) hx hb dX9_openSets_70 (by decide) ?_
      refine lv_icmp_ge (tgt := 92) hx hb dX9_openSets_72 (by decide) (fun c8 => absurd c8 (nI_ge (b := 64) hlt (by decide))) (fun c8 => ?_)
      refine lv_aload_n hx hb dX9_openSets_75 rfl (lv_at hl 2 rfl) ?_
      refine va_get (D := D) (ci := 9) (v := .ref (r 83)) (C := RX9) (T := TX9) (N := 10) hx hb hg inC9 hown hK hP 80 rfl rfl 4 (by decide) (hg _ wt2_119) (fun _ h9 => h9) rfl dX9_openSets_76 ?_
      refine lv_iload_n hx hb dX9_openSets_79 rfl (lv_at hl 0 rfl) ?_
      refine lv_bipush (v := 11) hx hb dX9_openSets_80 (by decide) ?_
      refine lv_imul hx hb dX9_openSets_82 ?_
      refine k_top (z := nI (i * 11)) (pk_mul i 11) ?_
      refine lv_bipush (v := (-2)) hx hb dX9_openSets_83 (by decide) ?_
      refine va_iast hx hb hK hP hD hS 83 0 rfl rfl (vp_in_nI (by omega) (by decide)) dX9_openSets_85 (fun H locs hP hD hS => ?_)
      rw [nI_clamp (n := (i * 11)) (by omega)] at hP hD
      have hP : va_P D vwCl (xW K r F (va_up B 83 (upd (B 83) (i * 11) (-2))) G) H := hP
      have hD : va_D A (xW K r F (va_up B 83 (upd (B 83) (i * 11) (-2))) G) := hD
      refine k_gen (P := fun z => va_P D vwCl (xW K r F z G) H ∧ va_D A (xW K r F z G)) (va_up B 83 (upd (B 83) (i * 11) (-2))) ⟨hP, hD⟩ (fun a_9 ea_9 hPD => ?_)
      have hP := hPD.1
      have hD := hPD.2
      refine lv_iinc (v := nI (i + 1)) (lv' := [(2, .int (nI (i + 1))), (1, .int 40), (0, .ref (r 80))]) hx hb dX9_openSets_86 hl (k := 0) rfl (nI_1 _) (by decide) rfl (fun ls hl => ?_)
      refine lv_goto (tgt := 69) hx hb dX9_openSets_89 (by decide) ?_
      exact ih (i + 1) F a_9 G _ _ _  (by omega) (by omega) z0 z1 z2 ((show a_9 11 0 = B 11 0 from by rw [← ea_9]; rfl).trans z3) ((show a_9 11 1 = B 11 1 from by rw [← ea_9]; rfl).trans z4) ((show a_9 11 2 = B 11 2 from by rw [← ea_9]; rfl).trans z5) z6 z7 z8 z9 ((show a_9 83 0 = B 83 0 from by rw [← ea_9]; exact pk_un (by omega)).trans z10) hP hD hS (lv_sub hl [0, 1, 2] rfl)
  exact lp6 (64 - 1) 1 f_3 a_5 g _ _ _  (by omega) (by omega) ((show f_3 32 = f 32 from by rw [← ef_3]; rfl).trans h0) ((show f_3 38 = f 38 from by rw [← ef_3]; rfl).trans h1) ((show f_3 44 = f 44 from by rw [← ef_3]; rfl).trans h2) ((show a_5 11 0 = a 11 0 from by rw [← ea_5]; rfl).trans h3) ((show a_5 11 1 = a 11 1 from by rw [← ea_5]; rfl).trans h4) ((show a_5 11 2 = a 11 2 from by rw [← ea_5]; rfl).trans h5) ((show f_3 1858 = f 1858 from by rw [← ef_3]; rfl).trans h6) ((show f_3 50 = f 50 from by rw [← ef_3]; rfl).trans h7) h8 (show f_3 2565 = 40 from by rw [← ef_3]; rfl) (show a_5 83 0 = (-2) from by rw [← ea_5]; rfl) hP hD hS hl
set_option maxHeartbeats 4000000 in
set_option maxRecDepth 100000 in
theorem x_fewestHands (l : Launch) {D : va_G} {K : Nat → ClassId} (r : Nat → Nat) (f : Nat → Int32) (a : Nat → Nat → Int32) (g : xG) (h0 : f 32 = 0) (h1 : f 38 = 0) (h2 : f 44 = 0) (h3 : a 11 0 = 0) (h4 : a 11 1 = 30) (h5 : a 11 2 = 2) (h6 : f 1858 = (-1)) (h7 : f 50 = (-1)) (h8 : (∀ i, g.2 15 i = none)) (h9 : f 2565 = 0)   : kI l yX9_fewestHands (Cond.code yX9_fewestHands cX9_fewestHands 4 (some .int) :: kG) (rmD 5 0 0) D (tysK K) [.ref (r 80)] (xW K r f a g) (fun v (u : xS) => v = 0) (fun u => xW K r u.1 u.2.1 u.2.2) 0 0 := by
  refine kI.of (cc := cX9_fewestHands) (maxL := 4) (ret := (some .int)) (by decide) rfl (Nat.le_of_ble_eq_true rfl) ?_
  intro p e s m below meth c A hx hb hr hml hown hts hlocks hnm hK hP hD hS hA ls hl
  have hg : ∀ w ∈ kG, w.before _ s = true := fun w h => hts w (List.mem_cons_of_mem _ h)
  have hown : s.vm.findClass RX9 = some m.cls := hown
  have hl : lv_has ls 4 [(0, .ref (r 80))] := hl
  refine lv_aload_n hx hb dX9_fewestHands_0 rfl (lv_at hl 0 rfl) ?_
  refine kV.callW (As := []) (rest := []) ⟨hx, hb, hml, hown, hg⟩ (x_openSets l r f a g h0 h1 h2 h3 h4 h5 h6 h7 h8 h9 ) (cwV 0 hg (kgV wt5_36 wt5_38 wp3_0 wt1_11 wt5_39) rfl rfl rfl (by decide +kernel) ⟨by decide, by decide⟩) hK hP hD hS hA 80 9 rfl rfl rfl hl.1 rfl (Nat.le_of_ble_eq_true rfl) dX9_fewestHands_1 ⟨by decide, by decide⟩ (fun u2 H locs hw1 hP hD hS => ?_)
  obtain ⟨f4, a5, g6⟩ := u2
  have hP : va_P D vwCl (xW K r f4 a5 g6) H := hP
  have hD : va_D A (xW K r f4 a5 g6) := hD
  refine lv_iconst (v := 0) hx hb dX9_fewestHands_4 (by decide) ?_
  refine lv_istore_n (lv' := [(1, .int 0), (0, .ref (r 80))]) hx hb dX9_fewestHands_5 rfl hl (by decide) rfl (fun ls hl => ?_)
  refine lv_iload_n hx hb dX9_fewestHands_6 rfl (lv_at hl 0 rfl) ?_
  refine lv_aload_n hx hb dX9_fewestHands_7 rfl (lv_at hl 1 rfl) ?_
  refine va_get (D := D) (ci := 9) (v := .ref (r 1)) (C := RX9) (T := TX9) (N := 10) hx hb hg inC9 hown hK hP 80 rfl rfl 0 (by decide) (hg _ wt2_115) (fun _ h9 => h9) rfl dX9_fewestHands_8 ?_
  refine va_get (D := D) (ci := 7) (v := .int (f4 38)) (C := RX7) (T := TX7) (N := 20) hx hb hg inC7 hown hK hP 1 rfl rfl 6 (by decide) (hg _ wt1_107) (fun _ h9 => h9) rfl dX9_fewestHands_11 ?_
  refine k_top (z := 0) hw1.2.1 ?_
  refine lv_icmp_gt (tgt := 108) hx hb dX9_fewestHands_14 (by decide) (fun c7 => absurd c7 (by decide +kernel)) (fun c7 => ?_)
  refine lv_iload_n hx hb dX9_fewestHands_17 rfl (lv_at hl 0 rfl) ?_
  refine lv_bipush (v := 6) hx hb dX9_fewestHands_18 (by decide) ?_
  refine lv_icmp_gt (tgt := 108) hx hb dX9_fewestHands_20 (by decide) (fun c8 => absurd c8 (by decide +kernel)) (fun c8 => ?_)
  refine lv_iconst (v := 0) hx hb dX9_fewestHands_23 (by decide) ?_
  refine lv_istore_n (lv' := [(2, .int 0), (1, .int 0), (0, .ref (r 80))]) hx hb dX9_fewestHands_24 rfl hl (by decide) rfl (fun ls hl => ?_)
  refine lv_iload_n hx hb dX9_fewestHands_25 rfl (lv_at hl 0 rfl) ?_
  refine lv_iconst (v := 1) hx hb dX9_fewestHands_26 (by decide) ?_
  refine lv_aload_n hx hb dX9_fewestHands_27 rfl (lv_at hl 2 rfl) ?_
  refine va_get (D := D) (ci := 9) (v := .ref (r 1)) (C := RX9) (T := TX9) (N := 10) hx hb hg inC9 hown hK hP 80 rfl rfl 0 (by decide) (hg _ wt2_115) (fun _ h9 => h9) rfl dX9_fewestHands_28 ?_
  refine va_get (D := D) (ci := 7) (v := .int (f4 38)) (C := RX7) (T := TX7) (N := 20) hx hb hg inC7 hown hK hP 1 rfl rfl 6 (by decide) (hg _ wt1_107) (fun _ h9 => h9) rfl dX9_fewestHands_31 ?_
  refine k_top (z := 0) hw1.2.1 ?_
  refine lv_ishl hx hb dX9_fewestHands_34 ?_
  refine k_top (z := 1) (by decide +kernel) ?_
  refine lv_icmp_ge (tgt := 102) hx hb dX9_fewestHands_35 (by decide) (fun c9 => absurd c9 (by decide +kernel)) (fun c9 => ?_)
  refine lv_iload_n hx hb dX9_fewestHands_38 rfl (lv_at hl 0 rfl) ?_
  refine lv_bipush (v := 64) hx hb dX9_fewestHands_39 (by decide) ?_
  refine lv_icmp_ge (tgt := 102) hx hb dX9_fewestHands_41 (by decide) (fun c10 => absurd c10 (by decide +kernel)) (fun c10 => ?_)
  refine lv_iload_n hx hb dX9_fewestHands_44 rfl (lv_at hl 0 rfl) ?_
  refine kN.callS (As := [.int 0]) (rest := []) ⟨hx, hb, hml, hown, hg⟩ (x_bitCount0 l ) (va_cwS 1 hg (kgS wt5_41 wt4_99 wt1_21 wt4_100) rfl rfl rfl (by decide +kernel) ⟨by decide, by decide⟩) hP hS rfl hl.1 rfl (Nat.le_of_ble_eq_true rfl) dX9_fewestHands_45 ⟨by decide, by decide⟩ (fun v12 H locs hw11 hP hS => ?_)
  refine k_top (z := 0) (hw11) ?_
  refine lv_iload_n hx hb dX9_fewestHands_48 rfl (lv_at hl 1 rfl) ?_
  refine lv_icmp_eq (tgt := 55) hx hb dX9_fewestHands_49 (by decide) (fun c13 => ?_) (fun c13 => absurd (by decide +kernel) c13)
  refine lv_aload_n hx hb dX9_fewestHands_55 rfl (lv_at hl 2 rfl) ?_
  refine va_get (D := D) (ci := 9) (v := .ref (r 58)) (C := RX9) (T := TX9) (N := 10) hx hb hg inC9 hown hK hP 80 rfl rfl 1 (by decide) (hg _ wt2_116) (fun _ h9 => h9) rfl dX9_fewestHands_56 ?_
  refine lv_iload_n hx hb dX9_fewestHands_59 rfl (lv_at hl 0 rfl) ?_
  refine lv_aload_n hx hb dX9_fewestHands_60 rfl (lv_at hl 2 rfl) ?_
  refine va_get (D := D) (ci := 9) (v := .int (f4 2565)) (C := RX9) (T := TX9) (N := 10) hx hb hg inC9 hown hK hP 80 rfl rfl 5 (by decide) (hg _ wt2_120) (fun _ h9 => h9) rfl dX9_fewestHands_61 ?_
  refine k_top (z := 40) hw1.2.2.2.2.2.2.2.2.2.1 ?_
  refine lv_aload_n hx hb dX9_fewestHands_64 rfl (lv_at hl 2 rfl) ?_
  refine va_get (D := D) (ci := 9) (v := .ref (r 83)) (C := RX9) (T := TX9) (N := 10) hx hb hg inC9 hown hK hP 80 rfl rfl 4 (by decide) (hg _ wt2_119) (fun _ h9 => h9) rfl dX9_fewestHands_65 ?_
  refine lv_iload_n hx hb dX9_fewestHands_68 rfl (lv_at hl 0 rfl) ?_
  refine lv_bipush (v := 11) hx hb dX9_fewestHands_69 (by decide) ?_
  refine lv_imul hx hb dX9_fewestHands_71 ?_
  refine k_top (z := 0) (by decide +kernel) ?_
  refine kI.callW (As := [.int 0, .int 40, .ref (r 83), .int 0]) (rest := []) ⟨hx, hb, hml, hown, hg⟩ (x_runSet l r f4 a5 g6 hw1.1 hw1.2.1 hw1.2.2.1 hw1.2.2.2.1 hw1.2.2.2.2.1 hw1.2.2.2.2.2.1 hw1.2.2.2.2.2.2.1 hw1.2.2.2.2.2.2.2.1 hw1.2.2.2.2.2.2.2.2.1 hw1.2.2.2.2.2.2.2.2.2.2 ) (cwV 4 hg (kgV wt4_232 wt4_233 wt4_234 wt1_10 wt4_235) rfl rfl rfl (by decide +kernel) ⟨by decide, by decide⟩) hK hP hD hS hA 58 3 rfl rfl rfl hl.1 rfl (Nat.le_of_ble_eq_true rfl) dX9_fewestHands_72 ⟨by decide, by decide⟩ (fun v16 u15 H locs hw14 hP hD hS => ?_)
  obtain ⟨f17, a18, g19⟩ := u15
  have hP : va_P D vwCl (xW K r f17 a18 g19) H := hP
  have hD : va_D A (xW K r f17 a18 g19) := hD
  refine k_top (z := 0) (hw14.1) ?_
  refine lv_istore_n (lv' := [(3, .int 0), (2, .int 0), (1, .int 0), (0, .ref (r 80))]) hx hb dX9_fewestHands_75 rfl hl (by decide) rfl (fun ls hl => ?_)
  refine lv_iload_n hx hb dX9_fewestHands_76 rfl (lv_at hl 0 rfl) ?_
  refine lv_iconst (v := (-1)) hx hb dX9_fewestHands_77 (by decide) ?_
  refine lv_icmp_eq (tgt := 96) hx hb dX9_fewestHands_78 (by decide) (fun c20 => absurd c20 (by decide +kernel)) (fun c20 => ?_)
  refine lv_iload_n hx hb dX9_fewestHands_81 rfl (lv_at hl 0 rfl) ?_
  refine lv_aload_n hx hb dX9_fewestHands_82 rfl (lv_at hl 3 rfl) ?_
  refine va_get (D := D) (ci := 9) (v := .ref (r 1)) (C := RX9) (T := TX9) (N := 10) hx hb hg inC9 hown hK hP 80 rfl rfl 0 (by decide) (hg _ wt2_115) (fun _ h9 => h9) rfl dX9_fewestHands_83 ?_
  refine va_get (D := D) (ci := 7) (v := .ref (r 11)) (C := RX7) (T := TX7) (N := 20) hx hb hg inC7 hown hK hP 1 rfl rfl 11 (by decide) (hg _ wt1_133) (fun _ h9 => h9) rfl dX9_fewestHands_86 ?_
  refine lv_iconst (v := 1) hx hb dX9_fewestHands_89 (by decide) ?_
  refine va_iald hx hb hK hP 11 0 rfl rfl (k_in (by decide +kernel)) dX9_fewestHands_90 ?_
  refine k_top (z := 30) (by rw [cl_1]; exact hw14.2.2.2.2.2.1) ?_
  refine lv_icmp_gt (tgt := 96) hx hb dX9_fewestHands_91 (by decide) (fun c21 => absurd c21 (by decide +kernel)) (fun c21 => ?_)
  refine lv_iload_n hx hb dX9_fewestHands_94 rfl (lv_at hl 1 rfl) ?_
  exact kI_ret (v := 0) hx hb hr hlocks rfl hK hS dX9_fewestHands_95 (f17, a18, g19) hP hD rfl
set_option maxHeartbeats 4000000 in
set_option maxRecDepth 100000 in
theorem x_hands (l : Launch) {D : va_G} {K : Nat → ClassId} (r : Nat → Nat) (f : Nat → Int32) (a : Nat → Nat → Int32) (g : xG) (h0 : f 32 = 0) (h1 : f 38 = 0) (h2 : f 44 = 0) (h3 : a 11 0 = 0) (h4 : a 11 1 = 30) (h5 : a 11 2 = 2) (h6 : f 1858 = (-1)) (h7 : f 50 = (-1)) (h8 : (∀ i, g.2 15 i = none)) (h9 : f 2565 = 0) (x : Int32)  : kI l yX11_hands (Cond.code yX11_hands cX11_hands 3 (some .int) :: kG) (rmD 6 0 0) D (tysK K) [.ref (r 0), .int x] (xW K r f a g) (fun v (u : xS) => v = (if x = 0 then (0 : Int32) else if x = 1 then 0 else -1)) (fun u => xW K r u.1 u.2.1 u.2.2) 0 0 := by
  refine kI.of (cc := cX11_hands) (maxL := 3) (ret := (some .int)) (by decide) rfl (Nat.le_of_ble_eq_true rfl) ?_
  intro p e s m below meth c A hx hb hr hml hown hts hlocks hnm hK hP hD hS hA ls hl
  have hg : ∀ w ∈ kG, w.before _ s = true := fun w h => hts w (List.mem_cons_of_mem _ h)
  have hown : s.vm.findClass RX11 = some m.cls := hown
  have hl : lv_has ls 3 [(0, .ref (r 0)), (1, .int x)] := hl
  refine lv_iload_n hx hb dX11_hands_0 rfl (lv_at hl 1 rfl) ?_
  refine lv_if_eq (tgt := 11) hx hb dX11_hands_1 (by decide) (fun c1 => ?_) (fun c1 => ?_)
  · refine lv_aload_n hx hb dX11_hands_11 rfl (lv_at hl 0 rfl) ?_
    refine va_get (D := D) (ci := 11) (v := .ref (r 80)) (C := RX11) (T := TX11) (N := 17) hx hb hg inC11 hown hK hP 0 rfl rfl 6 (by decide) (hg _ wt2_192) (fun _ h9 => h9) rfl dX11_hands_12 ?_
    refine kI.callW (As := []) (rest := []) ⟨hx, hb, hml, hown, hg⟩ (x_fewestHands l r f a g h0 h1 h2 h3 h4 h5 h6 h7 h8 h9 ) (cwV 0 hg (kgV wt5_32 wt5_33 wt5_34 wt1_11 wt5_35) rfl rfl rfl (by decide +kernel) ⟨by decide, by decide⟩) hK hP hD hS hA 80 9 rfl rfl rfl hl.1 rfl (Nat.le_of_ble_eq_true rfl) dX11_hands_15 ⟨by decide, by decide⟩ (fun v4 u3 H locs hw2 hP hD hS => ?_)
    obtain ⟨f5, a6, g7⟩ := u3
    have hP : va_P D vwCl (xW K r f5 a6 g7) H := hP
    have hD : va_D A (xW K r f5 a6 g7) := hD
    refine k_top (z := 0) (hw2) ?_
    refine lv_istore_n (lv' := [(2, .int 0), (0, .ref (r 0)), (1, .int x)]) hx hb dX11_hands_18 rfl hl (by decide) rfl (fun ls hl => ?_)
    refine lv_iload_n hx hb dX11_hands_19 rfl (lv_at hl 2 rfl) ?_
    refine lv_if_ne (tgt := 35) hx hb dX11_hands_20 (by decide) (fun c8 => absurd c1 c8) (fun c8 => ?_)
    refine lv_iload_n hx hb dX11_hands_23 rfl (lv_at hl 0 rfl) ?_
    refine lv_iconst (v := (-1)) hx hb dX11_hands_24 (by decide) ?_
    refine lv_icmp_eq (tgt := 35) hx hb dX11_hands_25 (by decide) (fun c9 => absurd c9 (by decide +kernel)) (fun c9 => ?_)
    refine lv_iload_n hx hb dX11_hands_28 rfl (lv_at hl 0 rfl) ?_
    refine kN.callS (As := [.int 0]) (rest := []) ⟨hx, hb, hml, hown, hg⟩ (x_bitCount0 l ) (va_cwS 1 hg (kgS wt5_42 wt4_99 wt1_21 wt4_100) rfl rfl rfl (by decide +kernel) ⟨by decide, by decide⟩) hP hS rfl hl.1 rfl (Nat.le_of_ble_eq_true rfl) dX11_hands_29 ⟨by decide, by decide⟩ (fun v11 H locs hw10 hP hS => ?_)
    refine k_top (z := 0) (hw10) ?_
    refine lv_goto (tgt := 36) hx hb dX11_hands_32 (by decide) ?_
    exact kI_ret (v := 0) hx hb hr hlocks rfl hK hS dX11_hands_36 (f5, a6, g7) hP hD (by simp [c1])
  · refine lv_iload_n hx hb dX11_hands_4 rfl (lv_at hl 1 rfl) ?_
    refine lv_iconst (v := 1) hx hb dX11_hands_5 (by decide) ?_
    refine lv_icmp_eq (tgt := 11) hx hb dX11_hands_6 (by decide) (fun c12 => ?_) (fun c12 => ?_)
    · refine lv_aload_n hx hb dX11_hands_11 rfl (lv_at hl 0 rfl) ?_
      refine va_get (D := D) (ci := 11) (v := .ref (r 80)) (C := RX11) (T := TX11) (N := 17) hx hb hg inC11 hown hK hP 0 rfl rfl 6 (by decide) (hg _ wt2_192) (fun _ h9 => h9) rfl dX11_hands_12 ?_
      refine kI.callW (As := []) (rest := []) ⟨hx, hb, hml, hown, hg⟩ (x_fewestHands l r f a g h0 h1 h2 h3 h4 h5 h6 h7 h8 h9 ) (cwV 0 hg (kgV wt5_32 wt5_33 wt5_34 wt1_11 wt5_35) rfl rfl rfl (by decide +kernel) ⟨by decide, by decide⟩) hK hP hD hS hA 80 9 rfl rfl rfl hl.1 rfl (Nat.le_of_ble_eq_true rfl) dX11_hands_15 ⟨by decide, by decide⟩ (fun v15 u14 H locs hw13 hP hD hS => ?_)
      obtain ⟨f16, a17, g18⟩ := u14
      have hP : va_P D vwCl (xW K r f16 a17 g18) H := hP
      have hD : va_D A (xW K r f16 a17 g18) := hD
      refine k_top (z := 0) (hw13) ?_
      refine lv_istore_n (lv' := [(2, .int 0), (0, .ref (r 0)), (1, .int x)]) hx hb dX11_hands_18 rfl hl (by decide) rfl (fun ls hl => ?_)
      refine lv_iload_n hx hb dX11_hands_19 rfl (lv_at hl 2 rfl) ?_
      refine lv_if_ne (tgt := 35) hx hb dX11_hands_20 (by decide) (fun c19 => ?_) (fun c19 => absurd c19 c1)
      refine lv_iload_n hx hb dX11_hands_35 rfl (lv_at hl 0 rfl) ?_
      exact kI_ret (v := 0) hx hb hr hlocks rfl hK hS dX11_hands_36 (f16, a17, g18) hP hD (by simp [c1, c12])
    · refine lv_iconst (v := (-1)) hx hb dX11_hands_9 (by decide) ?_
      exact kI_ret (v := (-1)) hx hb hr hlocks rfl hK hS dX11_hands_10 (f, a, g) hP hD (by simp [c1, c12])
set_option maxHeartbeats 4000000 in
set_option maxRecDepth 100000 in
theorem x_chanceUnseen (l : Launch) {D : va_G} {K : Nat → ClassId} (r : Nat → Nat) (f : Nat → Int32) (a : Nat → Nat → Int32) (g : xG) (h0 : f 32 = 0) (h1 : f 38 = 0) (h2 : f 44 = 0) (h3 : a 11 0 = 0) (h4 : a 11 1 = 30) (h5 : a 11 2 = 2) (h6 : f 1858 = (-1)) (h7 : f 50 = (-1)) (h8 : (∀ i, g.2 15 i = none)) (x : Int32)  : kL l yX3_chanceUnseen (Cond.code yX3_chanceUnseen cX3_chanceUnseen 6 (some .long) :: kG) (rmD 4 0 0) D (tysK K) [.ref (r 58), .int x] (xW K r f a g) (fun v (u : xS) => v = 1000000000000) (fun u => xW K r u.1 u.2.1 u.2.2) 0 0 := by
  refine kL.of (cc := cX3_chanceUnseen) (maxL := 6) (ret := (some .long)) (by decide) rfl (Nat.le_of_ble_eq_true rfl) ?_
  intro p e s m below meth c A hx hb hr hml hown hts hlocks hnm hK hP hD hS hA ls hl
  have hg : ∀ w ∈ kG, w.before _ s = true := fun w h => hts w (List.mem_cons_of_mem _ h)
  have hown : s.vm.findClass RX3 = some m.cls := hown
  have hl : lv_has ls 6 [(0, .ref (r 58)), (1, .int x)] := hl
  refine lv_aload_n hx hb dX3_chanceUnseen_0 rfl (lv_at hl 0 rfl) ?_
  refine kV.callW (As := []) (rest := []) ⟨hx, hb, hml, hown, hg⟩ (x_begin l r f a g h0 h1 h2 h3 h4 h5 h6 h7 h8 ) (cwV 0 hg (kgV wt4_236 wt4_237 wt4_238 wt1_10 wt4_239) rfl rfl rfl (by decide +kernel) ⟨by decide, by decide⟩) hK hP hD hS hA 58 3 rfl rfl rfl hl.1 rfl (Nat.le_of_ble_eq_true rfl) dX3_chanceUnseen_1 ⟨by decide, by decide⟩ (fun u2 H locs hw1 hP hD hS => ?_)
  obtain ⟨f4, a5, g6⟩ := u2
  have hP : va_P D vwCl (xW K r f4 a5 g6) H := hP
  have hD : va_D A (xW K r f4 a5 g6) := hD
  refine lv_ldc2 (v := (1000000000000)) hx hb hown (hg _ wt5_69) dX3_chanceUnseen_4 ?_
  refine lv_lstore_n (lv' := [(2, .long (1000000000000)), (0, .ref (r 58)), (1, .int x)]) hx hb dX3_chanceUnseen_7 rfl hl (by decide) rfl (fun ls hl => ?_)
  refine lv_iconst (v := 0) hx hb dX3_chanceUnseen_8 (by decide) ?_
  refine lv_istore (lv' := [(4, .int 0), (2, .long (1000000000000)), (0, .ref (r 58)), (1, .int x)]) hx hb dX3_chanceUnseen_9 hl (by decide) rfl (fun ls hl => ?_)
  refine lv_iload hx hb dX3_chanceUnseen_11 (lv_at hl 0 rfl) ?_
  refine lv_iload_n hx hb dX3_chanceUnseen_13 rfl (lv_at hl 3 rfl) ?_
  refine lv_icmp_ge (tgt := 130) hx hb dX3_chanceUnseen_14 (by decide) (fun c7 => ?_) (fun c7 => ?_)
  · refine lv_lload_n hx hb dX3_chanceUnseen_130 rfl (lv_at hl 1 rfl) ?_
    exact kL_ret (v := (1000000000000)) hx hb hr hlocks hK hS dX3_chanceUnseen_131 (f4, a5, g6) hP hD rfl
  · refine lv_aload_n hx hb dX3_chanceUnseen_17 rfl (lv_at hl 2 rfl) ?_
    refine kI.callW (As := []) (rest := []) ⟨hx, hb, hml, hown, hg⟩ (x_canTick l r f4 a5 g6 hw1.2.2.2.2.2.2.2.2.2.2.2.1 ) (cwV 0 hg (kgV wt5_7 wt5_8 wt5_9 wt1_10 wt5_10) rfl rfl rfl (by decide +kernel) ⟨by decide, by decide⟩) hK hP hD hS hA 58 3 rfl rfl rfl hl.1 rfl (Nat.le_of_ble_eq_true rfl) dX3_chanceUnseen_18 ⟨by decide, by decide⟩ (fun v10 u9 H locs hw8 hP hD hS => ?_)
    have hP : va_P D vwCl (xW K r f4 a5 g6) H := hP
    have hD : va_D A (xW K r f4 a5 g6) := hD
    refine k_top (z := 1) (hw8) ?_
    refine lv_if_eq (tgt := 130) hx hb dX3_chanceUnseen_21 (by decide) (fun c11 => absurd c11 (by decide +kernel)) (fun c11 => ?_)
    refine lv_aload_n hx hb dX3_chanceUnseen_24 rfl (lv_at hl 2 rfl) ?_
    refine kI.callW (As := []) (rest := []) ⟨hx, hb, hml, hown, hg⟩ (x_allStand l r f4 a5 g6 hw1.2.2.2.2.2.2.2.2.2.1 ) (cwV 0 hg (kgV wt5_70 wt5_71 wt5_72 wt1_10 wt5_73) rfl rfl rfl (by decide +kernel) ⟨by decide, by decide⟩) hK hP hD hS hA 58 3 rfl rfl rfl hl.1 rfl (Nat.le_of_ble_eq_true rfl) dX3_chanceUnseen_25 ⟨by decide, by decide⟩ (fun v14 u13 H locs hw12 hP hD hS => ?_)
    have hP : va_P D vwCl (xW K r f4 a5 g6) H := hP
    have hD : va_D A (xW K r f4 a5 g6) := hD
    refine k_top (z := 1) (hw12) ?_
    refine lv_if_ne (tgt := 130) hx hb dX3_chanceUnseen_28 (by decide) (fun c15 => ?_) (fun c15 => absurd c15 (by decide +kernel))
    refine lv_lload_n hx hb dX3_chanceUnseen_130 rfl (lv_at hl 1 rfl) ?_
    exact kL_ret (v := (1000000000000)) hx hb hr hlocks hK hS dX3_chanceUnseen_131 (f4, a5, g6) hP hD rfl
set_option maxHeartbeats 4000000 in
set_option maxRecDepth 100000 in
theorem x_unseen (l : Launch) {D : va_G} {K : Nat → ClassId} (r : Nat → Nat) (f : Nat → Int32) (a : Nat → Nat → Int32) (g : xG) (h0 : f 32 = 0) (h1 : f 38 = 0) (h2 : f 44 = 0) (h3 : a 11 0 = 0) (h4 : a 11 1 = 30) (h5 : a 11 2 = 2) (h6 : f 1858 = (-1)) (h7 : f 50 = (-1)) (h8 : (∀ i, g.2 15 i = none)) (x : Int32)  : kL l yX11_unseen (Cond.code yX11_unseen cX11_unseen 2 (some .long) :: kG) (rmD 5 0 0) D (tysK K) [.ref (r 0), .int x] (xW K r f a g) (fun v (u : xS) => v = (if x < 0 then (-1 : Int64) else if x ≤ 99 then 1000000000000 else -1)) (fun u => xW K r u.1 u.2.1 u.2.2) 0 0 := by
  refine kL.of (cc := cX11_unseen) (maxL := 2) (ret := (some .long)) (by decide) rfl (Nat.le_of_ble_eq_true rfl) ?_
  intro p e s m below meth c A hx hb hr hml hown hts hlocks hnm hK hP hD hS hA ls hl
  have hg : ∀ w ∈ kG, w.before _ s = true := fun w h => hts w (List.mem_cons_of_mem _ h)
  have hown : s.vm.findClass RX11 = some m.cls := hown
  have hl : lv_has ls 2 [(0, .ref (r 0)), (1, .int x)] := hl
  refine lv_iload_n hx hb dX11_unseen_0 rfl (lv_at hl 1 rfl) ?_
  refine lv_if_lt (tgt := 10) hx hb dX11_unseen_1 (by decide) (fun c1 => ?_) (fun c1 => ?_)
  · refine lv_ldc2 (v := (-1)) hx hb hown (hg _ wt5_64) dX11_unseen_10 ?_
    refine lv_goto (tgt := 24) hx hb dX11_unseen_13 (by decide) ?_
    exact kL_ret (v := (-1)) hx hb hr hlocks hK hS dX11_unseen_24 (f, a, g) hP hD (by rw [if_pos c1])
  · refine lv_iload_n hx hb dX11_unseen_4 rfl (lv_at hl 1 rfl) ?_
    refine lv_bipush (v := 99) hx hb dX11_unseen_5 (by decide) ?_
    refine lv_icmp_le (tgt := 16) hx hb dX11_unseen_7 (by decide) (fun c2 => ?_) (fun c2 => ?_)
    · refine lv_aload_n hx hb dX11_unseen_16 rfl (lv_at hl 0 rfl) ?_
      refine va_get (D := D) (ci := 11) (v := .ref (r 58)) (C := RX11) (T := TX11) (N := 17) hx hb hg inC11 hown hK hP 0 rfl rfl 5 (by decide) (hg _ wt2_191) (fun _ h9 => h9) rfl dX11_unseen_17 ?_
      refine lv_iload_n hx hb dX11_unseen_20 rfl (lv_at hl 1 rfl) ?_
      refine kL.callW (As := [.int x]) (rest := []) ⟨hx, hb, hml, hown, hg⟩ (x_chanceUnseen l r f a g h0 h1 h2 h3 h4 h5 h6 h7 h8 x) (cwV 1 hg (kgV wt5_65 wt5_66 wt5_67 wt1_10 wt5_68) rfl rfl rfl (by decide +kernel) ⟨by decide, by decide⟩) hK hP hD hS hA 58 3 rfl rfl rfl hl.1 rfl (Nat.le_of_ble_eq_true rfl) dX11_unseen_21 ⟨by decide, by decide⟩ (fun v5 u4 H locs hw3 hP hD hS => ?_)
      obtain ⟨f6, a7, g8⟩ := u4
      have hP : va_P D vwCl (xW K r f6 a7 g8) H := hP
      have hD : va_D A (xW K r f6 a7 g8) := hD
      refine k_topl (z := 1000000000000) hw3 ?_
      exact kL_ret (v := 1000000000000) hx hb hr hlocks hK hS dX11_unseen_24 (f6, a7, g8) hP hD (by rw [if_neg c1, if_pos c2])
    · refine lv_ldc2 (v := (-1)) hx hb hown (hg _ wt5_64) dX11_unseen_10 ?_
      refine lv_goto (tgt := 24) hx hb dX11_unseen_13 (by decide) ?_
      exact kL_ret (v := (-1)) hx hb hr hlocks hK hS dX11_unseen_24 (f, a, g) hP hD (by rw [if_neg c1, if_neg c2])
set_option maxHeartbeats 4000000 in
set_option maxRecDepth 100000 in
theorem x_fitsAll (l : Launch) {D : va_G} {K : Nat → ClassId} (r : Nat → Nat) (f : Nat → Int32) (a : Nat → Nat → Int32) (g : xG) (h0 : f 44 = 0)   : kI l yX9_fitsAll (Cond.code yX9_fitsAll cX9_fitsAll 4 (some .boolean) :: kG) (rmD 1 0 0) D (tysK K) [.ref (r 80), .int 0] (xW K r f a g) (fun v (_ : Unit) => v = 1) (fun _ => xW K r f a g) 0 0 := by
  refine kI.of (cc := cX9_fitsAll) (maxL := 4) (ret := (some .boolean)) (by decide) rfl (Nat.le_of_ble_eq_true rfl) ?_
  intro p e s m below meth c A hx hb hr hml hown hts hlocks hnm hK hP hD hS hA ls hl
  have hg : ∀ w ∈ kG, w.before _ s = true := fun w h => hts w (List.mem_cons_of_mem _ h)
  have hown : s.vm.findClass RX9 = some m.cls := hown
  have hl : lv_has ls 4 [(0, .ref (r 80)), (1, .int 0)] := hl
  refine lv_iconst (v := 0) hx hb dX9_fitsAll_0 (by decide) ?_
  refine lv_istore_n (lv' := [(2, .int 0), (0, .ref (r 80)), (1, .int 0)]) hx hb dX9_fitsAll_1 rfl hl (by decide) rfl (fun ls hl => ?_)
  refine lv_iload_n hx hb dX9_fitsAll_2 rfl (lv_at hl 0 rfl) ?_
  refine lv_aload_n hx hb dX9_fitsAll_3 rfl (lv_at hl 1 rfl) ?_
  refine va_get (D := D) (ci := 9) (v := .ref (r 1)) (C := RX9) (T := TX9) (N := 10) hx hb hg inC9 hown hK hP 80 rfl rfl 0 (by decide) (hg _ wt2_115) (fun _ h9 => h9) rfl dX9_fitsAll_4 ?_
  refine va_get (D := D) (ci := 7) (v := .int (f 44)) (C := RX7) (T := TX7) (N := 20) hx hb hg inC7 hown hK hP 1 rfl rfl 12 (by decide) (hg _ wt1_136) (fun _ h9 => h9) rfl dX9_fitsAll_7 ?_
  refine k_top (z := 0) h0 ?_
  refine lv_icmp_ge (tgt := 73) hx hb dX9_fitsAll_10 (by decide) (fun c1 => ?_) (fun c1 => absurd (by decide +kernel) c1)
  refine lv_iconst (v := 1) hx hb dX9_fitsAll_73 (by decide) ?_
  exact kI_ret (v := 1) hx hb hr hlocks (by decide +kernel) hK hS dX9_fitsAll_74 () hP hD rfl
set_option maxHeartbeats 4000000 in
set_option maxRecDepth 100000 in
theorem x_suspects (l : Launch) {D : va_G} {K : Nat → ClassId} (r : Nat → Nat) (f : Nat → Int32) (a : Nat → Nat → Int32) (g : xG) (h0 : f 32 = 0) (h1 : f 38 = 0) (h2 : f 44 = 0) (h3 : a 11 0 = 0) (h4 : a 11 1 = 30) (h5 : a 11 2 = 2) (h6 : f 1858 = (-1)) (h7 : f 50 = (-1)) (h8 : (∀ i, g.2 15 i = none)) (h9 : f 2565 = 0) (x : Int32)  : kI l yX9_suspects (Cond.code yX9_suspects cX9_suspects 4 (some .int) :: kG) (rmD 5 0 0) D (tysK K) [.ref (r 80), .int x] (xW K r f a g) (fun v (u : xS) => v = (if (0 : Int32) = x then (0 : Int32) else if x = (-1) then 1 else -1) ∧ u.1 32 = 0 ∧ u.1 38 = 0 ∧ u.2.1 85 0 = 1) (fun u => xW K r u.1 u.2.1 u.2.2) 0 0 := by
  refine kI.of (cc := cX9_suspects) (maxL := 4) (ret := (some .int)) (by decide) rfl (Nat.le_of_ble_eq_true rfl) ?_
  intro p e s m below meth c A hx hb hr hml hown hts hlocks hnm hK hP hD hS hA ls hl
  have hg : ∀ w ∈ kG, w.before _ s = true := fun w h => hts w (List.mem_cons_of_mem _ h)
  have hown : s.vm.findClass RX9 = some m.cls := hown
  have hl : lv_has ls 4 [(0, .ref (r 80)), (1, .int x)] := hl
  refine lv_aload_n hx hb dX9_suspects_0 rfl (lv_at hl 0 rfl) ?_
  refine kV.callW (As := []) (rest := []) ⟨hx, hb, hml, hown, hg⟩ (x_openSets l r f a g h0 h1 h2 h3 h4 h5 h6 h7 h8 h9 ) (cwV 0 hg (kgV wt5_36 wt5_38 wp3_0 wt1_11 wt5_39) rfl rfl rfl (by decide +kernel) ⟨by decide, by decide⟩) hK hP hD hS hA 80 9 rfl rfl rfl hl.1 rfl (Nat.le_of_ble_eq_true rfl) dX9_suspects_1 ⟨by decide, by decide⟩ (fun u2 H locs hw1 hP hD hS => ?_)
  obtain ⟨f4, a5, g6⟩ := u2
  have hP : va_P D vwCl (xW K r f4 a5 g6) H := hP
  have hD : va_D A (xW K r f4 a5 g6) := hD
  refine lv_iconst (v := 0) hx hb dX9_suspects_4 (by decide) ?_
  refine lv_istore_n (lv' := [(2, .int 0), (0, .ref (r 80)), (1, .int x)]) hx hb dX9_suspects_5 rfl hl (by decide) rfl (fun ls hl => ?_)
  refine lv_iconst (v := 0) hx hb dX9_suspects_6 (by decide) ?_
  refine lv_istore_n (lv' := [(3, .int 0), (2, .int 0), (0, .ref (r 80)), (1, .int x)]) hx hb dX9_suspects_7 rfl hl (by decide) rfl (fun ls hl => ?_)
  refine lv_iload_n hx hb dX9_suspects_8 rfl (lv_at hl 0 rfl) ?_
  refine lv_iconst (v := 1) hx hb dX9_suspects_9 (by decide) ?_
  refine lv_aload_n hx hb dX9_suspects_10 rfl (lv_at hl 2 rfl) ?_
  refine va_get (D := D) (ci := 9) (v := .ref (r 1)) (C := RX9) (T := TX9) (N := 10) hx hb hg inC9 hown hK hP 80 rfl rfl 0 (by decide) (hg _ wt2_115) (fun _ h9 => h9) rfl dX9_suspects_11 ?_
  refine va_get (D := D) (ci := 7) (v := .int (f4 38)) (C := RX7) (T := TX7) (N := 20) hx hb hg inC7 hown hK hP 1 rfl rfl 6 (by decide) (hg _ wt1_107) (fun _ h9 => h9) rfl dX9_suspects_14 ?_
  refine k_top (z := 0) hw1.2.1 ?_
  refine lv_ishl hx hb dX9_suspects_17 ?_
  refine k_top (z := 1) (by decide +kernel) ?_
  refine lv_icmp_ge (tgt := 84) hx hb dX9_suspects_18 (by decide) (fun c7 => absurd c7 (by decide +kernel)) (fun c7 => ?_)
  refine lv_iload_n hx hb dX9_suspects_21 rfl (lv_at hl 0 rfl) ?_
  refine lv_bipush (v := 64) hx hb dX9_suspects_22 (by decide) ?_
  refine lv_icmp_ge (tgt := 84) hx hb dX9_suspects_24 (by decide) (fun c8 => absurd c8 (by decide +kernel)) (fun c8 => ?_)
  refine lv_aload_n hx hb dX9_suspects_27 rfl (lv_at hl 2 rfl) ?_
  refine va_get (D := D) (ci := 9) (v := .ref (r 58)) (C := RX9) (T := TX9) (N := 10) hx hb hg inC9 hown hK hP 80 rfl rfl 1 (by decide) (hg _ wt2_116) (fun _ h9 => h9) rfl dX9_suspects_28 ?_
  refine lv_iload_n hx hb dX9_suspects_31 rfl (lv_at hl 0 rfl) ?_
  refine lv_aload_n hx hb dX9_suspects_32 rfl (lv_at hl 2 rfl) ?_
  refine va_get (D := D) (ci := 9) (v := .int (f4 2565)) (C := RX9) (T := TX9) (N := 10) hx hb hg inC9 hown hK hP 80 rfl rfl 5 (by decide) (hg _ wt2_120) (fun _ h9 => h9) rfl dX9_suspects_33 ?_
  refine k_top (z := 40) hw1.2.2.2.2.2.2.2.2.2.1 ?_
  refine lv_aload_n hx hb dX9_suspects_36 rfl (lv_at hl 2 rfl) ?_
  refine va_get (D := D) (ci := 9) (v := .ref (r 83)) (C := RX9) (T := TX9) (N := 10) hx hb hg inC9 hown hK hP 80 rfl rfl 4 (by decide) (hg _ wt2_119) (fun _ h9 => h9) rfl dX9_suspects_37 ?_
  refine lv_iload_n hx hb dX9_suspects_40 rfl (lv_at hl 0 rfl) ?_
  refine lv_bipush (v := 11) hx hb dX9_suspects_41 (by decide) ?_
  refine lv_imul hx hb dX9_suspects_43 ?_
  refine k_top (z := 0) (by decide +kernel) ?_
  refine kI.callW (As := [.int 0, .int 40, .ref (r 83), .int 0]) (rest := []) ⟨hx, hb, hml, hown, hg⟩ (x_runSet l r f4 a5 g6 hw1.1 hw1.2.1 hw1.2.2.1 hw1.2.2.2.1 hw1.2.2.2.2.1 hw1.2.2.2.2.2.1 hw1.2.2.2.2.2.2.1 hw1.2.2.2.2.2.2.2.1 hw1.2.2.2.2.2.2.2.2.1 hw1.2.2.2.2.2.2.2.2.2.2 ) (cwV 4 hg (kgV wt4_232 wt4_233 wt4_234 wt1_10 wt4_235) rfl rfl rfl (by decide +kernel) ⟨by decide, by decide⟩) hK hP hD hS hA 58 3 rfl rfl rfl hl.1 rfl (Nat.le_of_ble_eq_true rfl) dX9_suspects_44 ⟨by decide, by decide⟩ (fun v11 u10 H locs hw9 hP hD hS => ?_)
  obtain ⟨f12, a13, g14⟩ := u10
  have hP : va_P D vwCl (xW K r f12 a13 g14) H := hP
  have hD : va_D A (xW K r f12 a13 g14) := hD
  refine k_top (z := 0) (hw9.1) ?_
  refine lv_pop hx hb dX9_suspects_47 rfl ?_
  refine lv_aload_n hx hb dX9_suspects_48 rfl (lv_at hl 2 rfl) ?_
  refine va_get (D := D) (ci := 9) (v := .ref (r 85)) (C := RX9) (T := TX9) (N := 10) hx hb hg inC9 hown hK hP 80 rfl rfl 8 (by decide) (hg _ wt2_123) (fun _ h9 => h9) rfl dX9_suspects_49 ?_
  refine lv_iload_n hx hb dX9_suspects_52 rfl (lv_at hl 0 rfl) ?_
  refine lv_aload_n hx hb dX9_suspects_53 rfl (lv_at hl 2 rfl) ?_
  refine lv_iload_n hx hb dX9_suspects_54 rfl (lv_at hl 0 rfl) ?_
  refine kI.callW (As := [.int 0]) (rest := [.int 0, .ref (r 85)]) ⟨hx, hb, hml, hown, hg⟩ (x_fitsAll l r f12 a13 g14 hw9.2.2.2.1 ) (cwV 1 hg (kgV wt5_93 wt5_95 wp3_2 wt1_11 wt5_96) rfl rfl rfl (by decide +kernel) ⟨by decide, by decide⟩) hK hP hD hS hA 80 9 rfl rfl rfl hl.1 rfl (Nat.le_of_ble_eq_true rfl) dX9_suspects_55 ⟨by decide, by decide⟩ (fun v17 u16 H locs hw15 hP hD hS => ?_)
  have hP : va_P D vwCl (xW K r f12 a13 g14) H := hP
  have hD : va_D A (xW K r f12 a13 g14) := hD
  refine k_top (z := 1) (hw15) ?_
  refine va_zast hx hb hK hP hD hS 85 2 rfl rfl (k_in (by decide +kernel)) dX9_suspects_58 (fun H locs hP hD hS => ?_)
  rw [cl_0] at hP hD
  have hP : va_P D vwCl (xW K r f12 (va_up a13 85 (upd (a13 85) 0 (vp_nar .boolean 1))) g14) H := hP
  have hD : va_D A (xW K r f12 (va_up a13 85 (upd (a13 85) 0 (vp_nar .boolean 1))) g14) := hD
  refine k_gen (P := fun z => va_P D vwCl (xW K r f12 z g14) H ∧ va_D A (xW K r f12 z g14)) (va_up a13 85 (upd (a13 85) 0 (vp_nar .boolean 1))) ⟨hP, hD⟩ (fun a_18 ea_18 hPD => ?_)
  have hP := hPD.1
  have hD := hPD.2
  refine lv_aload_n hx hb dX9_suspects_59 rfl (lv_at hl 2 rfl) ?_
  refine va_get (D := D) (ci := 9) (v := .ref (r 85)) (C := RX9) (T := TX9) (N := 10) hx hb hg inC9 hown hK hP 80 rfl rfl 8 (by decide) (hg _ wt2_123) (fun _ h9 => h9) rfl dX9_suspects_60 ?_
  refine lv_iload_n hx hb dX9_suspects_63 rfl (lv_at hl 0 rfl) ?_
  refine va_zald hx hb hK hP 85 2 rfl rfl (k_in (by decide +kernel)) dX9_suspects_64 ?_
  refine k_top (z := 1) (by rw [cl_0]; exact (show a_18 85 0 = 1 from by rw [← ea_18]; exact vpz1)) ?_
  refine lv_if_eq (tgt := 78) hx hb dX9_suspects_65 (by decide) (fun c19 => absurd c19 (by decide +kernel)) (fun c19 => ?_)
  refine lv_iload_n hx hb dX9_suspects_68 rfl (lv_at hl 1 rfl) ?_
  refine lv_iload_n hx hb dX9_suspects_69 rfl (lv_at hl 3 rfl) ?_
  refine lv_icmp_ne (tgt := 75) hx hb dX9_suspects_70 (by decide) (fun c20 => ?_) (fun c20 => ?_)
  · refine lv_iinc (v := 1) (lv' := [(2, .int 1), (3, .int 0), (0, .ref (r 80)), (1, .int x)]) hx hb dX9_suspects_75 hl (k := 1) rfl (by decide +kernel) (by decide) rfl (fun ls hl => ?_)
    refine lv_iinc (v := 1) (lv' := [(3, .int 1), (2, .int 1), (0, .ref (r 80)), (1, .int x)]) hx hb dX9_suspects_78 hl (k := 1) rfl (by decide +kernel) (by decide) rfl (fun ls hl => ?_)
    refine lv_goto (tgt := 8) hx hb dX9_suspects_81 (by decide) ?_
    refine lv_iload_n hx hb dX9_suspects_8 rfl (lv_at hl 0 rfl) ?_
    refine lv_iconst (v := 1) hx hb dX9_suspects_9 (by decide) ?_
    refine lv_aload_n hx hb dX9_suspects_10 rfl (lv_at hl 2 rfl) ?_
    refine va_get (D := D) (ci := 9) (v := .ref (r 1)) (C := RX9) (T := TX9) (N := 10) hx hb hg inC9 hown hK hP 80 rfl rfl 0 (by decide) (hg _ wt2_115) (fun _ h9 => h9) rfl dX9_suspects_11 ?_
    refine va_get (D := D) (ci := 7) (v := .int (f12 38)) (C := RX7) (T := TX7) (N := 20) hx hb hg inC7 hown hK hP 1 rfl rfl 6 (by decide) (hg _ wt1_107) (fun _ h9 => h9) rfl dX9_suspects_14 ?_
    refine k_top (z := 0) hw9.2.2.1 ?_
    refine lv_ishl hx hb dX9_suspects_17 ?_
    refine k_top (z := 1) (by decide +kernel) ?_
    refine lv_icmp_ge (tgt := 84) hx hb dX9_suspects_18 (by decide) (fun c21 => ?_) (fun c21 => absurd (by decide +kernel) c21)
    refine lv_iload_n hx hb dX9_suspects_84 rfl (lv_at hl 3 rfl) ?_
    refine lv_iconst (v := (-1)) hx hb dX9_suspects_85 (by decide) ?_
    refine lv_icmp_ne (tgt := 93) hx hb dX9_suspects_86 (by decide) (fun c22 => ?_) (fun c22 => ?_)
    · refine lv_iconst (v := (-1)) hx hb dX9_suspects_93 (by decide) ?_
      exact kI_ret (v := (-1)) hx hb hr hlocks rfl hK hS dX9_suspects_94 (f12, a_18, g14) hP hD ⟨(by rw [if_neg c20, if_neg c22]), hw9.2.1, hw9.2.2.1, (show a_18 85 0 = 1 from by rw [← ea_18]; exact vpz1)⟩
    · refine lv_iload_n hx hb dX9_suspects_89 rfl (lv_at hl 1 rfl) ?_
      refine lv_goto (tgt := 94) hx hb dX9_suspects_90 (by decide) ?_
      exact kI_ret (v := 1) hx hb hr hlocks rfl hK hS dX9_suspects_94 (f12, a_18, g14) hP hD ⟨(by rw [if_neg c20, if_pos c22]), hw9.2.1, hw9.2.2.1, (show a_18 85 0 = 1 from by rw [← ea_18]; exact vpz1)⟩
  · refine lv_iload_n hx hb dX9_suspects_73 rfl (lv_at hl 0 rfl) ?_
    exact kI_ret (v := 0) hx hb hr hlocks rfl hK hS dX9_suspects_74 (f12, a_18, g14) hP hD ⟨(by rw [if_pos c20]), hw9.2.1, hw9.2.2.1, (show a_18 85 0 = 1 from by rw [← ea_18]; exact vpz1)⟩
set_option maxHeartbeats 4000000 in
set_option maxRecDepth 100000 in
theorem x_whose (l : Launch) {D : va_G} {K : Nat → ClassId} (r : Nat → Nat) (f : Nat → Int32) (a : Nat → Nat → Int32) (g : xG) (h0 : f 32 = 0) (h1 : f 38 = 0) (h2 : f 44 = 0) (h3 : a 11 0 = 0) (h4 : a 11 1 = 30) (h5 : a 11 2 = 2) (h6 : f 1858 = (-1)) (h7 : f 50 = (-1)) (h8 : (∀ i, g.2 15 i = none)) (h9 : f 2565 = 0) (x : Int32)  : kI l yX11_whose (Cond.code yX11_whose cX11_whose 2 (some .int) :: kG) (rmD 6 0 0) D (tysK K) [.ref (r 0), .int x] (xW K r f a g) (fun v (u : xS) => v = (if (0 : Int32) = x then (0 : Int32) else if x = (-1) then 1 else -1)) (fun u => xW K r u.1 u.2.1 u.2.2) 0 0 := by
  refine kI.of (cc := cX11_whose) (maxL := 2) (ret := (some .int)) (by decide) rfl (Nat.le_of_ble_eq_true rfl) ?_
  intro p e s m below meth c A hx hb hr hml hown hts hlocks hnm hK hP hD hS hA ls hl
  have hg : ∀ w ∈ kG, w.before _ s = true := fun w h => hts w (List.mem_cons_of_mem _ h)
  have hown : s.vm.findClass RX11 = some m.cls := hown
  have hl : lv_has ls 2 [(0, .ref (r 0)), (1, .int x)] := hl
  refine lv_aload_n hx hb dX11_whose_0 rfl (lv_at hl 0 rfl) ?_
  refine va_get (D := D) (ci := 11) (v := .ref (r 80)) (C := RX11) (T := TX11) (N := 17) hx hb hg inC11 hown hK hP 0 rfl rfl 6 (by decide) (hg _ wt2_192) (fun _ h9 => h9) rfl dX11_whose_1 ?_
  refine lv_iload_n hx hb dX11_whose_4 rfl (lv_at hl 1 rfl) ?_
  refine kI.callW (As := [.int x]) (rest := []) ⟨hx, hb, hml, hown, hg⟩ (x_suspects l r f a g h0 h1 h2 h3 h4 h5 h6 h7 h8 h9 x) (cwV 1 hg (kgV wt5_89 wt5_90 wt5_91 wt1_11 wt5_92) rfl rfl rfl (by decide +kernel) ⟨by decide, by decide⟩) hK hP hD hS hA 80 9 rfl rfl rfl hl.1 rfl (Nat.le_of_ble_eq_true rfl) dX11_whose_5 ⟨by decide, by decide⟩ (fun v3 u2 H locs hw1 hP hD hS => ?_)
  obtain ⟨f4, a5, g6⟩ := u2
  have hP : va_P D vwCl (xW K r f4 a5 g6) H := hP
  have hD : va_D A (xW K r f4 a5 g6) := hD
  refine k_top (z := (if (0 : Int32) = x then (0 : Int32) else if x = (-1) then 1 else -1)) hw1.1 ?_
  exact kI_ret (v := (if (0 : Int32) = x then (0 : Int32) else if x = (-1) then 1 else -1)) hx hb hr hlocks rfl hK hS dX11_whose_8 (f4, a5, g6) hP hD rfl
set_option maxHeartbeats 4000000 in
set_option maxRecDepth 100000 in
theorem x_mostAlike (l : Launch) {D : va_G} {K : Nat → ClassId} (r : Nat → Nat) (f : Nat → Int32) (a : Nat → Nat → Int32) (g : xG) (h0 : f 32 = 0) (h1 : f 38 = 0) (h2 : a 85 0 = 1) (x : Int32)  : kI l yX9_mostAlike (Cond.code yX9_mostAlike cX9_mostAlike 6 (some .int) :: kG) (rmD 2 0 0) D (tysK K) [.ref (r 80), .int x] (xW K r f a g) (fun v (u : xS) => v = 1 ∧ u.1 32 = 0 ∧ u.1 38 = 0 ∧ u.2.1 85 0 = 1) (fun u => xW K r u.1 u.2.1 u.2.2) 0 0 := by
  refine kI.of (cc := cX9_mostAlike) (maxL := 6) (ret := (some .int)) (by decide) rfl (Nat.le_of_ble_eq_true rfl) ?_
  intro p e s m below meth c A hx hb hr hml hown hts hlocks hnm hK hP hD hS hA ls hl
  have hg : ∀ w ∈ kG, w.before _ s = true := fun w h => hts w (List.mem_cons_of_mem _ h)
  have hown : s.vm.findClass RX9 = some m.cls := hown
  have hl : lv_has ls 6 [(0, .ref (r 80)), (1, .int x)] := hl
  refine lv_aload_n hx hb dX9_mostAlike_0 rfl (lv_at hl 0 rfl) ?_
  refine va_get (D := D) (ci := 9) (v := .ref (r 86)) (C := RX9) (T := TX9) (N := 10) hx hb hg inC9 hown hK hP 80 rfl rfl 9 (by decide) (hg _ wt2_124) (fun _ h9 => h9) rfl dX9_mostAlike_1 ?_
  refine lv_iconst (v := 0) hx hb dX9_mostAlike_4 (by decide) ?_
  refine kV.callA (q0 := 86) (As := [.ref (r 86), .int 0]) (rest := []) ⟨hx, hb, hml, hown, hg⟩ (x_fill l (r 86) 11 (a 86) 0 (by decide)) (va_cwS 2 hg (kgS wt5_51 wt3_232 wt1_19 wt3_233) rfl rfl rfl (by decide +kernel) ⟨by decide, by decide⟩) hK hP hD hS hA rfl rfl hl.1 rfl (Nat.le_of_ble_eq_true rfl) dX9_mostAlike_5 ⟨by decide, by decide⟩ (fun u1 H locs hw2 hP hD hS => ?_)
  have hP : va_P D vwCl (xW K r f (va_up a 86 u1) g) H := hP
  have hD : va_D A (xW K r f (va_up a 86 u1) g) := hD
  refine k_gen (P := fun z => va_P D vwCl (xW K r f z g) H ∧ va_D A (xW K r f z g)) (va_up a 86 u1) ⟨hP, hD⟩ (fun a_3 ea_3 hPD => ?_)
  have hP := hPD.1
  have hD := hPD.2
  refine lv_iconst (v := 0) hx hb dX9_mostAlike_8 (by decide) ?_
  refine lv_istore_n (lv' := [(2, .int 0), (0, .ref (r 80)), (1, .int x)]) hx hb dX9_mostAlike_9 rfl hl (by decide) rfl (fun ls hl => ?_)
  refine lv_iconst (v := 0) hx hb dX9_mostAlike_10 (by decide) ?_
  refine lv_istore_n (lv' := [(3, .int 0), (2, .int 0), (0, .ref (r 80)), (1, .int x)]) hx hb dX9_mostAlike_11 rfl hl (by decide) rfl (fun ls hl => ?_)
  refine lv_iload_n hx hb dX9_mostAlike_12 rfl (lv_at hl 0 rfl) ?_
  refine lv_iconst (v := 1) hx hb dX9_mostAlike_13 (by decide) ?_
  refine lv_aload_n hx hb dX9_mostAlike_14 rfl (lv_at hl 2 rfl) ?_
  refine va_get (D := D) (ci := 9) (v := .ref (r 1)) (C := RX9) (T := TX9) (N := 10) hx hb hg inC9 hown hK hP 80 rfl rfl 0 (by decide) (hg _ wt2_115) (fun _ h9 => h9) rfl dX9_mostAlike_15 ?_
  refine va_get (D := D) (ci := 7) (v := .int (f 38)) (C := RX7) (T := TX7) (N := 20) hx hb hg inC7 hown hK hP 1 rfl rfl 6 (by decide) (hg _ wt1_107) (fun _ h9 => h9) rfl dX9_mostAlike_18 ?_
  refine k_top (z := 0) h1 ?_
  refine lv_ishl hx hb dX9_mostAlike_21 ?_
  refine k_top (z := 1) (by decide +kernel) ?_
  refine lv_icmp_ge (tgt := 117) hx hb dX9_mostAlike_22 (by decide) (fun c4 => absurd c4 (by decide +kernel)) (fun c4 => ?_)
  refine lv_iload_n hx hb dX9_mostAlike_25 rfl (lv_at hl 0 rfl) ?_
  refine lv_bipush (v := 64) hx hb dX9_mostAlike_26 (by decide) ?_
  refine lv_icmp_ge (tgt := 117) hx hb dX9_mostAlike_28 (by decide) (fun c5 => absurd c5 (by decide +kernel)) (fun c5 => ?_)
  refine lv_aload_n hx hb dX9_mostAlike_31 rfl (lv_at hl 2 rfl) ?_
  refine va_get (D := D) (ci := 9) (v := .ref (r 85)) (C := RX9) (T := TX9) (N := 10) hx hb hg inC9 hown hK hP 80 rfl rfl 8 (by decide) (hg _ wt2_123) (fun _ h9 => h9) rfl dX9_mostAlike_32 ?_
  refine lv_iload_n hx hb dX9_mostAlike_35 rfl (lv_at hl 0 rfl) ?_
  refine va_zald hx hb hK hP 85 2 rfl rfl (k_in (by decide +kernel)) dX9_mostAlike_36 ?_
  refine k_top (z := 1) (by rw [cl_0]; exact ((show a_3 85 0 = a 85 0 from by rw [← ea_3]; rfl).trans h2)) ?_
  refine lv_if_ne (tgt := 43) hx hb dX9_mostAlike_37 (by decide) (fun c6 => ?_) (fun c6 => absurd c6 (by decide +kernel))
  refine lv_iconst (v := 0) hx hb dX9_mostAlike_43 (by decide) ?_
  refine lv_istore (lv' := [(4, .int 0), (3, .int 0), (2, .int 0), (0, .ref (r 80)), (1, .int x)]) hx hb dX9_mostAlike_44 hl (by decide) rfl (fun ls hl => ?_)
  refine lv_iconst (v := 0) hx hb dX9_mostAlike_46 (by decide) ?_
  refine lv_istore (lv' := [(5, .int 0), (4, .int 0), (3, .int 0), (2, .int 0), (0, .ref (r 80)), (1, .int x)]) hx hb dX9_mostAlike_47 hl (by decide) rfl (fun ls hl => ?_)
  refine lv_iload hx hb dX9_mostAlike_49 (lv_at hl 0 rfl) ?_
  refine lv_aload_n hx hb dX9_mostAlike_51 rfl (lv_at hl 4 rfl) ?_
  refine va_get (D := D) (ci := 9) (v := .ref (r 1)) (C := RX9) (T := TX9) (N := 10) hx hb hg inC9 hown hK hP 80 rfl rfl 0 (by decide) (hg _ wt2_115) (fun _ h9 => h9) rfl dX9_mostAlike_52 ?_
  refine va_get (D := D) (ci := 7) (v := .int (f 32)) (C := RX7) (T := TX7) (N := 20) hx hb hg inC7 hown hK hP 1 rfl rfl 0 (by decide) (hg _ wt1_84) (fun _ h9 => h9) rfl dX9_mostAlike_55 ?_
  refine k_top (z := 0) h0 ?_
  refine lv_icmp_ge (tgt := 88) hx hb dX9_mostAlike_58 (by decide) (fun c7 => ?_) (fun c7 => absurd (by decide +kernel) c7)
  refine lv_aload_n hx hb dX9_mostAlike_88 rfl (lv_at hl 4 rfl) ?_
  refine va_get (D := D) (ci := 9) (v := .ref (r 86)) (C := RX9) (T := TX9) (N := 10) hx hb hg inC9 hown hK hP 80 rfl rfl 9 (by decide) (hg _ wt2_124) (fun _ h9 => h9) rfl dX9_mostAlike_89 ?_
  refine lv_iload hx hb dX9_mostAlike_92 (lv_at hl 1 rfl) ?_
  refine lv_dup2_11 hx hb dX9_mostAlike_94 rfl rfl ?_
  refine va_iald hx hb hK hP 86 0 rfl rfl (k_in (by decide +kernel)) dX9_mostAlike_95 ?_
  refine k_top (z := 0) (by rw [cl_0]; exact ((show a_3 86 0 = u1 0 from by rw [← ea_3]; rfl).trans (hw2 0 (by decide)))) ?_
  refine lv_iconst (v := 1) hx hb dX9_mostAlike_96 (by decide) ?_
  refine lv_iadd hx hb dX9_mostAlike_97 ?_
  refine k_top (z := 1) (by decide +kernel) ?_
  refine va_iast hx hb hK hP hD hS 86 0 rfl rfl (k_in (by decide +kernel)) dX9_mostAlike_98 (fun H locs hP hD hS => ?_)
  rw [cl_0] at hP hD
  have hP : va_P D vwCl (xW K r f (va_up a_3 86 (upd (a_3 86) 0 1)) g) H := hP
  have hD : va_D A (xW K r f (va_up a_3 86 (upd (a_3 86) 0 1)) g) := hD
  refine k_gen (P := fun z => va_P D vwCl (xW K r f z g) H ∧ va_D A (xW K r f z g)) (va_up a_3 86 (upd (a_3 86) 0 1)) ⟨hP, hD⟩ (fun a_8 ea_8 hPD => ?_)
  have hP := hPD.1
  have hD := hPD.2
  refine lv_iload_n hx hb dX9_mostAlike_99 rfl (lv_at hl 3 rfl) ?_
  refine lv_aload_n hx hb dX9_mostAlike_100 rfl (lv_at hl 4 rfl) ?_
  refine va_get (D := D) (ci := 9) (v := .ref (r 86)) (C := RX9) (T := TX9) (N := 10) hx hb hg inC9 hown hK hP 80 rfl rfl 9 (by decide) (hg _ wt2_124) (fun _ h9 => h9) rfl dX9_mostAlike_101 ?_
  refine lv_iload hx hb dX9_mostAlike_104 (lv_at hl 1 rfl) ?_
  refine va_iald hx hb hK hP 86 0 rfl rfl (k_in (by decide +kernel)) dX9_mostAlike_106 ?_
  refine k_top (z := 1) (by rw [cl_0]; exact (show a_8 86 0 = 1 from by rw [← ea_8]; rfl)) ?_
  refine va_mmax hx hb (hml.trans hl.1.symm) hown (hg _ wt5_40) (hg _ wt2_38) (hg _ wt1_9) (hg _ wt2_39) (by decide) (Nat.le_of_ble_eq_true rfl) (by decide) (by decide) dX9_mostAlike_107 ?_
  refine k_top (z := 1) (by decide +kernel) ?_
  refine lv_istore_n (lv' := [(2, .int 1), (5, .int 0), (4, .int 0), (3, .int 0), (0, .ref (r 80)), (1, .int x)]) hx hb dX9_mostAlike_110 rfl hl (by decide) rfl (fun ls hl => ?_)
  refine lv_iinc (v := 1) (lv' := [(3, .int 1), (2, .int 1), (5, .int 0), (4, .int 0), (0, .ref (r 80)), (1, .int x)]) hx hb dX9_mostAlike_111 hl (k := 3) rfl (by decide +kernel) (by decide) rfl (fun ls hl => ?_)
  refine lv_goto (tgt := 12) hx hb dX9_mostAlike_114 (by decide) ?_
  refine lv_iload_n hx hb dX9_mostAlike_12 rfl (lv_at hl 0 rfl) ?_
  refine lv_iconst (v := 1) hx hb dX9_mostAlike_13 (by decide) ?_
  refine lv_aload_n hx hb dX9_mostAlike_14 rfl (lv_at hl 4 rfl) ?_
  refine va_get (D := D) (ci := 9) (v := .ref (r 1)) (C := RX9) (T := TX9) (N := 10) hx hb hg inC9 hown hK hP 80 rfl rfl 0 (by decide) (hg _ wt2_115) (fun _ h9 => h9) rfl dX9_mostAlike_15 ?_
  refine va_get (D := D) (ci := 7) (v := .int (f 38)) (C := RX7) (T := TX7) (N := 20) hx hb hg inC7 hown hK hP 1 rfl rfl 6 (by decide) (hg _ wt1_107) (fun _ h9 => h9) rfl dX9_mostAlike_18 ?_
  refine k_top (z := 0) h1 ?_
  refine lv_ishl hx hb dX9_mostAlike_21 ?_
  refine k_top (z := 1) (by decide +kernel) ?_
  refine lv_icmp_ge (tgt := 117) hx hb dX9_mostAlike_22 (by decide) (fun c9 => ?_) (fun c9 => absurd (by decide +kernel) c9)
  refine lv_iload_n hx hb dX9_mostAlike_117 rfl (lv_at hl 1 rfl) ?_
  exact kI_ret (v := 1) hx hb hr hlocks rfl hK hS dX9_mostAlike_118 (f, a_8, g) hP hD ⟨rfl, h0, h1, ((show a_8 85 0 = a_3 85 0 from by rw [← ea_8]; rfl).trans ((show a_3 85 0 = a 85 0 from by rw [← ea_3]; rfl).trans h2))⟩
set_option maxHeartbeats 4000000 in
set_option maxRecDepth 100000 in
theorem x_nextLook (l : Launch) {D : va_G} {K : Nat → ClassId} (r : Nat → Nat) (f : Nat → Int32) (a : Nat → Nat → Int32) (g : xG) (h0 : f 32 = 0) (h1 : f 38 = 0) (h2 : f 44 = 0) (h3 : a 11 0 = 0) (h4 : a 11 1 = 30) (h5 : a 11 2 = 2) (h6 : f 1858 = (-1)) (h7 : f 50 = (-1)) (h8 : (∀ i, g.2 15 i = none)) (h9 : f 2565 = 0) (x : Int32)  : kI l yX9_nextLook (Cond.code yX9_nextLook cX9_nextLook 6 (some .int) :: kG) (rmD 6 0 0) D (tysK K) [.ref (r 80), .int x] (xW K r f a g) (fun v (u : xS) => v = (if x = 0 then (0 : Int32) else 1)) (fun u => xW K r u.1 u.2.1 u.2.2) 0 0 := by
  refine kI.of (cc := cX9_nextLook) (maxL := 6) (ret := (some .int)) (by decide) rfl (Nat.le_of_ble_eq_true rfl) ?_
  intro p e s m below meth c A hx hb hr hml hown hts hlocks hnm hK hP hD hS hA ls hl
  have hg : ∀ w ∈ kG, w.before _ s = true := fun w h => hts w (List.mem_cons_of_mem _ h)
  have hown : s.vm.findClass RX9 = some m.cls := hown
  have hl : lv_has ls 6 [(0, .ref (r 80)), (1, .int x)] := hl
  refine lv_aload_n hx hb dX9_nextLook_0 rfl (lv_at hl 0 rfl) ?_
  refine lv_iconst (v := (-1)) hx hb dX9_nextLook_1 (by decide) ?_
  refine kI.callW (As := [.int (-1)]) (rest := []) ⟨hx, hb, hml, hown, hg⟩ (x_suspects l r f a g h0 h1 h2 h3 h4 h5 h6 h7 h8 h9 (-1)) (cwV 1 hg (kgV wt5_109 wt5_90 wt5_91 wt1_11 wt5_92) rfl rfl rfl (by decide +kernel) ⟨by decide, by decide⟩) hK hP hD hS hA 80 9 rfl rfl rfl hl.1 rfl (Nat.le_of_ble_eq_true rfl) dX9_nextLook_2 ⟨by decide, by decide⟩ (fun v3 u2 H locs hw1 hP hD hS => ?_)
  obtain ⟨f4, a5, g6⟩ := u2
  have hP : va_P D vwCl (xW K r f4 a5 g6) H := hP
  have hD : va_D A (xW K r f4 a5 g6) := hD
  refine k_top (z := 1) (hw1.1.trans (by decide +kernel)) ?_
  refine lv_if_ne (tgt := 10) hx hb dX9_nextLook_5 (by decide) (fun c7 => ?_) (fun c7 => absurd c7 (by decide +kernel))
  refine lv_iconst (v := 0) hx hb dX9_nextLook_10 (by decide) ?_
  refine lv_istore_n (lv' := [(2, .int 0), (0, .ref (r 80)), (1, .int x)]) hx hb dX9_nextLook_11 rfl hl (by decide) rfl (fun ls hl => ?_)
  refine lv_bipush (v := 65) hx hb dX9_nextLook_12 (by decide) ?_
  refine lv_istore_n (lv' := [(3, .int 65), (2, .int 0), (0, .ref (r 80)), (1, .int x)]) hx hb dX9_nextLook_14 rfl hl (by decide) rfl (fun ls hl => ?_)
  refine lv_iconst (v := 0) hx hb dX9_nextLook_15 (by decide) ?_
  refine lv_istore (lv' := [(4, .int 0), (3, .int 65), (2, .int 0), (0, .ref (r 80)), (1, .int x)]) hx hb dX9_nextLook_16 hl (by decide) rfl (fun ls hl => ?_)
  refine lv_iload hx hb dX9_nextLook_18 (lv_at hl 0 rfl) ?_
  refine lv_bipush (v := 40) hx hb dX9_nextLook_20 (by decide) ?_
  refine lv_icmp_gt (tgt := 51) hx hb dX9_nextLook_22 (by decide) (fun c8 => absurd c8 (by decide +kernel)) (fun c8 => ?_)
  refine lv_aload_n hx hb dX9_nextLook_25 rfl (lv_at hl 3 rfl) ?_
  refine lv_iload hx hb dX9_nextLook_26 (lv_at hl 0 rfl) ?_
  refine kI.callW (As := [.int 0]) (rest := []) ⟨hx, hb, hml, hown, hg⟩ (x_mostAlike l r f4 a5 g6 hw1.2.1 hw1.2.2.1 hw1.2.2.2 0) (cwV 1 hg (kgV wt5_110 wt5_112 wp3_4 wt1_11 wt5_113) rfl rfl rfl (by decide +kernel) ⟨by decide, by decide⟩) hK hP hD hS hA 80 9 rfl rfl rfl hl.1 rfl (Nat.le_of_ble_eq_true rfl) dX9_nextLook_28 ⟨by decide, by decide⟩ (fun v11 u10 H locs hw9 hP hD hS => ?_)
  obtain ⟨f12, a13, g14⟩ := u10
  have hP : va_P D vwCl (xW K r f12 a13 g14) H := hP
  have hD : va_D A (xW K r f12 a13 g14) := hD
  refine k_top (z := 1) (hw9.1) ?_
  refine lv_istore (lv' := [(5, .int 1), (4, .int 0), (3, .int 65), (2, .int 0), (0, .ref (r 80)), (1, .int x)]) hx hb dX9_nextLook_31 hl (by decide) rfl (fun ls hl => ?_)
  refine lv_iload hx hb dX9_nextLook_33 (lv_at hl 0 rfl) ?_
  refine lv_iload_n hx hb dX9_nextLook_35 rfl (lv_at hl 2 rfl) ?_
  refine lv_icmp_ge (tgt := 45) hx hb dX9_nextLook_36 (by decide) (fun c15 => absurd c15 (by decide +kernel)) (fun c15 => ?_)
  refine lv_iload hx hb dX9_nextLook_39 (lv_at hl 0 rfl) ?_
  refine lv_istore_n (lv' := [(3, .int 1), (5, .int 1), (4, .int 0), (2, .int 0), (0, .ref (r 80)), (1, .int x)]) hx hb dX9_nextLook_41 rfl hl (by decide) rfl (fun ls hl => ?_)
  refine lv_iload hx hb dX9_nextLook_42 (lv_at hl 2 rfl) ?_
  refine lv_istore_n (lv' := [(2, .int 0), (3, .int 1), (5, .int 1), (4, .int 0), (0, .ref (r 80)), (1, .int x)]) hx hb dX9_nextLook_44 rfl hl (by decide) rfl (fun ls hl => ?_)
  refine lv_iinc (v := 1) (lv' := [(4, .int 1), (2, .int 0), (3, .int 1), (5, .int 1), (0, .ref (r 80)), (1, .int x)]) hx hb dX9_nextLook_45 hl (k := 3) rfl (by decide +kernel) (by decide) rfl (fun ls hl => ?_)
  refine lv_goto (tgt := 18) hx hb dX9_nextLook_48 (by decide) ?_
  have lp16 : ∀ (n i : Nat) (F : Nat → Int32) (B : Nat → Nat → Int32) (G : xG) (H : Heap) (locs : List Loc) (ls : Array Slot), i + n = 41 → 1 ≤ i → F 32 = 0 → F 38 = 0 → B 85 0 = 1 → va_P D vwCl (xW K r F B G) H → va_D A (xW K r F B G) → va_S A s.heap H locs → lv_has ls 6 [(4, .int (nI i)), (2, .int 0), (3, .int 1), (5, .int 1), (0, .ref (r 80)), (1, .int x)] → W p l e (rmD 6 0 0) s m ([.ref (r 80), .int x] : List Value).toArray below meth c H locs 0 0 (kQi D (tysK K) (fun v (u : xS) => v = (if x = 0 then (0 : Int32) else 1)) (fun u => xW K r u.1 u.2.1 u.2.2) A below ([.ref (r 80), .int x] : List Value).toArray s 0 0) (F0 m 18 ls []) := by
    intro n
    induction n with
    | zero =>
      intro i F B G H locs ls  hin hlo z0 z1 z2 hP hD hS hl
      obtain rfl : 41 = i := by omega
      have hl : lv_has ls 6 [(4, .int 41), (2, .int 0), (3, .int 1), (5, .int 1), (0, .ref (r 80)), (1, .int x)] := hl
      refine lv_iload hx hb dX9_nextLook_18 (lv_at hl 0 rfl) ?_
      refine lv_bipush (v := 40) hx hb dX9_nextLook_20 (by decide) ?_
      refine lv_icmp_gt (tgt := 51) hx hb dX9_nextLook_22 (by decide) (fun c17 => ?_) (fun c17 => absurd (by decide +kernel) c17)
      refine lv_iload_n hx hb dX9_nextLook_51 rfl (lv_at hl 5 rfl) ?_
      refine lv_if_ne (tgt := 59) hx hb dX9_nextLook_52 (by decide) (fun c18 => ?_) (fun c18 => ?_)
      · refine lv_iload_n hx hb dX9_nextLook_59 rfl (lv_at hl 2 rfl) ?_
        exact kI_ret (v := 1) hx hb hr hlocks rfl hK hS dX9_nextLook_60 (F, B, G) hP hD (by rw [if_neg c18])
      · refine lv_iload_n hx hb dX9_nextLook_55 rfl (lv_at hl 1 rfl) ?_
        refine lv_goto (tgt := 60) hx hb dX9_nextLook_56 (by decide) ?_
        exact kI_ret (v := 0) hx hb hr hlocks rfl hK hS dX9_nextLook_60 (F, B, G) hP hD (by rw [if_pos c18])
    | succ n ih =>
      intro i F B G H locs ls  hin hlo z0 z1 z2 hP hD hS hl
      have hlt : i < 41 := by omega
      refine lv_iload hx hb dX9_nextLook_18 (lv_at hl 0 rfl) ?_
      refine lv_bipush (v := 40) hx hb dX9_nextLook_20 (by decide) ?_
      refine lv_icmp_gt (tgt := 51) hx hb dX9_nextLook_22 (by decide) (fun c19 => absurd c19 (nI_nlt (a := 40) (b := i) (by omega) (by decide))) (fun c19 => ?_)
      refine lv_aload_n hx hb dX9_nextLook_25 rfl (lv_at hl 4 rfl) ?_
      refine lv_iload hx hb dX9_nextLook_26 (lv_at hl 0 rfl) ?_
      refine kI.callW (As := [.int (nI i)]) (rest := []) ⟨hx, hb, hml, hown, hg⟩ (x_mostAlike l r F B G z0 z1 z2 (nI i)) (cwV 1 hg (kgV wt5_110 wt5_112 wp3_4 wt1_11 wt5_113) rfl rfl rfl (by decide +kernel) ⟨by decide, by decide⟩) hK hP hD hS hA 80 9 rfl rfl rfl hl.1 rfl (Nat.le_of_ble_eq_true rfl) dX9_nextLook_28 ⟨by decide, by decide⟩ (fun v22 u21 H locs hw20 hP hD hS => ?_)
      obtain ⟨f23, a24, g25⟩ := u21
      have hP : va_P D vwCl (xW K r f23 a24 g25) H := hP
      have hD : va_D A (xW K r f23 a24 g25) := hD
      refine k_top (z := 1) (hw20.1) ?_
      refine lv_istore (lv' := [(5, .int 1), (4, .int (nI i)), (2, .int 0), (3, .int 1), (0, .ref (r 80)), (1, .int x)]) hx hb dX9_nextLook_31 hl (by decide) rfl (fun ls hl => ?_)
      refine lv_iload hx hb dX9_nextLook_33 (lv_at hl 0 rfl) ?_
      refine lv_iload_n hx hb dX9_nextLook_35 rfl (lv_at hl 3 rfl) ?_
      refine lv_icmp_ge (tgt := 45) hx hb dX9_nextLook_36 (by decide) (fun c26 => ?_) (fun c26 => absurd (by decide +kernel) c26)
      refine lv_iinc (v := nI (i + 1)) (lv' := [(4, .int (nI (i + 1))), (5, .int 1), (2, .int 0), (3, .int 1), (0, .ref (r 80)), (1, .int x)]) hx hb dX9_nextLook_45 hl (k := 1) rfl (nI_1 _) (by decide) rfl (fun ls hl => ?_)
      refine lv_goto (tgt := 18) hx hb dX9_nextLook_48 (by decide) ?_
      exact ih (i + 1) f23 a24 g25 _ _ _  (by omega) (by omega) hw20.2.1 hw20.2.2.1 hw20.2.2.2 hP hD hS (lv_sub hl [0, 2, 3, 1, 4, 5] rfl)
  exact lp16 (41 - 1) 1 f12 a13 g14 _ _ _  (by omega) (by omega) hw9.2.1 hw9.2.2.1 hw9.2.2.2 hP hD hS hl
set_option maxHeartbeats 4000000 in
set_option maxRecDepth 100000 in
theorem x_look (l : Launch) {D : va_G} {K : Nat → ClassId} (r : Nat → Nat) (f : Nat → Int32) (a : Nat → Nat → Int32) (g : xG) (h0 : f 32 = 0) (h1 : f 38 = 0) (h2 : f 44 = 0) (h3 : a 11 0 = 0) (h4 : a 11 1 = 30) (h5 : a 11 2 = 2) (h6 : f 1858 = (-1)) (h7 : f 50 = (-1)) (h8 : (∀ i, g.2 15 i = none)) (h9 : f 2565 = 0) (x : Int32)  : kI l yX11_look (Cond.code yX11_look cX11_look 2 (some .int) :: kG) (rmD 7 0 0) D (tysK K) [.ref (r 0), .int x] (xW K r f a g) (fun v (u : xS) => v = (if x = 0 then (0 : Int32) else if x = 1 then 1 else -1)) (fun u => xW K r u.1 u.2.1 u.2.2) 0 0 := by
  refine kI.of (cc := cX11_look) (maxL := 2) (ret := (some .int)) (by decide) rfl (Nat.le_of_ble_eq_true rfl) ?_
  intro p e s m below meth c A hx hb hr hml hown hts hlocks hnm hK hP hD hS hA ls hl
  have hg : ∀ w ∈ kG, w.before _ s = true := fun w h => hts w (List.mem_cons_of_mem _ h)
  have hown : s.vm.findClass RX11 = some m.cls := hown
  have hl : lv_has ls 2 [(0, .ref (r 0)), (1, .int x)] := hl
  refine lv_iload_n hx hb dX11_look_0 rfl (lv_at hl 1 rfl) ?_
  refine lv_if_eq (tgt := 9) hx hb dX11_look_1 (by decide) (fun c1 => ?_) (fun c1 => ?_)
  · refine lv_aload_n hx hb dX11_look_9 rfl (lv_at hl 0 rfl) ?_
    refine va_get (D := D) (ci := 11) (v := .ref (r 80)) (C := RX11) (T := TX11) (N := 17) hx hb hg inC11 hown hK hP 0 rfl rfl 6 (by decide) (hg _ wt2_192) (fun _ h9 => h9) rfl dX11_look_10 ?_
    refine lv_iload_n hx hb dX11_look_13 rfl (lv_at hl 1 rfl) ?_
    refine kI.callW (As := [.int x]) (rest := []) ⟨hx, hb, hml, hown, hg⟩ (x_nextLook l r f a g h0 h1 h2 h3 h4 h5 h6 h7 h8 h9 x) (cwV 1 hg (kgV wt5_105 wt5_106 wt5_107 wt1_11 wt5_108) rfl rfl rfl (by decide +kernel) ⟨by decide, by decide⟩) hK hP hD hS hA 80 9 rfl rfl rfl hl.1 rfl (Nat.le_of_ble_eq_true rfl) dX11_look_14 ⟨by decide, by decide⟩ (fun v4 u3 H locs hw2 hP hD hS => ?_)
    obtain ⟨f5, a6, g7⟩ := u3
    have hP : va_P D vwCl (xW K r f5 a6 g7) H := hP
    have hD : va_D A (xW K r f5 a6 g7) := hD
    refine k_top (z := (if x = 0 then (0 : Int32) else 1)) hw2 ?_
    refine lv_goto (tgt := 21) hx hb dX11_look_17 (by decide) ?_
    exact kI_ret (v := (if x = 0 then (0 : Int32) else 1)) hx hb hr hlocks rfl hK hS dX11_look_21 (f5, a6, g7) hP hD (by simp [c1])
  · refine lv_iload_n hx hb dX11_look_4 rfl (lv_at hl 1 rfl) ?_
    refine lv_iconst (v := 1) hx hb dX11_look_5 (by decide) ?_
    refine lv_icmp_ne (tgt := 20) hx hb dX11_look_6 (by decide) (fun c8 => ?_) (fun c8 => ?_)
    · refine lv_iconst (v := (-1)) hx hb dX11_look_20 (by decide) ?_
      exact kI_ret (v := (-1)) hx hb hr hlocks rfl hK hS dX11_look_21 (f, a, g) hP hD (by simp [c1, c8])
    · refine lv_aload_n hx hb dX11_look_9 rfl (lv_at hl 0 rfl) ?_
      refine va_get (D := D) (ci := 11) (v := .ref (r 80)) (C := RX11) (T := TX11) (N := 17) hx hb hg inC11 hown hK hP 0 rfl rfl 6 (by decide) (hg _ wt2_192) (fun _ h9 => h9) rfl dX11_look_10 ?_
      refine lv_iload_n hx hb dX11_look_13 rfl (lv_at hl 1 rfl) ?_
      refine kI.callW (As := [.int x]) (rest := []) ⟨hx, hb, hml, hown, hg⟩ (x_nextLook l r f a g h0 h1 h2 h3 h4 h5 h6 h7 h8 h9 x) (cwV 1 hg (kgV wt5_105 wt5_106 wt5_107 wt1_11 wt5_108) rfl rfl rfl (by decide +kernel) ⟨by decide, by decide⟩) hK hP hD hS hA 80 9 rfl rfl rfl hl.1 rfl (Nat.le_of_ble_eq_true rfl) dX11_look_14 ⟨by decide, by decide⟩ (fun v11 u10 H locs hw9 hP hD hS => ?_)
      obtain ⟨f12, a13, g14⟩ := u10
      have hP : va_P D vwCl (xW K r f12 a13 g14) H := hP
      have hD : va_D A (xW K r f12 a13 g14) := hD
      refine k_top (z := (if x = 0 then (0 : Int32) else 1)) hw9 ?_
      refine lv_goto (tgt := 21) hx hb dX11_look_17 (by decide) ?_
      exact kI_ret (v := (if x = 0 then (0 : Int32) else 1)) hx hb hr hlocks rfl hK hS dX11_look_21 (f12, a13, g14) hP hD (by simp [c1, c8])
