set_option maxHeartbeats 4000000 in
set_option maxRecDepth 100000 in
theorem x_addPartOk (l : Launch) {D : va_G} {K : Nat → ClassId} (r : Nat → Nat) (f : Nat → Int32) (a : Nat → Nat → Int32) (g : xG) (h0 : f 32 = 0)  (x : Int32) (y : Int32) (z : Int32) (w : Int32) (h : xPartOk x y z w) : kI l yX7_addPart (Cond.code yX7_addPart cX7_addPart 6 (some .int) :: kG) (rmD 1 0 0) D (tysK K) [.ref (r 1), .int x, .int y, .int z, .int w] (xW K r f a g) (fun v (u : xS) => v = 0) (fun u => xW K r u.1 u.2.1 u.2.2) 0 0 := by
  refine kI.of (cc := cX7_addPart) (maxL := 6) (ret := (some .int)) (by decide) rfl (Nat.le_of_ble_eq_true rfl) ?_
  intro p e s m below meth c A hx hb hr hml hown hts hlocks hnm hK hP hD hS hA ls hl
  have hg : ∀ w ∈ kG, w.before _ s = true := fun w h => hts w (List.mem_cons_of_mem _ h)
  have hown : s.vm.findClass RX7 = some m.cls := hown
  have hl : lv_has ls 6 [(0, .ref (r 1)), (1, .int x), (2, .int y), (3, .int z), (4, .int w)] := hl
  refine lv_iload_n hx hb dX7_addPart_0 rfl (lv_at hl 2 rfl) ?_
  refine lv_iconst (v := (-1)) hx hb dX7_addPart_1 (by decide) ?_
  refine lv_aload_n hx hb dX7_addPart_2 rfl (lv_at hl 0 rfl) ?_
  refine va_get (D := D) (ci := 7) (v := .int (f 32)) (C := RX7) (T := TX7) (N := 20) hx hb hg inC7 hown hK hP 1 rfl rfl 0 (by decide) (hg _ wt1_79) (fun _ h9 => h9) rfl dX7_addPart_3 ?_
  refine k_top (z := 0) h0 ?_
  refine lv_ishl hx hb dX7_addPart_6 ?_
  refine k_top (z := (-1)) (by decide +kernel) ?_
  refine lv_iand hx hb dX7_addPart_7 ?_
  refine k_top (z := y) (and_m1 _) ?_
  refine lv_if_ne (tgt := 15) hx hb dX7_addPart_8 (by decide) (fun c1 => absurd h.1 c1) (fun c1 => ?_)
  refine lv_iconst (v := 1) hx hb dX7_addPart_11 (by decide) ?_
  refine lv_goto (tgt := 16) hx hb dX7_addPart_12 (by decide) ?_
  refine lv_istore (lv' := [(5, .int 1), (0, .ref (r 1)), (1, .int x), (2, .int y), (3, .int z), (4, .int w)]) hx hb dX7_addPart_16 hl (by decide) rfl (fun ls hl => ?_)
  refine lv_iload_n hx hb dX7_addPart_18 rfl (lv_at hl 2 rfl) ?_
  refine lv_iconst (v := 1) hx hb dX7_addPart_19 (by decide) ?_
  refine lv_icmp_lt (tgt := 55) hx hb dX7_addPart_20 (by decide) (fun c2 => absurd c2 h.2.1) (fun c2 => ?_)
  refine lv_iload_n hx hb dX7_addPart_23 rfl (lv_at hl 2 rfl) ?_
  refine lv_bipush (v := 99) hx hb dX7_addPart_24 (by decide) ?_
  refine lv_icmp_gt (tgt := 55) hx hb dX7_addPart_26 (by decide) (fun c3 => absurd c3 h.2.2.1) (fun c3 => ?_)
  refine lv_iload hx hb dX7_addPart_29 (lv_at hl 0 rfl) ?_
  refine lv_if_eq (tgt := 55) hx hb dX7_addPart_31 (by decide) (fun c4 => absurd c4 (by decide +kernel)) (fun c4 => ?_)
  refine lv_iload_n hx hb dX7_addPart_34 rfl (lv_at hl 4 rfl) ?_
  refine lv_if_lt (tgt := 55) hx hb dX7_addPart_35 (by decide) (fun c5 => absurd c5 h.2.2.2.1) (fun c5 => ?_)
  refine lv_iload_n hx hb dX7_addPart_38 rfl (lv_at hl 4 rfl) ?_
  refine lv_iconst (v := 4) hx hb dX7_addPart_39 (by decide) ?_
  refine lv_icmp_ge (tgt := 55) hx hb dX7_addPart_40 (by decide) (fun c6 => absurd c6 h.2.2.2.2.1) (fun c6 => ?_)
  refine lv_iload hx hb dX7_addPart_43 (lv_at hl 5 rfl) ?_
  refine lv_if_lt (tgt := 55) hx hb dX7_addPart_45 (by decide) (fun c7 => absurd c7 h.2.2.2.2.2.1) (fun c7 => ?_)
  refine lv_iload hx hb dX7_addPart_48 (lv_at hl 5 rfl) ?_
  refine lv_bipush (v := 9) hx hb dX7_addPart_50 (by decide) ?_
  refine lv_icmp_le (tgt := 57) hx hb dX7_addPart_52 (by decide) (fun c8 => ?_) (fun c8 => absurd h.2.2.2.2.2.2 c8)
  refine lv_aload_n hx hb dX7_addPart_57 rfl (lv_at hl 1 rfl) ?_
  refine va_get (D := D) (ci := 7) (v := .int (f 32)) (C := RX7) (T := TX7) (N := 20) hx hb hg inC7 hown hK hP 1 rfl rfl 0 (by decide) (hg _ wt1_79) (fun _ h9 => h9) rfl dX7_addPart_58 ?_
  refine k_top (z := 0) h0 ?_
  refine lv_if_lt (tgt := 73) hx hb dX7_addPart_61 (by decide) (fun c9 => absurd c9 (by decide +kernel)) (fun c9 => ?_)
  refine lv_aload_n hx hb dX7_addPart_64 rfl (lv_at hl 1 rfl) ?_
  refine va_get (D := D) (ci := 7) (v := .int (f 32)) (C := RX7) (T := TX7) (N := 20) hx hb hg inC7 hown hK hP 1 rfl rfl 0 (by decide) (hg _ wt1_79) (fun _ h9 => h9) rfl dX7_addPart_65 ?_
  refine k_top (z := 0) h0 ?_
  refine lv_bipush (v := 10) hx hb dX7_addPart_68 (by decide) ?_
  refine lv_icmp_lt (tgt := 76) hx hb dX7_addPart_70 (by decide) (fun c10 => ?_) (fun c10 => absurd (by decide +kernel) c10)
  refine lv_aload_n hx hb dX7_addPart_76 rfl (lv_at hl 1 rfl) ?_
  refine va_get (D := D) (ci := 7) (v := .ref (r 2)) (C := RX7) (T := TX7) (N := 20) hx hb hg inC7 hown hK hP 1 rfl rfl 1 (by decide) (hg _ wt1_86) (fun _ h9 => h9) rfl dX7_addPart_77 ?_
  refine lv_aload_n hx hb dX7_addPart_80 rfl (lv_at hl 1 rfl) ?_
  refine va_get (D := D) (ci := 7) (v := .int (f 32)) (C := RX7) (T := TX7) (N := 20) hx hb hg inC7 hown hK hP 1 rfl rfl 0 (by decide) (hg _ wt1_79) (fun _ h9 => h9) rfl dX7_addPart_81 ?_
  refine k_top (z := 0) h0 ?_
  refine lv_iload_n hx hb dX7_addPart_84 rfl (lv_at hl 2 rfl) ?_
  refine va_iast hx hb hK hP hD hS 2 0 rfl rfl (k_in (by decide +kernel)) dX7_addPart_85 (fun H locs hP hD hS => ?_)
  rw [cl_0] at hP hD
  have hP : va_P D vwCl (xW K r f (va_up a 2 (upd (a 2) 0 x)) g) H := hP
  have hD : va_D A (xW K r f (va_up a 2 (upd (a 2) 0 x)) g) := hD
  refine k_gen (P := fun z => va_P D vwCl (xW K r f z g) H ∧ va_D A (xW K r f z g)) (va_up a 2 (upd (a 2) 0 x)) ⟨hP, hD⟩ (fun a_11 ea_11 hPD => ?_)
  have hP := hPD.1
  have hD := hPD.2
  refine lv_aload_n hx hb dX7_addPart_86 rfl (lv_at hl 1 rfl) ?_
  refine va_get (D := D) (ci := 7) (v := .ref (r 3)) (C := RX7) (T := TX7) (N := 20) hx hb hg inC7 hown hK hP 1 rfl rfl 2 (by decide) (hg _ wt1_89) (fun _ h9 => h9) rfl dX7_addPart_87 ?_
  refine lv_aload_n hx hb dX7_addPart_90 rfl (lv_at hl 1 rfl) ?_
  refine va_get (D := D) (ci := 7) (v := .int (f 32)) (C := RX7) (T := TX7) (N := 20) hx hb hg inC7 hown hK hP 1 rfl rfl 0 (by decide) (hg _ wt1_79) (fun _ h9 => h9) rfl dX7_addPart_91 ?_
  refine k_top (z := 0) h0 ?_
  refine lv_iload_n hx hb dX7_addPart_94 rfl (lv_at hl 3 rfl) ?_
  refine va_iast hx hb hK hP hD hS 3 0 rfl rfl (k_in (by decide +kernel)) dX7_addPart_95 (fun H locs hP hD hS => ?_)
  rw [cl_0] at hP hD
  have hP : va_P D vwCl (xW K r f (va_up a_11 3 (upd (a_11 3) 0 y)) g) H := hP
  have hD : va_D A (xW K r f (va_up a_11 3 (upd (a_11 3) 0 y)) g) := hD
  refine k_gen (P := fun z => va_P D vwCl (xW K r f z g) H ∧ va_D A (xW K r f z g)) (va_up a_11 3 (upd (a_11 3) 0 y)) ⟨hP, hD⟩ (fun a_12 ea_12 hPD => ?_)
  have hP := hPD.1
  have hD := hPD.2
  refine lv_aload_n hx hb dX7_addPart_96 rfl (lv_at hl 1 rfl) ?_
  refine va_get (D := D) (ci := 7) (v := .ref (r 4)) (C := RX7) (T := TX7) (N := 20) hx hb hg inC7 hown hK hP 1 rfl rfl 3 (by decide) (hg _ wt1_93) (fun _ h9 => h9) rfl dX7_addPart_97 ?_
  refine lv_aload_n hx hb dX7_addPart_100 rfl (lv_at hl 1 rfl) ?_
  refine va_get (D := D) (ci := 7) (v := .int (f 32)) (C := RX7) (T := TX7) (N := 20) hx hb hg inC7 hown hK hP 1 rfl rfl 0 (by decide) (hg _ wt1_79) (fun _ h9 => h9) rfl dX7_addPart_101 ?_
  refine k_top (z := 0) h0 ?_
  refine lv_iload_n hx hb dX7_addPart_104 rfl (lv_at hl 4 rfl) ?_
  refine va_iast hx hb hK hP hD hS 4 0 rfl rfl (k_in (by decide +kernel)) dX7_addPart_105 (fun H locs hP hD hS => ?_)
  rw [cl_0] at hP hD
  have hP : va_P D vwCl (xW K r f (va_up a_12 4 (upd (a_12 4) 0 z)) g) H := hP
  have hD : va_D A (xW K r f (va_up a_12 4 (upd (a_12 4) 0 z)) g) := hD
  refine k_gen (P := fun z => va_P D vwCl (xW K r f z g) H ∧ va_D A (xW K r f z g)) (va_up a_12 4 (upd (a_12 4) 0 z)) ⟨hP, hD⟩ (fun a_13 ea_13 hPD => ?_)
  have hP := hPD.1
  have hD := hPD.2
  refine lv_aload_n hx hb dX7_addPart_106 rfl (lv_at hl 1 rfl) ?_
  refine va_get (D := D) (ci := 7) (v := .ref (r 5)) (C := RX7) (T := TX7) (N := 20) hx hb hg inC7 hown hK hP 1 rfl rfl 4 (by decide) (hg _ wt1_95) (fun _ h9 => h9) rfl dX7_addPart_107 ?_
  refine lv_aload_n hx hb dX7_addPart_110 rfl (lv_at hl 1 rfl) ?_
  refine va_get (D := D) (ci := 7) (v := .int (f 32)) (C := RX7) (T := TX7) (N := 20) hx hb hg inC7 hown hK hP 1 rfl rfl 0 (by decide) (hg _ wt1_79) (fun _ h9 => h9) rfl dX7_addPart_111 ?_
  refine k_top (z := 0) h0 ?_
  refine lv_iload hx hb dX7_addPart_114 (lv_at hl 5 rfl) ?_
  refine va_iast hx hb hK hP hD hS 5 0 rfl rfl (k_in (by decide +kernel)) dX7_addPart_116 (fun H locs hP hD hS => ?_)
  rw [cl_0] at hP hD
  have hP : va_P D vwCl (xW K r f (va_up a_13 5 (upd (a_13 5) 0 w)) g) H := hP
  have hD : va_D A (xW K r f (va_up a_13 5 (upd (a_13 5) 0 w)) g) := hD
  refine k_gen (P := fun z => va_P D vwCl (xW K r f z g) H ∧ va_D A (xW K r f z g)) (va_up a_13 5 (upd (a_13 5) 0 w)) ⟨hP, hD⟩ (fun a_14 ea_14 hPD => ?_)
  have hP := hPD.1
  have hD := hPD.2
  refine lv_aload_n hx hb dX7_addPart_117 rfl (lv_at hl 1 rfl) ?_
  refine va_get (D := D) (ci := 7) (v := .ref (r 6)) (C := RX7) (T := TX7) (N := 20) hx hb hg inC7 hown hK hP 1 rfl rfl 5 (by decide) (hg _ wt1_97) (fun _ h9 => h9) rfl dX7_addPart_118 ?_
  refine lv_aload_n hx hb dX7_addPart_121 rfl (lv_at hl 1 rfl) ?_
  refine va_get (D := D) (ci := 7) (v := .int (f 32)) (C := RX7) (T := TX7) (N := 20) hx hb hg inC7 hown hK hP 1 rfl rfl 0 (by decide) (hg _ wt1_79) (fun _ h9 => h9) rfl dX7_addPart_122 ?_
  refine k_top (z := 0) h0 ?_
  refine lv_iload_n hx hb dX7_addPart_125 rfl (lv_at hl 2 rfl) ?_
  refine va_iast hx hb hK hP hD hS 6 0 rfl rfl (k_in (by decide +kernel)) dX7_addPart_126 (fun H locs hP hD hS => ?_)
  rw [cl_0] at hP hD
  have hP : va_P D vwCl (xW K r f (va_up a_14 6 (upd (a_14 6) 0 x)) g) H := hP
  have hD : va_D A (xW K r f (va_up a_14 6 (upd (a_14 6) 0 x)) g) := hD
  refine k_gen (P := fun z => va_P D vwCl (xW K r f z g) H ∧ va_D A (xW K r f z g)) (va_up a_14 6 (upd (a_14 6) 0 x)) ⟨hP, hD⟩ (fun a_15 ea_15 hPD => ?_)
  have hP := hPD.1
  have hD := hPD.2
  refine lv_aload_n hx hb dX7_addPart_127 rfl (lv_at hl 1 rfl) ?_
  refine lv_dup hx hb dX7_addPart_128 rfl ?_
  refine va_get (D := D) (ci := 7) (v := .int (f 32)) (C := RX7) (T := TX7) (N := 20) hx hb hg inC7 hown hK hP 1 rfl rfl 0 (by decide) (hg _ wt1_79) (fun _ h9 => h9) rfl dX7_addPart_129 ?_
  refine k_top (z := 0) h0 ?_
  refine lv_iconst (v := 1) hx hb dX7_addPart_132 (by decide) ?_
  refine lv_iadd hx hb dX7_addPart_133 ?_
  refine k_top (z := 1) (by decide +kernel) ?_
  refine va_put (D := D) (ci := 7) (v := .int 1) (ty := .int) (C := RX7) (T := TX7) (N := 20) hx hb hg inC7 tyX7 tyX7_ok nmX7 hown hK hP hD hS 1 rfl rfl 0 (by decide) (hg _ wt1_79) (fun _ h9 => h9) rfl (by decide +kernel) rfl rfl (Nat.le_of_ble_eq_true rfl) dX7_addPart_134 (fun H locs hP hD hS => ?_)
  have hP : va_P D vwCl (xW K r (upd f 32 1) a_15 g) H := hP
  have hD : va_D A (xW K r (upd f 32 1) a_15 g) := hD
  refine k_gen (P := fun z => va_P D vwCl (xW K r z a_15 g) H ∧ va_D A (xW K r z a_15 g)) (upd f 32 1) ⟨hP, hD⟩ (fun f_16 ef_16 hPD => ?_)
  have hP := hPD.1
  have hD := hPD.2
  refine lv_aload_n hx hb dX7_addPart_137 rfl (lv_at hl 1 rfl) ?_
  refine va_get (D := D) (ci := 7) (v := .int (f_16 32)) (C := RX7) (T := TX7) (N := 20) hx hb hg inC7 hown hK hP 1 rfl rfl 0 (by decide) (hg _ wt1_79) (fun _ h9 => h9) rfl dX7_addPart_138 ?_
  refine k_top (z := 1) (show f_16 32 = 1 from by rw [← ef_16]; rfl) ?_
  refine lv_iconst (v := 1) hx hb dX7_addPart_141 (by decide) ?_
  refine lv_isub hx hb dX7_addPart_142 ?_
  refine k_top (z := 0) (by decide +kernel) ?_
  exact kI_ret (v := 0) hx hb hr hlocks rfl hK hS dX7_addPart_143 (f_16, a_15, g) hP hD rfl
set_option maxHeartbeats 4000000 in
set_option maxRecDepth 100000 in
theorem x_addPartBad (l : Launch) {D : va_G} {K : Nat → ClassId} (r : Nat → Nat) (f : Nat → Int32) (a : Nat → Nat → Int32) (g : xG) (h0 : f 32 = 0)  (x : Int32) (y : Int32) (z : Int32) (w : Int32) (h : ¬ xPartOk x y z w) : kI l yX7_addPart (Cond.code yX7_addPart cX7_addPart 6 (some .int) :: kG) (rmD 1 0 0) D (tysK K) [.ref (r 1), .int x, .int y, .int z, .int w] (xW K r f a g) (fun v (u : xS) => v = (-1)) (fun u => xW K r u.1 u.2.1 u.2.2) 0 0 := by
  refine kI.of (cc := cX7_addPart) (maxL := 6) (ret := (some .int)) (by decide) rfl (Nat.le_of_ble_eq_true rfl) ?_
  intro p e s m below meth c A hx hb hr hml hown hts hlocks hnm hK hP hD hS hA ls hl
  have hg : ∀ w ∈ kG, w.before _ s = true := fun w h => hts w (List.mem_cons_of_mem _ h)
  have hown : s.vm.findClass RX7 = some m.cls := hown
  have hl : lv_has ls 6 [(0, .ref (r 1)), (1, .int x), (2, .int y), (3, .int z), (4, .int w)] := hl
  refine lv_iload_n hx hb dX7_addPart_0 rfl (lv_at hl 2 rfl) ?_
  refine lv_iconst (v := (-1)) hx hb dX7_addPart_1 (by decide) ?_
  refine lv_aload_n hx hb dX7_addPart_2 rfl (lv_at hl 0 rfl) ?_
  refine va_get (D := D) (ci := 7) (v := .int (f 32)) (C := RX7) (T := TX7) (N := 20) hx hb hg inC7 hown hK hP 1 rfl rfl 0 (by decide) (hg _ wt1_79) (fun _ h9 => h9) rfl dX7_addPart_3 ?_
  refine k_top (z := 0) h0 ?_
  refine lv_ishl hx hb dX7_addPart_6 ?_
  refine k_top (z := (-1)) (by decide +kernel) ?_
  refine lv_iand hx hb dX7_addPart_7 ?_
  refine k_top (z := y) (and_m1 _) ?_
  refine lv_if_ne (tgt := 15) hx hb dX7_addPart_8 (by decide) (fun c1 => ?_) (fun c1 => ?_)
  · refine lv_iconst (v := 0) hx hb dX7_addPart_15 (by decide) ?_
    refine lv_istore (lv' := [(5, .int 0), (0, .ref (r 1)), (1, .int x), (2, .int y), (3, .int z), (4, .int w)]) hx hb dX7_addPart_16 hl (by decide) rfl (fun ls hl => ?_)
    refine lv_iload_n hx hb dX7_addPart_18 rfl (lv_at hl 2 rfl) ?_
    refine lv_iconst (v := 1) hx hb dX7_addPart_19 (by decide) ?_
    refine lv_icmp_lt (tgt := 55) hx hb dX7_addPart_20 (by decide) (fun c2 => ?_) (fun c2 => ?_)
    · refine lv_iconst (v := (-1)) hx hb dX7_addPart_55 (by decide) ?_
      exact kI_ret (v := (-1)) hx hb hr hlocks rfl hK hS dX7_addPart_56 (f, a, g) hP hD rfl
    · refine lv_iload_n hx hb dX7_addPart_23 rfl (lv_at hl 2 rfl) ?_
      refine lv_bipush (v := 99) hx hb dX7_addPart_24 (by decide) ?_
      refine lv_icmp_gt (tgt := 55) hx hb dX7_addPart_26 (by decide) (fun c3 => ?_) (fun c3 => ?_)
      · refine lv_iconst (v := (-1)) hx hb dX7_addPart_55 (by decide) ?_
        exact kI_ret (v := (-1)) hx hb hr hlocks rfl hK hS dX7_addPart_56 (f, a, g) hP hD rfl
      · refine lv_iload hx hb dX7_addPart_29 (lv_at hl 0 rfl) ?_
        refine lv_if_eq (tgt := 55) hx hb dX7_addPart_31 (by decide) (fun c4 => ?_) (fun c4 => absurd (by decide +kernel) c4)
        refine lv_iconst (v := (-1)) hx hb dX7_addPart_55 (by decide) ?_
        exact kI_ret (v := (-1)) hx hb hr hlocks rfl hK hS dX7_addPart_56 (f, a, g) hP hD rfl
  · refine lv_iconst (v := 1) hx hb dX7_addPart_11 (by decide) ?_
    refine lv_goto (tgt := 16) hx hb dX7_addPart_12 (by decide) ?_
    refine lv_istore (lv' := [(5, .int 1), (0, .ref (r 1)), (1, .int x), (2, .int y), (3, .int z), (4, .int w)]) hx hb dX7_addPart_16 hl (by decide) rfl (fun ls hl => ?_)
    refine lv_iload_n hx hb dX7_addPart_18 rfl (lv_at hl 2 rfl) ?_
    refine lv_iconst (v := 1) hx hb dX7_addPart_19 (by decide) ?_
    refine lv_icmp_lt (tgt := 55) hx hb dX7_addPart_20 (by decide) (fun c5 => ?_) (fun c5 => ?_)
    · refine lv_iconst (v := (-1)) hx hb dX7_addPart_55 (by decide) ?_
      exact kI_ret (v := (-1)) hx hb hr hlocks rfl hK hS dX7_addPart_56 (f, a, g) hP hD rfl
    · refine lv_iload_n hx hb dX7_addPart_23 rfl (lv_at hl 2 rfl) ?_
      refine lv_bipush (v := 99) hx hb dX7_addPart_24 (by decide) ?_
      refine lv_icmp_gt (tgt := 55) hx hb dX7_addPart_26 (by decide) (fun c6 => ?_) (fun c6 => ?_)
      · refine lv_iconst (v := (-1)) hx hb dX7_addPart_55 (by decide) ?_
        exact kI_ret (v := (-1)) hx hb hr hlocks rfl hK hS dX7_addPart_56 (f, a, g) hP hD rfl
      · refine lv_iload hx hb dX7_addPart_29 (lv_at hl 0 rfl) ?_
        refine lv_if_eq (tgt := 55) hx hb dX7_addPart_31 (by decide) (fun c7 => absurd c7 (by decide +kernel)) (fun c7 => ?_)
        refine lv_iload_n hx hb dX7_addPart_34 rfl (lv_at hl 4 rfl) ?_
        refine lv_if_lt (tgt := 55) hx hb dX7_addPart_35 (by decide) (fun c8 => ?_) (fun c8 => ?_)
        · refine lv_iconst (v := (-1)) hx hb dX7_addPart_55 (by decide) ?_
          exact kI_ret (v := (-1)) hx hb hr hlocks rfl hK hS dX7_addPart_56 (f, a, g) hP hD rfl
        · refine lv_iload_n hx hb dX7_addPart_38 rfl (lv_at hl 4 rfl) ?_
          refine lv_iconst (v := 4) hx hb dX7_addPart_39 (by decide) ?_
          refine lv_icmp_ge (tgt := 55) hx hb dX7_addPart_40 (by decide) (fun c9 => ?_) (fun c9 => ?_)
          · refine lv_iconst (v := (-1)) hx hb dX7_addPart_55 (by decide) ?_
            exact kI_ret (v := (-1)) hx hb hr hlocks rfl hK hS dX7_addPart_56 (f, a, g) hP hD rfl
          · refine lv_iload hx hb dX7_addPart_43 (lv_at hl 5 rfl) ?_
            refine lv_if_lt (tgt := 55) hx hb dX7_addPart_45 (by decide) (fun c10 => ?_) (fun c10 => ?_)
            · refine lv_iconst (v := (-1)) hx hb dX7_addPart_55 (by decide) ?_
              exact kI_ret (v := (-1)) hx hb hr hlocks rfl hK hS dX7_addPart_56 (f, a, g) hP hD rfl
            · refine lv_iload hx hb dX7_addPart_48 (lv_at hl 5 rfl) ?_
              refine lv_bipush (v := 9) hx hb dX7_addPart_50 (by decide) ?_
              refine lv_icmp_le (tgt := 57) hx hb dX7_addPart_52 (by decide) (fun c11 => ?_) (fun c11 => ?_)
              · exact absurd ⟨c1, c5, c6, c8, c9, c10, c11⟩ h
              · refine lv_iconst (v := (-1)) hx hb dX7_addPart_55 (by decide) ?_
                exact kI_ret (v := (-1)) hx hb hr hlocks rfl hK hS dX7_addPart_56 (f, a, g) hP hD rfl
set_option maxHeartbeats 4000000 in
set_option maxRecDepth 100000 in
theorem x_partOk (l : Launch) {D : va_G} {K : Nat → ClassId} (r : Nat → Nat) (f : Nat → Int32) (a : Nat → Nat → Int32) (g : xG) (h0 : f 32 = 0)  (x : Int32) (y : Int32) (z : Int32) (w : Int32) (h : xPartOk x y z w) : kI l yX11_part (Cond.code yX11_part cX11_part 6 (some .int) :: kG) (rmD 3 0 0) D (tysK K) [.ref (r 0), .int x, .int y, .int z, .int w] (xW K r f a g) (fun v (u : xS) => v = 0) (fun u => xW K r u.1 u.2.1 u.2.2) 0 0 := by
  refine kI.of (cc := cX11_part) (maxL := 6) (ret := (some .int)) (by decide) rfl (Nat.le_of_ble_eq_true rfl) ?_
  intro p e s m below meth c A hx hb hr hml hown hts hlocks hnm hK hP hD hS hA ls hl
  have hg : ∀ w ∈ kG, w.before _ s = true := fun w h => hts w (List.mem_cons_of_mem _ h)
  have hown : s.vm.findClass RX11 = some m.cls := hown
  have hl : lv_has ls 6 [(0, .ref (r 0)), (1, .int x), (2, .int y), (3, .int z), (4, .int w)] := hl
  refine lv_aload_n hx hb dX11_part_0 rfl (lv_at hl 0 rfl) ?_
  refine va_get (D := D) (ci := 11) (v := .ref (r 1)) (C := RX11) (T := TX11) (N := 17) hx hb hg inC11 hown hK hP 0 rfl rfl 0 (by decide) (hg _ wt2_186) (fun _ h9 => h9) rfl dX11_part_1 ?_
  refine lv_iload_n hx hb dX11_part_4 rfl (lv_at hl 1 rfl) ?_
  refine lv_iload_n hx hb dX11_part_5 rfl (lv_at hl 2 rfl) ?_
  refine lv_iload_n hx hb dX11_part_6 rfl (lv_at hl 3 rfl) ?_
  refine lv_iload hx hb dX11_part_7 (lv_at hl 4 rfl) ?_
  refine kI.callW (As := [.int x, .int y, .int z, .int w]) (rest := []) ⟨hx, hb, hml, hown, hg⟩ (x_addPartOk l r f a g h0 x y z w h) (cwV 4 hg (kgV wt3_3 wt3_4 wt3_5 wt1_2 wt3_6) rfl rfl rfl (by decide +kernel) ⟨by decide, by decide⟩) hK hP hD hS hA 1 7 rfl rfl rfl hl.1 rfl (Nat.le_of_ble_eq_true rfl) dX11_part_9 ⟨by decide, by decide⟩ (fun v3 u2 H locs hw1 hP hD hS => ?_)
  obtain ⟨f4, a5, g6⟩ := u2
  have hP : va_P D vwCl (xW K r f4 a5 g6) H := hP
  have hD : va_D A (xW K r f4 a5 g6) := hD
  refine k_top (z := 0) (hw1) ?_
  refine lv_istore (lv' := [(5, .int 0), (0, .ref (r 0)), (1, .int x), (2, .int y), (3, .int z), (4, .int w)]) hx hb dX11_part_12 hl (by decide) rfl (fun ls hl => ?_)
  refine lv_iload hx hb dX11_part_14 (lv_at hl 0 rfl) ?_
  refine lv_if_ge (tgt := 26) hx hb dX11_part_16 (by decide) (fun c7 => ?_) (fun c7 => absurd (by decide +kernel) c7)
  refine lv_aload_n hx hb dX11_part_26 rfl (lv_at hl 1 rfl) ?_
  refine va_get (D := D) (ci := 11) (v := .ref (r 22)) (C := RX11) (T := TX11) (N := 17) hx hb hg inC11 hown hK hP 0 rfl rfl 1 (by decide) (hg _ wt2_187) (fun _ h9 => h9) rfl dX11_part_27 ?_
  refine kV.callW (As := []) (rest := []) ⟨hx, hb, hml, hown, hg⟩ (x_pastClear l r f4 a5 g6  ) (cwV 0 hg (kgV wt3_11 wt3_12 wt3_13 wt1_4 wt3_14) rfl rfl rfl (by decide +kernel) ⟨by decide, by decide⟩) hK hP hD hS hA 22 2 rfl rfl rfl hl.1 rfl (Nat.le_of_ble_eq_true rfl) dX11_part_30 ⟨by decide, by decide⟩ (fun u9 H locs hw8 hP hD hS => ?_)
  obtain ⟨f11, a12, g13⟩ := u9
  have hP : va_P D vwCl (xW K r f11 a12 g13) H := hP
  have hD : va_D A (xW K r f11 a12 g13) := hD
  refine lv_aload_n hx hb dX11_part_33 rfl (lv_at hl 1 rfl) ?_
  refine lv_iload hx hb dX11_part_34 (lv_at hl 0 rfl) ?_
  refine kI.callW (As := [.int 0]) (rest := []) ⟨hx, hb, hml, hown, hg⟩ (x_agreeChanged l r f11 a12 g13  0) (cwV 1 hg (kgV wt3_15 wt3_17 wp1_1 wt1_1 wt3_18) rfl rfl rfl (by decide +kernel) ⟨by decide, by decide⟩) hK hP hD hS hA 0 11 rfl rfl rfl hl.1 rfl (Nat.le_of_ble_eq_true rfl) dX11_part_36 ⟨by decide, by decide⟩ (fun v16 u15 H locs hw14 hP hD hS => ?_)
  obtain ⟨f17, a18, g19⟩ := u15
  have hP : va_P D vwCl (xW K r f17 a18 g19) H := hP
  have hD : va_D A (xW K r f17 a18 g19) := hD
  refine k_top (z := 0) (hw14) ?_
  exact kI_ret (v := 0) hx hb hr hlocks rfl hK hS dX11_part_39 (f17, a18, g19) hP hD rfl
set_option maxHeartbeats 4000000 in
set_option maxRecDepth 100000 in
theorem x_partBad (l : Launch) {D : va_G} {K : Nat → ClassId} (r : Nat → Nat) (f : Nat → Int32) (a : Nat → Nat → Int32) (g : xG) (h0 : f 32 = 0)  (x : Int32) (y : Int32) (z : Int32) (w : Int32) (h : ¬ xPartOk x y z w) : kI l yX11_part (Cond.code yX11_part cX11_part 6 (some .int) :: kG) (rmD 2 0 0) D (tysK K) [.ref (r 0), .int x, .int y, .int z, .int w] (xW K r f a g) (fun v (u : xS) => v = (-1)) (fun u => xW K r u.1 u.2.1 u.2.2) 0 0 := by
  refine kI.of (cc := cX11_part) (maxL := 6) (ret := (some .int)) (by decide) rfl (Nat.le_of_ble_eq_true rfl) ?_
  intro p e s m below meth c A hx hb hr hml hown hts hlocks hnm hK hP hD hS hA ls hl
  have hg : ∀ w ∈ kG, w.before _ s = true := fun w h => hts w (List.mem_cons_of_mem _ h)
  have hown : s.vm.findClass RX11 = some m.cls := hown
  have hl : lv_has ls 6 [(0, .ref (r 0)), (1, .int x), (2, .int y), (3, .int z), (4, .int w)] := hl
  refine lv_aload_n hx hb dX11_part_0 rfl (lv_at hl 0 rfl) ?_
  refine va_get (D := D) (ci := 11) (v := .ref (r 1)) (C := RX11) (T := TX11) (N := 17) hx hb hg inC11 hown hK hP 0 rfl rfl 0 (by decide) (hg _ wt2_186) (fun _ h9 => h9) rfl dX11_part_1 ?_
  refine lv_iload_n hx hb dX11_part_4 rfl (lv_at hl 1 rfl) ?_
  refine lv_iload_n hx hb dX11_part_5 rfl (lv_at hl 2 rfl) ?_
  refine lv_iload_n hx hb dX11_part_6 rfl (lv_at hl 3 rfl) ?_
  refine lv_iload hx hb dX11_part_7 (lv_at hl 4 rfl) ?_
  refine kI.callW (As := [.int x, .int y, .int z, .int w]) (rest := []) ⟨hx, hb, hml, hown, hg⟩ (x_addPartBad l r f a g h0 x y z w h) (cwV 4 hg (kgV wt3_3 wt3_4 wt3_5 wt1_2 wt3_6) rfl rfl rfl (by decide +kernel) ⟨by decide, by decide⟩) hK hP hD hS hA 1 7 rfl rfl rfl hl.1 rfl (Nat.le_of_ble_eq_true rfl) dX11_part_9 ⟨by decide, by decide⟩ (fun v3 u2 H locs hw1 hP hD hS => ?_)
  obtain ⟨f4, a5, g6⟩ := u2
  have hP : va_P D vwCl (xW K r f4 a5 g6) H := hP
  have hD : va_D A (xW K r f4 a5 g6) := hD
  refine k_top (z := (-1)) (hw1) ?_
  refine lv_istore (lv' := [(5, .int (-1)), (0, .ref (r 0)), (1, .int x), (2, .int y), (3, .int z), (4, .int w)]) hx hb dX11_part_12 hl (by decide) rfl (fun ls hl => ?_)
  refine lv_iload hx hb dX11_part_14 (lv_at hl 0 rfl) ?_
  refine lv_if_ge (tgt := 26) hx hb dX11_part_16 (by decide) (fun c7 => absurd c7 (by decide +kernel)) (fun c7 => ?_)
  refine lv_aload_n hx hb dX11_part_19 rfl (lv_at hl 1 rfl) ?_
  refine lv_iload hx hb dX11_part_20 (lv_at hl 0 rfl) ?_
  refine kI.callW (As := [.int (-1)]) (rest := []) ⟨hx, hb, hml, hown, hg⟩ (x_refuse1 l r f4 a5 g6  ) (cwV 1 hg (kgV wt3_7 wt3_9 wp1_0 wt1_1 wt3_10) rfl rfl rfl (by decide +kernel) ⟨by decide, by decide⟩) hK hP hD hS hA 0 11 rfl rfl rfl hl.1 rfl (Nat.le_of_ble_eq_true rfl) dX11_part_22 ⟨by decide, by decide⟩ (fun v10 u9 H locs hw8 hP hD hS => ?_)
  obtain ⟨f11, a12, g13⟩ := u9
  have hP : va_P D vwCl (xW K r f11 a12 g13) H := hP
  have hD : va_D A (xW K r f11 a12 g13) := hD
  refine k_top (z := (-1)) (hw8) ?_
  exact kI_ret (v := (-1)) hx hb hr hlocks rfl hK hS dX11_part_25 (f11, a12, g13) hP hD rfl
set_option maxHeartbeats 4000000 in
set_option maxRecDepth 100000 in
theorem x_addBuilderOk (l : Launch) {D : va_G} {K : Nat → ClassId} (r : Nat → Nat) (f : Nat → Int32) (a : Nat → Nat → Int32) (g : xG) (h0 : f 38 = 0)  (x : Int32) (y : Int32) (h : xBldOk x y) : kI l yX7_addBuilder (Cond.code yX7_addBuilder cX7_addBuilder 3 (some .int) :: kG) (rmD 1 0 0) D (tysK K) [.ref (r 1), .int x, .int y] (xW K r f a g) (fun v (u : xS) => v = 0) (fun u => xW K r u.1 u.2.1 u.2.2) 0 0 := by
  refine kI.of (cc := cX7_addBuilder) (maxL := 3) (ret := (some .int)) (by decide) rfl (Nat.le_of_ble_eq_true rfl) ?_
  intro p e s m below meth c A hx hb hr hml hown hts hlocks hnm hK hP hD hS hA ls hl
  have hg : ∀ w ∈ kG, w.before _ s = true := fun w h => hts w (List.mem_cons_of_mem _ h)
  have hown : s.vm.findClass RX7 = some m.cls := hown
  have hl : lv_has ls 3 [(0, .ref (r 1)), (1, .int x), (2, .int y)] := hl
  refine lv_iload_n hx hb dX7_addBuilder_0 rfl (lv_at hl 1 rfl) ?_
  refine lv_iconst (v := 1) hx hb dX7_addBuilder_1 (by decide) ?_
  refine lv_icmp_lt (tgt := 22) hx hb dX7_addBuilder_2 (by decide) (fun c1 => absurd c1 h.1) (fun c1 => ?_)
  refine lv_iload_n hx hb dX7_addBuilder_5 rfl (lv_at hl 1 rfl) ?_
  refine lv_bipush (v := 15) hx hb dX7_addBuilder_6 (by decide) ?_
  refine lv_icmp_gt (tgt := 22) hx hb dX7_addBuilder_8 (by decide) (fun c2 => absurd c2 h.2.1) (fun c2 => ?_)
  refine lv_iload_n hx hb dX7_addBuilder_11 rfl (lv_at hl 2 rfl) ?_
  refine lv_iconst (v := 1) hx hb dX7_addBuilder_12 (by decide) ?_
  refine lv_icmp_lt (tgt := 22) hx hb dX7_addBuilder_13 (by decide) (fun c3 => absurd c3 h.2.2.1) (fun c3 => ?_)
  refine lv_iload_n hx hb dX7_addBuilder_16 rfl (lv_at hl 2 rfl) ?_
  refine lv_bipush (v := 9) hx hb dX7_addBuilder_17 (by decide) ?_
  refine lv_icmp_le (tgt := 24) hx hb dX7_addBuilder_19 (by decide) (fun c4 => ?_) (fun c4 => absurd h.2.2.2 c4)
  refine lv_aload_n hx hb dX7_addBuilder_24 rfl (lv_at hl 0 rfl) ?_
  refine va_get (D := D) (ci := 7) (v := .int (f 38)) (C := RX7) (T := TX7) (N := 20) hx hb hg inC7 hown hK hP 1 rfl rfl 6 (by decide) (hg _ wt1_104) (fun _ h9 => h9) rfl dX7_addBuilder_25 ?_
  refine k_top (z := 0) h0 ?_
  refine lv_if_lt (tgt := 40) hx hb dX7_addBuilder_28 (by decide) (fun c5 => absurd c5 (by decide +kernel)) (fun c5 => ?_)
  refine lv_aload_n hx hb dX7_addBuilder_31 rfl (lv_at hl 0 rfl) ?_
  refine va_get (D := D) (ci := 7) (v := .int (f 38)) (C := RX7) (T := TX7) (N := 20) hx hb hg inC7 hown hK hP 1 rfl rfl 6 (by decide) (hg _ wt1_104) (fun _ h9 => h9) rfl dX7_addBuilder_32 ?_
  refine k_top (z := 0) h0 ?_
  refine lv_bipush (v := 6) hx hb dX7_addBuilder_35 (by decide) ?_
  refine lv_icmp_lt (tgt := 43) hx hb dX7_addBuilder_37 (by decide) (fun c6 => ?_) (fun c6 => absurd (by decide +kernel) c6)
  refine lv_aload_n hx hb dX7_addBuilder_43 rfl (lv_at hl 0 rfl) ?_
  refine va_get (D := D) (ci := 7) (v := .ref (r 7)) (C := RX7) (T := TX7) (N := 20) hx hb hg inC7 hown hK hP 1 rfl rfl 7 (by decide) (hg _ wt1_110) (fun _ h9 => h9) rfl dX7_addBuilder_44 ?_
  refine lv_aload_n hx hb dX7_addBuilder_47 rfl (lv_at hl 0 rfl) ?_
  refine va_get (D := D) (ci := 7) (v := .int (f 38)) (C := RX7) (T := TX7) (N := 20) hx hb hg inC7 hown hK hP 1 rfl rfl 6 (by decide) (hg _ wt1_104) (fun _ h9 => h9) rfl dX7_addBuilder_48 ?_
  refine k_top (z := 0) h0 ?_
  refine lv_iload_n hx hb dX7_addBuilder_51 rfl (lv_at hl 1 rfl) ?_
  refine va_iast hx hb hK hP hD hS 7 0 rfl rfl (k_in (by decide +kernel)) dX7_addBuilder_52 (fun H locs hP hD hS => ?_)
  rw [cl_0] at hP hD
  have hP : va_P D vwCl (xW K r f (va_up a 7 (upd (a 7) 0 x)) g) H := hP
  have hD : va_D A (xW K r f (va_up a 7 (upd (a 7) 0 x)) g) := hD
  refine k_gen (P := fun z => va_P D vwCl (xW K r f z g) H ∧ va_D A (xW K r f z g)) (va_up a 7 (upd (a 7) 0 x)) ⟨hP, hD⟩ (fun a_7 ea_7 hPD => ?_)
  have hP := hPD.1
  have hD := hPD.2
  refine lv_aload_n hx hb dX7_addBuilder_53 rfl (lv_at hl 0 rfl) ?_
  refine va_get (D := D) (ci := 7) (v := .ref (r 8)) (C := RX7) (T := TX7) (N := 20) hx hb hg inC7 hown hK hP 1 rfl rfl 8 (by decide) (hg _ wt1_114) (fun _ h9 => h9) rfl dX7_addBuilder_54 ?_
  refine lv_aload_n hx hb dX7_addBuilder_57 rfl (lv_at hl 0 rfl) ?_
  refine va_get (D := D) (ci := 7) (v := .int (f 38)) (C := RX7) (T := TX7) (N := 20) hx hb hg inC7 hown hK hP 1 rfl rfl 6 (by decide) (hg _ wt1_104) (fun _ h9 => h9) rfl dX7_addBuilder_58 ?_
  refine k_top (z := 0) h0 ?_
  refine lv_iload_n hx hb dX7_addBuilder_61 rfl (lv_at hl 2 rfl) ?_
  refine va_iast hx hb hK hP hD hS 8 0 rfl rfl (k_in (by decide +kernel)) dX7_addBuilder_62 (fun H locs hP hD hS => ?_)
  rw [cl_0] at hP hD
  have hP : va_P D vwCl (xW K r f (va_up a_7 8 (upd (a_7 8) 0 y)) g) H := hP
  have hD : va_D A (xW K r f (va_up a_7 8 (upd (a_7 8) 0 y)) g) := hD
  refine k_gen (P := fun z => va_P D vwCl (xW K r f z g) H ∧ va_D A (xW K r f z g)) (va_up a_7 8 (upd (a_7 8) 0 y)) ⟨hP, hD⟩ (fun a_8 ea_8 hPD => ?_)
  have hP := hPD.1
  have hD := hPD.2
  refine lv_aload_n hx hb dX7_addBuilder_63 rfl (lv_at hl 0 rfl) ?_
  refine va_get (D := D) (ci := 7) (v := .ref (r 9)) (C := RX7) (T := TX7) (N := 20) hx hb hg inC7 hown hK hP 1 rfl rfl 9 (by decide) (hg _ wt1_116) (fun _ h9 => h9) rfl dX7_addBuilder_64 ?_
  refine lv_aload_n hx hb dX7_addBuilder_67 rfl (lv_at hl 0 rfl) ?_
  refine va_get (D := D) (ci := 7) (v := .int (f 38)) (C := RX7) (T := TX7) (N := 20) hx hb hg inC7 hown hK hP 1 rfl rfl 6 (by decide) (hg _ wt1_104) (fun _ h9 => h9) rfl dX7_addBuilder_68 ?_
  refine k_top (z := 0) h0 ?_
  refine lv_iconst (v := 0) hx hb dX7_addBuilder_71 (by decide) ?_
  refine va_iast hx hb hK hP hD hS 9 0 rfl rfl (k_in (by decide +kernel)) dX7_addBuilder_72 (fun H locs hP hD hS => ?_)
  rw [cl_0] at hP hD
  have hP : va_P D vwCl (xW K r f (va_up a_8 9 (upd (a_8 9) 0 0)) g) H := hP
  have hD : va_D A (xW K r f (va_up a_8 9 (upd (a_8 9) 0 0)) g) := hD
  refine k_gen (P := fun z => va_P D vwCl (xW K r f z g) H ∧ va_D A (xW K r f z g)) (va_up a_8 9 (upd (a_8 9) 0 0)) ⟨hP, hD⟩ (fun a_9 ea_9 hPD => ?_)
  have hP := hPD.1
  have hD := hPD.2
  refine lv_aload_n hx hb dX7_addBuilder_73 rfl (lv_at hl 0 rfl) ?_
  refine va_get (D := D) (ci := 7) (v := .ref (r 10)) (C := RX7) (T := TX7) (N := 20) hx hb hg inC7 hown hK hP 1 rfl rfl 10 (by decide) (hg _ wt1_121) (fun _ h9 => h9) rfl dX7_addBuilder_74 ?_
  refine lv_aload_n hx hb dX7_addBuilder_77 rfl (lv_at hl 0 rfl) ?_
  refine va_get (D := D) (ci := 7) (v := .int (f 38)) (C := RX7) (T := TX7) (N := 20) hx hb hg inC7 hown hK hP 1 rfl rfl 6 (by decide) (hg _ wt1_104) (fun _ h9 => h9) rfl dX7_addBuilder_78 ?_
  refine k_top (z := 0) h0 ?_
  refine lv_iconst (v := (-1)) hx hb dX7_addBuilder_81 (by decide) ?_
  refine va_iast hx hb hK hP hD hS 10 0 rfl rfl (k_in (by decide +kernel)) dX7_addBuilder_82 (fun H locs hP hD hS => ?_)
  rw [cl_0] at hP hD
  have hP : va_P D vwCl (xW K r f (va_up a_9 10 (upd (a_9 10) 0 (-1))) g) H := hP
  have hD : va_D A (xW K r f (va_up a_9 10 (upd (a_9 10) 0 (-1))) g) := hD
  refine k_gen (P := fun z => va_P D vwCl (xW K r f z g) H ∧ va_D A (xW K r f z g)) (va_up a_9 10 (upd (a_9 10) 0 (-1))) ⟨hP, hD⟩ (fun a_10 ea_10 hPD => ?_)
  have hP := hPD.1
  have hD := hPD.2
  refine lv_aload_n hx hb dX7_addBuilder_83 rfl (lv_at hl 0 rfl) ?_
  refine lv_dup hx hb dX7_addBuilder_84 rfl ?_
  refine va_get (D := D) (ci := 7) (v := .int (f 38)) (C := RX7) (T := TX7) (N := 20) hx hb hg inC7 hown hK hP 1 rfl rfl 6 (by decide) (hg _ wt1_104) (fun _ h9 => h9) rfl dX7_addBuilder_85 ?_
  refine k_top (z := 0) h0 ?_
  refine lv_iconst (v := 1) hx hb dX7_addBuilder_88 (by decide) ?_
  refine lv_iadd hx hb dX7_addBuilder_89 ?_
  refine k_top (z := 1) (by decide +kernel) ?_
  refine va_put (D := D) (ci := 7) (v := .int 1) (ty := .int) (C := RX7) (T := TX7) (N := 20) hx hb hg inC7 tyX7 tyX7_ok nmX7 hown hK hP hD hS 1 rfl rfl 6 (by decide) (hg _ wt1_104) (fun _ h9 => h9) rfl (by decide +kernel) rfl rfl (Nat.le_of_ble_eq_true rfl) dX7_addBuilder_90 (fun H locs hP hD hS => ?_)
  have hP : va_P D vwCl (xW K r (upd f 38 1) a_10 g) H := hP
  have hD : va_D A (xW K r (upd f 38 1) a_10 g) := hD
  refine k_gen (P := fun z => va_P D vwCl (xW K r z a_10 g) H ∧ va_D A (xW K r z a_10 g)) (upd f 38 1) ⟨hP, hD⟩ (fun f_11 ef_11 hPD => ?_)
  have hP := hPD.1
  have hD := hPD.2
  refine lv_aload_n hx hb dX7_addBuilder_93 rfl (lv_at hl 0 rfl) ?_
  refine va_get (D := D) (ci := 7) (v := .int (f_11 38)) (C := RX7) (T := TX7) (N := 20) hx hb hg inC7 hown hK hP 1 rfl rfl 6 (by decide) (hg _ wt1_104) (fun _ h9 => h9) rfl dX7_addBuilder_94 ?_
  refine k_top (z := 1) (show f_11 38 = 1 from by rw [← ef_11]; rfl) ?_
  refine lv_iconst (v := 1) hx hb dX7_addBuilder_97 (by decide) ?_
  refine lv_isub hx hb dX7_addBuilder_98 ?_
  refine k_top (z := 0) (by decide +kernel) ?_
  exact kI_ret (v := 0) hx hb hr hlocks rfl hK hS dX7_addBuilder_99 (f_11, a_10, g) hP hD rfl
set_option maxHeartbeats 4000000 in
set_option maxRecDepth 100000 in
theorem x_addBuilderBad (l : Launch) {D : va_G} {K : Nat → ClassId} (r : Nat → Nat) (f : Nat → Int32) (a : Nat → Nat → Int32) (g : xG) (h0 : f 38 = 0)  (x : Int32) (y : Int32) (h : ¬ xBldOk x y) : kI l yX7_addBuilder (Cond.code yX7_addBuilder cX7_addBuilder 3 (some .int) :: kG) (rmD 1 0 0) D (tysK K) [.ref (r 1), .int x, .int y] (xW K r f a g) (fun v (u : xS) => v = (-1)) (fun u => xW K r u.1 u.2.1 u.2.2) 0 0 := by
  refine kI.of (cc := cX7_addBuilder) (maxL := 3) (ret := (some .int)) (by decide) rfl (Nat.le_of_ble_eq_true rfl) ?_
  intro p e s m below meth c A hx hb hr hml hown hts hlocks hnm hK hP hD hS hA ls hl
  have hg : ∀ w ∈ kG, w.before _ s = true := fun w h => hts w (List.mem_cons_of_mem _ h)
  have hown : s.vm.findClass RX7 = some m.cls := hown
  have hl : lv_has ls 3 [(0, .ref (r 1)), (1, .int x), (2, .int y)] := hl
  refine lv_iload_n hx hb dX7_addBuilder_0 rfl (lv_at hl 1 rfl) ?_
  refine lv_iconst (v := 1) hx hb dX7_addBuilder_1 (by decide) ?_
  refine lv_icmp_lt (tgt := 22) hx hb dX7_addBuilder_2 (by decide) (fun c1 => ?_) (fun c1 => ?_)
  · refine lv_iconst (v := (-1)) hx hb dX7_addBuilder_22 (by decide) ?_
    exact kI_ret (v := (-1)) hx hb hr hlocks rfl hK hS dX7_addBuilder_23 (f, a, g) hP hD rfl
  · refine lv_iload_n hx hb dX7_addBuilder_5 rfl (lv_at hl 1 rfl) ?_
    refine lv_bipush (v := 15) hx hb dX7_addBuilder_6 (by decide) ?_
    refine lv_icmp_gt (tgt := 22) hx hb dX7_addBuilder_8 (by decide) (fun c2 => ?_) (fun c2 => ?_)
    · refine lv_iconst (v := (-1)) hx hb dX7_addBuilder_22 (by decide) ?_
      exact kI_ret (v := (-1)) hx hb hr hlocks rfl hK hS dX7_addBuilder_23 (f, a, g) hP hD rfl
    · refine lv_iload_n hx hb dX7_addBuilder_11 rfl (lv_at hl 2 rfl) ?_
      refine lv_iconst (v := 1) hx hb dX7_addBuilder_12 (by decide) ?_
      refine lv_icmp_lt (tgt := 22) hx hb dX7_addBuilder_13 (by decide) (fun c3 => ?_) (fun c3 => ?_)
      · refine lv_iconst (v := (-1)) hx hb dX7_addBuilder_22 (by decide) ?_
        exact kI_ret (v := (-1)) hx hb hr hlocks rfl hK hS dX7_addBuilder_23 (f, a, g) hP hD rfl
      · refine lv_iload_n hx hb dX7_addBuilder_16 rfl (lv_at hl 2 rfl) ?_
        refine lv_bipush (v := 9) hx hb dX7_addBuilder_17 (by decide) ?_
        refine lv_icmp_le (tgt := 24) hx hb dX7_addBuilder_19 (by decide) (fun c4 => ?_) (fun c4 => ?_)
        · exact absurd ⟨c1, c2, c3, c4⟩ h
        · refine lv_iconst (v := (-1)) hx hb dX7_addBuilder_22 (by decide) ?_
          exact kI_ret (v := (-1)) hx hb hr hlocks rfl hK hS dX7_addBuilder_23 (f, a, g) hP hD rfl
set_option maxHeartbeats 4000000 in
set_option maxRecDepth 100000 in
theorem x_builderOk (l : Launch) {D : va_G} {K : Nat → ClassId} (r : Nat → Nat) (f : Nat → Int32) (a : Nat → Nat → Int32) (g : xG) (h0 : f 38 = 0)  (x : Int32) (y : Int32) (h : xBldOk x y) : kI l yX11_builder (Cond.code yX11_builder cX11_builder 4 (some .int) :: kG) (rmD 3 0 0) D (tysK K) [.ref (r 0), .int x, .int y] (xW K r f a g) (fun v (u : xS) => v = 0) (fun u => xW K r u.1 u.2.1 u.2.2) 0 0 := by
  refine kI.of (cc := cX11_builder) (maxL := 4) (ret := (some .int)) (by decide) rfl (Nat.le_of_ble_eq_true rfl) ?_
  intro p e s m below meth c A hx hb hr hml hown hts hlocks hnm hK hP hD hS hA ls hl
  have hg : ∀ w ∈ kG, w.before _ s = true := fun w h => hts w (List.mem_cons_of_mem _ h)
  have hown : s.vm.findClass RX11 = some m.cls := hown
  have hl : lv_has ls 4 [(0, .ref (r 0)), (1, .int x), (2, .int y)] := hl
  refine lv_aload_n hx hb dX11_builder_0 rfl (lv_at hl 0 rfl) ?_
  refine va_get (D := D) (ci := 11) (v := .ref (r 1)) (C := RX11) (T := TX11) (N := 17) hx hb hg inC11 hown hK hP 0 rfl rfl 0 (by decide) (hg _ wt2_186) (fun _ h9 => h9) rfl dX11_builder_1 ?_
  refine lv_iload_n hx hb dX11_builder_4 rfl (lv_at hl 1 rfl) ?_
  refine lv_iload_n hx hb dX11_builder_5 rfl (lv_at hl 2 rfl) ?_
  refine kI.callW (As := [.int x, .int y]) (rest := []) ⟨hx, hb, hml, hown, hg⟩ (x_addBuilderOk l r f a g h0 x y h) (cwV 2 hg (kgV wt3_59 wt3_60 wt3_61 wt1_2 wt3_62) rfl rfl rfl (by decide +kernel) ⟨by decide, by decide⟩) hK hP hD hS hA 1 7 rfl rfl rfl hl.1 rfl (Nat.le_of_ble_eq_true rfl) dX11_builder_6 ⟨by decide, by decide⟩ (fun v3 u2 H locs hw1 hP hD hS => ?_)
  obtain ⟨f4, a5, g6⟩ := u2
  have hP : va_P D vwCl (xW K r f4 a5 g6) H := hP
  have hD : va_D A (xW K r f4 a5 g6) := hD
  refine k_top (z := 0) (hw1) ?_
  refine lv_istore_n (lv' := [(3, .int 0), (0, .ref (r 0)), (1, .int x), (2, .int y)]) hx hb dX11_builder_9 rfl hl (by decide) rfl (fun ls hl => ?_)
  refine lv_iload_n hx hb dX11_builder_10 rfl (lv_at hl 0 rfl) ?_
  refine lv_if_ge (tgt := 20) hx hb dX11_builder_11 (by decide) (fun c7 => ?_) (fun c7 => absurd (by decide +kernel) c7)
  refine lv_aload_n hx hb dX11_builder_20 rfl (lv_at hl 1 rfl) ?_
  refine va_get (D := D) (ci := 11) (v := .ref (r 22)) (C := RX11) (T := TX11) (N := 17) hx hb hg inC11 hown hK hP 0 rfl rfl 1 (by decide) (hg _ wt2_187) (fun _ h9 => h9) rfl dX11_builder_21 ?_
  refine kV.callW (As := []) (rest := []) ⟨hx, hb, hml, hown, hg⟩ (x_pastClear l r f4 a5 g6  ) (cwV 0 hg (kgV wt3_11 wt3_12 wt3_13 wt1_4 wt3_14) rfl rfl rfl (by decide +kernel) ⟨by decide, by decide⟩) hK hP hD hS hA 22 2 rfl rfl rfl hl.1 rfl (Nat.le_of_ble_eq_true rfl) dX11_builder_24 ⟨by decide, by decide⟩ (fun u9 H locs hw8 hP hD hS => ?_)
  obtain ⟨f11, a12, g13⟩ := u9
  have hP : va_P D vwCl (xW K r f11 a12 g13) H := hP
  have hD : va_D A (xW K r f11 a12 g13) := hD
  refine lv_aload_n hx hb dX11_builder_27 rfl (lv_at hl 1 rfl) ?_
  refine lv_iload_n hx hb dX11_builder_28 rfl (lv_at hl 0 rfl) ?_
  refine kI.callW (As := [.int 0]) (rest := []) ⟨hx, hb, hml, hown, hg⟩ (x_agreeChanged l r f11 a12 g13  0) (cwV 1 hg (kgV wt3_15 wt3_17 wp1_1 wt1_1 wt3_18) rfl rfl rfl (by decide +kernel) ⟨by decide, by decide⟩) hK hP hD hS hA 0 11 rfl rfl rfl hl.1 rfl (Nat.le_of_ble_eq_true rfl) dX11_builder_29 ⟨by decide, by decide⟩ (fun v16 u15 H locs hw14 hP hD hS => ?_)
  obtain ⟨f17, a18, g19⟩ := u15
  have hP : va_P D vwCl (xW K r f17 a18 g19) H := hP
  have hD : va_D A (xW K r f17 a18 g19) := hD
  refine k_top (z := 0) (hw14) ?_
  exact kI_ret (v := 0) hx hb hr hlocks rfl hK hS dX11_builder_32 (f17, a18, g19) hP hD rfl
set_option maxHeartbeats 4000000 in
set_option maxRecDepth 100000 in
theorem x_builderBad (l : Launch) {D : va_G} {K : Nat → ClassId} (r : Nat → Nat) (f : Nat → Int32) (a : Nat → Nat → Int32) (g : xG) (h0 : f 38 = 0)  (x : Int32) (y : Int32) (h : ¬ xBldOk x y) : kI l yX11_builder (Cond.code yX11_builder cX11_builder 4 (some .int) :: kG) (rmD 2 0 0) D (tysK K) [.ref (r 0), .int x, .int y] (xW K r f a g) (fun v (u : xS) => v = (-1)) (fun u => xW K r u.1 u.2.1 u.2.2) 0 0 := by
  refine kI.of (cc := cX11_builder) (maxL := 4) (ret := (some .int)) (by decide) rfl (Nat.le_of_ble_eq_true rfl) ?_
  intro p e s m below meth c A hx hb hr hml hown hts hlocks hnm hK hP hD hS hA ls hl
  have hg : ∀ w ∈ kG, w.before _ s = true := fun w h => hts w (List.mem_cons_of_mem _ h)
  have hown : s.vm.findClass RX11 = some m.cls := hown
  have hl : lv_has ls 4 [(0, .ref (r 0)), (1, .int x), (2, .int y)] := hl
  refine lv_aload_n hx hb dX11_builder_0 rfl (lv_at hl 0 rfl) ?_
  refine va_get (D := D) (ci := 11) (v := .ref (r 1)) (C := RX11) (T := TX11) (N := 17) hx hb hg inC11 hown hK hP 0 rfl rfl 0 (by decide) (hg _ wt2_186) (fun _ h9 => h9) rfl dX11_builder_1 ?_
  refine lv_iload_n hx hb dX11_builder_4 rfl (lv_at hl 1 rfl) ?_
  refine lv_iload_n hx hb dX11_builder_5 rfl (lv_at hl 2 rfl) ?_
  refine kI.callW (As := [.int x, .int y]) (rest := []) ⟨hx, hb, hml, hown, hg⟩ (x_addBuilderBad l r f a g h0 x y h) (cwV 2 hg (kgV wt3_59 wt3_60 wt3_61 wt1_2 wt3_62) rfl rfl rfl (by decide +kernel) ⟨by decide, by decide⟩) hK hP hD hS hA 1 7 rfl rfl rfl hl.1 rfl (Nat.le_of_ble_eq_true rfl) dX11_builder_6 ⟨by decide, by decide⟩ (fun v3 u2 H locs hw1 hP hD hS => ?_)
  obtain ⟨f4, a5, g6⟩ := u2
  have hP : va_P D vwCl (xW K r f4 a5 g6) H := hP
  have hD : va_D A (xW K r f4 a5 g6) := hD
  refine k_top (z := (-1)) (hw1) ?_
  refine lv_istore_n (lv' := [(3, .int (-1)), (0, .ref (r 0)), (1, .int x), (2, .int y)]) hx hb dX11_builder_9 rfl hl (by decide) rfl (fun ls hl => ?_)
  refine lv_iload_n hx hb dX11_builder_10 rfl (lv_at hl 0 rfl) ?_
  refine lv_if_ge (tgt := 20) hx hb dX11_builder_11 (by decide) (fun c7 => absurd c7 (by decide +kernel)) (fun c7 => ?_)
  refine lv_aload_n hx hb dX11_builder_14 rfl (lv_at hl 1 rfl) ?_
  refine lv_iload_n hx hb dX11_builder_15 rfl (lv_at hl 0 rfl) ?_
  refine kI.callW (As := [.int (-1)]) (rest := []) ⟨hx, hb, hml, hown, hg⟩ (x_refuse1 l r f4 a5 g6  ) (cwV 1 hg (kgV wt3_7 wt3_9 wp1_0 wt1_1 wt3_10) rfl rfl rfl (by decide +kernel) ⟨by decide, by decide⟩) hK hP hD hS hA 0 11 rfl rfl rfl hl.1 rfl (Nat.le_of_ble_eq_true rfl) dX11_builder_16 ⟨by decide, by decide⟩ (fun v10 u9 H locs hw8 hP hD hS => ?_)
  obtain ⟨f11, a12, g13⟩ := u9
  have hP : va_P D vwCl (xW K r f11 a12 g13) H := hP
  have hD : va_D A (xW K r f11 a12 g13) := hD
  refine k_top (z := (-1)) (hw8) ?_
  exact kI_ret (v := (-1)) hx hb hr hlocks rfl hK hS dX11_builder_19 (f11, a12, g13) hP hD rfl
set_option maxHeartbeats 4000000 in
set_option maxRecDepth 100000 in
theorem x_force (l : Launch) {D : va_G} {K : Nat → ClassId} (r : Nat → Nat) (f : Nat → Int32) (a : Nat → Nat → Int32) (g : xG) (h0 : f 49 = 0) (h1 : f 50 = (-1)) (x : Int32)  : kI l yX11_force (Cond.code yX11_force cX11_force 3 (some .int) :: kG) (rmD 3 0 0) D (tysK K) [.ref (r 0), .int x] (xW K r f a g) (fun v (u : xS) => v = (if x = (-1) then (-1 : Int32) else -2)) (fun u => xW K r u.1 u.2.1 u.2.2) 0 0 := by
  refine kI.of (cc := cX11_force) (maxL := 3) (ret := (some .int)) (by decide) rfl (Nat.le_of_ble_eq_true rfl) ?_
  intro p e s m below meth c A hx hb hr hml hown hts hlocks hnm hK hP hD hS hA ls hl
  have hg : ∀ w ∈ kG, w.before _ s = true := fun w h => hts w (List.mem_cons_of_mem _ h)
  have hown : s.vm.findClass RX11 = some m.cls := hown
  have hl : lv_has ls 3 [(0, .ref (r 0)), (1, .int x)] := hl
  refine lv_iload_n hx hb dX11_force_0 rfl (lv_at hl 1 rfl) ?_
  refine lv_iconst (v := (-1)) hx hb dX11_force_1 (by decide) ?_
  refine lv_icmp_eq (tgt := 27) hx hb dX11_force_2 (by decide) (fun c1 => ?_) (fun c1 => ?_)
  · refine lv_aload_n hx hb dX11_force_27 rfl (lv_at hl 0 rfl) ?_
    refine va_get (D := D) (ci := 11) (v := .ref (r 1)) (C := RX11) (T := TX11) (N := 17) hx hb hg inC11 hown hK hP 0 rfl rfl 0 (by decide) (hg _ wt2_186) (fun _ h9 => h9) rfl dX11_force_28 ?_
    refine va_get (D := D) (ci := 7) (v := .int (f 50)) (C := RX7) (T := TX7) (N := 20) hx hb hg inC7 hown hK hP 1 rfl rfl 18 (by decide) (hg _ wt1_153) (fun _ h9 => h9) rfl dX11_force_31 ?_
    refine k_top (z := (-1)) h1 ?_
    refine lv_istore_n (lv' := [(2, .int (-1)), (0, .ref (r 0)), (1, .int x)]) hx hb dX11_force_34 rfl hl (by decide) rfl (fun ls hl => ?_)
    refine lv_aload_n hx hb dX11_force_35 rfl (lv_at hl 1 rfl) ?_
    refine va_get (D := D) (ci := 11) (v := .ref (r 1)) (C := RX11) (T := TX11) (N := 17) hx hb hg inC11 hown hK hP 0 rfl rfl 0 (by decide) (hg _ wt2_186) (fun _ h9 => h9) rfl dX11_force_36 ?_
    refine lv_iload_n hx hb dX11_force_39 rfl (lv_at hl 2 rfl) ?_
    refine va_put (D := D) (ci := 7) (v := .int x) (ty := .int) (C := RX7) (T := TX7) (N := 20) hx hb hg inC7 tyX7 tyX7_ok nmX7 hown hK hP hD hS 1 rfl rfl 18 (by decide) (hg _ wt1_153) (fun _ h9 => h9) rfl (by decide +kernel) rfl rfl (Nat.le_of_ble_eq_true rfl) dX11_force_40 (fun H locs hP hD hS => ?_)
    have hP : va_P D vwCl (xW K r (upd f 50 x) a g) H := hP
    have hD : va_D A (xW K r (upd f 50 x) a g) := hD
    refine k_gen (P := fun z => va_P D vwCl (xW K r z a g) H ∧ va_D A (xW K r z a g)) (upd f 50 x) ⟨hP, hD⟩ (fun f_2 ef_2 hPD => ?_)
    have hP := hPD.1
    have hD := hPD.2
    refine lv_aload_n hx hb dX11_force_43 rfl (lv_at hl 1 rfl) ?_
    refine lv_iload_n hx hb dX11_force_44 rfl (lv_at hl 0 rfl) ?_
    refine kI.callW (As := [.int (-1)]) (rest := []) ⟨hx, hb, hml, hown, hg⟩ (x_agreeChanged l r f_2 a g  (-1)) (cwV 1 hg (kgV wt3_15 wt3_17 wp1_1 wt1_1 wt3_18) rfl rfl rfl (by decide +kernel) ⟨by decide, by decide⟩) hK hP hD hS hA 0 11 rfl rfl rfl hl.1 rfl (Nat.le_of_ble_eq_true rfl) dX11_force_45 ⟨by decide, by decide⟩ (fun v5 u4 H locs hw3 hP hD hS => ?_)
    obtain ⟨f6, a7, g8⟩ := u4
    have hP : va_P D vwCl (xW K r f6 a7 g8) H := hP
    have hD : va_D A (xW K r f6 a7 g8) := hD
    refine k_top (z := (-1)) (hw3) ?_
    exact kI_ret (v := (-1)) hx hb hr hlocks rfl hK hS dX11_force_48 (f6, a7, g8) hP hD (by rw [if_pos c1])
  · refine lv_iload_n hx hb dX11_force_5 rfl (lv_at hl 1 rfl) ?_
    refine lv_if_lt (tgt := 20) hx hb dX11_force_6 (by decide) (fun c9 => ?_) (fun c9 => ?_)
    · refine lv_aload_n hx hb dX11_force_20 rfl (lv_at hl 0 rfl) ?_
      refine lv_bipush (v := (-2)) hx hb dX11_force_21 (by decide) ?_
      refine kI.callW (As := [.int (-2)]) (rest := []) ⟨hx, hb, hml, hown, hg⟩ (x_refuse2 l r f a g  ) (cwV 1 hg (kgV wt3_7 wt3_9 wp1_0 wt1_1 wt3_10) rfl rfl rfl (by decide +kernel) ⟨by decide, by decide⟩) hK hP hD hS hA 0 11 rfl rfl rfl hl.1 rfl (Nat.le_of_ble_eq_true rfl) dX11_force_23 ⟨by decide, by decide⟩ (fun v12 u11 H locs hw10 hP hD hS => ?_)
      obtain ⟨f13, a14, g15⟩ := u11
      have hP : va_P D vwCl (xW K r f13 a14 g15) H := hP
      have hD : va_D A (xW K r f13 a14 g15) := hD
      refine k_top (z := (-2)) (hw10) ?_
      exact kI_ret (v := (-2)) hx hb hr hlocks rfl hK hS dX11_force_26 (f13, a14, g15) hP hD (by rw [if_neg c1])
    · refine lv_iload_n hx hb dX11_force_9 rfl (lv_at hl 1 rfl) ?_
      refine lv_aload_n hx hb dX11_force_10 rfl (lv_at hl 0 rfl) ?_
      refine va_get (D := D) (ci := 11) (v := .ref (r 1)) (C := RX11) (T := TX11) (N := 17) hx hb hg inC11 hown hK hP 0 rfl rfl 0 (by decide) (hg _ wt2_186) (fun _ h9 => h9) rfl dX11_force_11 ?_
      refine va_get (D := D) (ci := 7) (v := .int (f 49)) (C := RX7) (T := TX7) (N := 20) hx hb hg inC7 hown hK hP 1 rfl rfl 17 (by decide) (hg _ wt1_150) (fun _ h9 => h9) rfl dX11_force_14 ?_
      refine k_top (z := 0) h0 ?_
      refine lv_icmp_lt (tgt := 27) hx hb dX11_force_17 (by decide) (fun c16 => absurd c16 c9) (fun c16 => ?_)
      refine lv_aload_n hx hb dX11_force_20 rfl (lv_at hl 0 rfl) ?_
      refine lv_bipush (v := (-2)) hx hb dX11_force_21 (by decide) ?_
      refine kI.callW (As := [.int (-2)]) (rest := []) ⟨hx, hb, hml, hown, hg⟩ (x_refuse2 l r f a g  ) (cwV 1 hg (kgV wt3_7 wt3_9 wp1_0 wt1_1 wt3_10) rfl rfl rfl (by decide +kernel) ⟨by decide, by decide⟩) hK hP hD hS hA 0 11 rfl rfl rfl hl.1 rfl (Nat.le_of_ble_eq_true rfl) dX11_force_23 ⟨by decide, by decide⟩ (fun v19 u18 H locs hw17 hP hD hS => ?_)
      obtain ⟨f20, a21, g22⟩ := u18
      have hP : va_P D vwCl (xW K r f20 a21 g22) H := hP
      have hD : va_D A (xW K r f20 a21 g22) := hD
      refine k_top (z := (-2)) (hw17) ?_
      exact kI_ret (v := (-2)) hx hb hr hlocks rfl hK hS dX11_force_26 (f20, a21, g22) hP hD (by rw [if_neg c1])
set_option maxHeartbeats 4000000 in
set_option maxRecDepth 100000 in
theorem x_addToken (l : Launch) {D : va_G} {K : Nat → ClassId} (r : Nat → Nat) (f : Nat → Int32) (a : Nat → Nat → Int32) (g : xG) (h0 : f 1603 = 0)   : kV l yX4_addToken (Cond.code yX4_addToken cX4_addToken 3 none :: kG) (rmD 1 0 0) D (tysK K) [.ref (r 50), .int 4000, .int 0] (xW K r f a g) (fun (u : xS) => u.1 1603 = 1 ∧ u.2.1 56 0 = 4000 ∧ u.2.1 57 0 = 0) (fun u => xW K r u.1 u.2.1 u.2.2) 0 0 := by
  refine kV.of (cc := cX4_addToken) (maxL := 3) (ret := none) (by decide) rfl (Nat.le_of_ble_eq_true rfl) ?_
  intro p e s m below meth c A hx hb hr hml hown hts hlocks hnm hK hP hD hS hA ls hl
  have hg : ∀ w ∈ kG, w.before _ s = true := fun w h => hts w (List.mem_cons_of_mem _ h)
  have hown : s.vm.findClass RX4 = some m.cls := hown
  have hl : lv_has ls 3 [(0, .ref (r 50)), (1, .int 4000), (2, .int 0)] := hl
  refine lv_aload_n hx hb dX4_addToken_0 rfl (lv_at hl 0 rfl) ?_
  refine va_get (D := D) (ci := 4) (v := .int (f 1603)) (C := RX4) (T := TX4) (N := 7) hx hb hg inC4 hown hK hP 50 rfl rfl 3 (by decide) (hg _ wt2_68) (fun _ h9 => h9) rfl dX4_addToken_1 ?_
  refine k_top (z := 0) h0 ?_
  refine lv_if_lt (tgt := 49) hx hb dX4_addToken_4 (by decide) (fun c1 => absurd c1 (by decide +kernel)) (fun c1 => ?_)
  refine lv_aload_n hx hb dX4_addToken_7 rfl (lv_at hl 0 rfl) ?_
  refine va_get (D := D) (ci := 4) (v := .int (f 1603)) (C := RX4) (T := TX4) (N := 7) hx hb hg inC4 hown hK hP 50 rfl rfl 3 (by decide) (hg _ wt2_68) (fun _ h9 => h9) rfl dX4_addToken_8 ?_
  refine k_top (z := 0) h0 ?_
  refine lv_aload_n hx hb dX4_addToken_11 rfl (lv_at hl 0 rfl) ?_
  refine va_get (D := D) (ci := 4) (v := .ref (r 56)) (C := RX4) (T := TX4) (N := 7) hx hb hg inC4 hown hK hP 50 rfl rfl 1 (by decide) (hg _ wt2_66) (fun _ h9 => h9) rfl dX4_addToken_12 ?_
  refine va_alen (v := 401) hx hb hK hP 56 0 rfl rfl rfl dX4_addToken_15 ?_
  refine lv_icmp_ge (tgt := 49) hx hb dX4_addToken_16 (by decide) (fun c2 => absurd c2 (by decide +kernel)) (fun c2 => ?_)
  refine lv_aload_n hx hb dX4_addToken_19 rfl (lv_at hl 0 rfl) ?_
  refine va_get (D := D) (ci := 4) (v := .ref (r 56)) (C := RX4) (T := TX4) (N := 7) hx hb hg inC4 hown hK hP 50 rfl rfl 1 (by decide) (hg _ wt2_66) (fun _ h9 => h9) rfl dX4_addToken_20 ?_
  refine lv_aload_n hx hb dX4_addToken_23 rfl (lv_at hl 0 rfl) ?_
  refine va_get (D := D) (ci := 4) (v := .int (f 1603)) (C := RX4) (T := TX4) (N := 7) hx hb hg inC4 hown hK hP 50 rfl rfl 3 (by decide) (hg _ wt2_68) (fun _ h9 => h9) rfl dX4_addToken_24 ?_
  refine k_top (z := 0) h0 ?_
  refine lv_iload_n hx hb dX4_addToken_27 rfl (lv_at hl 1 rfl) ?_
  refine va_iast hx hb hK hP hD hS 56 0 rfl rfl (k_in (by decide +kernel)) dX4_addToken_28 (fun H locs hP hD hS => ?_)
  rw [cl_0] at hP hD
  have hP : va_P D vwCl (xW K r f (va_up a 56 (upd (a 56) 0 4000)) g) H := hP
  have hD : va_D A (xW K r f (va_up a 56 (upd (a 56) 0 4000)) g) := hD
  refine k_gen (P := fun z => va_P D vwCl (xW K r f z g) H ∧ va_D A (xW K r f z g)) (va_up a 56 (upd (a 56) 0 4000)) ⟨hP, hD⟩ (fun a_3 ea_3 hPD => ?_)
  have hP := hPD.1
  have hD := hPD.2
  refine lv_aload_n hx hb dX4_addToken_29 rfl (lv_at hl 0 rfl) ?_
  refine va_get (D := D) (ci := 4) (v := .ref (r 57)) (C := RX4) (T := TX4) (N := 7) hx hb hg inC4 hown hK hP 50 rfl rfl 2 (by decide) (hg _ wt2_67) (fun _ h9 => h9) rfl dX4_addToken_30 ?_
  refine lv_aload_n hx hb dX4_addToken_33 rfl (lv_at hl 0 rfl) ?_
  refine va_get (D := D) (ci := 4) (v := .int (f 1603)) (C := RX4) (T := TX4) (N := 7) hx hb hg inC4 hown hK hP 50 rfl rfl 3 (by decide) (hg _ wt2_68) (fun _ h9 => h9) rfl dX4_addToken_34 ?_
  refine k_top (z := 0) h0 ?_
  refine lv_iload_n hx hb dX4_addToken_37 rfl (lv_at hl 2 rfl) ?_
  refine va_iast hx hb hK hP hD hS 57 0 rfl rfl (k_in (by decide +kernel)) dX4_addToken_38 (fun H locs hP hD hS => ?_)
  rw [cl_0] at hP hD
  have hP : va_P D vwCl (xW K r f (va_up a_3 57 (upd (a_3 57) 0 0)) g) H := hP
  have hD : va_D A (xW K r f (va_up a_3 57 (upd (a_3 57) 0 0)) g) := hD
  refine k_gen (P := fun z => va_P D vwCl (xW K r f z g) H ∧ va_D A (xW K r f z g)) (va_up a_3 57 (upd (a_3 57) 0 0)) ⟨hP, hD⟩ (fun a_4 ea_4 hPD => ?_)
  have hP := hPD.1
  have hD := hPD.2
  refine lv_aload_n hx hb dX4_addToken_39 rfl (lv_at hl 0 rfl) ?_
  refine lv_dup hx hb dX4_addToken_40 rfl ?_
  refine va_get (D := D) (ci := 4) (v := .int (f 1603)) (C := RX4) (T := TX4) (N := 7) hx hb hg inC4 hown hK hP 50 rfl rfl 3 (by decide) (hg _ wt2_68) (fun _ h9 => h9) rfl dX4_addToken_41 ?_
  refine k_top (z := 0) h0 ?_
  refine lv_iconst (v := 1) hx hb dX4_addToken_44 (by decide) ?_
  refine lv_iadd hx hb dX4_addToken_45 ?_
  refine k_top (z := 1) (by decide +kernel) ?_
  refine va_put (D := D) (ci := 4) (v := .int 1) (ty := .int) (C := RX4) (T := TX4) (N := 7) hx hb hg inC4 tyX4 tyX4_ok nmX4 hown hK hP hD hS 50 rfl rfl 3 (by decide) (hg _ wt2_68) (fun _ h9 => h9) rfl (by decide +kernel) rfl rfl (Nat.le_of_ble_eq_true rfl) dX4_addToken_46 (fun H locs hP hD hS => ?_)
  have hP : va_P D vwCl (xW K r (upd f 1603 1) a_4 g) H := hP
  have hD : va_D A (xW K r (upd f 1603 1) a_4 g) := hD
  refine k_gen (P := fun z => va_P D vwCl (xW K r z a_4 g) H ∧ va_D A (xW K r z a_4 g)) (upd f 1603 1) ⟨hP, hD⟩ (fun f_5 ef_5 hPD => ?_)
  have hP := hPD.1
  have hD := hPD.2
  exact kV_ret hx hb hr hlocks hK hS dX4_addToken_49 (f_5, a_4, g) hP hD ⟨(show f_5 1603 = 1 from by rw [← ef_5]; rfl), ((show a_4 56 0 = a_3 56 0 from by rw [← ea_4]; rfl).trans (show a_3 56 0 = 4000 from by rw [← ea_3]; rfl)), (show a_4 57 0 = 0 from by rw [← ea_4]; rfl)⟩
set_option maxHeartbeats 4000000 in
set_option maxRecDepth 100000 in
theorem x_split (l : Launch) {D : va_G} {K : Nat → ClassId} (r : Nat → Nat) (f : Nat → Int32) (a : Nat → Nat → Int32) (g : xG)    : kV l yX4_split (Cond.code yX4_split cX4_split 7 none :: kG) (rmD 2 0 0) D (tysK K) [.ref (r 50), .ref (r 93), .int 0] (xW K r f a g) (fun (u : xS) => u.1 1603 = 1 ∧ u.2.1 56 0 = 4000 ∧ u.2.1 57 0 = 0) (fun u => xW K r u.1 u.2.1 u.2.2) 0 0 := by
  refine kV.of (cc := cX4_split) (maxL := 7) (ret := none) (by decide) rfl (Nat.le_of_ble_eq_true rfl) ?_
  intro p e s m below meth c A hx hb hr hml hown hts hlocks hnm hK hP hD hS hA ls hl
  have hg : ∀ w ∈ kG, w.before _ s = true := fun w h => hts w (List.mem_cons_of_mem _ h)
  have hown : s.vm.findClass RX4 = some m.cls := hown
  have hl : lv_has ls 7 [(0, .ref (r 50)), (1, .ref (r 93)), (2, .int 0)] := hl
  refine lv_aload_n hx hb dX4_split_0 rfl (lv_at hl 0 rfl) ?_
  refine lv_iconst (v := 0) hx hb dX4_split_1 (by decide) ?_
  refine va_put (D := D) (ci := 4) (v := .int 0) (ty := .int) (C := RX4) (T := TX4) (N := 7) hx hb hg inC4 tyX4 tyX4_ok nmX4 hown hK hP hD hS 50 rfl rfl 3 (by decide) (hg _ wt2_68) (fun _ h9 => h9) rfl (by decide +kernel) rfl rfl (Nat.le_of_ble_eq_true rfl) dX4_split_2 (fun H locs hP hD hS => ?_)
  have hP : va_P D vwCl (xW K r (upd f 1603 0) a g) H := hP
  have hD : va_D A (xW K r (upd f 1603 0) a g) := hD
  refine k_gen (P := fun z => va_P D vwCl (xW K r z a g) H ∧ va_D A (xW K r z a g)) (upd f 1603 0) ⟨hP, hD⟩ (fun f_1 ef_1 hPD => ?_)
  have hP := hPD.1
  have hD := hPD.2
  refine lv_iconst (v := 0) hx hb dX4_split_5 (by decide) ?_
  refine lv_istore_n (lv' := [(3, .int 0), (0, .ref (r 50)), (1, .ref (r 93)), (2, .int 0)]) hx hb dX4_split_6 rfl hl (by decide) rfl (fun ls hl => ?_)
  refine lv_iconst (v := 0) hx hb dX4_split_7 (by decide) ?_
  refine lv_istore (lv' := [(4, .int 0), (3, .int 0), (0, .ref (r 50)), (1, .ref (r 93)), (2, .int 0)]) hx hb dX4_split_8 hl (by decide) rfl (fun ls hl => ?_)
  refine lv_iload hx hb dX4_split_10 (lv_at hl 0 rfl) ?_
  refine lv_iload_n hx hb dX4_split_12 rfl (lv_at hl 4 rfl) ?_
  refine lv_icmp_ge (tgt := 163) hx hb dX4_split_13 (by decide) (fun c2 => ?_) (fun c2 => absurd (by decide +kernel) c2)
  refine lv_aload_n hx hb dX4_split_163 rfl (lv_at hl 2 rfl) ?_
  refine lv_sipush (v := 4000) hx hb dX4_split_164 (by decide) ?_
  refine lv_iload_n hx hb dX4_split_167 rfl (lv_at hl 4 rfl) ?_
  refine kV.callW (As := [.int 4000, .int 0]) (rest := []) ⟨hx, hb, hml, hown, hg⟩ (x_addToken l r f_1 a g (show f_1 1603 = 0 from by rw [← ef_1]; rfl) ) (cwV 2 hg (kgV wt3_223 wt3_225 wp1_10 wt1_7 wt3_226) rfl rfl rfl (by decide +kernel) ⟨by decide, by decide⟩) hK hP hD hS hA 50 4 rfl rfl rfl hl.1 rfl (Nat.le_of_ble_eq_true rfl) dX4_split_168 ⟨by decide, by decide⟩ (fun u4 H locs hw3 hP hD hS => ?_)
  obtain ⟨f6, a7, g8⟩ := u4
  have hP : va_P D vwCl (xW K r f6 a7 g8) H := hP
  have hD : va_D A (xW K r f6 a7 g8) := hD
  exact kV_ret hx hb hr hlocks hK hS dX4_split_171 (f6, a7, g8) hP hD ⟨hw3.1, hw3.2.1, hw3.2.2⟩
set_option maxHeartbeats 4000000 in
set_option maxRecDepth 100000 in
theorem x_textClear (l : Launch) {D : va_G} {K : Nat → ClassId} (r : Nat → Nat) (f : Nat → Int32) (a : Nat → Nat → Int32) (g : xG) (h0 : f 1603 = 1) (h1 : a 56 0 = 4000) (h2 : a 57 0 = 0)   : kV l yX10_clear (Cond.code yX10_clear cX10_clear 1 none :: kG) (rmD 2 0 0) D (tysK K) [.ref (r 51)] (xW K r f a g) (fun (u : xS) => u.1 1603 = 1 ∧ u.2.1 56 0 = 4000 ∧ u.2.1 57 0 = 0) (fun u => xW K r u.1 u.2.1 u.2.2) 0 0 := by
  refine kV.of (cc := cX10_clear) (maxL := 1) (ret := none) (by decide) rfl (Nat.le_of_ble_eq_true rfl) ?_
  intro p e s m below meth c A hx hb hr hml hown hts hlocks hnm hK hP hD hS hA ls hl
  have hg : ∀ w ∈ kG, w.before _ s = true := fun w h => hts w (List.mem_cons_of_mem _ h)
  have hown : s.vm.findClass RX10 = some m.cls := hown
  have hl : lv_has ls 1 [(0, .ref (r 51))] := hl
  refine lv_aload_n hx hb dX10_clear_0 rfl (lv_at hl 0 rfl) ?_
  refine lv_iconst (v := 0) hx hb dX10_clear_1 (by decide) ?_
  refine va_put (D := D) (ci := 10) (v := .int 0) (ty := .int) (C := RX10) (T := TX10) (N := 6) hx hb hg inC10 tyX10 tyX10_ok nmX10 hown hK hP hD hS 51 rfl rfl 0 (by decide) (hg _ wt2_40) (fun _ h9 => h9) rfl (by decide +kernel) rfl rfl (Nat.le_of_ble_eq_true rfl) dX10_clear_2 (fun H locs hP hD hS => ?_)
  have hP : va_P D vwCl (xW K r (upd f 1632 0) a g) H := hP
  have hD : va_D A (xW K r (upd f 1632 0) a g) := hD
  refine k_gen (P := fun z => va_P D vwCl (xW K r z a g) H ∧ va_D A (xW K r z a g)) (upd f 1632 0) ⟨hP, hD⟩ (fun f_1 ef_1 hPD => ?_)
  have hP := hPD.1
  have hD := hPD.2
  refine lv_aload_n hx hb dX10_clear_5 rfl (lv_at hl 0 rfl) ?_
  refine lv_iconst (v := 0) hx hb dX10_clear_6 (by decide) ?_
  refine va_put (D := D) (ci := 10) (v := .int 0) (ty := .int) (C := RX10) (T := TX10) (N := 6) hx hb hg inC10 tyX10 tyX10_ok nmX10 hown hK hP hD hS 51 rfl rfl 5 (by decide) (hg _ wt2_50) (fun _ h9 => h9) rfl (by decide +kernel) rfl rfl (Nat.le_of_ble_eq_true rfl) dX10_clear_7 (fun H locs hP hD hS => ?_)
  have hP : va_P D vwCl (xW K r (upd f_1 1637 0) a g) H := hP
  have hD : va_D A (xW K r (upd f_1 1637 0) a g) := hD
  refine k_gen (P := fun z => va_P D vwCl (xW K r z a g) H ∧ va_D A (xW K r z a g)) (upd f_1 1637 0) ⟨hP, hD⟩ (fun f_2 ef_2 hPD => ?_)
  have hP := hPD.1
  have hD := hPD.2
  refine lv_aload_n hx hb dX10_clear_10 rfl (lv_at hl 0 rfl) ?_
  refine va_get (D := D) (ci := 10) (v := .ref (r 54)) (C := RX10) (T := TX10) (N := 6) hx hb hg inC10 hown hK hP 51 rfl rfl 3 (by decide) (hg _ wt2_48) (fun _ h9 => h9) rfl dX10_clear_11 ?_
  refine lv_iconst (v := 0) hx hb dX10_clear_14 (by decide) ?_
  refine kV.callA (q0 := 54) (As := [.ref (r 54), .int 0]) (rest := []) ⟨hx, hb, hml, hown, hg⟩ (x_fill l (r 54) 37 (a 54) 0 (by decide)) (va_cwS 2 hg (kgS wt3_231 wt3_232 wt1_19 wt3_233) rfl rfl rfl (by decide +kernel) ⟨by decide, by decide⟩) hK hP hD hS hA rfl rfl hl.1 rfl (Nat.le_of_ble_eq_true rfl) dX10_clear_15 ⟨by decide, by decide⟩ (fun u3 H locs hw4 hP hD hS => ?_)
  have hP : va_P D vwCl (xW K r f_2 (va_up a 54 u3) g) H := hP
  have hD : va_D A (xW K r f_2 (va_up a 54 u3) g) := hD
  refine k_gen (P := fun z => va_P D vwCl (xW K r f_2 z g) H ∧ va_D A (xW K r f_2 z g)) (va_up a 54 u3) ⟨hP, hD⟩ (fun a_5 ea_5 hPD => ?_)
  have hP := hPD.1
  have hD := hPD.2
  exact kV_ret hx hb hr hlocks hK hS dX10_clear_18 (f_2, a_5, g) hP hD ⟨((show f_2 1603 = f_1 1603 from by rw [← ef_2]; rfl).trans ((show f_1 1603 = f 1603 from by rw [← ef_1]; rfl).trans h0)), ((show a_5 56 0 = a 56 0 from by rw [← ea_5]; rfl).trans h1), ((show a_5 57 0 = a 57 0 from by rw [← ea_5]; rfl).trans h2)⟩
set_option maxHeartbeats 4000000 in
set_option maxRecDepth 100000 in
theorem x_inHand (l : Launch) {D : va_G} {K : Nat → ClassId} (r : Nat → Nat) (f : Nat → Int32) (a : Nat → Nat → Int32) (g : xG) (h0 : f 1604 = 0) (h1 : f 1603 = 1) (h2 : a 56 0 = 4000) (h3 : a 57 0 = 0)   : kI l yX4_inHand (Cond.code yX4_inHand cX4_inHand 1 (some .int) :: kG) (rmD 1 0 0) D (tysK K) [.ref (r 50)] (xW K r f a g) (fun v (_ : Unit) => v = 4000) (fun _ => xW K r f a g) 0 0 := by
  refine kI.of (cc := cX4_inHand) (maxL := 1) (ret := (some .int)) (by decide) rfl (Nat.le_of_ble_eq_true rfl) ?_
  intro p e s m below meth c A hx hb hr hml hown hts hlocks hnm hK hP hD hS hA ls hl
  have hg : ∀ w ∈ kG, w.before _ s = true := fun w h => hts w (List.mem_cons_of_mem _ h)
  have hown : s.vm.findClass RX4 = some m.cls := hown
  have hl : lv_has ls 1 [(0, .ref (r 50))] := hl
  refine lv_aload_n hx hb dX4_inHand_0 rfl (lv_at hl 0 rfl) ?_
  refine va_get (D := D) (ci := 4) (v := .int (f 1604)) (C := RX4) (T := TX4) (N := 7) hx hb hg inC4 hown hK hP 50 rfl rfl 4 (by decide) (hg _ wt2_69) (fun _ h9 => h9) rfl dX4_inHand_1 ?_
  refine k_top (z := 0) h0 ?_
  refine lv_if_lt (tgt := 42) hx hb dX4_inHand_4 (by decide) (fun c1 => absurd c1 (by decide +kernel)) (fun c1 => ?_)
  refine lv_aload_n hx hb dX4_inHand_7 rfl (lv_at hl 0 rfl) ?_
  refine va_get (D := D) (ci := 4) (v := .int (f 1604)) (C := RX4) (T := TX4) (N := 7) hx hb hg inC4 hown hK hP 50 rfl rfl 4 (by decide) (hg _ wt2_69) (fun _ h9 => h9) rfl dX4_inHand_8 ?_
  refine k_top (z := 0) h0 ?_
  refine lv_aload_n hx hb dX4_inHand_11 rfl (lv_at hl 0 rfl) ?_
  refine va_get (D := D) (ci := 4) (v := .int (f 1603)) (C := RX4) (T := TX4) (N := 7) hx hb hg inC4 hown hK hP 50 rfl rfl 3 (by decide) (hg _ wt2_68) (fun _ h9 => h9) rfl dX4_inHand_12 ?_
  refine k_top (z := 1) h1 ?_
  refine lv_icmp_ge (tgt := 42) hx hb dX4_inHand_15 (by decide) (fun c2 => absurd c2 (by decide +kernel)) (fun c2 => ?_)
  refine lv_aload_n hx hb dX4_inHand_18 rfl (lv_at hl 0 rfl) ?_
  refine va_get (D := D) (ci := 4) (v := .int (f 1604)) (C := RX4) (T := TX4) (N := 7) hx hb hg inC4 hown hK hP 50 rfl rfl 4 (by decide) (hg _ wt2_69) (fun _ h9 => h9) rfl dX4_inHand_19 ?_
  refine k_top (z := 0) h0 ?_
  refine lv_aload_n hx hb dX4_inHand_22 rfl (lv_at hl 0 rfl) ?_
  refine va_get (D := D) (ci := 4) (v := .ref (r 56)) (C := RX4) (T := TX4) (N := 7) hx hb hg inC4 hown hK hP 50 rfl rfl 1 (by decide) (hg _ wt2_66) (fun _ h9 => h9) rfl dX4_inHand_23 ?_
  refine va_alen (v := 401) hx hb hK hP 56 0 rfl rfl rfl dX4_inHand_26 ?_
  refine lv_icmp_ge (tgt := 42) hx hb dX4_inHand_27 (by decide) (fun c3 => absurd c3 (by decide +kernel)) (fun c3 => ?_)
  refine lv_aload_n hx hb dX4_inHand_30 rfl (lv_at hl 0 rfl) ?_
  refine va_get (D := D) (ci := 4) (v := .ref (r 56)) (C := RX4) (T := TX4) (N := 7) hx hb hg inC4 hown hK hP 50 rfl rfl 1 (by decide) (hg _ wt2_66) (fun _ h9 => h9) rfl dX4_inHand_31 ?_
  refine lv_aload_n hx hb dX4_inHand_34 rfl (lv_at hl 0 rfl) ?_
  refine va_get (D := D) (ci := 4) (v := .int (f 1604)) (C := RX4) (T := TX4) (N := 7) hx hb hg inC4 hown hK hP 50 rfl rfl 4 (by decide) (hg _ wt2_69) (fun _ h9 => h9) rfl dX4_inHand_35 ?_
  refine k_top (z := 0) h0 ?_
  refine va_iald hx hb hK hP 56 0 rfl rfl (k_in (by decide +kernel)) dX4_inHand_38 ?_
  refine k_top (z := 4000) (by rw [cl_0]; exact h2) ?_
  refine lv_goto (tgt := 45) hx hb dX4_inHand_39 (by decide) ?_
  exact kI_ret (v := 4000) hx hb hr hlocks rfl hK hS dX4_inHand_45 () hP hD rfl
