set_option maxHeartbeats 4000000 in
set_option maxRecDepth 100000 in
theorem x_drawNights (l : Launch) {D : va_G} {K : Nat → ClassId} (r : Nat → Nat) (f : Nat → Int32) (a : Nat → Nat → Int32) (g : xG) (h0 : f 32 = 0) (h1 : f 38 = 0) (h2 : f 44 = 0) (h3 : a 11 0 = 0) (h4 : a 11 1 = 30) (h5 : a 11 2 = 2) (h6 : f 1858 = (-1)) (h7 : f 50 = (-1)) (h8 : (∀ i, g.2 15 i = none))  (x : Int32) (y : Int32) (h : ∃ N : Nat, N ≤ 20 ∧ y = nI N) : kI l yX1_drawNights (Cond.code yX1_drawNights cX1_drawNights 8 (some .int) :: kG) (rmD 4 0 0) D (tysK K) [.ref (r 89), .int x, .int y] (xW K r f a g) (fun v (u : xS) => v = y) (fun u => xW K r u.1 u.2.1 u.2.2) 0 0 := by
  refine kI.of (cc := cX1_drawNights) (maxL := 8) (ret := (some .int)) (by decide) rfl (Nat.le_of_ble_eq_true rfl) ?_
  intro p e s m below meth c A hx hb hr hml hown hts hlocks hnm hK hP hD hS hA ls hl
  have hg : ∀ w ∈ kG, w.before _ s = true := fun w h => hts w (List.mem_cons_of_mem _ h)
  have hown : s.vm.findClass RX1 = some m.cls := hown
  have hl : lv_has ls 8 [(0, .ref (r 89)), (1, .int x), (2, .int y)] := hl
  obtain ⟨N, hN, rfl⟩ := h
  refine lv_aload_n hx hb dX1_drawNights_0 rfl (lv_at hl 0 rfl) ?_
  refine va_get (D := D) (ci := 1) (v := .ref (r 58)) (C := RX1) (T := TX1) (N := 5) hx hb hg inC1 hown hK hP 89 rfl rfl 0 (by decide) (hg _ wt2_169) (fun _ h9 => h9) rfl dX1_drawNights_1 ?_
  refine va_get (D := D) (ci := 3) (v := .ref (r 59)) (C := RX3) (T := TX3) (N := 4) hx hb hg inC3 hown hK hP 58 rfl rfl 0 (by decide) (hg _ wt2_96) (fun _ h9 => h9) rfl dX1_drawNights_4 ?_
  refine lv_astore_n (lv' := [(3, .ref (r 59)), (0, .ref (r 89)), (1, .int x), (2, .int (nI N))]) hx hb dX1_drawNights_7 rfl hl (by decide) rfl (fun ls hl => ?_)
  refine lv_iload_n hx hb dX1_drawNights_8 rfl (lv_at hl 2 rfl) ?_
  refine lv_istore (lv' := [(4, .int x), (3, .ref (r 59)), (0, .ref (r 89)), (1, .int x), (2, .int (nI N))]) hx hb dX1_drawNights_9 hl (by decide) rfl (fun ls hl => ?_)
  refine lv_iconst (v := 0) hx hb dX1_drawNights_11 (by decide) ?_
  refine lv_istore (lv' := [(5, .int 0), (4, .int x), (3, .ref (r 59)), (0, .ref (r 89)), (1, .int x), (2, .int (nI N))]) hx hb dX1_drawNights_12 hl (by decide) rfl (fun ls hl => ?_)
  refine lv_iconst (v := 0) hx hb dX1_drawNights_14 (by decide) ?_
  refine lv_istore (lv' := [(6, .int 0), (5, .int 0), (4, .int x), (3, .ref (r 59)), (0, .ref (r 89)), (1, .int x), (2, .int (nI N))]) hx hb dX1_drawNights_15 hl (by decide) rfl (fun ls hl => ?_)
  have lp1 : ∀ (n i : Nat) (F : Nat → Int32) (B : Nat → Nat → Int32) (G : xG) (H : Heap) (locs : List Loc) (ls : Array Slot) (y4 : Int32), i + n = N →  F 32 = 0 → F 38 = 0 → F 44 = 0 → B 11 0 = 0 → B 11 1 = 30 → B 11 2 = 2 → F 1858 = (-1) → F 50 = (-1) → (∀ i, G.2 15 i = none) → va_P D vwCl (xW K r F B G) H → va_D A (xW K r F B G) → va_S A s.heap H locs → lv_has ls 8 [(6, .int (nI i)), (5, .int (nI i)), (4, .int y4), (3, .ref (r 59)), (0, .ref (r 89)), (1, .int x), (2, .int (nI N))] → W p l e (rmD 4 0 0) s m ([.ref (r 89), .int x, .int (nI N)] : List Value).toArray below meth c H locs 0 0 (kQi D (tysK K) (fun v (u : xS) => v = (nI N)) (fun u => xW K r u.1 u.2.1 u.2.2) A below ([.ref (r 89), .int x, .int (nI N)] : List Value).toArray s 0 0) (F0 m 17 ls []) := by
    intro n
    induction n with
    | zero =>
      intro i F B G H locs ls y4 hin  z0 z1 z2 z3 z4 z5 z6 z7 z8 hP hD hS hl
      obtain rfl : N = i := by omega
      refine lv_iload hx hb dX1_drawNights_17 (lv_at hl 0 rfl) ?_
      refine lv_iload_n hx hb dX1_drawNights_19 rfl (lv_at hl 6 rfl) ?_
      refine lv_icmp_ge (tgt := 125) hx hb dX1_drawNights_20 (by decide) (fun c2 => ?_) (fun c2 => absurd (nI_le (Nat.le_refl N) (by omega)) c2)
      refine lv_aload_n hx hb dX1_drawNights_125 rfl (lv_at hl 4 rfl) ?_
      refine lv_aload_n hx hb dX1_drawNights_126 rfl (lv_at hl 3 rfl) ?_
      refine va_get (D := D) (ci := 7) (v := .int (F 1888)) (C := RX7) (T := TX7) (N := 20) hx hb hg inC7 hown hK hP 59 rfl rfl 0 (by decide) (hg _ wt1_80) (fun _ h9 => h9) rfl dX1_drawNights_127 ?_
      refine lv_topi (fun t3 et3 => ?_)
      refine va_put (D := D) (ci := 1) (v := .int t3) (ty := .int) (C := RX1) (T := TX1) (N := 5) hx hb hg inC1 tyX1 tyX1_ok nmX1 hown hK hP hD hS 89 rfl rfl 1 (by decide) (hg _ wt2_170) (fun _ h9 => h9) rfl (by decide +kernel) rfl rfl (Nat.le_of_ble_eq_true rfl) dX1_drawNights_130 (fun H locs hP hD hS => ?_)
      have hP : va_P D vwCl (xW K r (upd F 2849 t3) B G) H := hP
      have hD : va_D A (xW K r (upd F 2849 t3) B G) := hD
      refine k_gen (P := fun z => va_P D vwCl (xW K r z B G) H ∧ va_D A (xW K r z B G)) (upd F 2849 t3) ⟨hP, hD⟩ (fun f_4 ef_4 hPD => ?_)
      have hP := hPD.1
      have hD := hPD.2
      refine lv_aload_n hx hb dX1_drawNights_133 rfl (lv_at hl 4 rfl) ?_
      refine lv_aload_n hx hb dX1_drawNights_134 rfl (lv_at hl 3 rfl) ?_
      refine va_get (D := D) (ci := 7) (v := .int (f_4 1894)) (C := RX7) (T := TX7) (N := 20) hx hb hg inC7 hown hK hP 59 rfl rfl 6 (by decide) (hg _ wt1_105) (fun _ h9 => h9) rfl dX1_drawNights_135 ?_
      refine lv_topi (fun t5 et5 => ?_)
      refine va_put (D := D) (ci := 1) (v := .int t5) (ty := .int) (C := RX1) (T := TX1) (N := 5) hx hb hg inC1 tyX1 tyX1_ok nmX1 hown hK hP hD hS 89 rfl rfl 2 (by decide) (hg _ wt2_171) (fun _ h9 => h9) rfl (by decide +kernel) rfl rfl (Nat.le_of_ble_eq_true rfl) dX1_drawNights_138 (fun H locs hP hD hS => ?_)
      have hP : va_P D vwCl (xW K r (upd f_4 2850 t5) B G) H := hP
      have hD : va_D A (xW K r (upd f_4 2850 t5) B G) := hD
      refine k_gen (P := fun z => va_P D vwCl (xW K r z B G) H ∧ va_D A (xW K r z B G)) (upd f_4 2850 t5) ⟨hP, hD⟩ (fun f_6 ef_6 hPD => ?_)
      have hP := hPD.1
      have hD := hPD.2
      refine lv_aload_n hx hb dX1_drawNights_141 rfl (lv_at hl 3 rfl) ?_
      refine va_get (D := D) (ci := 7) (v := .ref (r 64)) (C := RX7) (T := TX7) (N := 20) hx hb hg inC7 hown hK hP 59 rfl rfl 5 (by decide) (hg _ wt1_99) (fun _ h9 => h9) rfl dX1_drawNights_142 ?_
      refine lv_iconst (v := 0) hx hb dX1_drawNights_145 (by decide) ?_
      refine lv_aload_n hx hb dX1_drawNights_146 rfl (lv_at hl 4 rfl) ?_
      refine va_get (D := D) (ci := 1) (v := .ref (r 90)) (C := RX1) (T := TX1) (N := 5) hx hb hg inC1 hown hK hP 89 rfl rfl 3 (by decide) (hg _ wt2_172) (fun _ h9 => h9) rfl dX1_drawNights_147 ?_
      refine lv_iconst (v := 0) hx hb dX1_drawNights_150 (by decide) ?_
      refine lv_bipush (v := 10) hx hb dX1_drawNights_151 (by decide) ?_
      refine va_copyi (ty := .int) hx hb (hml.trans hl.1.symm) hown (hg _ wt5_128) (hg _ wt4_70) (hg _ wt4_69) (hg _ wt1_20) hK hP hD hS 64 90 0 0 rfl rfl rfl rfl rfl (by decide) (by decide) (by decide) (by decide +kernel) (by decide +kernel) (fun i _ => rfl) (by decide) (Nat.le_of_ble_eq_true rfl) dX1_drawNights_153 (fun H locs hP hD hS => ?_)
      rw [cl_0] at hP hD
      rw [cl_10] at hP hD
      have hP : va_P D vwCl (xW K r f_6 (va_up B 90 (va_cpy (B 64) (B 90) 0 0 10)) G) H := hP
      have hD : va_D A (xW K r f_6 (va_up B 90 (va_cpy (B 64) (B 90) 0 0 10)) G) := hD
      refine k_gen (P := fun z => va_P D vwCl (xW K r f_6 z G) H ∧ va_D A (xW K r f_6 z G)) (va_up B 90 (va_cpy (B 64) (B 90) 0 0 10)) ⟨hP, hD⟩ (fun a_7 ea_7 hPD => ?_)
      have hP := hPD.1
      have hD := hPD.2
      refine lv_aload_n hx hb dX1_drawNights_156 rfl (lv_at hl 3 rfl) ?_
      refine va_get (D := D) (ci := 7) (v := .ref (r 67)) (C := RX7) (T := TX7) (N := 20) hx hb hg inC7 hown hK hP 59 rfl rfl 9 (by decide) (hg _ wt1_117) (fun _ h9 => h9) rfl dX1_drawNights_157 ?_
      refine lv_iconst (v := 0) hx hb dX1_drawNights_160 (by decide) ?_
      refine lv_aload_n hx hb dX1_drawNights_161 rfl (lv_at hl 4 rfl) ?_
      refine va_get (D := D) (ci := 1) (v := .ref (r 91)) (C := RX1) (T := TX1) (N := 5) hx hb hg inC1 hown hK hP 89 rfl rfl 4 (by decide) (hg _ wt2_173) (fun _ h9 => h9) rfl dX1_drawNights_162 ?_
      refine lv_iconst (v := 0) hx hb dX1_drawNights_165 (by decide) ?_
      refine lv_bipush (v := 6) hx hb dX1_drawNights_166 (by decide) ?_
      refine va_copyi (ty := .int) hx hb (hml.trans hl.1.symm) hown (hg _ wt5_128) (hg _ wt4_70) (hg _ wt4_69) (hg _ wt1_20) hK hP hD hS 67 91 0 0 rfl rfl rfl rfl rfl (by decide) (by decide) (by decide) (by decide +kernel) (by decide +kernel) (fun i _ => rfl) (by decide) (Nat.le_of_ble_eq_true rfl) dX1_drawNights_168 (fun H locs hP hD hS => ?_)
      rw [cl_0] at hP hD
      rw [cl_6] at hP hD
      have hP : va_P D vwCl (xW K r f_6 (va_up a_7 91 (va_cpy (a_7 67) (a_7 91) 0 0 6)) G) H := hP
      have hD : va_D A (xW K r f_6 (va_up a_7 91 (va_cpy (a_7 67) (a_7 91) 0 0 6)) G) := hD
      refine k_gen (P := fun z => va_P D vwCl (xW K r f_6 z G) H ∧ va_D A (xW K r f_6 z G)) (va_up a_7 91 (va_cpy (a_7 67) (a_7 91) 0 0 6)) ⟨hP, hD⟩ (fun a_8 ea_8 hPD => ?_)
      have hP := hPD.1
      have hD := hPD.2
      refine lv_iload hx hb dX1_drawNights_171 (lv_at hl 1 rfl) ?_
      exact kI_ret (v := nI N) hx hb hr hlocks rfl hK hS dX1_drawNights_173 (f_6, a_8, G) hP hD rfl
    | succ n ih =>
      intro i F B G H locs ls y4 hin  z0 z1 z2 z3 z4 z5 z6 z7 z8 hP hD hS hl
      have hlt : i < N := by omega
      refine lv_iload hx hb dX1_drawNights_17 (lv_at hl 0 rfl) ?_
      refine lv_iload_n hx hb dX1_drawNights_19 rfl (lv_at hl 6 rfl) ?_
      refine lv_icmp_ge (tgt := 125) hx hb dX1_drawNights_20 (by decide) (fun c9 => absurd c9 (nI_ge hlt (by omega))) (fun c9 => ?_)
      refine lv_aload_n hx hb dX1_drawNights_23 rfl (lv_at hl 4 rfl) ?_
      refine va_get (D := D) (ci := 1) (v := .ref (r 58)) (C := RX1) (T := TX1) (N := 5) hx hb hg inC1 hown hK hP 89 rfl rfl 0 (by decide) (hg _ wt2_169) (fun _ h9 => h9) rfl dX1_drawNights_24 ?_
      refine kV.callW (As := []) (rest := []) ⟨hx, hb, hml, hown, hg⟩ (x_begin l r F B G z0 z1 z2 z3 z4 z5 z6 z7 z8 ) (cwV 0 hg (kgV wt5_123 wt4_237 wt4_238 wt1_10 wt4_239) rfl rfl rfl (by decide +kernel) ⟨by decide, by decide⟩) hK hP hD hS hA 58 3 rfl rfl rfl hl.1 rfl (Nat.le_of_ble_eq_true rfl) dX1_drawNights_27 ⟨by decide, by decide⟩ (fun u11 H locs hw10 hP hD hS => ?_)
      obtain ⟨f13, a14, g15⟩ := u11
      have hP : va_P D vwCl (xW K r f13 a14 g15) H := hP
      have hD : va_D A (xW K r f13 a14 g15) := hD
      refine lv_iconst (v := 0) hx hb dX1_drawNights_30 (by decide) ?_
      refine lv_istore (lv' := [(7, .int 0), (6, .int (nI i)), (5, .int (nI i)), (4, .int y4), (3, .ref (r 59)), (0, .ref (r 89)), (1, .int x), (2, .int (nI N))]) hx hb dX1_drawNights_31 hl (by decide) rfl (fun ls hl => ?_)
      have lp16 : ∀ (n2 i2 : Nat) (F2 : Nat → Int32) (B2 : Nat → Nat → Int32) (G2 : xG) (H : Heap) (locs : List Loc) (ls : Array Slot) (y24 : Int32), i2 + n2 = 30 →  F2 32 = 0 → F2 38 = 0 → F2 44 = 0 → B2 11 0 = 0 → B2 11 1 = 30 → B2 11 2 = 2 → F2 1858 = (-1) → F2 50 = (-1) → (∀ i, G2.2 15 i = none) → F2 1888 = 0 → F2 1894 = 0 → B2 69 1 = 30 → B2 69 2 = 2 → va_P D vwCl (xW K r F2 B2 G2) H → va_D A (xW K r F2 B2 G2) → va_S A s.heap H locs → lv_has ls 8 [(7, .int (nI i2)), (6, .int (nI i)), (5, .int (nI i)), (4, .int y24), (3, .ref (r 59)), (0, .ref (r 89)), (1, .int x), (2, .int (nI N))] → W p l e (rmD 4 0 0) s m ([.ref (r 89), .int x, .int (nI N)] : List Value).toArray below meth c H locs 0 0 (kQi D (tysK K) (fun v (u : xS) => v = (nI N)) (fun u => xW K r u.1 u.2.1 u.2.2) A below ([.ref (r 89), .int x, .int (nI N)] : List Value).toArray s 0 0) (F0 m 33 ls []) := by
        intro n2
        induction n2 with
        | zero =>
          intro i2 F2 B2 G2 H locs ls y24 hin2  z20 z21 z22 z23 z24 z25 z26 z27 z28 z29 z210 z211 z212 hP hD hS hl
          obtain rfl : 30 = i2 := by omega
          have hl : lv_has ls 8 [(7, .int 30), (6, .int (nI i)), (5, .int (nI i)), (4, .int y24), (3, .ref (r 59)), (0, .ref (r 89)), (1, .int x), (2, .int (nI N))] := hl
          refine lv_iload hx hb dX1_drawNights_33 (lv_at hl 0 rfl) ?_
          refine lv_aload_n hx hb dX1_drawNights_35 rfl (lv_at hl 4 rfl) ?_
          refine va_get (D := D) (ci := 7) (v := .ref (r 69)) (C := RX7) (T := TX7) (N := 20) hx hb hg inC7 hown hK hP 59 rfl rfl 11 (by decide) (hg _ wt1_128) (fun _ h9 => h9) rfl dX1_drawNights_36 ?_
          refine lv_iconst (v := 1) hx hb dX1_drawNights_39 (by decide) ?_
          refine va_iald hx hb hK hP 69 0 rfl rfl (k_in (by decide +kernel)) dX1_drawNights_40 ?_
          refine k_top (z := 30) (by rw [cl_1]; exact z211) ?_
          refine lv_icmp_ge (tgt := 106) hx hb dX1_drawNights_41 (by decide) (fun c17 => ?_) (fun c17 => absurd (by decide +kernel) c17)
          refine lv_aload_n hx hb dX1_drawNights_106 rfl (lv_at hl 5 rfl) ?_
          refine va_get (D := D) (ci := 1) (v := .ref (r 58)) (C := RX1) (T := TX1) (N := 5) hx hb hg inC1 hown hK hP 89 rfl rfl 0 (by decide) (hg _ wt2_169) (fun _ h9 => h9) rfl dX1_drawNights_107 ?_
          refine kI.callW (As := []) (rest := []) ⟨hx, hb, hml, hown, hg⟩ (x_allStand l r F2 B2 G2 z29 ) (cwV 0 hg (kgV wt5_127 wt5_71 wt5_72 wt1_10 wt5_73) rfl rfl rfl (by decide +kernel) ⟨by decide, by decide⟩) hK hP hD hS hA 58 3 rfl rfl rfl hl.1 rfl (Nat.le_of_ble_eq_true rfl) dX1_drawNights_110 ⟨by decide, by decide⟩ (fun v20 u19 H locs hw18 hP hD hS => ?_)
          have hP : va_P D vwCl (xW K r F2 B2 G2) H := hP
          have hD : va_D A (xW K r F2 B2 G2) := hD
          refine k_top (z := 1) (hw18) ?_
          refine lv_if_eq (tgt := 119) hx hb dX1_drawNights_113 (by decide) (fun c21 => absurd c21 (by decide +kernel)) (fun c21 => ?_)
          refine lv_iinc (v := nI (i + 1)) (lv' := [(5, .int (nI (i + 1))), (7, .int 30), (6, .int (nI i)), (4, .int y24), (3, .ref (r 59)), (0, .ref (r 89)), (1, .int x), (2, .int (nI N))]) hx hb dX1_drawNights_116 hl (k := 2) rfl (nI_1 _) (by decide) rfl (fun ls hl => ?_)
          refine lv_iinc (v := nI (i + 1)) (lv' := [(6, .int (nI (i + 1))), (5, .int (nI (i + 1))), (7, .int 30), (4, .int y24), (3, .ref (r 59)), (0, .ref (r 89)), (1, .int x), (2, .int (nI N))]) hx hb dX1_drawNights_119 hl (k := 2) rfl (nI_1 _) (by decide) rfl (fun ls hl => ?_)
          refine lv_goto (tgt := 17) hx hb dX1_drawNights_122 (by decide) ?_
          exact ih (i + 1) F2 B2 G2 _ _ _ y24 (by omega)  z20 z21 z22 z23 z24 z25 z26 z27 z28 hP hD hS (lv_sub hl [0, 1, 3, 4, 5, 6, 7] rfl)
        | succ n2 ih2 =>
          intro i2 F2 B2 G2 H locs ls y24 hin2  z20 z21 z22 z23 z24 z25 z26 z27 z28 z29 z210 z211 z212 hP hD hS hl
          have hlt2 : i2 < 30 := by omega
          refine lv_iload hx hb dX1_drawNights_33 (lv_at hl 0 rfl) ?_
          refine lv_aload_n hx hb dX1_drawNights_35 rfl (lv_at hl 4 rfl) ?_
          refine va_get (D := D) (ci := 7) (v := .ref (r 69)) (C := RX7) (T := TX7) (N := 20) hx hb hg inC7 hown hK hP 59 rfl rfl 11 (by decide) (hg _ wt1_128) (fun _ h9 => h9) rfl dX1_drawNights_36 ?_
          refine lv_iconst (v := 1) hx hb dX1_drawNights_39 (by decide) ?_
          refine va_iald hx hb hK hP 69 0 rfl rfl (k_in (by decide +kernel)) dX1_drawNights_40 ?_
          refine k_top (z := 30) (by rw [cl_1]; exact z211) ?_
          refine lv_icmp_ge (tgt := 106) hx hb dX1_drawNights_41 (by decide) (fun c22 => absurd c22 (nI_ge (b := 30) hlt2 (by decide))) (fun c22 => ?_)
          refine lv_aload_n hx hb dX1_drawNights_44 rfl (lv_at hl 5 rfl) ?_
          refine va_get (D := D) (ci := 1) (v := .ref (r 58)) (C := RX1) (T := TX1) (N := 5) hx hb hg inC1 hown hK hP 89 rfl rfl 0 (by decide) (hg _ wt2_169) (fun _ h9 => h9) rfl dX1_drawNights_45 ?_
          refine lv_bipush (v := 63) hx hb dX1_drawNights_48 (by decide) ?_
          refine kV.callW (As := [.int 63]) (rest := []) ⟨hx, hb, hml, hown, hg⟩ (x_sendFree l r F2 B2 G2 z210 ) (cwV 1 hg (kgV wt5_124 wt5_12 wt5_13 wt1_10 wt5_14) rfl rfl rfl (by decide +kernel) ⟨by decide, by decide⟩) hK hP hD hS hA 58 3 rfl rfl rfl hl.1 rfl (Nat.le_of_ble_eq_true rfl) dX1_drawNights_50 ⟨by decide, by decide⟩ (fun u24 H locs hw23 hP hD hS => ?_)
          have hP : va_P D vwCl (xW K r F2 B2 G2) H := hP
          have hD : va_D A (xW K r F2 B2 G2) := hD
          refine lv_iload hx hb dX1_drawNights_53 (lv_at hl 3 rfl) ?_
          refine lv_sipush (v := 1103) hx hb dX1_drawNights_55 (by decide) ?_
          refine lv_imul hx hb dX1_drawNights_58 ?_
          refine lv_topi (fun t26 et26 => ?_)
          refine lv_sipush (v := 12345) hx hb dX1_drawNights_59 (by decide) ?_
          refine lv_iadd hx hb dX1_drawNights_62 ?_
          refine lv_topi (fun t27 et27 => ?_)
          refine lv_ldc (v := (1000003)) hx hb hown (hg _ wt5_125) dX1_drawNights_63 ?_
          refine lv_irem hx hb dX1_drawNights_65 (by decide +kernel) ?_
          refine lv_topi (fun t28 et28 => ?_)
          refine lv_istore (lv' := [(4, .int t28), (7, .int (nI i2)), (6, .int (nI i)), (5, .int (nI i)), (3, .ref (r 59)), (0, .ref (r 89)), (1, .int x), (2, .int (nI N))]) hx hb dX1_drawNights_66 hl (by decide) rfl (fun ls hl => ?_)
          refine lv_iload hx hb dX1_drawNights_68 (lv_at hl 0 rfl) ?_
          refine lv_bipush (v := 10) hx hb dX1_drawNights_70 (by decide) ?_
          refine lv_irem hx hb dX1_drawNights_72 (by decide +kernel) ?_
          refine lv_topi (fun t29 et29 => ?_)
          refine lv_aload_n hx hb dX1_drawNights_73 rfl (lv_at hl 4 rfl) ?_
          refine va_get (D := D) (ci := 7) (v := .ref (r 69)) (C := RX7) (T := TX7) (N := 20) hx hb hg inC7 hown hK hP 59 rfl rfl 11 (by decide) (hg _ wt1_128) (fun _ h9 => h9) rfl dX1_drawNights_74 ?_
          refine lv_iconst (v := 2) hx hb dX1_drawNights_77 (by decide) ?_
          refine va_iald hx hb hK hP 69 0 rfl rfl (k_in (by decide +kernel)) dX1_drawNights_78 ?_
          refine k_top (z := 2) (by rw [cl_2]; exact z212) ?_
          refine lv_icmp_ge (tgt := 95) hx hb dX1_drawNights_79 (by decide) (fun c30 => ?_) (fun c30 => ?_)
          · refine lv_aload_n hx hb dX1_drawNights_95 rfl (lv_at hl 4 rfl) ?_
            refine kI.callW (As := []) (rest := []) ⟨hx, hb, hml, hown, hg⟩ (x_workOneTick_paper l r F2 B2 G2 z20 z21 z22 z23 z24 z25 z26 z27 z28 z29 z210 z211 z212 ) (cwV 0 hg (kgV wt5_126 wt4_143 wt4_144 wt1_2 wt4_145) rfl rfl rfl (by decide +kernel) ⟨by decide, by decide⟩) hK hP hD hS hA 59 7 rfl rfl rfl hl.1 rfl (Nat.le_of_ble_eq_true rfl) dX1_drawNights_96 ⟨by decide, by decide⟩ (fun v33 u32 H locs hw31 hP hD hS => ?_)
            obtain ⟨f34, a35, g36⟩ := u32
            have hP : va_P D vwCl (xW K r f34 a35 g36) H := hP
            have hD : va_D A (xW K r f34 a35 g36) := hD
            refine k_top (z := 0) (hw31.1) ?_
            refine lv_pop hx hb dX1_drawNights_99 rfl ?_
            refine lv_iinc (v := nI (i2 + 1)) (lv' := [(7, .int (nI (i2 + 1))), (4, .int t28), (6, .int (nI i)), (5, .int (nI i)), (3, .ref (r 59)), (0, .ref (r 89)), (1, .int x), (2, .int (nI N))]) hx hb dX1_drawNights_100 hl (k := 1) rfl (nI_1 _) (by decide) rfl (fun ls hl => ?_)
            refine lv_goto (tgt := 33) hx hb dX1_drawNights_103 (by decide) ?_
            exact ih2 (i2 + 1) f34 a35 g36 _ _ _ t28 (by omega)  hw31.2.1 hw31.2.2.1 hw31.2.2.2.1 hw31.2.2.2.2.1 hw31.2.2.2.2.2.1 hw31.2.2.2.2.2.2.1 hw31.2.2.2.2.2.2.2.1 hw31.2.2.2.2.2.2.2.2.1 hw31.2.2.2.2.2.2.2.2.2.1 hw31.2.2.2.2.2.2.2.2.2.2.1 hw31.2.2.2.2.2.2.2.2.2.2.2.1 hw31.2.2.2.2.2.2.2.2.2.2.2.2.1 hw31.2.2.2.2.2.2.2.2.2.2.2.2.2 hP hD hS (lv_sub hl [0, 2, 3, 1, 4, 5, 6, 7] rfl)
          · refine lv_aload_n hx hb dX1_drawNights_82 rfl (lv_at hl 4 rfl) ?_
            refine va_get (D := D) (ci := 7) (v := .ref (r 69)) (C := RX7) (T := TX7) (N := 20) hx hb hg inC7 hown hK hP 59 rfl rfl 11 (by decide) (hg _ wt1_128) (fun _ h9 => h9) rfl dX1_drawNights_83 ?_
            refine lv_iconst (v := 0) hx hb dX1_drawNights_86 (by decide) ?_
            refine lv_dup2_11 hx hb dX1_drawNights_87 rfl rfl ?_
            refine va_iald hx hb hK hP 69 0 rfl rfl (k_in (by decide +kernel)) dX1_drawNights_88 ?_
            refine lv_topi (fun t37 et37 => ?_)
            rw [cl_0] at et37
            refine lv_iconst (v := 1) hx hb dX1_drawNights_89 (by decide) ?_
            refine lv_iadd hx hb dX1_drawNights_90 ?_
            refine lv_topi (fun t38 et38 => ?_)
            refine va_iast hx hb hK hP hD hS 69 0 rfl rfl (k_in (by decide +kernel)) dX1_drawNights_91 (fun H locs hP hD hS => ?_)
            rw [cl_0] at hP hD
            have hP : va_P D vwCl (xW K r F2 (va_up B2 69 (upd (B2 69) 0 t38)) G2) H := hP
            have hD : va_D A (xW K r F2 (va_up B2 69 (upd (B2 69) 0 t38)) G2) := hD
            refine k_gen (P := fun z => va_P D vwCl (xW K r F2 z G2) H ∧ va_D A (xW K r F2 z G2)) (va_up B2 69 (upd (B2 69) 0 t38)) ⟨hP, hD⟩ (fun a_39 ea_39 hPD => ?_)
            have hP := hPD.1
            have hD := hPD.2
            refine lv_goto (tgt := 100) hx hb dX1_drawNights_92 (by decide) ?_
            refine lv_iinc (v := nI (i2 + 1)) (lv' := [(7, .int (nI (i2 + 1))), (4, .int t28), (6, .int (nI i)), (5, .int (nI i)), (3, .ref (r 59)), (0, .ref (r 89)), (1, .int x), (2, .int (nI N))]) hx hb dX1_drawNights_100 hl (k := 1) rfl (nI_1 _) (by decide) rfl (fun ls hl => ?_)
            refine lv_goto (tgt := 33) hx hb dX1_drawNights_103 (by decide) ?_
            exact ih2 (i2 + 1) F2 a_39 G2 _ _ _ t28 (by omega)  z20 z21 z22 ((show a_39 11 0 = B2 11 0 from by rw [← ea_39]; rfl).trans z23) ((show a_39 11 1 = B2 11 1 from by rw [← ea_39]; rfl).trans z24) ((show a_39 11 2 = B2 11 2 from by rw [← ea_39]; rfl).trans z25) z26 z27 z28 z29 z210 ((show a_39 69 1 = B2 69 1 from by rw [← ea_39]; rfl).trans z211) ((show a_39 69 2 = B2 69 2 from by rw [← ea_39]; rfl).trans z212) hP hD hS (lv_sub hl [0, 2, 3, 1, 4, 5, 6, 7] rfl)
      exact lp16 (30 - 0) 0 f13 a14 g15 _ _ _ y4 (by omega)  hw10.1 hw10.2.1 hw10.2.2.1 hw10.2.2.2.1 hw10.2.2.2.2.1 hw10.2.2.2.2.2.1 hw10.2.2.2.2.2.2.1 hw10.2.2.2.2.2.2.2.1 hw10.2.2.2.2.2.2.2.2.1 hw10.2.2.2.2.2.2.2.2.2.1 hw10.2.2.2.2.2.2.2.2.2.2.1 hw10.2.2.2.2.2.2.2.2.2.2.2.2.1 hw10.2.2.2.2.2.2.2.2.2.2.2.2.2.1 hP hD hS hl
  exact lp1 (N - 0) 0 f a g _ _ _ x (by omega)  h0 h1 h2 h3 h4 h5 h6 h7 h8 hP hD hS hl
set_option maxHeartbeats 4000000 in
set_option maxRecDepth 100000 in
theorem x_nights (l : Launch) {D : va_G} {K : Nat → ClassId} (r : Nat → Nat) (f : Nat → Int32) (a : Nat → Nat → Int32) (g : xG) (h0 : f 32 = 0) (h1 : f 38 = 0) (h2 : f 44 = 0) (h3 : a 11 0 = 0) (h4 : a 11 1 = 30) (h5 : a 11 2 = 2) (h6 : f 1858 = (-1)) (h7 : f 50 = (-1)) (h8 : (∀ i, g.2 15 i = none)) (x : Int32) (y : Int32)  : kI l yX11_nights (Cond.code yX11_nights cX11_nights 3 (some .int) :: kG) (rmD 5 0 0) D (tysK K) [.ref (r 0), .int x, .int y] (xW K r f a g) (fun v (u : xS) => v = (if x < 0 then (-1 : Int32) else if 1000000 < x then -1 else if y < 1 then -1 else if y ≤ 20 then y else -1)) (fun u => xW K r u.1 u.2.1 u.2.2) 0 0 := by
  refine kI.of (cc := cX11_nights) (maxL := 3) (ret := (some .int)) (by decide) rfl (Nat.le_of_ble_eq_true rfl) ?_
  intro p e s m below meth c A hx hb hr hml hown hts hlocks hnm hK hP hD hS hA ls hl
  have hg : ∀ w ∈ kG, w.before _ s = true := fun w h => hts w (List.mem_cons_of_mem _ h)
  have hown : s.vm.findClass RX11 = some m.cls := hown
  have hl : lv_has ls 3 [(0, .ref (r 0)), (1, .int x), (2, .int y)] := hl
  refine lv_iload_n hx hb dX11_nights_0 rfl (lv_at hl 1 rfl) ?_
  refine lv_if_lt (tgt := 22) hx hb dX11_nights_1 (by decide) (fun c1 => ?_) (fun c1 => ?_)
  · refine lv_aload_n hx hb dX11_nights_22 rfl (lv_at hl 0 rfl) ?_
    refine lv_iconst (v := (-1)) hx hb dX11_nights_23 (by decide) ?_
    refine kI.callW (As := [.int (-1)]) (rest := []) ⟨hx, hb, hml, hown, hg⟩ (x_refuse1 l r f a g  ) (cwV 1 hg (kgV wt3_7 wt3_9 wp1_0 wt1_1 wt3_10) rfl rfl rfl (by decide +kernel) ⟨by decide, by decide⟩) hK hP hD hS hA 0 11 rfl rfl rfl hl.1 rfl (Nat.le_of_ble_eq_true rfl) dX11_nights_24 ⟨by decide, by decide⟩ (fun v4 u3 H locs hw2 hP hD hS => ?_)
    obtain ⟨f5, a6, g7⟩ := u3
    have hP : va_P D vwCl (xW K r f5 a6 g7) H := hP
    have hD : va_D A (xW K r f5 a6 g7) := hD
    refine k_top (z := (-1)) (hw2) ?_
    exact kI_ret (v := (-1)) hx hb hr hlocks rfl hK hS dX11_nights_27 (f5, a6, g7) hP hD (by rw [if_pos c1])
  · refine lv_iload_n hx hb dX11_nights_4 rfl (lv_at hl 1 rfl) ?_
    refine lv_ldcw (v := (1000000)) hx hb hown (hg _ wt5_118) dX11_nights_5 ?_
    refine lv_icmp_gt (tgt := 22) hx hb dX11_nights_8 (by decide) (fun c8 => ?_) (fun c8 => ?_)
    · refine lv_aload_n hx hb dX11_nights_22 rfl (lv_at hl 0 rfl) ?_
      refine lv_iconst (v := (-1)) hx hb dX11_nights_23 (by decide) ?_
      refine kI.callW (As := [.int (-1)]) (rest := []) ⟨hx, hb, hml, hown, hg⟩ (x_refuse1 l r f a g  ) (cwV 1 hg (kgV wt3_7 wt3_9 wp1_0 wt1_1 wt3_10) rfl rfl rfl (by decide +kernel) ⟨by decide, by decide⟩) hK hP hD hS hA 0 11 rfl rfl rfl hl.1 rfl (Nat.le_of_ble_eq_true rfl) dX11_nights_24 ⟨by decide, by decide⟩ (fun v11 u10 H locs hw9 hP hD hS => ?_)
      obtain ⟨f12, a13, g14⟩ := u10
      have hP : va_P D vwCl (xW K r f12 a13 g14) H := hP
      have hD : va_D A (xW K r f12 a13 g14) := hD
      refine k_top (z := (-1)) (hw9) ?_
      exact kI_ret (v := (-1)) hx hb hr hlocks rfl hK hS dX11_nights_27 (f12, a13, g14) hP hD (by rw [if_neg c1, if_pos c8])
    · refine lv_iload_n hx hb dX11_nights_11 rfl (lv_at hl 2 rfl) ?_
      refine lv_iconst (v := 1) hx hb dX11_nights_12 (by decide) ?_
      refine lv_icmp_lt (tgt := 22) hx hb dX11_nights_13 (by decide) (fun c15 => ?_) (fun c15 => ?_)
      · refine lv_aload_n hx hb dX11_nights_22 rfl (lv_at hl 0 rfl) ?_
        refine lv_iconst (v := (-1)) hx hb dX11_nights_23 (by decide) ?_
        refine kI.callW (As := [.int (-1)]) (rest := []) ⟨hx, hb, hml, hown, hg⟩ (x_refuse1 l r f a g  ) (cwV 1 hg (kgV wt3_7 wt3_9 wp1_0 wt1_1 wt3_10) rfl rfl rfl (by decide +kernel) ⟨by decide, by decide⟩) hK hP hD hS hA 0 11 rfl rfl rfl hl.1 rfl (Nat.le_of_ble_eq_true rfl) dX11_nights_24 ⟨by decide, by decide⟩ (fun v18 u17 H locs hw16 hP hD hS => ?_)
        obtain ⟨f19, a20, g21⟩ := u17
        have hP : va_P D vwCl (xW K r f19 a20 g21) H := hP
        have hD : va_D A (xW K r f19 a20 g21) := hD
        refine k_top (z := (-1)) (hw16) ?_
        exact kI_ret (v := (-1)) hx hb hr hlocks rfl hK hS dX11_nights_27 (f19, a20, g21) hP hD (by rw [if_neg c1, if_neg c8, if_pos c15])
      · refine lv_iload_n hx hb dX11_nights_16 rfl (lv_at hl 2 rfl) ?_
        refine lv_bipush (v := 20) hx hb dX11_nights_17 (by decide) ?_
        refine lv_icmp_le (tgt := 28) hx hb dX11_nights_19 (by decide) (fun c22 => ?_) (fun c22 => ?_)
        · refine lv_aload_n hx hb dX11_nights_28 rfl (lv_at hl 0 rfl) ?_
          refine lv_aload_n hx hb dX11_nights_29 rfl (lv_at hl 0 rfl) ?_
          refine va_get (D := D) (ci := 11) (v := .ref (r 89)) (C := RX11) (T := TX11) (N := 17) hx hb hg inC11 hown hK hP 0 rfl rfl 8 (by decide) (hg _ wt2_194) (fun _ h9 => h9) rfl dX11_nights_30 ?_
          refine lv_iload_n hx hb dX11_nights_33 rfl (lv_at hl 1 rfl) ?_
          refine lv_iload_n hx hb dX11_nights_34 rfl (lv_at hl 2 rfl) ?_
          refine kI.callW (As := [.int x, .int y]) (rest := [.ref (r 0)]) ⟨hx, hb, hml, hown, hg⟩ (x_drawNights l r f a g h0 h1 h2 h3 h4 h5 h6 h7 h8 x y (xN c15 c22)) (cwV 2 hg (kgV wt5_119 wt5_120 wt5_121 wt1_13 wt5_122) rfl rfl rfl (by decide +kernel) ⟨by decide, by decide⟩) hK hP hD hS hA 89 1 rfl rfl rfl hl.1 rfl (Nat.le_of_ble_eq_true rfl) dX11_nights_35 ⟨by decide, by decide⟩ (fun v25 u24 H locs hw23 hP hD hS => ?_)
          obtain ⟨f26, a27, g28⟩ := u24
          have hP : va_P D vwCl (xW K r f26 a27 g28) H := hP
          have hD : va_D A (xW K r f26 a27 g28) := hD
          refine k_top (z := y) hw23 ?_
          refine kI.callW (As := [.int y]) (rest := []) ⟨hx, hb, hml, hown, hg⟩ (x_agree l r f26 a27 g28  y) (cwV 1 hg (kgV wt3_27 wt3_29 wp1_2 wt1_1 wt3_30) rfl rfl rfl (by decide +kernel) ⟨by decide, by decide⟩) hK hP hD hS hA 0 11 rfl rfl rfl hl.1 rfl (Nat.le_of_ble_eq_true rfl) dX11_nights_38 ⟨by decide, by decide⟩ (fun v31 u30 H locs hw29 hP hD hS => ?_)
          obtain ⟨f32, a33, g34⟩ := u30
          have hP : va_P D vwCl (xW K r f32 a33 g34) H := hP
          have hD : va_D A (xW K r f32 a33 g34) := hD
          refine k_top (z := y) hw29 ?_
          exact kI_ret (v := y) hx hb hr hlocks rfl hK hS dX11_nights_41 (f32, a33, g34) hP hD (by rw [if_neg c1, if_neg c8, if_neg c15, if_pos c22])
        · refine lv_aload_n hx hb dX11_nights_22 rfl (lv_at hl 0 rfl) ?_
          refine lv_iconst (v := (-1)) hx hb dX11_nights_23 (by decide) ?_
          refine kI.callW (As := [.int (-1)]) (rest := []) ⟨hx, hb, hml, hown, hg⟩ (x_refuse1 l r f a g  ) (cwV 1 hg (kgV wt3_7 wt3_9 wp1_0 wt1_1 wt3_10) rfl rfl rfl (by decide +kernel) ⟨by decide, by decide⟩) hK hP hD hS hA 0 11 rfl rfl rfl hl.1 rfl (Nat.le_of_ble_eq_true rfl) dX11_nights_24 ⟨by decide, by decide⟩ (fun v37 u36 H locs hw35 hP hD hS => ?_)
          obtain ⟨f38, a39, g40⟩ := u36
          have hP : va_P D vwCl (xW K r f38 a39 g40) H := hP
          have hD : va_D A (xW K r f38 a39 g40) := hD
          refine k_top (z := (-1)) (hw35) ?_
          exact kI_ret (v := (-1)) hx hb hr hlocks rfl hK hS dX11_nights_27 (f38, a39, g40) hP hD (by rw [if_neg c1, if_neg c8, if_neg c15, if_neg c22])
