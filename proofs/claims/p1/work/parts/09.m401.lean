set_option maxHeartbeats 4000000 in
set_option maxRecDepth 100000 in
theorem c_beginsS (l : Launch) {D : va_G} {K : Nat → ClassId} (o : Nat) (r : Nat → Nat) (f : Nat → Int32) (a : Nat → Nat → Int32) (g : Nat → Int64) (h0 : a 2 102 = 0) (h1 : a 2 103 = 0) (h2 : a 2 104 = 0) (h3 : a 2 99 = 30) (h4 : a 2 100 = 2)   : kV l yX12_begins (Cond.code yX12_begins cX12_begins 2 none :: kG) (rmD 2 0 0) D (tysK K) [.ref o] (mW K o r f a g) (fun (u : mS) => u.2.1 2 102 = 0 ∧ u.2.1 2 103 = 0 ∧ u.2.1 2 104 = 0 ∧ u.2.1 2 99 = 30 ∧ u.2.1 2 100 = 2 ∧ u.2.1 36 = a 36) (fun u => mW K o r u.1 u.2.1 u.2.2) 0 0 := by
  refine kV.of (cc := cX12_begins) (maxL := 2) (ret := none) (by decide) rfl (Nat.le_of_ble_eq_true rfl) ?_
  intro p e s m below meth c A hx hb hr hml hown hts hlocks hnm hK hP hD hS hA ls hl
  have hg : ∀ w ∈ kG, w.before _ s = true := fun w h => hts w (List.mem_cons_of_mem _ h)
  have hown : s.vm.findClass RX12 = some m.cls := hown
  have hl : lv_has ls 2 [(0, .ref o)] := hl
  refine lv_aload_n hx hb dX12_begins_0 rfl (lv_at hl 0 rfl) ?_
  refine lv_iconst (v := 0) hx hb dX12_begins_1 (by decide) ?_
  refine kV.callV (As := [.int 0]) (rest := []) ⟨hx, hb, hml, hown, hg⟩ (c_laysAside0s l o r f a g h0 h1 h2 h3 h4 ) (cwV 1 hg (kgV wt7_207 wt7_209 wp7_5 wt1_14 wt7_210) rfl rfl rfl (by decide +kernel) ⟨by decide, by decide⟩) hK hP hD hS hA mIs [] rfl (wr := []) rfl rfl rfl (fun i h => by cases h) 0 12 rfl rfl rfl hl.1 rfl (Nat.le_of_ble_eq_true rfl) dX12_begins_2 ⟨by decide, by decide⟩ (fun u2 H locs hw1 hP hD hS => ?_)
  obtain ⟨f4, a5, g6⟩ := u2
  have hP : va_P D vwCl (mW K o r f4 a5 g6) H := hP
  have hD : va_D A (mW K o r f4 a5 g6) := hD
  refine lv_iconst (v := 0) hx hb dX12_begins_5 (by decide) ?_
  refine lv_istore_n (lv' := [(1, .int 0), (0, .ref o)]) hx hb dX12_begins_6 rfl hl (by decide) rfl (fun ls hl => ?_)
  have lp7 : ∀ (n i : Nat) (F : Nat → Int32) (B : Nat → Nat → Int32) (G : Nat → Int64) (H : Heap) (locs : List Loc) (ls : Array Slot), i + n = 6 →  B 2 102 = 0 → B 2 103 = 0 → B 2 104 = 0 → B 2 99 = 30 → B 2 100 = 2 → B 36 = a 36 → va_P D vwCl (mW K o r F B G) H → va_D A (mW K o r F B G) → va_S A s.heap H locs → lv_has ls 2 [(1, .int (nI i)), (0, .ref o)] → W p l e (rmD 2 0 0) s m ([.ref o] : List Value).toArray below meth c H locs 0 0 (kQv D (tysK K) (fun (u : mS) => u.2.1 2 102 = 0 ∧ u.2.1 2 103 = 0 ∧ u.2.1 2 104 = 0 ∧ u.2.1 2 99 = 30 ∧ u.2.1 2 100 = 2 ∧ u.2.1 36 = a 36) (fun u => mW K o r u.1 u.2.1 u.2.2) A below ([.ref o] : List Value).toArray s 0 0) (F0 m 7 ls []) := by
    intro n
    induction n with
    | zero =>
      intro i F B G H locs ls  hin  z0 z1 z2 z3 z4 z5 hP hD hS hl
      obtain rfl : 6 = i := by omega
      have hl : lv_has ls 2 [(1, .int 6), (0, .ref o)] := hl
      refine lv_iload_n hx hb dX12_begins_7 rfl (lv_at hl 0 rfl) ?_
      refine lv_bipush (v := 6) hx hb dX12_begins_8 (by decide) ?_
      refine lv_icmp_ge (tgt := 29) hx hb dX12_begins_10 (by decide) (fun c8 => ?_) (fun c8 => absurd (by decide +kernel) c8)
      exact kV_ret hx hb hr hlocks hK hS dX12_begins_29 (F, B, G) hP hD ⟨z0, z1, z2, z3, z4, z5⟩
    | succ n ih =>
      intro i F B G H locs ls  hin  z0 z1 z2 z3 z4 z5 hP hD hS hl
      have hlt : i < 6 := by omega
      refine lv_iload_n hx hb dX12_begins_7 rfl (lv_at hl 0 rfl) ?_
      refine lv_bipush (v := 6) hx hb dX12_begins_8 (by decide) ?_
      refine lv_icmp_ge (tgt := 29) hx hb dX12_begins_10 (by decide) (fun c9 => absurd c9 (nI_ge (b := 6) hlt (by decide))) (fun c9 => ?_)
      refine lv_aload_n hx hb dX12_begins_13 rfl (lv_at hl 1 rfl) ?_
      refine va_get (D := D) (ci := 12) (v := .ref (r 2)) (C := RX12) (T := TX12) (N := 48) hx hb hg inC12 hown hK hP 0 rfl rfl 2 (by decide) (hg _ wt5_162) (fun _ h9 => h9) rfl dX12_begins_14 ?_
      refine lv_bipush (v := 16) hx hb dX12_begins_17 (by decide) ?_
      refine lv_iload_n hx hb dX12_begins_19 rfl (lv_at hl 0 rfl) ?_
      refine lv_iadd hx hb dX12_begins_20 ?_
      refine k_top (z := nI (16 + i)) (nI_add 16 i) ?_
      refine lv_iconst (v := (-1)) hx hb dX12_begins_21 (by decide) ?_
      refine va_iast hx hb hK hP hD hS 2 0 rfl rfl (vp_in_nI (by omega) (by decide)) dX12_begins_22 (fun H locs hP hD hS => ?_)
      rw [nI_clamp (n := (16 + i)) (by omega)] at hP hD
      have hP : va_P D vwCl (mW K o r F (va_up B 2 (upd (B 2) (16 + i) (-1))) G) H := hP
      have hD : va_D A (mW K o r F (va_up B 2 (upd (B 2) (16 + i) (-1))) G) := hD
      refine k_gen (P := fun z => va_P D vwCl (mW K o r F z G) H ∧ va_D A (mW K o r F z G)) (va_up B 2 (upd (B 2) (16 + i) (-1))) ⟨hP, hD⟩ (fun a_10 ea_10 hPD => ?_)
      have hP := hPD.1
      have hD := hPD.2
      refine lv_iinc (v := nI (i + 1)) (lv' := [(1, .int (nI (i + 1))), (0, .ref o)]) hx hb dX12_begins_23 hl (k := 0) rfl (nI_1 _) (by decide) rfl (fun ls hl => ?_)
      refine lv_goto (tgt := 7) hx hb dX12_begins_26 (by decide) ?_
      exact ih (i + 1) F a_10 G _ _ _  (by omega)  ((show a_10 2 102 = B 2 102 from by rw [← ea_10]; exact pk_un (by omega)).trans z0) ((show a_10 2 103 = B 2 103 from by rw [← ea_10]; exact pk_un (by omega)).trans z1) ((show a_10 2 104 = B 2 104 from by rw [← ea_10]; exact pk_un (by omega)).trans z2) ((show a_10 2 99 = B 2 99 from by rw [← ea_10]; exact pk_un (by omega)).trans z3) ((show a_10 2 100 = B 2 100 from by rw [← ea_10]; exact pk_un (by omega)).trans z4) ((show a_10 36 = B 36 from by rw [← ea_10]; rfl).trans z5) hP hD hS (lv_sub hl [0, 1] rfl)
  exact lp7 (6 - 0) 0 f4 a5 g6 _ _ _  (by omega)  hw1.1 hw1.2.1 hw1.2.2.1 hw1.2.2.2.1 hw1.2.2.2.2.1 hw1.2.2.2.2.2 hP hD hS hl
set_option maxHeartbeats 4000000 in
set_option maxRecDepth 100000 in
theorem c_canBeWhoseS (l : Launch) {D : va_G} {K : Nat → ClassId} (o : Nat) (r : Nat → Nat) (f : Nat → Int32) (a : Nat → Nat → Int32) (g : Nat → Int64) (h0 : a 2 102 = 0) (h1 : a 2 103 = 0) (h2 : a 2 104 = 0) (h3 : a 2 99 = 30) (h4 : a 2 100 = 2)   : kI l yX12_canBeWhose (Cond.code yX12_canBeWhose cX12_canBeWhose 5 (some .boolean) :: kG) (rmD 3 0 0) D (tysK K) [.ref o, .int 0] (mW K o r f a g) (fun v (u : mS) => v = 1 ∧ u.2.1 2 102 = 0 ∧ u.2.1 2 103 = 0 ∧ u.2.1 2 104 = 0 ∧ u.2.1 2 99 = 30 ∧ u.2.1 2 100 = 2 ∧ u.2.1 36 = a 36) (fun u => mW K o r u.1 u.2.1 u.2.2) 0 0 := by
  refine kI.of (cc := cX12_canBeWhose) (maxL := 5) (ret := (some .boolean)) (by decide) rfl (Nat.le_of_ble_eq_true rfl) ?_
  intro p e s m below meth c A hx hb hr hml hown hts hlocks hnm hK hP hD hS hA ls hl
  have hg : ∀ w ∈ kG, w.before _ s = true := fun w h => hts w (List.mem_cons_of_mem _ h)
  have hown : s.vm.findClass RX12 = some m.cls := hown
  have hl : lv_has ls 5 [(0, .ref o), (1, .int 0)] := hl
  refine lv_aload_n hx hb dX12_canBeWhose_0 rfl (lv_at hl 0 rfl) ?_
  refine kV.callV (As := []) (rest := []) ⟨hx, hb, hml, hown, hg⟩ (c_beginsS l o r f a g h0 h1 h2 h3 h4 ) (cwV 0 hg (kgV wt7_203 wt7_205 wp7_4 wt1_14 wt7_206) rfl rfl rfl (by decide +kernel) ⟨by decide, by decide⟩) hK hP hD hS hA mIs [] rfl (wr := []) rfl rfl rfl (fun i h => by cases h) 0 12 rfl rfl rfl hl.1 rfl (Nat.le_of_ble_eq_true rfl) dX12_canBeWhose_1 ⟨by decide, by decide⟩ (fun u2 H locs hw1 hP hD hS => ?_)
  obtain ⟨f4, a5, g6⟩ := u2
  have hP : va_P D vwCl (mW K o r f4 a5 g6) H := hP
  have hD : va_D A (mW K o r f4 a5 g6) := hD
  refine lv_aload_n hx hb dX12_canBeWhose_4 rfl (lv_at hl 0 rfl) ?_
  refine kI.callV (As := []) (rest := []) ⟨hx, hb, hml, hown, hg⟩ (c_lastSight l o r f4 a5 g6 hw1.2.2.1 ) (cwV 0 hg (kgV wt8_23 wt8_25 wp7_12 wt1_14 wt8_26) rfl rfl rfl (by decide +kernel) ⟨by decide, by decide⟩) hK hP hD hS hA mIs [] rfl (wr := []) rfl rfl rfl (fun i h => by cases h) 0 12 rfl rfl rfl hl.1 rfl (Nat.le_of_ble_eq_true rfl) dX12_canBeWhose_5 ⟨by decide, by decide⟩ (fun v9 u8 H locs hw7 hP hD hS => ?_)
  have hP : va_P D vwCl (mW K o r f4 a5 g6) H := hP
  have hD : va_D A (mW K o r f4 a5 g6) := hD
  refine k_top (z := 0) (hw7) ?_
  refine lv_istore_n (lv' := [(2, .int 0), (0, .ref o), (1, .int 0)]) hx hb dX12_canBeWhose_8 rfl hl (by decide) rfl (fun ls hl => ?_)
  refine lv_aload_n hx hb dX12_canBeWhose_9 rfl (lv_at hl 1 rfl) ?_
  refine lv_iconst (v := 0) hx hb dX12_canBeWhose_10 (by decide) ?_
  refine kI.callV (As := [.int 0]) (rest := []) ⟨hx, hb, hml, hown, hg⟩ (c_areSo l o r f4 a5 g6 hw1.2.2.1 0) (cwV 1 hg (kgV wt8_27 wt8_29 wp7_13 wt1_14 wt8_30) rfl rfl rfl (by decide +kernel) ⟨by decide, by decide⟩) hK hP hD hS hA mIs [] rfl (wr := []) rfl rfl rfl (fun i h => by cases h) 0 12 rfl rfl rfl hl.1 rfl (Nat.le_of_ble_eq_true rfl) dX12_canBeWhose_11 ⟨by decide, by decide⟩ (fun v12 u11 H locs hw10 hP hD hS => ?_)
  have hP : va_P D vwCl (mW K o r f4 a5 g6) H := hP
  have hD : va_D A (mW K o r f4 a5 g6) := hD
  refine k_top (z := 1) (hw10) ?_
  refine lv_istore_n (lv' := [(3, .int 1), (2, .int 0), (0, .ref o), (1, .int 0)]) hx hb dX12_canBeWhose_14 rfl hl (by decide) rfl (fun ls hl => ?_)
  refine lv_iconst (v := 1) hx hb dX12_canBeWhose_15 (by decide) ?_
  refine lv_istore (lv' := [(4, .int 1), (3, .int 1), (2, .int 0), (0, .ref o), (1, .int 0)]) hx hb dX12_canBeWhose_16 hl (by decide) rfl (fun ls hl => ?_)
  refine lv_iload hx hb dX12_canBeWhose_18 (lv_at hl 0 rfl) ?_
  refine lv_iload_n hx hb dX12_canBeWhose_20 rfl (lv_at hl 2 rfl) ?_
  refine lv_icmp_gt (tgt := 46) hx hb dX12_canBeWhose_21 (by decide) (fun c13 => ?_) (fun c13 => absurd (by decide +kernel) c13)
  refine lv_aload_n hx hb dX12_canBeWhose_46 rfl (lv_at hl 3 rfl) ?_
  refine lv_iconst (v := 0) hx hb dX12_canBeWhose_47 (by decide) ?_
  refine kV.callV (As := [.int 0]) (rest := []) ⟨hx, hb, hml, hown, hg⟩ (c_takesBack0s l o r f4 a5 g6 hw1.1 hw1.2.1 hw1.2.2.1 hw1.2.2.2.1 hw1.2.2.2.2.1 ) (cwV 1 hg (kgV wt7_223 wt7_225 wp7_9 wt1_14 wt7_226) rfl rfl rfl (by decide +kernel) ⟨by decide, by decide⟩) hK hP hD hS hA mIs [] rfl (wr := []) rfl rfl rfl (fun i h => by cases h) 0 12 rfl rfl rfl hl.1 rfl (Nat.le_of_ble_eq_true rfl) dX12_canBeWhose_48 ⟨by decide, by decide⟩ (fun u15 H locs hw14 hP hD hS => ?_)
  obtain ⟨f17, a18, g19⟩ := u15
  have hP : va_P D vwCl (mW K o r f17 a18 g19) H := hP
  have hD : va_D A (mW K o r f17 a18 g19) := hD
  refine lv_iload_n hx hb dX12_canBeWhose_51 rfl (lv_at hl 1 rfl) ?_
  exact kI_ret (v := 1) hx hb hr hlocks (by decide +kernel) hK hS dX12_canBeWhose_52 (f17, a18, g19) hP hD ⟨rfl, hw14.1, hw14.2.1, hw14.2.2.1, hw14.2.2.2.1, hw14.2.2.2.2.1, (hw14.2.2.2.2.2.trans hw1.2.2.2.2.2)⟩
set_option maxHeartbeats 4000000 in
set_option maxRecDepth 100000 in
theorem c_shows (l : Launch) {D : va_G} {K : Nat → ClassId} (o : Nat) (r : Nat → Nat) (f : Nat → Int32) (a : Nat → Nat → Int32) (g : Nat → Int64) (h0 : a 2 102 = 0) (h1 : a 2 103 = 0) (h2 : a 2 104 = 0) (h3 : a 2 99 = 30) (h4 : a 2 100 = 2)   (hz : ∀ j, j < 451 → a 36 j = 0) : kV l yX12_shows (Cond.code yX12_shows cX12_shows 3 none :: kG) (rmD 4 0 0) D (tysK K) [.ref o, .int 0] (mW K o r f a g) (fun (u : mS) => u.2.1 2 102 = 0 ∧ u.2.1 2 103 = 0 ∧ u.2.1 2 104 = 0 ∧ u.2.1 2 99 = 30 ∧ u.2.1 2 100 = 2 ∧ ∀ j, j < 451 → u.2.1 36 j = mSh 41 j) (fun u => mW K o r u.1 u.2.1 u.2.2) 0 0 := by
  refine kV.of (cc := cX12_shows) (maxL := 3) (ret := none) (by decide) rfl (Nat.le_of_ble_eq_true rfl) ?_
  intro p e s m below meth c A hx hb hr hml hown hts hlocks hnm hK hP hD hS hA ls hl
  have hg : ∀ w ∈ kG, w.before _ s = true := fun w h => hts w (List.mem_cons_of_mem _ h)
  have hown : s.vm.findClass RX12 = some m.cls := hown
  have hl : lv_has ls 3 [(0, .ref o), (1, .int 0)] := hl
  refine lv_aload_n hx hb dX12_shows_0 rfl (lv_at hl 0 rfl) ?_
  refine kV.callV (As := []) (rest := []) ⟨hx, hb, hml, hown, hg⟩ (c_beginsS l o r f a g h0 h1 h2 h3 h4 ) (cwV 0 hg (kgV wt7_203 wt7_205 wp7_4 wt1_14 wt7_206) rfl rfl rfl (by decide +kernel) ⟨by decide, by decide⟩) hK hP hD hS hA mIs [] rfl (wr := []) rfl rfl rfl (fun i h => by cases h) 0 12 rfl rfl rfl hl.1 rfl (Nat.le_of_ble_eq_true rfl) dX12_shows_1 ⟨by decide, by decide⟩ (fun u2 H locs hw1 hP hD hS => ?_)
  obtain ⟨f4, a5, g6⟩ := u2
  have hP : va_P D vwCl (mW K o r f4 a5 g6) H := hP
  have hD : va_D A (mW K o r f4 a5 g6) := hD
  refine lv_iconst (v := 0) hx hb dX12_shows_4 (by decide) ?_
  refine lv_istore_n (lv' := [(2, .int 0), (0, .ref o), (1, .int 0)]) hx hb dX12_shows_5 rfl hl (by decide) rfl (fun ls hl => ?_)
  have lp7 : ∀ (n i : Nat) (F : Nat → Int32) (B : Nat → Nat → Int32) (G : Nat → Int64) (H : Heap) (locs : List Loc) (ls : Array Slot), i + n = 41 →  B 2 102 = 0 → B 2 103 = 0 → B 2 104 = 0 → B 2 99 = 30 → B 2 100 = 2 → (∀ j, j < 451 → B 36 j = mSh i j) → va_P D vwCl (mW K o r F B G) H → va_D A (mW K o r F B G) → va_S A s.heap H locs → lv_has ls 3 [(2, .int (nI i)), (0, .ref o), (1, .int 0)] → W p l e (rmD 4 0 0) s m ([.ref o, .int 0] : List Value).toArray below meth c H locs 0 0 (kQv D (tysK K) (fun (u : mS) => u.2.1 2 102 = 0 ∧ u.2.1 2 103 = 0 ∧ u.2.1 2 104 = 0 ∧ u.2.1 2 99 = 30 ∧ u.2.1 2 100 = 2 ∧ ∀ j, j < 451 → u.2.1 36 j = mSh 41 j) (fun u => mW K o r u.1 u.2.1 u.2.2) A below ([.ref o, .int 0] : List Value).toArray s 0 0) (F0 m 6 ls []) := by
    intro n
    induction n with
    | zero =>
      intro i F B G H locs ls  hin  z0 z1 z2 z3 z4 zi hP hD hS hl
      obtain rfl : 41 = i := by omega
      have hl : lv_has ls 3 [(2, .int 41), (0, .ref o), (1, .int 0)] := hl
      refine lv_iload_n hx hb dX12_shows_6 rfl (lv_at hl 0 rfl) ?_
      refine lv_bipush (v := 40) hx hb dX12_shows_7 (by decide) ?_
      refine lv_icmp_gt (tgt := 44) hx hb dX12_shows_9 (by decide) (fun c8 => ?_) (fun c8 => absurd (by decide +kernel) c8)
      refine lv_aload_n hx hb dX12_shows_44 rfl (lv_at hl 1 rfl) ?_
      refine lv_iconst (v := 0) hx hb dX12_shows_45 (by decide) ?_
      refine kV.callV (As := [.int 0]) (rest := []) ⟨hx, hb, hml, hown, hg⟩ (c_takesBack0s l o r F B G z0 z1 z2 z3 z4 ) (cwV 1 hg (kgV wt7_223 wt7_225 wp7_9 wt1_14 wt7_226) rfl rfl rfl (by decide +kernel) ⟨by decide, by decide⟩) hK hP hD hS hA mIs [] rfl (wr := []) rfl rfl rfl (fun i h => by cases h) 0 12 rfl rfl rfl hl.1 rfl (Nat.le_of_ble_eq_true rfl) dX12_shows_46 ⟨by decide, by decide⟩ (fun u10 H locs hw9 hP hD hS => ?_)
      obtain ⟨f12, a13, g14⟩ := u10
      have hP : va_P D vwCl (mW K o r f12 a13 g14) H := hP
      have hD : va_D A (mW K o r f12 a13 g14) := hD
      exact kV_ret hx hb hr hlocks hK hS dX12_shows_49 (f12, a13, g14) hP hD ⟨hw9.1, hw9.2.1, hw9.2.2.1, hw9.2.2.2.1, hw9.2.2.2.2.1, (fun j hj => (congrFun hw9.2.2.2.2.2 j).trans (zi j hj))⟩
    | succ n ih =>
      intro i F B G H locs ls  hin  z0 z1 z2 z3 z4 zi hP hD hS hl
      have hlt : i < 41 := by omega
      refine lv_iload_n hx hb dX12_shows_6 rfl (lv_at hl 0 rfl) ?_
      refine lv_bipush (v := 40) hx hb dX12_shows_7 (by decide) ?_
      refine lv_icmp_gt (tgt := 44) hx hb dX12_shows_9 (by decide) (fun c15 => absurd c15 (nI_nlt (a := 40) (b := i) (by omega) (by decide))) (fun c15 => ?_)
      refine lv_aload_n hx hb dX12_shows_12 rfl (lv_at hl 1 rfl) ?_
      refine va_get (D := D) (ci := 12) (v := .ref (r 36)) (C := RX12) (T := TX12) (N := 48) hx hb hg inC12 hown hK hP 0 rfl rfl 36 (by decide) (hg _ wt5_196) (fun _ h9 => h9) rfl dX12_shows_13 ?_
      refine lv_bipush (v := 11) hx hb dX12_shows_16 (by decide) ?_
      refine lv_iload_n hx hb dX12_shows_18 rfl (lv_at hl 0 rfl) ?_
      refine lv_imul hx hb dX12_shows_19 ?_
      refine k_top (z := nI (11 * i)) (pk_mul 11 i) ?_
      refine lv_aload_n hx hb dX12_shows_20 rfl (lv_at hl 1 rfl) ?_
      refine kI.callV (As := []) (rest := [.int (nI (11 * i)), .ref (r 36)]) ⟨hx, hb, hml, hown, hg⟩ (c_standing l o r F B G z0 ) (cwV 0 hg (kgV wt6_116 wt6_118 wp3_13 wt1_14 wt6_119) rfl rfl rfl (by decide +kernel) ⟨by decide, by decide⟩) hK hP hD hS hA mIs [] rfl (wr := []) rfl rfl rfl (fun i h => by cases h) 0 12 rfl rfl rfl hl.1 rfl (Nat.le_of_ble_eq_true rfl) dX12_shows_21 ⟨by decide, by decide⟩ (fun v18 u17 H locs hw16 hP hD hS => ?_)
      have hP : va_P D vwCl (mW K o r F B G) H := hP
      have hD : va_D A (mW K o r F B G) := hD
      refine k_top (z := 0) (hw16) ?_
      refine kN.callS (As := [.int 0]) (rest := [.int (nI (11 * i)), .ref (r 36)]) ⟨hx, hb, hml, hown, hg⟩ (c_ones0 l ) (va_cwS 1 hg (kgS wt7_71 wt7_72 wt1_14 wt7_73) rfl rfl rfl (by decide +kernel) ⟨by decide, by decide⟩) hP hS rfl hl.1 rfl (Nat.le_of_ble_eq_true rfl) dX12_shows_24 ⟨by decide, by decide⟩ (fun v20 H locs hw19 hP hS => ?_)
      refine k_top (z := 0) (hw19) ?_
      refine lv_iadd hx hb dX12_shows_27 ?_
      refine k_top (z := nI ((11 * i) + 0)) (nI_add (11 * i) 0) ?_
      refine lv_dup2_11 hx hb dX12_shows_28 rfl rfl ?_
      refine va_iald hx hb hK hP 19 0 rfl rfl (vp_in_nI (by omega) (by decide)) dX12_shows_29 ?_
      refine lv_topi (fun t21 et21 => ?_)
      rw [nI_clamp (n := ((11 * i) + 0)) (by omega)] at et21
      have et21 : t21 = 0 := et21.trans ((zi _ (by omega)).trans ks_at)
      subst et21
      refine lv_iconst (v := 1) hx hb dX12_shows_30 (by decide) ?_
      refine lv_iadd hx hb dX12_shows_31 ?_
      refine k_top (z := 1) (by decide +kernel) ?_
      refine va_iast hx hb hK hP hD hS 19 0 rfl rfl (vp_in_nI (by omega) (by decide)) dX12_shows_32 (fun H locs hP hD hS => ?_)
      rw [nI_clamp (n := ((11 * i) + 0)) (by omega)] at hP hD
      have hP : va_P D vwCl (mW K o r F (va_up B 36 (upd (B 36) ((11 * i) + 0) 1)) G) H := hP
      have hD : va_D A (mW K o r F (va_up B 36 (upd (B 36) ((11 * i) + 0) 1)) G) := hD
      refine k_gen (P := fun z => va_P D vwCl (mW K o r F z G) H ∧ va_D A (mW K o r F z G)) (va_up B 36 (upd (B 36) ((11 * i) + 0) 1)) ⟨hP, hD⟩ (fun a_22 ea_22 hPD => ?_)
      have hP := hPD.1
      have hD := hPD.2
      refine lv_aload_n hx hb dX12_shows_33 rfl (lv_at hl 1 rfl) ?_
      refine lv_iload_n hx hb dX12_shows_34 rfl (lv_at hl 2 rfl) ?_
      refine kV.callV (As := [.int 0]) (rest := []) ⟨hx, hb, hml, hown, hg⟩ (c_goesOn l o r F a_22 G ((show a_22 2 102 = B 2 102 from by rw [← ea_22]; rfl).trans z0) ) (cwV 1 hg (kgV wt8_31 wt8_33 wp7_14 wt1_14 wt8_34) rfl rfl rfl (by decide +kernel) ⟨by decide, by decide⟩) hK hP hD hS hA mIs [] rfl (wr := []) rfl rfl rfl (fun i h => by cases h) 0 12 rfl rfl rfl hl.1 rfl (Nat.le_of_ble_eq_true rfl) dX12_shows_35 ⟨by decide, by decide⟩ (fun u24 H locs hw23 hP hD hS => ?_)
      have hP : va_P D vwCl (mW K o r F a_22 G) H := hP
      have hD : va_D A (mW K o r F a_22 G) := hD
      refine lv_iinc (v := nI (i + 1)) (lv' := [(2, .int (nI (i + 1))), (0, .ref o), (1, .int 0)]) hx hb dX12_shows_38 hl (k := 0) rfl (nI_1 _) (by decide) rfl (fun ls hl => ?_)
      refine lv_goto (tgt := 6) hx hb dX12_shows_41 (by decide) ?_
      exact ih (i + 1) F a_22 G _ _ _  (by omega)  ((show a_22 2 102 = B 2 102 from by rw [← ea_22]; rfl).trans z0) ((show a_22 2 103 = B 2 103 from by rw [← ea_22]; rfl).trans z1) ((show a_22 2 104 = B 2 104 from by rw [← ea_22]; rfl).trans z2) ((show a_22 2 99 = B 2 99 from by rw [← ea_22]; rfl).trans z3) ((show a_22 2 100 = B 2 100 from by rw [← ea_22]; rfl).trans z4) (by rw [← ea_22]; exact ks_step zi rfl) hP hD hS (lv_sub hl [0, 1, 2] rfl)
  exact lp7 (41 - 0) 0 f4 a5 g6 _ _ _  (by omega)  hw1.1 hw1.2.1 hw1.2.2.1 hw1.2.2.2.1 hw1.2.2.2.2.1 (fun j hj => (congrFun hw1.2.2.2.2.2 j).trans ((hz j hj).trans (mSh_0 j).symm)) hP hD hS hl
set_option maxHeartbeats 4000000 in
set_option maxRecDepth 100000 in
theorem c_look (l : Launch) {D : va_G} {K : Nat → ClassId} (o : Nat) (r : Nat → Nat) (f : Nat → Int32) (a : Nat → Nat → Int32) (g : Nat → Int64) (h0 : a 2 102 = 0) (h1 : a 2 103 = 0) (h2 : a 2 104 = 0) (h3 : a 2 99 = 30) (h4 : a 2 100 = 2) (x : Int32)  : kI l yX12_look (Cond.code yX12_look cX12_look 8 (some .int) :: kG) (rmD 5 0 0) D (tysK K) [.ref o, .int x] (mW K o r f a g) (fun v (u : mS) => v = (if mLies x 0 1 = 0 then (-1 : Int32) else if x = 0 then 0 else 1)) (fun u => mW K o r u.1 u.2.1 u.2.2) 0 0 := by
  refine kI.of (cc := cX12_look) (maxL := 8) (ret := (some .int)) (by decide) rfl (Nat.le_of_ble_eq_true rfl) ?_
  intro p e s m below meth c A hx hb hr hml hown hts hlocks hnm hK hP hD hS hA ls hl
  have hg : ∀ w ∈ kG, w.before _ s = true := fun w h => hts w (List.mem_cons_of_mem _ h)
  have hown : s.vm.findClass RX12 = some m.cls := hown
  have hl : lv_has ls 8 [(0, .ref o), (1, .int x)] := hl
  refine lv_iload_n hx hb dX12_look_0 rfl (lv_at hl 1 rfl) ?_
  refine lv_iconst (v := 0) hx hb dX12_look_1 (by decide) ?_
  refine lv_iconst (v := 1) hx hb dX12_look_2 (by decide) ?_
  refine kN.callS (As := [.int x, .int 0, .int 1]) (rest := []) ⟨hx, hb, hml, hown, hg⟩ (c_lies l x 0 1) (va_cwS 3 hg (kgS wt6_69 wt6_70 wt1_14 wt6_71) rfl rfl rfl (by decide +kernel) ⟨by decide, by decide⟩) hP hS rfl hl.1 rfl (Nat.le_of_ble_eq_true rfl) dX12_look_3 ⟨by decide, by decide⟩ (fun v2 H locs hw1 hP hS => ?_)
  refine k_top (z := mLies x 0 1) hw1 ?_
  refine lv_if_ne (tgt := 11) hx hb dX12_look_6 (by decide) (fun c3 => ?_) (fun c3 => ?_)
  · refine lv_iconst (v := 0) hx hb dX12_look_11 (by decide) ?_
    refine lv_istore_n (lv' := [(2, .int 0), (0, .ref o), (1, .int x)]) hx hb dX12_look_12 rfl hl (by decide) rfl (fun ls hl => ?_)
    refine lv_iconst (v := 0) hx hb dX12_look_13 (by decide) ?_
    refine lv_istore_n (lv' := [(3, .int 0), (2, .int 0), (0, .ref o), (1, .int x)]) hx hb dX12_look_14 rfl hl (by decide) rfl (fun ls hl => ?_)
    have lp4 : ∀ (n i : Nat) (F : Nat → Int32) (B : Nat → Nat → Int32) (G : Nat → Int64) (H : Heap) (locs : List Loc) (ls : Array Slot), i + n = 451 →  B 2 102 = 0 → B 2 103 = 0 → B 2 104 = 0 → B 2 99 = 30 → B 2 100 = 2 → (∀ j, j < i → B 36 j = 0) → va_P D vwCl (mW K o r F B G) H → va_D A (mW K o r F B G) → va_S A s.heap H locs → lv_has ls 8 [(3, .int (nI i)), (2, .int 0), (0, .ref o), (1, .int x)] → W p l e (rmD 5 0 0) s m ([.ref o, .int x] : List Value).toArray below meth c H locs 0 0 (kQi D (tysK K) (fun v (u : mS) => v = (if mLies x 0 1 = 0 then (-1 : Int32) else if x = 0 then 0 else 1)) (fun u => mW K o r u.1 u.2.1 u.2.2) A below ([.ref o, .int x] : List Value).toArray s 0 0) (F0 m 15 ls []) := by
      intro n
      induction n with
      | zero =>
        intro i F B G H locs ls  hin  z0 z1 z2 z3 z4 zi hP hD hS hl
        obtain rfl : 451 = i := by omega
        have hl : lv_has ls 8 [(3, .int 451), (2, .int 0), (0, .ref o), (1, .int x)] := hl
        refine lv_iload_n hx hb dX12_look_15 rfl (lv_at hl 0 rfl) ?_
        refine lv_sipush (v := 451) hx hb dX12_look_16 (by decide) ?_
        refine lv_icmp_ge (tgt := 35) hx hb dX12_look_19 (by decide) (fun c5 => ?_) (fun c5 => absurd (by decide +kernel) c5)
        refine lv_iconst (v := 0) hx hb dX12_look_35 (by decide) ?_
        refine lv_istore_n (lv' := [(3, .int 0), (2, .int 0), (0, .ref o), (1, .int x)]) hx hb dX12_look_36 rfl hl (by decide) rfl (fun ls hl => ?_)
        refine lv_iload_n hx hb dX12_look_37 rfl (lv_at hl 0 rfl) ?_
        refine lv_aload_n hx hb dX12_look_38 rfl (lv_at hl 2 rfl) ?_
        refine kI.callV (As := []) (rest := [.int 0]) ⟨hx, hb, hml, hown, hg⟩ (c_allBuilders l o r F B G z1 ) (cwV 0 hg (kgV wt7_164 wt7_166 wp6_14 wt1_14 wt7_167) rfl rfl rfl (by decide +kernel) ⟨by decide, by decide⟩) hK hP hD hS hA mIs [] rfl (wr := []) rfl rfl rfl (fun i h => by cases h) 0 12 rfl rfl rfl hl.1 rfl (Nat.le_of_ble_eq_true rfl) dX12_look_39 ⟨by decide, by decide⟩ (fun v8 u7 H locs hw6 hP hD hS => ?_)
        have hP : va_P D vwCl (mW K o r F B G) H := hP
        have hD : va_D A (mW K o r F B G) := hD
        refine k_top (z := 0) (hw6) ?_
        refine lv_icmp_gt (tgt := 70) hx hb dX12_look_42 (by decide) (fun c9 => absurd c9 (by decide +kernel)) (fun c9 => ?_)
        refine lv_aload_n hx hb dX12_look_45 rfl (lv_at hl 2 rfl) ?_
        refine lv_iload_n hx hb dX12_look_46 rfl (lv_at hl 0 rfl) ?_
        refine kI.callV (As := [.int 0]) (rest := []) ⟨hx, hb, hml, hown, hg⟩ (c_canBeWhoseS l o r F B G z0 z1 z2 z3 z4 ) (cwV 1 hg (kgV wt8_19 wt8_21 wp7_11 wt1_14 wt8_22) rfl rfl rfl (by decide +kernel) ⟨by decide, by decide⟩) hK hP hD hS hA mIs [] rfl (wr := []) rfl rfl rfl (fun i h => by cases h) 0 12 rfl rfl rfl hl.1 rfl (Nat.le_of_ble_eq_true rfl) dX12_look_47 ⟨by decide, by decide⟩ (fun v12 u11 H locs hw10 hP hD hS => ?_)
        obtain ⟨f13, a14, g15⟩ := u11
        have hP : va_P D vwCl (mW K o r f13 a14 g15) H := hP
        have hD : va_D A (mW K o r f13 a14 g15) := hD
        refine k_top (z := 1) (hw10.1) ?_
        refine lv_if_ne (tgt := 56) hx hb dX12_look_50 (by decide) (fun c16 => ?_) (fun c16 => absurd c16 (by decide +kernel))
        refine lv_iinc (v := 1) (lv' := [(2, .int 1), (3, .int 0), (0, .ref o), (1, .int x)]) hx hb dX12_look_56 hl (k := 1) rfl (by decide +kernel) (by decide) rfl (fun ls hl => ?_)
        refine lv_aload_n hx hb dX12_look_59 rfl (lv_at hl 2 rfl) ?_
        refine lv_iload_n hx hb dX12_look_60 rfl (lv_at hl 1 rfl) ?_
        refine kV.callV (As := [.int 0]) (rest := []) ⟨hx, hb, hml, hown, hg⟩ (c_shows l o r f13 a14 g15 hw10.2.1 hw10.2.2.1 hw10.2.2.2.1 hw10.2.2.2.2.1 hw10.2.2.2.2.2.1 (fun j hj => (congrFun hw10.2.2.2.2.2.2 j).trans (zi j hj))) (cwV 1 hg (kgV wt8_39 wt8_41 wp7_15 wt1_14 wt8_42) rfl rfl rfl (by decide +kernel) ⟨by decide, by decide⟩) hK hP hD hS hA mIs [] rfl (wr := []) rfl rfl rfl (fun i h => by cases h) 0 12 rfl rfl rfl hl.1 rfl (Nat.le_of_ble_eq_true rfl) dX12_look_61 ⟨by decide, by decide⟩ (fun u18 H locs hw17 hP hD hS => ?_)
        obtain ⟨f20, a21, g22⟩ := u18
        have hP : va_P D vwCl (mW K o r f20 a21 g22) H := hP
        have hD : va_D A (mW K o r f20 a21 g22) := hD
        refine lv_iinc (v := 1) (lv' := [(3, .int 1), (2, .int 1), (0, .ref o), (1, .int x)]) hx hb dX12_look_64 hl (k := 1) rfl (by decide +kernel) (by decide) rfl (fun ls hl => ?_)
        refine lv_goto (tgt := 37) hx hb dX12_look_67 (by decide) ?_
        refine lv_iload_n hx hb dX12_look_37 rfl (lv_at hl 0 rfl) ?_
        refine lv_aload_n hx hb dX12_look_38 rfl (lv_at hl 2 rfl) ?_
        refine kI.callV (As := []) (rest := [.int 1]) ⟨hx, hb, hml, hown, hg⟩ (c_allBuilders l o r f20 a21 g22 hw17.2.1 ) (cwV 0 hg (kgV wt7_164 wt7_166 wp6_14 wt1_14 wt7_167) rfl rfl rfl (by decide +kernel) ⟨by decide, by decide⟩) hK hP hD hS hA mIs [] rfl (wr := []) rfl rfl rfl (fun i h => by cases h) 0 12 rfl rfl rfl hl.1 rfl (Nat.le_of_ble_eq_true rfl) dX12_look_39 ⟨by decide, by decide⟩ (fun v25 u24 H locs hw23 hP hD hS => ?_)
        have hP : va_P D vwCl (mW K o r f20 a21 g22) H := hP
        have hD : va_D A (mW K o r f20 a21 g22) := hD
        refine k_top (z := 0) (hw23) ?_
        refine lv_icmp_gt (tgt := 70) hx hb dX12_look_42 (by decide) (fun c26 => ?_) (fun c26 => absurd (by decide +kernel) c26)
        refine lv_iconst (v := (-1)) hx hb dX12_look_70 (by decide) ?_
        refine lv_istore_n (lv' := [(3, .int (-1)), (2, .int 1), (0, .ref o), (1, .int x)]) hx hb dX12_look_71 rfl hl (by decide) rfl (fun ls hl => ?_)
        refine lv_ldc (v := (1000000)) hx hb hown (hg _ wt6_191) dX12_look_72 ?_
        refine lv_istore (lv' := [(4, .int 1000000), (3, .int (-1)), (2, .int 1), (0, .ref o), (1, .int x)]) hx hb dX12_look_74 hl (by decide) rfl (fun ls hl => ?_)
        refine lv_iconst (v := 0) hx hb dX12_look_76 (by decide) ?_
        refine lv_istore (lv' := [(5, .int 0), (4, .int 1000000), (3, .int (-1)), (2, .int 1), (0, .ref o), (1, .int x)]) hx hb dX12_look_77 hl (by decide) rfl (fun ls hl => ?_)
        refine lv_iload hx hb dX12_look_79 (lv_at hl 0 rfl) ?_
        refine lv_bipush (v := 40) hx hb dX12_look_81 (by decide) ?_
        refine lv_icmp_gt (tgt := 152) hx hb dX12_look_83 (by decide) (fun c27 => absurd c27 (by decide +kernel)) (fun c27 => ?_)
        refine lv_iload_n hx hb dX12_look_86 rfl (lv_at hl 3 rfl) ?_
        refine lv_if_le (tgt := 152) hx hb dX12_look_87 (by decide) (fun c28 => absurd c28 (by decide +kernel)) (fun c28 => ?_)
        refine lv_iconst (v := 0) hx hb dX12_look_90 (by decide) ?_
        refine lv_istore (lv' := [(6, .int 0), (5, .int 0), (4, .int 1000000), (3, .int (-1)), (2, .int 1), (0, .ref o), (1, .int x)]) hx hb dX12_look_91 hl (by decide) rfl (fun ls hl => ?_)
        refine lv_iconst (v := 0) hx hb dX12_look_93 (by decide) ?_
        refine lv_istore (lv' := [(7, .int 0), (6, .int 0), (5, .int 0), (4, .int 1000000), (3, .int (-1)), (2, .int 1), (0, .ref o), (1, .int x)]) hx hb dX12_look_94 hl (by decide) rfl (fun ls hl => ?_)
        refine lv_iload hx hb dX12_look_96 (lv_at hl 0 rfl) ?_
        refine lv_bipush (v := 10) hx hb dX12_look_98 (by decide) ?_
        refine lv_icmp_gt (tgt := 129) hx hb dX12_look_100 (by decide) (fun c29 => absurd c29 (by decide +kernel)) (fun c29 => ?_)
        refine lv_iload hx hb dX12_look_103 (lv_at hl 1 rfl) ?_
        refine lv_aload_n hx hb dX12_look_105 rfl (lv_at hl 6 rfl) ?_
        refine va_get (D := D) (ci := 12) (v := .ref (r 36)) (C := RX12) (T := TX12) (N := 48) hx hb hg inC12 hown hK hP 0 rfl rfl 36 (by decide) (hg _ wt5_196) (fun _ h9 => h9) rfl dX12_look_106 ?_
        refine lv_bipush (v := 11) hx hb dX12_look_109 (by decide) ?_
        refine lv_iload hx hb dX12_look_111 (lv_at hl 2 rfl) ?_
        refine lv_imul hx hb dX12_look_113 ?_
        refine k_top (z := 0) (by decide +kernel) ?_
        refine lv_iload hx hb dX12_look_114 (lv_at hl 0 rfl) ?_
        refine lv_iadd hx hb dX12_look_116 ?_
        refine k_top (z := 0) (by decide +kernel) ?_
        refine va_iald hx hb hK hP 19 0 rfl rfl (k_in (by decide +kernel)) dX12_look_117 ?_
        refine lv_topi (fun t30 et30 => ?_)
        rw [cl_0] at et30
        have et30 : t30 = 1 := et30.trans ((hw17.2.2.2.2.2 0 (by decide)).trans (by decide +kernel))
        subst et30
        refine kN.callS (As := [.int 0, .int 1]) (rest := []) ⟨hx, hb, hml, hown, hg⟩ (c_greater l 0 1) (va_cwS 2 hg (kgS wt6_127 wt6_128 wt1_14 wt6_129) rfl rfl rfl (by decide +kernel) ⟨by decide, by decide⟩) hP hS rfl hl.1 rfl (Nat.le_of_ble_eq_true rfl) dX12_look_118 ⟨by decide, by decide⟩ (fun v32 H locs hw31 hP hS => ?_)
        refine k_top (z := 1) (hw31.trans (by decide +kernel)) ?_
        refine lv_istore (lv' := [(6, .int 1), (7, .int 0), (5, .int 0), (4, .int 1000000), (3, .int (-1)), (2, .int 1), (0, .ref o), (1, .int x)]) hx hb dX12_look_121 hl (by decide) rfl (fun ls hl => ?_)
        refine lv_iinc (v := 1) (lv' := [(7, .int 1), (6, .int 1), (5, .int 0), (4, .int 1000000), (3, .int (-1)), (2, .int 1), (0, .ref o), (1, .int x)]) hx hb dX12_look_123 hl (k := 1) rfl (by decide +kernel) (by decide) rfl (fun ls hl => ?_)
        refine lv_goto (tgt := 96) hx hb dX12_look_126 (by decide) ?_
        refine lv_iload hx hb dX12_look_96 (lv_at hl 0 rfl) ?_
        refine lv_bipush (v := 10) hx hb dX12_look_98 (by decide) ?_
        refine lv_icmp_gt (tgt := 129) hx hb dX12_look_100 (by decide) (fun c33 => absurd c33 (by decide +kernel)) (fun c33 => ?_)
        refine lv_iload hx hb dX12_look_103 (lv_at hl 1 rfl) ?_
        refine lv_aload_n hx hb dX12_look_105 rfl (lv_at hl 6 rfl) ?_
        refine va_get (D := D) (ci := 12) (v := .ref (r 36)) (C := RX12) (T := TX12) (N := 48) hx hb hg inC12 hown hK hP 0 rfl rfl 36 (by decide) (hg _ wt5_196) (fun _ h9 => h9) rfl dX12_look_106 ?_
        refine lv_bipush (v := 11) hx hb dX12_look_109 (by decide) ?_
        refine lv_iload hx hb dX12_look_111 (lv_at hl 2 rfl) ?_
        refine lv_imul hx hb dX12_look_113 ?_
        refine k_top (z := 0) (by decide +kernel) ?_
        refine lv_iload hx hb dX12_look_114 (lv_at hl 0 rfl) ?_
        refine lv_iadd hx hb dX12_look_116 ?_
        refine k_top (z := 1) (by decide +kernel) ?_
        refine va_iald hx hb hK hP 19 0 rfl rfl (k_in (by decide +kernel)) dX12_look_117 ?_
        refine lv_topi (fun t34 et34 => ?_)
        rw [cl_1] at et34
        have et34 : t34 = 0 := et34.trans ((hw17.2.2.2.2.2 1 (by decide)).trans (by decide +kernel))
        subst et34
        refine kN.callS (As := [.int 1, .int 0]) (rest := []) ⟨hx, hb, hml, hown, hg⟩ (c_greater l 1 0) (va_cwS 2 hg (kgS wt6_127 wt6_128 wt1_14 wt6_129) rfl rfl rfl (by decide +kernel) ⟨by decide, by decide⟩) hP hS rfl hl.1 rfl (Nat.le_of_ble_eq_true rfl) dX12_look_118 ⟨by decide, by decide⟩ (fun v36 H locs hw35 hP hS => ?_)
        refine k_top (z := 1) (hw35.trans (by decide +kernel)) ?_
        refine lv_istore (lv' := [(6, .int 1), (7, .int 1), (5, .int 0), (4, .int 1000000), (3, .int (-1)), (2, .int 1), (0, .ref o), (1, .int x)]) hx hb dX12_look_121 hl (by decide) rfl (fun ls hl => ?_)
        refine lv_iinc (v := 2) (lv' := [(7, .int 2), (6, .int 1), (5, .int 0), (4, .int 1000000), (3, .int (-1)), (2, .int 1), (0, .ref o), (1, .int x)]) hx hb dX12_look_123 hl (k := 1) rfl (by decide +kernel) (by decide) rfl (fun ls hl => ?_)
        refine lv_goto (tgt := 96) hx hb dX12_look_126 (by decide) ?_
        refine lv_iload hx hb dX12_look_96 (lv_at hl 0 rfl) ?_
        refine lv_bipush (v := 10) hx hb dX12_look_98 (by decide) ?_
        refine lv_icmp_gt (tgt := 129) hx hb dX12_look_100 (by decide) (fun c37 => absurd c37 (by decide +kernel)) (fun c37 => ?_)
        refine lv_iload hx hb dX12_look_103 (lv_at hl 1 rfl) ?_
        refine lv_aload_n hx hb dX12_look_105 rfl (lv_at hl 6 rfl) ?_
        refine va_get (D := D) (ci := 12) (v := .ref (r 36)) (C := RX12) (T := TX12) (N := 48) hx hb hg inC12 hown hK hP 0 rfl rfl 36 (by decide) (hg _ wt5_196) (fun _ h9 => h9) rfl dX12_look_106 ?_
        refine lv_bipush (v := 11) hx hb dX12_look_109 (by decide) ?_
        refine lv_iload hx hb dX12_look_111 (lv_at hl 2 rfl) ?_
        refine lv_imul hx hb dX12_look_113 ?_
        refine k_top (z := 0) (by decide +kernel) ?_
        refine lv_iload hx hb dX12_look_114 (lv_at hl 0 rfl) ?_
        refine lv_iadd hx hb dX12_look_116 ?_
        refine k_top (z := 2) (by decide +kernel) ?_
        refine va_iald hx hb hK hP 19 0 rfl rfl (k_in (by decide +kernel)) dX12_look_117 ?_
        refine lv_topi (fun t38 et38 => ?_)
        rw [cl_2] at et38
        have et38 : t38 = 0 := et38.trans ((hw17.2.2.2.2.2 2 (by decide)).trans (by decide +kernel))
        subst et38
        refine kN.callS (As := [.int 1, .int 0]) (rest := []) ⟨hx, hb, hml, hown, hg⟩ (c_greater l 1 0) (va_cwS 2 hg (kgS wt6_127 wt6_128 wt1_14 wt6_129) rfl rfl rfl (by decide +kernel) ⟨by decide, by decide⟩) hP hS rfl hl.1 rfl (Nat.le_of_ble_eq_true rfl) dX12_look_118 ⟨by decide, by decide⟩ (fun v40 H locs hw39 hP hS => ?_)
        refine k_top (z := 1) (hw39.trans (by decide +kernel)) ?_
        refine lv_istore (lv' := [(6, .int 1), (7, .int 2), (5, .int 0), (4, .int 1000000), (3, .int (-1)), (2, .int 1), (0, .ref o), (1, .int x)]) hx hb dX12_look_121 hl (by decide) rfl (fun ls hl => ?_)
        refine lv_iinc (v := 3) (lv' := [(7, .int 3), (6, .int 1), (5, .int 0), (4, .int 1000000), (3, .int (-1)), (2, .int 1), (0, .ref o), (1, .int x)]) hx hb dX12_look_123 hl (k := 1) rfl (by decide +kernel) (by decide) rfl (fun ls hl => ?_)
        refine lv_goto (tgt := 96) hx hb dX12_look_126 (by decide) ?_
        refine lv_iload hx hb dX12_look_96 (lv_at hl 0 rfl) ?_
        refine lv_bipush (v := 10) hx hb dX12_look_98 (by decide) ?_
        refine lv_icmp_gt (tgt := 129) hx hb dX12_look_100 (by decide) (fun c41 => absurd c41 (by decide +kernel)) (fun c41 => ?_)
        refine lv_iload hx hb dX12_look_103 (lv_at hl 1 rfl) ?_
        refine lv_aload_n hx hb dX12_look_105 rfl (lv_at hl 6 rfl) ?_
        refine va_get (D := D) (ci := 12) (v := .ref (r 36)) (C := RX12) (T := TX12) (N := 48) hx hb hg inC12 hown hK hP 0 rfl rfl 36 (by decide) (hg _ wt5_196) (fun _ h9 => h9) rfl dX12_look_106 ?_
        refine lv_bipush (v := 11) hx hb dX12_look_109 (by decide) ?_
        refine lv_iload hx hb dX12_look_111 (lv_at hl 2 rfl) ?_
        refine lv_imul hx hb dX12_look_113 ?_
        refine k_top (z := 0) (by decide +kernel) ?_
        refine lv_iload hx hb dX12_look_114 (lv_at hl 0 rfl) ?_
        refine lv_iadd hx hb dX12_look_116 ?_
        refine k_top (z := 3) (by decide +kernel) ?_
        refine va_iald hx hb hK hP 19 0 rfl rfl (k_in (by decide +kernel)) dX12_look_117 ?_
        refine lv_topi (fun t42 et42 => ?_)
        rw [cl_3] at et42
        have et42 : t42 = 0 := et42.trans ((hw17.2.2.2.2.2 3 (by decide)).trans (by decide +kernel))
        subst et42
        refine kN.callS (As := [.int 1, .int 0]) (rest := []) ⟨hx, hb, hml, hown, hg⟩ (c_greater l 1 0) (va_cwS 2 hg (kgS wt6_127 wt6_128 wt1_14 wt6_129) rfl rfl rfl (by decide +kernel) ⟨by decide, by decide⟩) hP hS rfl hl.1 rfl (Nat.le_of_ble_eq_true rfl) dX12_look_118 ⟨by decide, by decide⟩ (fun v44 H locs hw43 hP hS => ?_)
        refine k_top (z := 1) (hw43.trans (by decide +kernel)) ?_
        refine lv_istore (lv' := [(6, .int 1), (7, .int 3), (5, .int 0), (4, .int 1000000), (3, .int (-1)), (2, .int 1), (0, .ref o), (1, .int x)]) hx hb dX12_look_121 hl (by decide) rfl (fun ls hl => ?_)
        refine lv_iinc (v := 4) (lv' := [(7, .int 4), (6, .int 1), (5, .int 0), (4, .int 1000000), (3, .int (-1)), (2, .int 1), (0, .ref o), (1, .int x)]) hx hb dX12_look_123 hl (k := 1) rfl (by decide +kernel) (by decide) rfl (fun ls hl => ?_)
        refine lv_goto (tgt := 96) hx hb dX12_look_126 (by decide) ?_
        refine lv_iload hx hb dX12_look_96 (lv_at hl 0 rfl) ?_
        refine lv_bipush (v := 10) hx hb dX12_look_98 (by decide) ?_
        refine lv_icmp_gt (tgt := 129) hx hb dX12_look_100 (by decide) (fun c45 => absurd c45 (by decide +kernel)) (fun c45 => ?_)
        refine lv_iload hx hb dX12_look_103 (lv_at hl 1 rfl) ?_
        refine lv_aload_n hx hb dX12_look_105 rfl (lv_at hl 6 rfl) ?_
        refine va_get (D := D) (ci := 12) (v := .ref (r 36)) (C := RX12) (T := TX12) (N := 48) hx hb hg inC12 hown hK hP 0 rfl rfl 36 (by decide) (hg _ wt5_196) (fun _ h9 => h9) rfl dX12_look_106 ?_
        refine lv_bipush (v := 11) hx hb dX12_look_109 (by decide) ?_
        refine lv_iload hx hb dX12_look_111 (lv_at hl 2 rfl) ?_
        refine lv_imul hx hb dX12_look_113 ?_
        refine k_top (z := 0) (by decide +kernel) ?_
        refine lv_iload hx hb dX12_look_114 (lv_at hl 0 rfl) ?_
        refine lv_iadd hx hb dX12_look_116 ?_
        refine k_top (z := 4) (by decide +kernel) ?_
        refine va_iald hx hb hK hP 19 0 rfl rfl (k_in (by decide +kernel)) dX12_look_117 ?_
        refine lv_topi (fun t46 et46 => ?_)
        rw [cl_4] at et46
        have et46 : t46 = 0 := et46.trans ((hw17.2.2.2.2.2 4 (by decide)).trans (by decide +kernel))
        subst et46
        refine kN.callS (As := [.int 1, .int 0]) (rest := []) ⟨hx, hb, hml, hown, hg⟩ (c_greater l 1 0) (va_cwS 2 hg (kgS wt6_127 wt6_128 wt1_14 wt6_129) rfl rfl rfl (by decide +kernel) ⟨by decide, by decide⟩) hP hS rfl hl.1 rfl (Nat.le_of_ble_eq_true rfl) dX12_look_118 ⟨by decide, by decide⟩ (fun v48 H locs hw47 hP hS => ?_)
        refine k_top (z := 1) (hw47.trans (by decide +kernel)) ?_
        refine lv_istore (lv' := [(6, .int 1), (7, .int 4), (5, .int 0), (4, .int 1000000), (3, .int (-1)), (2, .int 1), (0, .ref o), (1, .int x)]) hx hb dX12_look_121 hl (by decide) rfl (fun ls hl => ?_)
        refine lv_iinc (v := 5) (lv' := [(7, .int 5), (6, .int 1), (5, .int 0), (4, .int 1000000), (3, .int (-1)), (2, .int 1), (0, .ref o), (1, .int x)]) hx hb dX12_look_123 hl (k := 1) rfl (by decide +kernel) (by decide) rfl (fun ls hl => ?_)
        refine lv_goto (tgt := 96) hx hb dX12_look_126 (by decide) ?_
        refine lv_iload hx hb dX12_look_96 (lv_at hl 0 rfl) ?_
        refine lv_bipush (v := 10) hx hb dX12_look_98 (by decide) ?_
        refine lv_icmp_gt (tgt := 129) hx hb dX12_look_100 (by decide) (fun c49 => absurd c49 (by decide +kernel)) (fun c49 => ?_)
        refine lv_iload hx hb dX12_look_103 (lv_at hl 1 rfl) ?_
        refine lv_aload_n hx hb dX12_look_105 rfl (lv_at hl 6 rfl) ?_
        refine va_get (D := D) (ci := 12) (v := .ref (r 36)) (C := RX12) (T := TX12) (N := 48) hx hb hg inC12 hown hK hP 0 rfl rfl 36 (by decide) (hg _ wt5_196) (fun _ h9 => h9) rfl dX12_look_106 ?_
        refine lv_bipush (v := 11) hx hb dX12_look_109 (by decide) ?_
        refine lv_iload hx hb dX12_look_111 (lv_at hl 2 rfl) ?_
        refine lv_imul hx hb dX12_look_113 ?_
        refine k_top (z := 0) (by decide +kernel) ?_
        refine lv_iload hx hb dX12_look_114 (lv_at hl 0 rfl) ?_
        refine lv_iadd hx hb dX12_look_116 ?_
        refine k_top (z := 5) (by decide +kernel) ?_
        refine va_iald hx hb hK hP 19 0 rfl rfl (k_in (by decide +kernel)) dX12_look_117 ?_
        refine lv_topi (fun t50 et50 => ?_)
        rw [cl_5] at et50
        have et50 : t50 = 0 := et50.trans ((hw17.2.2.2.2.2 5 (by decide)).trans (by decide +kernel))
        subst et50
        refine kN.callS (As := [.int 1, .int 0]) (rest := []) ⟨hx, hb, hml, hown, hg⟩ (c_greater l 1 0) (va_cwS 2 hg (kgS wt6_127 wt6_128 wt1_14 wt6_129) rfl rfl rfl (by decide +kernel) ⟨by decide, by decide⟩) hP hS rfl hl.1 rfl (Nat.le_of_ble_eq_true rfl) dX12_look_118 ⟨by decide, by decide⟩ (fun v52 H locs hw51 hP hS => ?_)
        refine k_top (z := 1) (hw51.trans (by decide +kernel)) ?_
        refine lv_istore (lv' := [(6, .int 1), (7, .int 5), (5, .int 0), (4, .int 1000000), (3, .int (-1)), (2, .int 1), (0, .ref o), (1, .int x)]) hx hb dX12_look_121 hl (by decide) rfl (fun ls hl => ?_)
        refine lv_iinc (v := 6) (lv' := [(7, .int 6), (6, .int 1), (5, .int 0), (4, .int 1000000), (3, .int (-1)), (2, .int 1), (0, .ref o), (1, .int x)]) hx hb dX12_look_123 hl (k := 1) rfl (by decide +kernel) (by decide) rfl (fun ls hl => ?_)
        refine lv_goto (tgt := 96) hx hb dX12_look_126 (by decide) ?_
        refine lv_iload hx hb dX12_look_96 (lv_at hl 0 rfl) ?_
        refine lv_bipush (v := 10) hx hb dX12_look_98 (by decide) ?_
        refine lv_icmp_gt (tgt := 129) hx hb dX12_look_100 (by decide) (fun c53 => absurd c53 (by decide +kernel)) (fun c53 => ?_)
        refine lv_iload hx hb dX12_look_103 (lv_at hl 1 rfl) ?_
        refine lv_aload_n hx hb dX12_look_105 rfl (lv_at hl 6 rfl) ?_
        refine va_get (D := D) (ci := 12) (v := .ref (r 36)) (C := RX12) (T := TX12) (N := 48) hx hb hg inC12 hown hK hP 0 rfl rfl 36 (by decide) (hg _ wt5_196) (fun _ h9 => h9) rfl dX12_look_106 ?_
        refine lv_bipush (v := 11) hx hb dX12_look_109 (by decide) ?_
        refine lv_iload hx hb dX12_look_111 (lv_at hl 2 rfl) ?_
        refine lv_imul hx hb dX12_look_113 ?_
        refine k_top (z := 0) (by decide +kernel) ?_
        refine lv_iload hx hb dX12_look_114 (lv_at hl 0 rfl) ?_
        refine lv_iadd hx hb dX12_look_116 ?_
        refine k_top (z := 6) (by decide +kernel) ?_
        refine va_iald hx hb hK hP 19 0 rfl rfl (k_in (by decide +kernel)) dX12_look_117 ?_
        refine lv_topi (fun t54 et54 => ?_)
        rw [cl_6] at et54
        have et54 : t54 = 0 := et54.trans ((hw17.2.2.2.2.2 6 (by decide)).trans (by decide +kernel))
        subst et54
        refine kN.callS (As := [.int 1, .int 0]) (rest := []) ⟨hx, hb, hml, hown, hg⟩ (c_greater l 1 0) (va_cwS 2 hg (kgS wt6_127 wt6_128 wt1_14 wt6_129) rfl rfl rfl (by decide +kernel) ⟨by decide, by decide⟩) hP hS rfl hl.1 rfl (Nat.le_of_ble_eq_true rfl) dX12_look_118 ⟨by decide, by decide⟩ (fun v56 H locs hw55 hP hS => ?_)
        refine k_top (z := 1) (hw55.trans (by decide +kernel)) ?_
        refine lv_istore (lv' := [(6, .int 1), (7, .int 6), (5, .int 0), (4, .int 1000000), (3, .int (-1)), (2, .int 1), (0, .ref o), (1, .int x)]) hx hb dX12_look_121 hl (by decide) rfl (fun ls hl => ?_)
        refine lv_iinc (v := 7) (lv' := [(7, .int 7), (6, .int 1), (5, .int 0), (4, .int 1000000), (3, .int (-1)), (2, .int 1), (0, .ref o), (1, .int x)]) hx hb dX12_look_123 hl (k := 1) rfl (by decide +kernel) (by decide) rfl (fun ls hl => ?_)
        refine lv_goto (tgt := 96) hx hb dX12_look_126 (by decide) ?_
        refine lv_iload hx hb dX12_look_96 (lv_at hl 0 rfl) ?_
        refine lv_bipush (v := 10) hx hb dX12_look_98 (by decide) ?_
        refine lv_icmp_gt (tgt := 129) hx hb dX12_look_100 (by decide) (fun c57 => absurd c57 (by decide +kernel)) (fun c57 => ?_)
        refine lv_iload hx hb dX12_look_103 (lv_at hl 1 rfl) ?_
        refine lv_aload_n hx hb dX12_look_105 rfl (lv_at hl 6 rfl) ?_
        refine va_get (D := D) (ci := 12) (v := .ref (r 36)) (C := RX12) (T := TX12) (N := 48) hx hb hg inC12 hown hK hP 0 rfl rfl 36 (by decide) (hg _ wt5_196) (fun _ h9 => h9) rfl dX12_look_106 ?_
        refine lv_bipush (v := 11) hx hb dX12_look_109 (by decide) ?_
        refine lv_iload hx hb dX12_look_111 (lv_at hl 2 rfl) ?_
        refine lv_imul hx hb dX12_look_113 ?_
        refine k_top (z := 0) (by decide +kernel) ?_
        refine lv_iload hx hb dX12_look_114 (lv_at hl 0 rfl) ?_
        refine lv_iadd hx hb dX12_look_116 ?_
        refine k_top (z := 7) (by decide +kernel) ?_
        refine va_iald hx hb hK hP 19 0 rfl rfl (k_in (by decide +kernel)) dX12_look_117 ?_
        refine lv_topi (fun t58 et58 => ?_)
        rw [cl_7] at et58
        have et58 : t58 = 0 := et58.trans ((hw17.2.2.2.2.2 7 (by decide)).trans (by decide +kernel))
        subst et58
        refine kN.callS (As := [.int 1, .int 0]) (rest := []) ⟨hx, hb, hml, hown, hg⟩ (c_greater l 1 0) (va_cwS 2 hg (kgS wt6_127 wt6_128 wt1_14 wt6_129) rfl rfl rfl (by decide +kernel) ⟨by decide, by decide⟩) hP hS rfl hl.1 rfl (Nat.le_of_ble_eq_true rfl) dX12_look_118 ⟨by decide, by decide⟩ (fun v60 H locs hw59 hP hS => ?_)
        refine k_top (z := 1) (hw59.trans (by decide +kernel)) ?_
        refine lv_istore (lv' := [(6, .int 1), (7, .int 7), (5, .int 0), (4, .int 1000000), (3, .int (-1)), (2, .int 1), (0, .ref o), (1, .int x)]) hx hb dX12_look_121 hl (by decide) rfl (fun ls hl => ?_)
        refine lv_iinc (v := 8) (lv' := [(7, .int 8), (6, .int 1), (5, .int 0), (4, .int 1000000), (3, .int (-1)), (2, .int 1), (0, .ref o), (1, .int x)]) hx hb dX12_look_123 hl (k := 1) rfl (by decide +kernel) (by decide) rfl (fun ls hl => ?_)
        refine lv_goto (tgt := 96) hx hb dX12_look_126 (by decide) ?_
        refine lv_iload hx hb dX12_look_96 (lv_at hl 0 rfl) ?_
        refine lv_bipush (v := 10) hx hb dX12_look_98 (by decide) ?_
        refine lv_icmp_gt (tgt := 129) hx hb dX12_look_100 (by decide) (fun c61 => absurd c61 (by decide +kernel)) (fun c61 => ?_)
        refine lv_iload hx hb dX12_look_103 (lv_at hl 1 rfl) ?_
        refine lv_aload_n hx hb dX12_look_105 rfl (lv_at hl 6 rfl) ?_
        refine va_get (D := D) (ci := 12) (v := .ref (r 36)) (C := RX12) (T := TX12) (N := 48) hx hb hg inC12 hown hK hP 0 rfl rfl 36 (by decide) (hg _ wt5_196) (fun _ h9 => h9) rfl dX12_look_106 ?_
        refine lv_bipush (v := 11) hx hb dX12_look_109 (by decide) ?_
        refine lv_iload hx hb dX12_look_111 (lv_at hl 2 rfl) ?_
        refine lv_imul hx hb dX12_look_113 ?_
        refine k_top (z := 0) (by decide +kernel) ?_
        refine lv_iload hx hb dX12_look_114 (lv_at hl 0 rfl) ?_
        refine lv_iadd hx hb dX12_look_116 ?_
        refine k_top (z := 8) (by decide +kernel) ?_
        refine va_iald hx hb hK hP 19 0 rfl rfl (k_in (by decide +kernel)) dX12_look_117 ?_
        refine lv_topi (fun t62 et62 => ?_)
        rw [cl_8] at et62
        have et62 : t62 = 0 := et62.trans ((hw17.2.2.2.2.2 8 (by decide)).trans (by decide +kernel))
        subst et62
        refine kN.callS (As := [.int 1, .int 0]) (rest := []) ⟨hx, hb, hml, hown, hg⟩ (c_greater l 1 0) (va_cwS 2 hg (kgS wt6_127 wt6_128 wt1_14 wt6_129) rfl rfl rfl (by decide +kernel) ⟨by decide, by decide⟩) hP hS rfl hl.1 rfl (Nat.le_of_ble_eq_true rfl) dX12_look_118 ⟨by decide, by decide⟩ (fun v64 H locs hw63 hP hS => ?_)
        refine k_top (z := 1) (hw63.trans (by decide +kernel)) ?_
        refine lv_istore (lv' := [(6, .int 1), (7, .int 8), (5, .int 0), (4, .int 1000000), (3, .int (-1)), (2, .int 1), (0, .ref o), (1, .int x)]) hx hb dX12_look_121 hl (by decide) rfl (fun ls hl => ?_)
        refine lv_iinc (v := 9) (lv' := [(7, .int 9), (6, .int 1), (5, .int 0), (4, .int 1000000), (3, .int (-1)), (2, .int 1), (0, .ref o), (1, .int x)]) hx hb dX12_look_123 hl (k := 1) rfl (by decide +kernel) (by decide) rfl (fun ls hl => ?_)
        refine lv_goto (tgt := 96) hx hb dX12_look_126 (by decide) ?_
        refine lv_iload hx hb dX12_look_96 (lv_at hl 0 rfl) ?_
        refine lv_bipush (v := 10) hx hb dX12_look_98 (by decide) ?_
        refine lv_icmp_gt (tgt := 129) hx hb dX12_look_100 (by decide) (fun c65 => absurd c65 (by decide +kernel)) (fun c65 => ?_)
        refine lv_iload hx hb dX12_look_103 (lv_at hl 1 rfl) ?_
        refine lv_aload_n hx hb dX12_look_105 rfl (lv_at hl 6 rfl) ?_
        refine va_get (D := D) (ci := 12) (v := .ref (r 36)) (C := RX12) (T := TX12) (N := 48) hx hb hg inC12 hown hK hP 0 rfl rfl 36 (by decide) (hg _ wt5_196) (fun _ h9 => h9) rfl dX12_look_106 ?_
        refine lv_bipush (v := 11) hx hb dX12_look_109 (by decide) ?_
        refine lv_iload hx hb dX12_look_111 (lv_at hl 2 rfl) ?_
        refine lv_imul hx hb dX12_look_113 ?_
        refine k_top (z := 0) (by decide +kernel) ?_
        refine lv_iload hx hb dX12_look_114 (lv_at hl 0 rfl) ?_
        refine lv_iadd hx hb dX12_look_116 ?_
        refine k_top (z := 9) (by decide +kernel) ?_
        refine va_iald hx hb hK hP 19 0 rfl rfl (k_in (by decide +kernel)) dX12_look_117 ?_
        refine lv_topi (fun t66 et66 => ?_)
        rw [cl_9] at et66
        have et66 : t66 = 0 := et66.trans ((hw17.2.2.2.2.2 9 (by decide)).trans (by decide +kernel))
        subst et66
        refine kN.callS (As := [.int 1, .int 0]) (rest := []) ⟨hx, hb, hml, hown, hg⟩ (c_greater l 1 0) (va_cwS 2 hg (kgS wt6_127 wt6_128 wt1_14 wt6_129) rfl rfl rfl (by decide +kernel) ⟨by decide, by decide⟩) hP hS rfl hl.1 rfl (Nat.le_of_ble_eq_true rfl) dX12_look_118 ⟨by decide, by decide⟩ (fun v68 H locs hw67 hP hS => ?_)
        refine k_top (z := 1) (hw67.trans (by decide +kernel)) ?_
        refine lv_istore (lv' := [(6, .int 1), (7, .int 9), (5, .int 0), (4, .int 1000000), (3, .int (-1)), (2, .int 1), (0, .ref o), (1, .int x)]) hx hb dX12_look_121 hl (by decide) rfl (fun ls hl => ?_)
        refine lv_iinc (v := 10) (lv' := [(7, .int 10), (6, .int 1), (5, .int 0), (4, .int 1000000), (3, .int (-1)), (2, .int 1), (0, .ref o), (1, .int x)]) hx hb dX12_look_123 hl (k := 1) rfl (by decide +kernel) (by decide) rfl (fun ls hl => ?_)
        refine lv_goto (tgt := 96) hx hb dX12_look_126 (by decide) ?_
        refine lv_iload hx hb dX12_look_96 (lv_at hl 0 rfl) ?_
        refine lv_bipush (v := 10) hx hb dX12_look_98 (by decide) ?_
        refine lv_icmp_gt (tgt := 129) hx hb dX12_look_100 (by decide) (fun c69 => absurd c69 (by decide +kernel)) (fun c69 => ?_)
        refine lv_iload hx hb dX12_look_103 (lv_at hl 1 rfl) ?_
        refine lv_aload_n hx hb dX12_look_105 rfl (lv_at hl 6 rfl) ?_
        refine va_get (D := D) (ci := 12) (v := .ref (r 36)) (C := RX12) (T := TX12) (N := 48) hx hb hg inC12 hown hK hP 0 rfl rfl 36 (by decide) (hg _ wt5_196) (fun _ h9 => h9) rfl dX12_look_106 ?_
        refine lv_bipush (v := 11) hx hb dX12_look_109 (by decide) ?_
        refine lv_iload hx hb dX12_look_111 (lv_at hl 2 rfl) ?_
        refine lv_imul hx hb dX12_look_113 ?_
        refine k_top (z := 0) (by decide +kernel) ?_
        refine lv_iload hx hb dX12_look_114 (lv_at hl 0 rfl) ?_
        refine lv_iadd hx hb dX12_look_116 ?_
        refine k_top (z := 10) (by decide +kernel) ?_
        refine va_iald hx hb hK hP 19 0 rfl rfl (k_in (by decide +kernel)) dX12_look_117 ?_
        refine lv_topi (fun t70 et70 => ?_)
        rw [cl_10] at et70
        have et70 : t70 = 0 := et70.trans ((hw17.2.2.2.2.2 10 (by decide)).trans (by decide +kernel))
        subst et70
        refine kN.callS (As := [.int 1, .int 0]) (rest := []) ⟨hx, hb, hml, hown, hg⟩ (c_greater l 1 0) (va_cwS 2 hg (kgS wt6_127 wt6_128 wt1_14 wt6_129) rfl rfl rfl (by decide +kernel) ⟨by decide, by decide⟩) hP hS rfl hl.1 rfl (Nat.le_of_ble_eq_true rfl) dX12_look_118 ⟨by decide, by decide⟩ (fun v72 H locs hw71 hP hS => ?_)
        refine k_top (z := 1) (hw71.trans (by decide +kernel)) ?_
        refine lv_istore (lv' := [(6, .int 1), (7, .int 10), (5, .int 0), (4, .int 1000000), (3, .int (-1)), (2, .int 1), (0, .ref o), (1, .int x)]) hx hb dX12_look_121 hl (by decide) rfl (fun ls hl => ?_)
        refine lv_iinc (v := 11) (lv' := [(7, .int 11), (6, .int 1), (5, .int 0), (4, .int 1000000), (3, .int (-1)), (2, .int 1), (0, .ref o), (1, .int x)]) hx hb dX12_look_123 hl (k := 1) rfl (by decide +kernel) (by decide) rfl (fun ls hl => ?_)
        refine lv_goto (tgt := 96) hx hb dX12_look_126 (by decide) ?_
        refine lv_iload hx hb dX12_look_96 (lv_at hl 0 rfl) ?_
        refine lv_bipush (v := 10) hx hb dX12_look_98 (by decide) ?_
        refine lv_icmp_gt (tgt := 129) hx hb dX12_look_100 (by decide) (fun c73 => ?_) (fun c73 => absurd (by decide +kernel) c73)
        refine lv_iload hx hb dX12_look_129 (lv_at hl 1 rfl) ?_
        refine lv_iload hx hb dX12_look_131 (lv_at hl 3 rfl) ?_
        refine lv_icmp_lt (tgt := 139) hx hb dX12_look_133 (by decide) (fun c74 => ?_) (fun c74 => absurd (by decide +kernel) c74)
        refine lv_iload hx hb dX12_look_139 (lv_at hl 1 rfl) ?_
        refine lv_istore (lv' := [(4, .int 1), (7, .int 11), (6, .int 1), (5, .int 0), (3, .int (-1)), (2, .int 1), (0, .ref o), (1, .int x)]) hx hb dX12_look_141 hl (by decide) rfl (fun ls hl => ?_)
        refine lv_iload hx hb dX12_look_143 (lv_at hl 3 rfl) ?_
        refine lv_istore_n (lv' := [(3, .int 0), (4, .int 1), (7, .int 11), (6, .int 1), (5, .int 0), (2, .int 1), (0, .ref o), (1, .int x)]) hx hb dX12_look_145 rfl hl (by decide) rfl (fun ls hl => ?_)
        refine lv_iinc (v := 1) (lv' := [(5, .int 1), (3, .int 0), (4, .int 1), (7, .int 11), (6, .int 1), (2, .int 1), (0, .ref o), (1, .int x)]) hx hb dX12_look_146 hl (k := 4) rfl (by decide +kernel) (by decide) rfl (fun ls hl => ?_)
        refine lv_goto (tgt := 79) hx hb dX12_look_149 (by decide) ?_
        have lp75 : ∀ (n2 i2 : Nat) (F2 : Nat → Int32) (B2 : Nat → Nat → Int32) (G2 : Nat → Int64) (H : Heap) (locs : List Loc) (ls : Array Slot), i2 + n2 = 41 → 1 ≤ i2 → (∀ j, j < 451 → B2 36 j = mSh 41 j) → va_P D vwCl (mW K o r F2 B2 G2) H → va_D A (mW K o r F2 B2 G2) → va_S A s.heap H locs → lv_has ls 8 [(5, .int (nI i2)), (3, .int 0), (4, .int 1), (7, .int 11), (6, .int 1), (2, .int 1), (0, .ref o), (1, .int x)] → W p l e (rmD 5 0 0) s m ([.ref o, .int x] : List Value).toArray below meth c H locs 0 0 (kQi D (tysK K) (fun v (u : mS) => v = (if mLies x 0 1 = 0 then (-1 : Int32) else if x = 0 then 0 else 1)) (fun u => mW K o r u.1 u.2.1 u.2.2) A below ([.ref o, .int x] : List Value).toArray s 0 0) (F0 m 79 ls []) := by
          intro n2
          induction n2 with
          | zero =>
            intro i2 F2 B2 G2 H locs ls  hin2 hlo2 zi2 hP hD hS hl
            obtain rfl : 41 = i2 := by omega
            have hl : lv_has ls 8 [(5, .int 41), (3, .int 0), (4, .int 1), (7, .int 11), (6, .int 1), (2, .int 1), (0, .ref o), (1, .int x)] := hl
            refine lv_iload hx hb dX12_look_79 (lv_at hl 0 rfl) ?_
            refine lv_bipush (v := 40) hx hb dX12_look_81 (by decide) ?_
            refine lv_icmp_gt (tgt := 152) hx hb dX12_look_83 (by decide) (fun c76 => ?_) (fun c76 => absurd (by decide +kernel) c76)
            refine lv_iload_n hx hb dX12_look_152 rfl (lv_at hl 1 rfl) ?_
            refine lv_iconst (v := (-1)) hx hb dX12_look_153 (by decide) ?_
            refine lv_icmp_eq (tgt := 161) hx hb dX12_look_154 (by decide) (fun c77 => absurd c77 (by decide +kernel)) (fun c77 => ?_)
            refine lv_iload_n hx hb dX12_look_157 rfl (lv_at hl 7 rfl) ?_
            refine lv_if_ne (tgt := 165) hx hb dX12_look_158 (by decide) (fun c78 => ?_) (fun c78 => ?_)
            · refine lv_iload hx hb dX12_look_165 (lv_at hl 2 rfl) ?_
              exact kI_ret (v := 1) hx hb hr hlocks rfl hK hS dX12_look_167 (F2, B2, G2) hP hD (by rw [if_neg c3, if_neg c78])
            · refine lv_iload_n hx hb dX12_look_161 rfl (lv_at hl 1 rfl) ?_
              refine lv_goto (tgt := 167) hx hb dX12_look_162 (by decide) ?_
              exact kI_ret (v := 0) hx hb hr hlocks rfl hK hS dX12_look_167 (F2, B2, G2) hP hD (by rw [if_neg c3, if_pos c78])
          | succ n2 ih2 =>
            intro i2 F2 B2 G2 H locs ls  hin2 hlo2 zi2 hP hD hS hl
            have hlt2 : i2 < 41 := by omega
            refine lv_iload hx hb dX12_look_79 (lv_at hl 0 rfl) ?_
            refine lv_bipush (v := 40) hx hb dX12_look_81 (by decide) ?_
            refine lv_icmp_gt (tgt := 152) hx hb dX12_look_83 (by decide) (fun c79 => absurd c79 (nI_nlt (a := 40) (b := i2) (by omega) (by decide))) (fun c79 => ?_)
            refine lv_iload_n hx hb dX12_look_86 rfl (lv_at hl 5 rfl) ?_
            refine lv_if_le (tgt := 152) hx hb dX12_look_87 (by decide) (fun c80 => absurd c80 (by decide +kernel)) (fun c80 => ?_)
            refine lv_iconst (v := 0) hx hb dX12_look_90 (by decide) ?_
            refine lv_istore (lv' := [(6, .int 0), (5, .int (nI i2)), (3, .int 0), (4, .int 1), (7, .int 11), (2, .int 1), (0, .ref o), (1, .int x)]) hx hb dX12_look_91 hl (by decide) rfl (fun ls hl => ?_)
            refine lv_iconst (v := 0) hx hb dX12_look_93 (by decide) ?_
            refine lv_istore (lv' := [(7, .int 0), (6, .int 0), (5, .int (nI i2)), (3, .int 0), (4, .int 1), (2, .int 1), (0, .ref o), (1, .int x)]) hx hb dX12_look_94 hl (by decide) rfl (fun ls hl => ?_)
            refine lv_iload hx hb dX12_look_96 (lv_at hl 0 rfl) ?_
            refine lv_bipush (v := 10) hx hb dX12_look_98 (by decide) ?_
            refine lv_icmp_gt (tgt := 129) hx hb dX12_look_100 (by decide) (fun c81 => absurd c81 (by decide +kernel)) (fun c81 => ?_)
            refine lv_iload hx hb dX12_look_103 (lv_at hl 1 rfl) ?_
            refine lv_aload_n hx hb dX12_look_105 rfl (lv_at hl 6 rfl) ?_
            refine va_get (D := D) (ci := 12) (v := .ref (r 36)) (C := RX12) (T := TX12) (N := 48) hx hb hg inC12 hown hK hP 0 rfl rfl 36 (by decide) (hg _ wt5_196) (fun _ h9 => h9) rfl dX12_look_106 ?_
            refine lv_bipush (v := 11) hx hb dX12_look_109 (by decide) ?_
            refine lv_iload hx hb dX12_look_111 (lv_at hl 2 rfl) ?_
            refine lv_imul hx hb dX12_look_113 ?_
            refine k_top (z := nI (11 * i2)) (pk_mul 11 i2) ?_
            refine lv_iload hx hb dX12_look_114 (lv_at hl 0 rfl) ?_
            refine lv_iadd hx hb dX12_look_116 ?_
            refine k_top (z := nI ((11 * i2) + 0)) (nI_add (11 * i2) 0) ?_
            refine va_iald hx hb hK hP 19 0 rfl rfl (vp_in_nI (by omega) (by decide)) dX12_look_117 ?_
            refine lv_topi (fun t82 et82 => ?_)
            rw [nI_clamp (n := ((11 * i2) + 0)) (by omega)] at et82
            have et82 : t82 = 1 := et82.trans ((zi2 _ (by omega)).trans (ks_one (by omega)))
            subst et82
            refine kN.callS (As := [.int 0, .int 1]) (rest := []) ⟨hx, hb, hml, hown, hg⟩ (c_greater l 0 1) (va_cwS 2 hg (kgS wt6_127 wt6_128 wt1_14 wt6_129) rfl rfl rfl (by decide +kernel) ⟨by decide, by decide⟩) hP hS rfl hl.1 rfl (Nat.le_of_ble_eq_true rfl) dX12_look_118 ⟨by decide, by decide⟩ (fun v84 H locs hw83 hP hS => ?_)
            refine k_top (z := 1) (hw83.trans (by decide +kernel)) ?_
            refine lv_istore (lv' := [(6, .int 1), (7, .int 0), (5, .int (nI i2)), (3, .int 0), (4, .int 1), (2, .int 1), (0, .ref o), (1, .int x)]) hx hb dX12_look_121 hl (by decide) rfl (fun ls hl => ?_)
            refine lv_iinc (v := 1) (lv' := [(7, .int 1), (6, .int 1), (5, .int (nI i2)), (3, .int 0), (4, .int 1), (2, .int 1), (0, .ref o), (1, .int x)]) hx hb dX12_look_123 hl (k := 1) rfl (by decide +kernel) (by decide) rfl (fun ls hl => ?_)
            refine lv_goto (tgt := 96) hx hb dX12_look_126 (by decide) ?_
            refine lv_iload hx hb dX12_look_96 (lv_at hl 0 rfl) ?_
            refine lv_bipush (v := 10) hx hb dX12_look_98 (by decide) ?_
            refine lv_icmp_gt (tgt := 129) hx hb dX12_look_100 (by decide) (fun c85 => absurd c85 (by decide +kernel)) (fun c85 => ?_)
            refine lv_iload hx hb dX12_look_103 (lv_at hl 1 rfl) ?_
            refine lv_aload_n hx hb dX12_look_105 rfl (lv_at hl 6 rfl) ?_
            refine va_get (D := D) (ci := 12) (v := .ref (r 36)) (C := RX12) (T := TX12) (N := 48) hx hb hg inC12 hown hK hP 0 rfl rfl 36 (by decide) (hg _ wt5_196) (fun _ h9 => h9) rfl dX12_look_106 ?_
            refine lv_bipush (v := 11) hx hb dX12_look_109 (by decide) ?_
            refine lv_iload hx hb dX12_look_111 (lv_at hl 2 rfl) ?_
            refine lv_imul hx hb dX12_look_113 ?_
            refine k_top (z := nI (11 * i2)) (pk_mul 11 i2) ?_
            refine lv_iload hx hb dX12_look_114 (lv_at hl 0 rfl) ?_
            refine lv_iadd hx hb dX12_look_116 ?_
            refine k_top (z := nI ((11 * i2) + 1)) (nI_add (11 * i2) 1) ?_
            refine va_iald hx hb hK hP 19 0 rfl rfl (vp_in_nI (by omega) (by decide)) dX12_look_117 ?_
            refine lv_topi (fun t86 et86 => ?_)
            rw [nI_clamp (n := ((11 * i2) + 1)) (by omega)] at et86
            have et86 : t86 = 0 := et86.trans ((zi2 _ (by omega)).trans (ks_nil (by decide) (by decide)))
            subst et86
            refine kN.callS (As := [.int 1, .int 0]) (rest := []) ⟨hx, hb, hml, hown, hg⟩ (c_greater l 1 0) (va_cwS 2 hg (kgS wt6_127 wt6_128 wt1_14 wt6_129) rfl rfl rfl (by decide +kernel) ⟨by decide, by decide⟩) hP hS rfl hl.1 rfl (Nat.le_of_ble_eq_true rfl) dX12_look_118 ⟨by decide, by decide⟩ (fun v88 H locs hw87 hP hS => ?_)
            refine k_top (z := 1) (hw87.trans (by decide +kernel)) ?_
            refine lv_istore (lv' := [(6, .int 1), (7, .int 1), (5, .int (nI i2)), (3, .int 0), (4, .int 1), (2, .int 1), (0, .ref o), (1, .int x)]) hx hb dX12_look_121 hl (by decide) rfl (fun ls hl => ?_)
            refine lv_iinc (v := 2) (lv' := [(7, .int 2), (6, .int 1), (5, .int (nI i2)), (3, .int 0), (4, .int 1), (2, .int 1), (0, .ref o), (1, .int x)]) hx hb dX12_look_123 hl (k := 1) rfl (by decide +kernel) (by decide) rfl (fun ls hl => ?_)
            refine lv_goto (tgt := 96) hx hb dX12_look_126 (by decide) ?_
            refine lv_iload hx hb dX12_look_96 (lv_at hl 0 rfl) ?_
            refine lv_bipush (v := 10) hx hb dX12_look_98 (by decide) ?_
            refine lv_icmp_gt (tgt := 129) hx hb dX12_look_100 (by decide) (fun c89 => absurd c89 (by decide +kernel)) (fun c89 => ?_)
            refine lv_iload hx hb dX12_look_103 (lv_at hl 1 rfl) ?_
            refine lv_aload_n hx hb dX12_look_105 rfl (lv_at hl 6 rfl) ?_
            refine va_get (D := D) (ci := 12) (v := .ref (r 36)) (C := RX12) (T := TX12) (N := 48) hx hb hg inC12 hown hK hP 0 rfl rfl 36 (by decide) (hg _ wt5_196) (fun _ h9 => h9) rfl dX12_look_106 ?_
            refine lv_bipush (v := 11) hx hb dX12_look_109 (by decide) ?_
            refine lv_iload hx hb dX12_look_111 (lv_at hl 2 rfl) ?_
            refine lv_imul hx hb dX12_look_113 ?_
            refine k_top (z := nI (11 * i2)) (pk_mul 11 i2) ?_
            refine lv_iload hx hb dX12_look_114 (lv_at hl 0 rfl) ?_
            refine lv_iadd hx hb dX12_look_116 ?_
            refine k_top (z := nI ((11 * i2) + 2)) (nI_add (11 * i2) 2) ?_
            refine va_iald hx hb hK hP 19 0 rfl rfl (vp_in_nI (by omega) (by decide)) dX12_look_117 ?_
            refine lv_topi (fun t90 et90 => ?_)
            rw [nI_clamp (n := ((11 * i2) + 2)) (by omega)] at et90
            have et90 : t90 = 0 := et90.trans ((zi2 _ (by omega)).trans (ks_nil (by decide) (by decide)))
            subst et90
            refine kN.callS (As := [.int 1, .int 0]) (rest := []) ⟨hx, hb, hml, hown, hg⟩ (c_greater l 1 0) (va_cwS 2 hg (kgS wt6_127 wt6_128 wt1_14 wt6_129) rfl rfl rfl (by decide +kernel) ⟨by decide, by decide⟩) hP hS rfl hl.1 rfl (Nat.le_of_ble_eq_true rfl) dX12_look_118 ⟨by decide, by decide⟩ (fun v92 H locs hw91 hP hS => ?_)
            refine k_top (z := 1) (hw91.trans (by decide +kernel)) ?_
            refine lv_istore (lv' := [(6, .int 1), (7, .int 2), (5, .int (nI i2)), (3, .int 0), (4, .int 1), (2, .int 1), (0, .ref o), (1, .int x)]) hx hb dX12_look_121 hl (by decide) rfl (fun ls hl => ?_)
            refine lv_iinc (v := 3) (lv' := [(7, .int 3), (6, .int 1), (5, .int (nI i2)), (3, .int 0), (4, .int 1), (2, .int 1), (0, .ref o), (1, .int x)]) hx hb dX12_look_123 hl (k := 1) rfl (by decide +kernel) (by decide) rfl (fun ls hl => ?_)
            refine lv_goto (tgt := 96) hx hb dX12_look_126 (by decide) ?_
            refine lv_iload hx hb dX12_look_96 (lv_at hl 0 rfl) ?_
            refine lv_bipush (v := 10) hx hb dX12_look_98 (by decide) ?_
            refine lv_icmp_gt (tgt := 129) hx hb dX12_look_100 (by decide) (fun c93 => absurd c93 (by decide +kernel)) (fun c93 => ?_)
            refine lv_iload hx hb dX12_look_103 (lv_at hl 1 rfl) ?_
            refine lv_aload_n hx hb dX12_look_105 rfl (lv_at hl 6 rfl) ?_
            refine va_get (D := D) (ci := 12) (v := .ref (r 36)) (C := RX12) (T := TX12) (N := 48) hx hb hg inC12 hown hK hP 0 rfl rfl 36 (by decide) (hg _ wt5_196) (fun _ h9 => h9) rfl dX12_look_106 ?_
            refine lv_bipush (v := 11) hx hb dX12_look_109 (by decide) ?_
            refine lv_iload hx hb dX12_look_111 (lv_at hl 2 rfl) ?_
            refine lv_imul hx hb dX12_look_113 ?_
            refine k_top (z := nI (11 * i2)) (pk_mul 11 i2) ?_
            refine lv_iload hx hb dX12_look_114 (lv_at hl 0 rfl) ?_
            refine lv_iadd hx hb dX12_look_116 ?_
            refine k_top (z := nI ((11 * i2) + 3)) (nI_add (11 * i2) 3) ?_
            refine va_iald hx hb hK hP 19 0 rfl rfl (vp_in_nI (by omega) (by decide)) dX12_look_117 ?_
            refine lv_topi (fun t94 et94 => ?_)
            rw [nI_clamp (n := ((11 * i2) + 3)) (by omega)] at et94
            have et94 : t94 = 0 := et94.trans ((zi2 _ (by omega)).trans (ks_nil (by decide) (by decide)))
            subst et94
            refine kN.callS (As := [.int 1, .int 0]) (rest := []) ⟨hx, hb, hml, hown, hg⟩ (c_greater l 1 0) (va_cwS 2 hg (kgS wt6_127 wt6_128 wt1_14 wt6_129) rfl rfl rfl (by decide +kernel) ⟨by decide, by decide⟩) hP hS rfl hl.1 rfl (Nat.le_of_ble_eq_true rfl) dX12_look_118 ⟨by decide, by decide⟩ (fun v96 H locs hw95 hP hS => ?_)
            refine k_top (z := 1) (hw95.trans (by decide +kernel)) ?_
            refine lv_istore (lv' := [(6, .int 1), (7, .int 3), (5, .int (nI i2)), (3, .int 0), (4, .int 1), (2, .int 1), (0, .ref o), (1, .int x)]) hx hb dX12_look_121 hl (by decide) rfl (fun ls hl => ?_)
            refine lv_iinc (v := 4) (lv' := [(7, .int 4), (6, .int 1), (5, .int (nI i2)), (3, .int 0), (4, .int 1), (2, .int 1), (0, .ref o), (1, .int x)]) hx hb dX12_look_123 hl (k := 1) rfl (by decide +kernel) (by decide) rfl (fun ls hl => ?_)
            refine lv_goto (tgt := 96) hx hb dX12_look_126 (by decide) ?_
            refine lv_iload hx hb dX12_look_96 (lv_at hl 0 rfl) ?_
            refine lv_bipush (v := 10) hx hb dX12_look_98 (by decide) ?_
            refine lv_icmp_gt (tgt := 129) hx hb dX12_look_100 (by decide) (fun c97 => absurd c97 (by decide +kernel)) (fun c97 => ?_)
            refine lv_iload hx hb dX12_look_103 (lv_at hl 1 rfl) ?_
            refine lv_aload_n hx hb dX12_look_105 rfl (lv_at hl 6 rfl) ?_
            refine va_get (D := D) (ci := 12) (v := .ref (r 36)) (C := RX12) (T := TX12) (N := 48) hx hb hg inC12 hown hK hP 0 rfl rfl 36 (by decide) (hg _ wt5_196) (fun _ h9 => h9) rfl dX12_look_106 ?_
            refine lv_bipush (v := 11) hx hb dX12_look_109 (by decide) ?_
            refine lv_iload hx hb dX12_look_111 (lv_at hl 2 rfl) ?_
            refine lv_imul hx hb dX12_look_113 ?_
            refine k_top (z := nI (11 * i2)) (pk_mul 11 i2) ?_
            refine lv_iload hx hb dX12_look_114 (lv_at hl 0 rfl) ?_
            refine lv_iadd hx hb dX12_look_116 ?_
            refine k_top (z := nI ((11 * i2) + 4)) (nI_add (11 * i2) 4) ?_
            refine va_iald hx hb hK hP 19 0 rfl rfl (vp_in_nI (by omega) (by decide)) dX12_look_117 ?_
            refine lv_topi (fun t98 et98 => ?_)
            rw [nI_clamp (n := ((11 * i2) + 4)) (by omega)] at et98
            have et98 : t98 = 0 := et98.trans ((zi2 _ (by omega)).trans (ks_nil (by decide) (by decide)))
            subst et98
            refine kN.callS (As := [.int 1, .int 0]) (rest := []) ⟨hx, hb, hml, hown, hg⟩ (c_greater l 1 0) (va_cwS 2 hg (kgS wt6_127 wt6_128 wt1_14 wt6_129) rfl rfl rfl (by decide +kernel) ⟨by decide, by decide⟩) hP hS rfl hl.1 rfl (Nat.le_of_ble_eq_true rfl) dX12_look_118 ⟨by decide, by decide⟩ (fun v100 H locs hw99 hP hS => ?_)
            refine k_top (z := 1) (hw99.trans (by decide +kernel)) ?_
            refine lv_istore (lv' := [(6, .int 1), (7, .int 4), (5, .int (nI i2)), (3, .int 0), (4, .int 1), (2, .int 1), (0, .ref o), (1, .int x)]) hx hb dX12_look_121 hl (by decide) rfl (fun ls hl => ?_)
            refine lv_iinc (v := 5) (lv' := [(7, .int 5), (6, .int 1), (5, .int (nI i2)), (3, .int 0), (4, .int 1), (2, .int 1), (0, .ref o), (1, .int x)]) hx hb dX12_look_123 hl (k := 1) rfl (by decide +kernel) (by decide) rfl (fun ls hl => ?_)
            refine lv_goto (tgt := 96) hx hb dX12_look_126 (by decide) ?_
            refine lv_iload hx hb dX12_look_96 (lv_at hl 0 rfl) ?_
            refine lv_bipush (v := 10) hx hb dX12_look_98 (by decide) ?_
            refine lv_icmp_gt (tgt := 129) hx hb dX12_look_100 (by decide) (fun c101 => absurd c101 (by decide +kernel)) (fun c101 => ?_)
            refine lv_iload hx hb dX12_look_103 (lv_at hl 1 rfl) ?_
            refine lv_aload_n hx hb dX12_look_105 rfl (lv_at hl 6 rfl) ?_
            refine va_get (D := D) (ci := 12) (v := .ref (r 36)) (C := RX12) (T := TX12) (N := 48) hx hb hg inC12 hown hK hP 0 rfl rfl 36 (by decide) (hg _ wt5_196) (fun _ h9 => h9) rfl dX12_look_106 ?_
            refine lv_bipush (v := 11) hx hb dX12_look_109 (by decide) ?_
            refine lv_iload hx hb dX12_look_111 (lv_at hl 2 rfl) ?_
            refine lv_imul hx hb dX12_look_113 ?_
            refine k_top (z := nI (11 * i2)) (pk_mul 11 i2) ?_
            refine lv_iload hx hb dX12_look_114 (lv_at hl 0 rfl) ?_
            refine lv_iadd hx hb dX12_look_116 ?_
            refine k_top (z := nI ((11 * i2) + 5)) (nI_add (11 * i2) 5) ?_
            refine va_iald hx hb hK hP 19 0 rfl rfl (vp_in_nI (by omega) (by decide)) dX12_look_117 ?_
            refine lv_topi (fun t102 et102 => ?_)
            rw [nI_clamp (n := ((11 * i2) + 5)) (by omega)] at et102
            have et102 : t102 = 0 := et102.trans ((zi2 _ (by omega)).trans (ks_nil (by decide) (by decide)))
            subst et102
            refine kN.callS (As := [.int 1, .int 0]) (rest := []) ⟨hx, hb, hml, hown, hg⟩ (c_greater l 1 0) (va_cwS 2 hg (kgS wt6_127 wt6_128 wt1_14 wt6_129) rfl rfl rfl (by decide +kernel) ⟨by decide, by decide⟩) hP hS rfl hl.1 rfl (Nat.le_of_ble_eq_true rfl) dX12_look_118 ⟨by decide, by decide⟩ (fun v104 H locs hw103 hP hS => ?_)
            refine k_top (z := 1) (hw103.trans (by decide +kernel)) ?_
            refine lv_istore (lv' := [(6, .int 1), (7, .int 5), (5, .int (nI i2)), (3, .int 0), (4, .int 1), (2, .int 1), (0, .ref o), (1, .int x)]) hx hb dX12_look_121 hl (by decide) rfl (fun ls hl => ?_)
            refine lv_iinc (v := 6) (lv' := [(7, .int 6), (6, .int 1), (5, .int (nI i2)), (3, .int 0), (4, .int 1), (2, .int 1), (0, .ref o), (1, .int x)]) hx hb dX12_look_123 hl (k := 1) rfl (by decide +kernel) (by decide) rfl (fun ls hl => ?_)
            refine lv_goto (tgt := 96) hx hb dX12_look_126 (by decide) ?_
            refine lv_iload hx hb dX12_look_96 (lv_at hl 0 rfl) ?_
            refine lv_bipush (v := 10) hx hb dX12_look_98 (by decide) ?_
            refine lv_icmp_gt (tgt := 129) hx hb dX12_look_100 (by decide) (fun c105 => absurd c105 (by decide +kernel)) (fun c105 => ?_)
            refine lv_iload hx hb dX12_look_103 (lv_at hl 1 rfl) ?_
            refine lv_aload_n hx hb dX12_look_105 rfl (lv_at hl 6 rfl) ?_
            refine va_get (D := D) (ci := 12) (v := .ref (r 36)) (C := RX12) (T := TX12) (N := 48) hx hb hg inC12 hown hK hP 0 rfl rfl 36 (by decide) (hg _ wt5_196) (fun _ h9 => h9) rfl dX12_look_106 ?_
            refine lv_bipush (v := 11) hx hb dX12_look_109 (by decide) ?_
            refine lv_iload hx hb dX12_look_111 (lv_at hl 2 rfl) ?_
            refine lv_imul hx hb dX12_look_113 ?_
            refine k_top (z := nI (11 * i2)) (pk_mul 11 i2) ?_
            refine lv_iload hx hb dX12_look_114 (lv_at hl 0 rfl) ?_
            refine lv_iadd hx hb dX12_look_116 ?_
            refine k_top (z := nI ((11 * i2) + 6)) (nI_add (11 * i2) 6) ?_
            refine va_iald hx hb hK hP 19 0 rfl rfl (vp_in_nI (by omega) (by decide)) dX12_look_117 ?_
            refine lv_topi (fun t106 et106 => ?_)
            rw [nI_clamp (n := ((11 * i2) + 6)) (by omega)] at et106
            have et106 : t106 = 0 := et106.trans ((zi2 _ (by omega)).trans (ks_nil (by decide) (by decide)))
            subst et106
            refine kN.callS (As := [.int 1, .int 0]) (rest := []) ⟨hx, hb, hml, hown, hg⟩ (c_greater l 1 0) (va_cwS 2 hg (kgS wt6_127 wt6_128 wt1_14 wt6_129) rfl rfl rfl (by decide +kernel) ⟨by decide, by decide⟩) hP hS rfl hl.1 rfl (Nat.le_of_ble_eq_true rfl) dX12_look_118 ⟨by decide, by decide⟩ (fun v108 H locs hw107 hP hS => ?_)
            refine k_top (z := 1) (hw107.trans (by decide +kernel)) ?_
            refine lv_istore (lv' := [(6, .int 1), (7, .int 6), (5, .int (nI i2)), (3, .int 0), (4, .int 1), (2, .int 1), (0, .ref o), (1, .int x)]) hx hb dX12_look_121 hl (by decide) rfl (fun ls hl => ?_)
            refine lv_iinc (v := 7) (lv' := [(7, .int 7), (6, .int 1), (5, .int (nI i2)), (3, .int 0), (4, .int 1), (2, .int 1), (0, .ref o), (1, .int x)]) hx hb dX12_look_123 hl (k := 1) rfl (by decide +kernel) (by decide) rfl (fun ls hl => ?_)
            refine lv_goto (tgt := 96) hx hb dX12_look_126 (by decide) ?_
            refine lv_iload hx hb dX12_look_96 (lv_at hl 0 rfl) ?_
            refine lv_bipush (v := 10) hx hb dX12_look_98 (by decide) ?_
            refine lv_icmp_gt (tgt := 129) hx hb dX12_look_100 (by decide) (fun c109 => absurd c109 (by decide +kernel)) (fun c109 => ?_)
            refine lv_iload hx hb dX12_look_103 (lv_at hl 1 rfl) ?_
            refine lv_aload_n hx hb dX12_look_105 rfl (lv_at hl 6 rfl) ?_
            refine va_get (D := D) (ci := 12) (v := .ref (r 36)) (C := RX12) (T := TX12) (N := 48) hx hb hg inC12 hown hK hP 0 rfl rfl 36 (by decide) (hg _ wt5_196) (fun _ h9 => h9) rfl dX12_look_106 ?_
            refine lv_bipush (v := 11) hx hb dX12_look_109 (by decide) ?_
            refine lv_iload hx hb dX12_look_111 (lv_at hl 2 rfl) ?_
            refine lv_imul hx hb dX12_look_113 ?_
            refine k_top (z := nI (11 * i2)) (pk_mul 11 i2) ?_
            refine lv_iload hx hb dX12_look_114 (lv_at hl 0 rfl) ?_
            refine lv_iadd hx hb dX12_look_116 ?_
            refine k_top (z := nI ((11 * i2) + 7)) (nI_add (11 * i2) 7) ?_
            refine va_iald hx hb hK hP 19 0 rfl rfl (vp_in_nI (by omega) (by decide)) dX12_look_117 ?_
            refine lv_topi (fun t110 et110 => ?_)
            rw [nI_clamp (n := ((11 * i2) + 7)) (by omega)] at et110
            have et110 : t110 = 0 := et110.trans ((zi2 _ (by omega)).trans (ks_nil (by decide) (by decide)))
            subst et110
            refine kN.callS (As := [.int 1, .int 0]) (rest := []) ⟨hx, hb, hml, hown, hg⟩ (c_greater l 1 0) (va_cwS 2 hg (kgS wt6_127 wt6_128 wt1_14 wt6_129) rfl rfl rfl (by decide +kernel) ⟨by decide, by decide⟩) hP hS rfl hl.1 rfl (Nat.le_of_ble_eq_true rfl) dX12_look_118 ⟨by decide, by decide⟩ (fun v112 H locs hw111 hP hS => ?_)
            refine k_top (z := 1) (hw111.trans (by decide +kernel)) ?_
            refine lv_istore (lv' := [(6, .int 1), (7, .int 7), (5, .int (nI i2)), (3, .int 0), (4, .int 1), (2, .int 1), (0, .ref o), (1, .int x)]) hx hb dX12_look_121 hl (by decide) rfl (fun ls hl => ?_)
            refine lv_iinc (v := 8) (lv' := [(7, .int 8), (6, .int 1), (5, .int (nI i2)), (3, .int 0), (4, .int 1), (2, .int 1), (0, .ref o), (1, .int x)]) hx hb dX12_look_123 hl (k := 1) rfl (by decide +kernel) (by decide) rfl (fun ls hl => ?_)
            refine lv_goto (tgt := 96) hx hb dX12_look_126 (by decide) ?_
            refine lv_iload hx hb dX12_look_96 (lv_at hl 0 rfl) ?_
            refine lv_bipush (v := 10) hx hb dX12_look_98 (by decide) ?_
            refine lv_icmp_gt (tgt := 129) hx hb dX12_look_100 (by decide) (fun c113 => absurd c113 (by decide +kernel)) (fun c113 => ?_)
            refine lv_iload hx hb dX12_look_103 (lv_at hl 1 rfl) ?_
            refine lv_aload_n hx hb dX12_look_105 rfl (lv_at hl 6 rfl) ?_
            refine va_get (D := D) (ci := 12) (v := .ref (r 36)) (C := RX12) (T := TX12) (N := 48) hx hb hg inC12 hown hK hP 0 rfl rfl 36 (by decide) (hg _ wt5_196) (fun _ h9 => h9) rfl dX12_look_106 ?_
            refine lv_bipush (v := 11) hx hb dX12_look_109 (by decide) ?_
            refine lv_iload hx hb dX12_look_111 (lv_at hl 2 rfl) ?_
            refine lv_imul hx hb dX12_look_113 ?_
            refine k_top (z := nI (11 * i2)) (pk_mul 11 i2) ?_
            refine lv_iload hx hb dX12_look_114 (lv_at hl 0 rfl) ?_
            refine lv_iadd hx hb dX12_look_116 ?_
            refine k_top (z := nI ((11 * i2) + 8)) (nI_add (11 * i2) 8) ?_
            refine va_iald hx hb hK hP 19 0 rfl rfl (vp_in_nI (by omega) (by decide)) dX12_look_117 ?_
            refine lv_topi (fun t114 et114 => ?_)
            rw [nI_clamp (n := ((11 * i2) + 8)) (by omega)] at et114
            have et114 : t114 = 0 := et114.trans ((zi2 _ (by omega)).trans (ks_nil (by decide) (by decide)))
            subst et114
            refine kN.callS (As := [.int 1, .int 0]) (rest := []) ⟨hx, hb, hml, hown, hg⟩ (c_greater l 1 0) (va_cwS 2 hg (kgS wt6_127 wt6_128 wt1_14 wt6_129) rfl rfl rfl (by decide +kernel) ⟨by decide, by decide⟩) hP hS rfl hl.1 rfl (Nat.le_of_ble_eq_true rfl) dX12_look_118 ⟨by decide, by decide⟩ (fun v116 H locs hw115 hP hS => ?_)
            refine k_top (z := 1) (hw115.trans (by decide +kernel)) ?_
            refine lv_istore (lv' := [(6, .int 1), (7, .int 8), (5, .int (nI i2)), (3, .int 0), (4, .int 1), (2, .int 1), (0, .ref o), (1, .int x)]) hx hb dX12_look_121 hl (by decide) rfl (fun ls hl => ?_)
            refine lv_iinc (v := 9) (lv' := [(7, .int 9), (6, .int 1), (5, .int (nI i2)), (3, .int 0), (4, .int 1), (2, .int 1), (0, .ref o), (1, .int x)]) hx hb dX12_look_123 hl (k := 1) rfl (by decide +kernel) (by decide) rfl (fun ls hl => ?_)
            refine lv_goto (tgt := 96) hx hb dX12_look_126 (by decide) ?_
            refine lv_iload hx hb dX12_look_96 (lv_at hl 0 rfl) ?_
            refine lv_bipush (v := 10) hx hb dX12_look_98 (by decide) ?_
            refine lv_icmp_gt (tgt := 129) hx hb dX12_look_100 (by decide) (fun c117 => absurd c117 (by decide +kernel)) (fun c117 => ?_)
            refine lv_iload hx hb dX12_look_103 (lv_at hl 1 rfl) ?_
            refine lv_aload_n hx hb dX12_look_105 rfl (lv_at hl 6 rfl) ?_
            refine va_get (D := D) (ci := 12) (v := .ref (r 36)) (C := RX12) (T := TX12) (N := 48) hx hb hg inC12 hown hK hP 0 rfl rfl 36 (by decide) (hg _ wt5_196) (fun _ h9 => h9) rfl dX12_look_106 ?_
            refine lv_bipush (v := 11) hx hb dX12_look_109 (by decide) ?_
            refine lv_iload hx hb dX12_look_111 (lv_at hl 2 rfl) ?_
            refine lv_imul hx hb dX12_look_113 ?_
            refine k_top (z := nI (11 * i2)) (pk_mul 11 i2) ?_
            refine lv_iload hx hb dX12_look_114 (lv_at hl 0 rfl) ?_
            refine lv_iadd hx hb dX12_look_116 ?_
            refine k_top (z := nI ((11 * i2) + 9)) (nI_add (11 * i2) 9) ?_
            refine va_iald hx hb hK hP 19 0 rfl rfl (vp_in_nI (by omega) (by decide)) dX12_look_117 ?_
            refine lv_topi (fun t118 et118 => ?_)
            rw [nI_clamp (n := ((11 * i2) + 9)) (by omega)] at et118
            have et118 : t118 = 0 := et118.trans ((zi2 _ (by omega)).trans (ks_nil (by decide) (by decide)))
            subst et118
            refine kN.callS (As := [.int 1, .int 0]) (rest := []) ⟨hx, hb, hml, hown, hg⟩ (c_greater l 1 0) (va_cwS 2 hg (kgS wt6_127 wt6_128 wt1_14 wt6_129) rfl rfl rfl (by decide +kernel) ⟨by decide, by decide⟩) hP hS rfl hl.1 rfl (Nat.le_of_ble_eq_true rfl) dX12_look_118 ⟨by decide, by decide⟩ (fun v120 H locs hw119 hP hS => ?_)
            refine k_top (z := 1) (hw119.trans (by decide +kernel)) ?_
            refine lv_istore (lv' := [(6, .int 1), (7, .int 9), (5, .int (nI i2)), (3, .int 0), (4, .int 1), (2, .int 1), (0, .ref o), (1, .int x)]) hx hb dX12_look_121 hl (by decide) rfl (fun ls hl => ?_)
            refine lv_iinc (v := 10) (lv' := [(7, .int 10), (6, .int 1), (5, .int (nI i2)), (3, .int 0), (4, .int 1), (2, .int 1), (0, .ref o), (1, .int x)]) hx hb dX12_look_123 hl (k := 1) rfl (by decide +kernel) (by decide) rfl (fun ls hl => ?_)
            refine lv_goto (tgt := 96) hx hb dX12_look_126 (by decide) ?_
            refine lv_iload hx hb dX12_look_96 (lv_at hl 0 rfl) ?_
            refine lv_bipush (v := 10) hx hb dX12_look_98 (by decide) ?_
            refine lv_icmp_gt (tgt := 129) hx hb dX12_look_100 (by decide) (fun c121 => absurd c121 (by decide +kernel)) (fun c121 => ?_)
            refine lv_iload hx hb dX12_look_103 (lv_at hl 1 rfl) ?_
            refine lv_aload_n hx hb dX12_look_105 rfl (lv_at hl 6 rfl) ?_
            refine va_get (D := D) (ci := 12) (v := .ref (r 36)) (C := RX12) (T := TX12) (N := 48) hx hb hg inC12 hown hK hP 0 rfl rfl 36 (by decide) (hg _ wt5_196) (fun _ h9 => h9) rfl dX12_look_106 ?_
            refine lv_bipush (v := 11) hx hb dX12_look_109 (by decide) ?_
            refine lv_iload hx hb dX12_look_111 (lv_at hl 2 rfl) ?_
            refine lv_imul hx hb dX12_look_113 ?_
            refine k_top (z := nI (11 * i2)) (pk_mul 11 i2) ?_
            refine lv_iload hx hb dX12_look_114 (lv_at hl 0 rfl) ?_
            refine lv_iadd hx hb dX12_look_116 ?_
            refine k_top (z := nI ((11 * i2) + 10)) (nI_add (11 * i2) 10) ?_
            refine va_iald hx hb hK hP 19 0 rfl rfl (vp_in_nI (by omega) (by decide)) dX12_look_117 ?_
            refine lv_topi (fun t122 et122 => ?_)
            rw [nI_clamp (n := ((11 * i2) + 10)) (by omega)] at et122
            have et122 : t122 = 0 := et122.trans ((zi2 _ (by omega)).trans (ks_nil (by decide) (by decide)))
            subst et122
            refine kN.callS (As := [.int 1, .int 0]) (rest := []) ⟨hx, hb, hml, hown, hg⟩ (c_greater l 1 0) (va_cwS 2 hg (kgS wt6_127 wt6_128 wt1_14 wt6_129) rfl rfl rfl (by decide +kernel) ⟨by decide, by decide⟩) hP hS rfl hl.1 rfl (Nat.le_of_ble_eq_true rfl) dX12_look_118 ⟨by decide, by decide⟩ (fun v124 H locs hw123 hP hS => ?_)
            refine k_top (z := 1) (hw123.trans (by decide +kernel)) ?_
            refine lv_istore (lv' := [(6, .int 1), (7, .int 10), (5, .int (nI i2)), (3, .int 0), (4, .int 1), (2, .int 1), (0, .ref o), (1, .int x)]) hx hb dX12_look_121 hl (by decide) rfl (fun ls hl => ?_)
            refine lv_iinc (v := 11) (lv' := [(7, .int 11), (6, .int 1), (5, .int (nI i2)), (3, .int 0), (4, .int 1), (2, .int 1), (0, .ref o), (1, .int x)]) hx hb dX12_look_123 hl (k := 1) rfl (by decide +kernel) (by decide) rfl (fun ls hl => ?_)
            refine lv_goto (tgt := 96) hx hb dX12_look_126 (by decide) ?_
            refine lv_iload hx hb dX12_look_96 (lv_at hl 0 rfl) ?_
            refine lv_bipush (v := 10) hx hb dX12_look_98 (by decide) ?_
            refine lv_icmp_gt (tgt := 129) hx hb dX12_look_100 (by decide) (fun c125 => ?_) (fun c125 => absurd (by decide +kernel) c125)
            refine lv_iload hx hb dX12_look_129 (lv_at hl 1 rfl) ?_
            refine lv_iload hx hb dX12_look_131 (lv_at hl 4 rfl) ?_
            refine lv_icmp_lt (tgt := 139) hx hb dX12_look_133 (by decide) (fun c126 => absurd c126 (by decide +kernel)) (fun c126 => ?_)
            refine lv_goto (tgt := 146) hx hb dX12_look_136 (by decide) ?_
            refine lv_iinc (v := nI (i2 + 1)) (lv' := [(5, .int (nI (i2 + 1))), (7, .int 11), (6, .int 1), (3, .int 0), (4, .int 1), (2, .int 1), (0, .ref o), (1, .int x)]) hx hb dX12_look_146 hl (k := 2) rfl (nI_1 _) (by decide) rfl (fun ls hl => ?_)
            refine lv_goto (tgt := 79) hx hb dX12_look_149 (by decide) ?_
            exact ih2 (i2 + 1) F2 B2 G2 _ _ _  (by omega) (by omega) zi2 hP hD hS (lv_sub hl [0, 3, 4, 1, 2, 5, 6, 7] rfl)
        exact lp75 (41 - 1) 1 f20 a21 g22 _ _ _  (by omega) (by omega) hw17.2.2.2.2.2 hP hD hS hl
      | succ n ih =>
        intro i F B G H locs ls  hin  z0 z1 z2 z3 z4 zi hP hD hS hl
        have hlt : i < 451 := by omega
        refine lv_iload_n hx hb dX12_look_15 rfl (lv_at hl 0 rfl) ?_
        refine lv_sipush (v := 451) hx hb dX12_look_16 (by decide) ?_
        refine lv_icmp_ge (tgt := 35) hx hb dX12_look_19 (by decide) (fun c127 => absurd c127 (nI_ge (b := 451) hlt (by decide))) (fun c127 => ?_)
        refine lv_aload_n hx hb dX12_look_22 rfl (lv_at hl 2 rfl) ?_
        refine va_get (D := D) (ci := 12) (v := .ref (r 36)) (C := RX12) (T := TX12) (N := 48) hx hb hg inC12 hown hK hP 0 rfl rfl 36 (by decide) (hg _ wt5_196) (fun _ h9 => h9) rfl dX12_look_23 ?_
        refine lv_iload_n hx hb dX12_look_26 rfl (lv_at hl 0 rfl) ?_
        refine lv_iconst (v := 0) hx hb dX12_look_27 (by decide) ?_
        refine va_iast hx hb hK hP hD hS 19 0 rfl rfl (vp_in_nI (by omega) (by decide)) dX12_look_28 (fun H locs hP hD hS => ?_)
        rw [nI_clamp (n := i) (by omega)] at hP hD
        have hP : va_P D vwCl (mW K o r F (va_up B 36 (upd (B 36) i 0)) G) H := hP
        have hD : va_D A (mW K o r F (va_up B 36 (upd (B 36) i 0)) G) := hD
        refine k_gen (P := fun z => va_P D vwCl (mW K o r F z G) H ∧ va_D A (mW K o r F z G)) (va_up B 36 (upd (B 36) i 0)) ⟨hP, hD⟩ (fun a_128 ea_128 hPD => ?_)
        have hP := hPD.1
        have hD := hPD.2
        refine lv_iinc (v := nI (i + 1)) (lv' := [(3, .int (nI (i + 1))), (2, .int 0), (0, .ref o), (1, .int x)]) hx hb dX12_look_29 hl (k := 0) rfl (nI_1 _) (by decide) rfl (fun ls hl => ?_)
        refine lv_goto (tgt := 15) hx hb dX12_look_32 (by decide) ?_
        exact ih (i + 1) F a_128 G _ _ _  (by omega)  ((show a_128 2 102 = B 2 102 from by rw [← ea_128]; rfl).trans z0) ((show a_128 2 103 = B 2 103 from by rw [← ea_128]; rfl).trans z1) ((show a_128 2 104 = B 2 104 from by rw [← ea_128]; rfl).trans z2) ((show a_128 2 99 = B 2 99 from by rw [← ea_128]; rfl).trans z3) ((show a_128 2 100 = B 2 100 from by rw [← ea_128]; rfl).trans z4) (by rw [← ea_128]; exact kz_step zi) hP hD hS (lv_sub hl [0, 1, 2, 3] rfl)
    exact lp4 (451 - 0) 0 f a g _ _ _  (by omega)  h0 h1 h2 h3 h4 (fun j hj => absurd hj (Nat.not_lt_zero j)) hP hD hS hl
  · refine lv_iconst (v := (-1)) hx hb dX12_look_9 (by decide) ?_
    exact kI_ret (v := (-1)) hx hb hr hlocks rfl hK hS dX12_look_10 (f, a, g) hP hD (by rw [if_pos c3])
