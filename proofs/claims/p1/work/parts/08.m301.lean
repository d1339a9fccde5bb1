set_option maxHeartbeats 4000000 in
set_option maxRecDepth 100000 in
theorem c_readsO (l : Launch) {D : va_G} {K : Nat → ClassId} (o : Nat) (r : Nat → Nat) (f : Nat → Int32) (a : Nat → Nat → Int32) (g : Nat → Int64) (h0 : f 13 = 0) (h1 : f 10 = 1)   : kI l yX12_reads (Cond.code yX12_reads cX12_reads 2 (some .boolean) :: kG) (rmD 6 0 0) D (tysK K) [.ref o] (mW K o r f a g) (fun v (u : mS) => v = 0) (fun u => mW K o r u.1 u.2.1 u.2.2) 0 0 := by
  refine kI.of (cc := cX12_reads) (maxL := 2) (ret := (some .boolean)) (by decide) rfl (Nat.le_of_ble_eq_true rfl) ?_
  intro p e s m below meth c A hx hb hr hml hown hts hlocks hnm hK hP hD hS hA ls hl
  have hg : ∀ w ∈ kG, w.before _ s = true := fun w h => hts w (List.mem_cons_of_mem _ h)
  have hown : s.vm.findClass RX12 = some m.cls := hown
  have hl : lv_has ls 2 [(0, .ref o)] := hl
  refine lv_aload_n hx hb dX12_reads_0 rfl (lv_at hl 0 rfl) ?_
  refine lv_aload_n hx hb dX12_reads_1 rfl (lv_at hl 0 rfl) ?_
  refine va_get (D := D) (ci := 12) (v := .int (f 13)) (C := RX12) (T := TX12) (N := 48) hx hb hg inC12 hown hK hP 0 rfl rfl 13 (by decide) (hg _ wt5_173) (fun _ h9 => h9) rfl dX12_reads_2 ?_
  refine k_top (z := 0) h0 ?_
  refine kV.callV (As := [.int 0]) (rest := []) ⟨hx, hb, hml, hown, hg⟩ (c_splits1 l o r f a g h1 ) (cwV 1 hg (kgV wt6_177 wt6_179 wp4_2 wt1_14 wt6_180) rfl rfl rfl (by decide +kernel) ⟨by decide, by decide⟩) hK hP hD hS hA mIs [] rfl (wr := []) rfl rfl rfl (fun i h => by cases h) 0 12 rfl rfl rfl hl.1 rfl (Nat.le_of_ble_eq_true rfl) dX12_reads_5 ⟨by decide, by decide⟩ (fun u2 H locs hw1 hP hD hS => ?_)
  obtain ⟨f4, a5, g6⟩ := u2
  have hP : va_P D vwCl (mW K o r f4 a5 g6) H := hP
  have hD : va_D A (mW K o r f4 a5 g6) := hD
  refine lv_aload_n hx hb dX12_reads_8 rfl (lv_at hl 0 rfl) ?_
  refine lv_iconst (v := 0) hx hb dX12_reads_9 (by decide) ?_
  refine va_put (D := D) (ci := 12) (v := .int 0) (ty := .int) (C := RX12) (T := TX12) (N := 48) hx hb hg inC12 tyX12 tyX12_ok nmX12 hown hK hP hD hS 0 rfl rfl 13 (by decide) (hg _ wt5_173) (fun _ h9 => h9) rfl (by decide +kernel) rfl rfl (Nat.le_of_ble_eq_true rfl) dX12_reads_10 (fun H locs hP hD hS => ?_)
  have hP : va_P D vwCl (mW K o r (upd f4 13 0) a5 g6) H := hP
  have hD : va_D A (mW K o r (upd f4 13 0) a5 g6) := hD
  refine k_gen (P := fun z => va_P D vwCl (mW K o r z a5 g6) H ∧ va_D A (mW K o r z a5 g6)) (upd f4 13 0) ⟨hP, hD⟩ (fun f_7 ef_7 hPD => ?_)
  have hP := hPD.1
  have hD := hPD.2
  refine lv_aload_n hx hb dX12_reads_13 rfl (lv_at hl 0 rfl) ?_
  refine lv_iconst (v := 0) hx hb dX12_reads_14 (by decide) ?_
  refine va_put (D := D) (ci := 12) (v := .int 0) (ty := .int) (C := RX12) (T := TX12) (N := 48) hx hb hg inC12 tyX12 tyX12_ok nmX12 hown hK hP hD hS 0 rfl rfl 19 (by decide) (hg _ wt5_179) (fun _ h9 => h9) rfl (by decide +kernel) rfl rfl (Nat.le_of_ble_eq_true rfl) dX12_reads_15 (fun H locs hP hD hS => ?_)
  have hP : va_P D vwCl (mW K o r (upd f_7 19 0) a5 g6) H := hP
  have hD : va_D A (mW K o r (upd f_7 19 0) a5 g6) := hD
  refine k_gen (P := fun z => va_P D vwCl (mW K o r z a5 g6) H ∧ va_D A (mW K o r z a5 g6)) (upd f_7 19 0) ⟨hP, hD⟩ (fun f_8 ef_8 hPD => ?_)
  have hP := hPD.1
  have hD := hPD.2
  refine lv_aload_n hx hb dX12_reads_18 rfl (lv_at hl 0 rfl) ?_
  refine lv_iconst (v := 0) hx hb dX12_reads_19 (by decide) ?_
  refine va_put (D := D) (ci := 12) (v := .int 0) (ty := .int) (C := RX12) (T := TX12) (N := 48) hx hb hg inC12 tyX12 tyX12_ok nmX12 hown hK hP hD hS 0 rfl rfl 20 (by decide) (hg _ wt5_180) (fun _ h9 => h9) rfl (by decide +kernel) rfl rfl (Nat.le_of_ble_eq_true rfl) dX12_reads_20 (fun H locs hP hD hS => ?_)
  have hP : va_P D vwCl (mW K o r (upd f_8 20 0) a5 g6) H := hP
  have hD : va_D A (mW K o r (upd f_8 20 0) a5 g6) := hD
  refine k_gen (P := fun z => va_P D vwCl (mW K o r z a5 g6) H ∧ va_D A (mW K o r z a5 g6)) (upd f_8 20 0) ⟨hP, hD⟩ (fun f_9 ef_9 hPD => ?_)
  have hP := hPD.1
  have hD := hPD.2
  refine lv_aload_n hx hb dX12_reads_23 rfl (lv_at hl 0 rfl) ?_
  refine lv_iconst (v := (-1)) hx hb dX12_reads_24 (by decide) ?_
  refine va_put (D := D) (ci := 12) (v := .int (-1)) (ty := .int) (C := RX12) (T := TX12) (N := 48) hx hb hg inC12 tyX12 tyX12_ok nmX12 hown hK hP hD hS 0 rfl rfl 21 (by decide) (hg _ wt5_181) (fun _ h9 => h9) rfl (by decide +kernel) rfl rfl (Nat.le_of_ble_eq_true rfl) dX12_reads_25 (fun H locs hP hD hS => ?_)
  have hP : va_P D vwCl (mW K o r (upd f_9 21 (-1)) a5 g6) H := hP
  have hD : va_D A (mW K o r (upd f_9 21 (-1)) a5 g6) := hD
  refine k_gen (P := fun z => va_P D vwCl (mW K o r z a5 g6) H ∧ va_D A (mW K o r z a5 g6)) (upd f_9 21 (-1)) ⟨hP, hD⟩ (fun f_10 ef_10 hPD => ?_)
  have hP := hPD.1
  have hD := hPD.2
  refine lv_aload_n hx hb dX12_reads_28 rfl (lv_at hl 0 rfl) ?_
  refine kV.callV (As := []) (rest := []) ⟨hx, hb, hml, hown, hg⟩ (c_readOneO l o r f_10 a5 g6 (show f_10 21 = (-1) from by rw [← ef_10]; rfl) ((show f_10 19 = f_9 19 from by rw [← ef_10]; rfl).trans ((show f_9 19 = f_8 19 from by rw [← ef_9]; rfl).trans (show f_8 19 = 0 from by rw [← ef_8]; rfl))) hw1.2.2.1 hw1.2.1 ((show f_10 10 = f_9 10 from by rw [← ef_10]; rfl).trans ((show f_9 10 = f_8 10 from by rw [← ef_9]; rfl).trans ((show f_8 10 = f_7 10 from by rw [← ef_8]; rfl).trans ((show f_7 10 = f4 10 from by rw [← ef_7]; rfl).trans hw1.2.2.2)))) ) (cwV 0 hg (kgV wt6_192 wt6_194 wp4_4 wt1_14 wt6_195) rfl rfl rfl (by decide +kernel) ⟨by decide, by decide⟩) hK hP hD hS hA mIs [] rfl (wr := []) rfl rfl rfl (fun i h => by cases h) 0 12 rfl rfl rfl hl.1 rfl (Nat.le_of_ble_eq_true rfl) dX12_reads_29 ⟨by decide, by decide⟩ (fun u12 H locs hw11 hP hD hS => ?_)
  obtain ⟨f14, a15, g16⟩ := u12
  have hP : va_P D vwCl (mW K o r f14 a15 g16) H := hP
  have hD : va_D A (mW K o r f14 a15 g16) := hD
  refine lv_iconst (v := 1) hx hb dX12_reads_32 (by decide) ?_
  refine lv_istore_n (lv' := [(1, .int 1), (0, .ref o)]) hx hb dX12_reads_33 rfl hl (by decide) rfl (fun ls hl => ?_)
  refine lv_aload_n hx hb dX12_reads_34 rfl (lv_at hl 1 rfl) ?_
  refine lv_bipush (v := 59) hx hb dX12_reads_35 (by decide) ?_
  refine kN.callS (As := [.int 59]) (rest := [.ref o]) ⟨hx, hb, hml, hown, hg⟩ (c_sign l ) (va_cwS 1 hg (kgS wt6_220 wt6_221 wt1_14 wt6_222) rfl rfl rfl (by decide +kernel) ⟨by decide, by decide⟩) hP hS rfl hl.1 rfl (Nat.le_of_ble_eq_true rfl) dX12_reads_37 ⟨by decide, by decide⟩ (fun v18 H locs hw17 hP hS => ?_)
  refine k_top (z := 159) (hw17) ?_
  refine kI.callV (As := [.int 159]) (rest := []) ⟨hx, hb, hml, hown, hg⟩ (c_takesBad l o r f14 a15 g16 hw11 159) (cwV 1 hg (kgV wt6_200 wt6_202 wp4_6 wt1_14 wt6_203) rfl rfl rfl (by decide +kernel) ⟨by decide, by decide⟩) hK hP hD hS hA mIs [] rfl (wr := []) rfl rfl rfl (fun i h => by cases h) 0 12 rfl rfl rfl hl.1 rfl (Nat.le_of_ble_eq_true rfl) dX12_reads_40 ⟨by decide, by decide⟩ (fun v21 u20 H locs hw19 hP hD hS => ?_)
  have hP : va_P D vwCl (mW K o r f14 a15 g16) H := hP
  have hD : va_D A (mW K o r f14 a15 g16) := hD
  refine k_top (z := 0) (hw19) ?_
  refine lv_if_eq (tgt := 73) hx hb dX12_reads_43 (by decide) (fun c22 => ?_) (fun c22 => absurd (by decide +kernel) c22)
  refine lv_aload_n hx hb dX12_reads_73 rfl (lv_at hl 1 rfl) ?_
  refine kI.callV (As := []) (rest := []) ⟨hx, hb, hml, hown, hg⟩ (c_fineBad l o r f14 a15 g16 hw11 ) (cwV 0 hg (kgV wt6_204 wt6_206 wp4_7 wt1_14 wt6_207) rfl rfl rfl (by decide +kernel) ⟨by decide, by decide⟩) hK hP hD hS hA mIs [] rfl (wr := []) rfl rfl rfl (fun i h => by cases h) 0 12 rfl rfl rfl hl.1 rfl (Nat.le_of_ble_eq_true rfl) dX12_reads_74 ⟨by decide, by decide⟩ (fun v25 u24 H locs hw23 hP hD hS => ?_)
  have hP : va_P D vwCl (mW K o r f14 a15 g16) H := hP
  have hD : va_D A (mW K o r f14 a15 g16) := hD
  refine k_top (z := 0) (hw23) ?_
  refine lv_if_eq (tgt := 95) hx hb dX12_reads_77 (by decide) (fun c26 => ?_) (fun c26 => absurd (by decide +kernel) c26)
  refine lv_aload_n hx hb dX12_reads_95 rfl (lv_at hl 1 rfl) ?_
  refine lv_aload_n hx hb dX12_reads_96 rfl (lv_at hl 1 rfl) ?_
  refine va_get (D := D) (ci := 12) (v := .int (f14 21)) (C := RX12) (T := TX12) (N := 48) hx hb hg inC12 hown hK hP 0 rfl rfl 21 (by decide) (hg _ wt5_181) (fun _ h9 => h9) rfl dX12_reads_97 ?_
  refine k_top (z := 0) hw11 ?_
  refine va_put (D := D) (ci := 12) (v := .int 0) (ty := .int) (C := RX12) (T := TX12) (N := 48) hx hb hg inC12 tyX12 tyX12_ok nmX12 hown hK hP hD hS 0 rfl rfl 14 (by decide) (hg _ wt5_174) (fun _ h9 => h9) rfl (by decide +kernel) rfl rfl (Nat.le_of_ble_eq_true rfl) dX12_reads_100 (fun H locs hP hD hS => ?_)
  have hP : va_P D vwCl (mW K o r (upd f14 14 0) a15 g16) H := hP
  have hD : va_D A (mW K o r (upd f14 14 0) a15 g16) := hD
  refine k_gen (P := fun z => va_P D vwCl (mW K o r z a15 g16) H ∧ va_D A (mW K o r z a15 g16)) (upd f14 14 0) ⟨hP, hD⟩ (fun f_27 ef_27 hPD => ?_)
  have hP := hPD.1
  have hD := hPD.2
  refine lv_aload_n hx hb dX12_reads_103 rfl (lv_at hl 1 rfl) ?_
  refine kI.callV (As := []) (rest := []) ⟨hx, hb, hml, hown, hg⟩ (c_fineBad l o r f_27 a15 g16 ((show f_27 21 = f14 21 from by rw [← ef_27]; rfl).trans hw11) ) (cwV 0 hg (kgV wt6_204 wt6_206 wp4_7 wt1_14 wt6_207) rfl rfl rfl (by decide +kernel) ⟨by decide, by decide⟩) hK hP hD hS hA mIs [] rfl (wr := []) rfl rfl rfl (fun i h => by cases h) 0 12 rfl rfl rfl hl.1 rfl (Nat.le_of_ble_eq_true rfl) dX12_reads_104 ⟨by decide, by decide⟩ (fun v30 u29 H locs hw28 hP hD hS => ?_)
  have hP : va_P D vwCl (mW K o r f_27 a15 g16) H := hP
  have hD : va_D A (mW K o r f_27 a15 g16) := hD
  refine k_top (z := 0) (hw28) ?_
  exact kI_ret (v := 0) hx hb hr hlocks (by decide +kernel) hK hS dX12_reads_107 (f_27, a15, g16) hP hD rfl
set_option maxHeartbeats 4000000 in
set_option maxRecDepth 100000 in
theorem c_readsAs0 (l : Launch) {D : va_G} {K : Nat → ClassId} (o : Nat) (r : Nat → Nat) (f : Nat → Int32) (a : Nat → Nat → Int32) (g : Nat → Int64) (h0 : f 13 = 0)   : kI l yX12_readsAs (Cond.code yX12_readsAs cX12_readsAs 2 (some .boolean) :: kG) (rmD 7 0 0) D (tysK K) [.ref o, .int 0] (mW K o r f a g) (fun v (u : mS) => v = 0) (fun u => mW K o r u.1 u.2.1 u.2.2) 0 0 := by
  refine kI.of (cc := cX12_readsAs) (maxL := 2) (ret := (some .boolean)) (by decide) rfl (Nat.le_of_ble_eq_true rfl) ?_
  intro p e s m below meth c A hx hb hr hml hown hts hlocks hnm hK hP hD hS hA ls hl
  have hg : ∀ w ∈ kG, w.before _ s = true := fun w h => hts w (List.mem_cons_of_mem _ h)
  have hown : s.vm.findClass RX12 = some m.cls := hown
  have hl : lv_has ls 2 [(0, .ref o), (1, .int 0)] := hl
  refine lv_aload_n hx hb dX12_readsAs_0 rfl (lv_at hl 0 rfl) ?_
  refine lv_iload_n hx hb dX12_readsAs_1 rfl (lv_at hl 1 rfl) ?_
  refine va_put (D := D) (ci := 12) (v := .int 0) (ty := .boolean) (C := RX12) (T := TX12) (N := 48) hx hb hg inC12 tyX12 tyX12_ok nmX12 hown hK hP hD hS 0 rfl rfl 10 (by decide) (hg _ wt5_170) (fun _ h9 => h9) rfl (by decide +kernel) rfl rfl (Nat.le_of_ble_eq_true rfl) dX12_readsAs_2 (fun H locs hP hD hS => ?_)
  have hP : va_P D vwCl (mW K o r (upd f 10 0) a g) H := hP
  have hD : va_D A (mW K o r (upd f 10 0) a g) := hD
  refine k_gen (P := fun z => va_P D vwCl (mW K o r z a g) H ∧ va_D A (mW K o r z a g)) (upd f 10 0) ⟨hP, hD⟩ (fun f_1 ef_1 hPD => ?_)
  have hP := hPD.1
  have hD := hPD.2
  refine lv_aload_n hx hb dX12_readsAs_5 rfl (lv_at hl 0 rfl) ?_
  refine lv_iload_n hx hb dX12_readsAs_6 rfl (lv_at hl 1 rfl) ?_
  refine lv_if_eq (tgt := 15) hx hb dX12_readsAs_7 (by decide) (fun c2 => ?_) (fun c2 => absurd (by decide +kernel) c2)
  refine lv_bipush (v := 9) hx hb dX12_readsAs_15 (by decide) ?_
  refine va_put (D := D) (ci := 12) (v := .int 9) (ty := .int) (C := RX12) (T := TX12) (N := 48) hx hb hg inC12 tyX12 tyX12_ok nmX12 hown hK hP hD hS 0 rfl rfl 8 (by decide) (hg _ wt5_168) (fun _ h9 => h9) rfl (by decide +kernel) rfl rfl (Nat.le_of_ble_eq_true rfl) dX12_readsAs_17 (fun H locs hP hD hS => ?_)
  have hP : va_P D vwCl (mW K o r (upd f_1 8 9) a g) H := hP
  have hD : va_D A (mW K o r (upd f_1 8 9) a g) := hD
  refine k_gen (P := fun z => va_P D vwCl (mW K o r z a g) H ∧ va_D A (mW K o r z a g)) (upd f_1 8 9) ⟨hP, hD⟩ (fun f_3 ef_3 hPD => ?_)
  have hP := hPD.1
  have hD := hPD.2
  refine lv_aload_n hx hb dX12_readsAs_20 rfl (lv_at hl 0 rfl) ?_
  refine lv_iload_n hx hb dX12_readsAs_21 rfl (lv_at hl 1 rfl) ?_
  refine lv_if_eq (tgt := 30) hx hb dX12_readsAs_22 (by decide) (fun c4 => ?_) (fun c4 => absurd (by decide +kernel) c4)
  refine lv_bipush (v := 18) hx hb dX12_readsAs_30 (by decide) ?_
  refine va_put (D := D) (ci := 12) (v := .int 18) (ty := .int) (C := RX12) (T := TX12) (N := 48) hx hb hg inC12 tyX12 tyX12_ok nmX12 hown hK hP hD hS 0 rfl rfl 9 (by decide) (hg _ wt5_169) (fun _ h9 => h9) rfl (by decide +kernel) rfl rfl (Nat.le_of_ble_eq_true rfl) dX12_readsAs_32 (fun H locs hP hD hS => ?_)
  have hP : va_P D vwCl (mW K o r (upd f_3 9 18) a g) H := hP
  have hD : va_D A (mW K o r (upd f_3 9 18) a g) := hD
  refine k_gen (P := fun z => va_P D vwCl (mW K o r z a g) H ∧ va_D A (mW K o r z a g)) (upd f_3 9 18) ⟨hP, hD⟩ (fun f_5 ef_5 hPD => ?_)
  have hP := hPD.1
  have hD := hPD.2
  refine lv_aload_n hx hb dX12_readsAs_35 rfl (lv_at hl 0 rfl) ?_
  refine kI.callV (As := []) (rest := []) ⟨hx, hb, hml, hown, hg⟩ (c_readsL l o r f_5 a g ((show f_5 13 = f_3 13 from by rw [← ef_5]; rfl).trans ((show f_3 13 = f_1 13 from by rw [← ef_3]; rfl).trans ((show f_1 13 = f 13 from by rw [← ef_1]; rfl).trans h0))) ((show f_5 10 = f_3 10 from by rw [← ef_5]; rfl).trans ((show f_3 10 = f_1 10 from by rw [← ef_3]; rfl).trans (show f_1 10 = 0 from by rw [← ef_1]; rfl))) ) (cwV 0 hg (kgV wt6_173 wt6_175 wp4_1 wt1_14 wt6_176) rfl rfl rfl (by decide +kernel) ⟨by decide, by decide⟩) hK hP hD hS hA mIs [] rfl (wr := []) rfl rfl rfl (fun i h => by cases h) 0 12 rfl rfl rfl hl.1 rfl (Nat.le_of_ble_eq_true rfl) dX12_readsAs_36 ⟨by decide, by decide⟩ (fun v8 u7 H locs hw6 hP hD hS => ?_)
  obtain ⟨f9, a10, g11⟩ := u7
  have hP : va_P D vwCl (mW K o r f9 a10 g11) H := hP
  have hD : va_D A (mW K o r f9 a10 g11) := hD
  refine k_top (z := 0) (hw6) ?_
  exact kI_ret (v := 0) hx hb hr hlocks (by decide +kernel) hK hS dX12_readsAs_39 (f9, a10, g11) hP hD rfl
set_option maxHeartbeats 4000000 in
set_option maxRecDepth 100000 in
theorem c_readsAs1 (l : Launch) {D : va_G} {K : Nat → ClassId} (o : Nat) (r : Nat → Nat) (f : Nat → Int32) (a : Nat → Nat → Int32) (g : Nat → Int64) (h0 : f 13 = 0)   : kI l yX12_readsAs (Cond.code yX12_readsAs cX12_readsAs 2 (some .boolean) :: kG) (rmD 7 0 0) D (tysK K) [.ref o, .int 1] (mW K o r f a g) (fun v (u : mS) => v = 0) (fun u => mW K o r u.1 u.2.1 u.2.2) 0 0 := by
  refine kI.of (cc := cX12_readsAs) (maxL := 2) (ret := (some .boolean)) (by decide) rfl (Nat.le_of_ble_eq_true rfl) ?_
  intro p e s m below meth c A hx hb hr hml hown hts hlocks hnm hK hP hD hS hA ls hl
  have hg : ∀ w ∈ kG, w.before _ s = true := fun w h => hts w (List.mem_cons_of_mem _ h)
  have hown : s.vm.findClass RX12 = some m.cls := hown
  have hl : lv_has ls 2 [(0, .ref o), (1, .int 1)] := hl
  refine lv_aload_n hx hb dX12_readsAs_0 rfl (lv_at hl 0 rfl) ?_
  refine lv_iload_n hx hb dX12_readsAs_1 rfl (lv_at hl 1 rfl) ?_
  refine va_put (D := D) (ci := 12) (v := .int 1) (ty := .boolean) (C := RX12) (T := TX12) (N := 48) hx hb hg inC12 tyX12 tyX12_ok nmX12 hown hK hP hD hS 0 rfl rfl 10 (by decide) (hg _ wt5_170) (fun _ h9 => h9) rfl (by decide +kernel) rfl rfl (Nat.le_of_ble_eq_true rfl) dX12_readsAs_2 (fun H locs hP hD hS => ?_)
  have hP : va_P D vwCl (mW K o r (upd f 10 1) a g) H := hP
  have hD : va_D A (mW K o r (upd f 10 1) a g) := hD
  refine k_gen (P := fun z => va_P D vwCl (mW K o r z a g) H ∧ va_D A (mW K o r z a g)) (upd f 10 1) ⟨hP, hD⟩ (fun f_1 ef_1 hPD => ?_)
  have hP := hPD.1
  have hD := hPD.2
  refine lv_aload_n hx hb dX12_readsAs_5 rfl (lv_at hl 0 rfl) ?_
  refine lv_iload_n hx hb dX12_readsAs_6 rfl (lv_at hl 1 rfl) ?_
  refine lv_if_eq (tgt := 15) hx hb dX12_readsAs_7 (by decide) (fun c2 => absurd c2 (by decide +kernel)) (fun c2 => ?_)
  refine lv_bipush (v := 16) hx hb dX12_readsAs_10 (by decide) ?_
  refine lv_goto (tgt := 17) hx hb dX12_readsAs_12 (by decide) ?_
  refine va_put (D := D) (ci := 12) (v := .int 16) (ty := .int) (C := RX12) (T := TX12) (N := 48) hx hb hg inC12 tyX12 tyX12_ok nmX12 hown hK hP hD hS 0 rfl rfl 8 (by decide) (hg _ wt5_168) (fun _ h9 => h9) rfl (by decide +kernel) rfl rfl (Nat.le_of_ble_eq_true rfl) dX12_readsAs_17 (fun H locs hP hD hS => ?_)
  have hP : va_P D vwCl (mW K o r (upd f_1 8 16) a g) H := hP
  have hD : va_D A (mW K o r (upd f_1 8 16) a g) := hD
  refine k_gen (P := fun z => va_P D vwCl (mW K o r z a g) H ∧ va_D A (mW K o r z a g)) (upd f_1 8 16) ⟨hP, hD⟩ (fun f_3 ef_3 hPD => ?_)
  have hP := hPD.1
  have hD := hPD.2
  refine lv_aload_n hx hb dX12_readsAs_20 rfl (lv_at hl 0 rfl) ?_
  refine lv_iload_n hx hb dX12_readsAs_21 rfl (lv_at hl 1 rfl) ?_
  refine lv_if_eq (tgt := 30) hx hb dX12_readsAs_22 (by decide) (fun c4 => absurd c4 (by decide +kernel)) (fun c4 => ?_)
  refine lv_bipush (v := 22) hx hb dX12_readsAs_25 (by decide) ?_
  refine lv_goto (tgt := 32) hx hb dX12_readsAs_27 (by decide) ?_
  refine va_put (D := D) (ci := 12) (v := .int 22) (ty := .int) (C := RX12) (T := TX12) (N := 48) hx hb hg inC12 tyX12 tyX12_ok nmX12 hown hK hP hD hS 0 rfl rfl 9 (by decide) (hg _ wt5_169) (fun _ h9 => h9) rfl (by decide +kernel) rfl rfl (Nat.le_of_ble_eq_true rfl) dX12_readsAs_32 (fun H locs hP hD hS => ?_)
  have hP : va_P D vwCl (mW K o r (upd f_3 9 22) a g) H := hP
  have hD : va_D A (mW K o r (upd f_3 9 22) a g) := hD
  refine k_gen (P := fun z => va_P D vwCl (mW K o r z a g) H ∧ va_D A (mW K o r z a g)) (upd f_3 9 22) ⟨hP, hD⟩ (fun f_5 ef_5 hPD => ?_)
  have hP := hPD.1
  have hD := hPD.2
  refine lv_aload_n hx hb dX12_readsAs_35 rfl (lv_at hl 0 rfl) ?_
  refine kI.callV (As := []) (rest := []) ⟨hx, hb, hml, hown, hg⟩ (c_readsO l o r f_5 a g ((show f_5 13 = f_3 13 from by rw [← ef_5]; rfl).trans ((show f_3 13 = f_1 13 from by rw [← ef_3]; rfl).trans ((show f_1 13 = f 13 from by rw [← ef_1]; rfl).trans h0))) ((show f_5 10 = f_3 10 from by rw [← ef_5]; rfl).trans ((show f_3 10 = f_1 10 from by rw [← ef_3]; rfl).trans (show f_1 10 = 1 from by rw [← ef_1]; rfl))) ) (cwV 0 hg (kgV wt6_173 wt6_175 wp4_1 wt1_14 wt6_176) rfl rfl rfl (by decide +kernel) ⟨by decide, by decide⟩) hK hP hD hS hA mIs [] rfl (wr := []) rfl rfl rfl (fun i h => by cases h) 0 12 rfl rfl rfl hl.1 rfl (Nat.le_of_ble_eq_true rfl) dX12_readsAs_36 ⟨by decide, by decide⟩ (fun v8 u7 H locs hw6 hP hD hS => ?_)
  obtain ⟨f9, a10, g11⟩ := u7
  have hP : va_P D vwCl (mW K o r f9 a10 g11) H := hP
  have hD : va_D A (mW K o r f9 a10 g11) := hD
  refine k_top (z := 0) (hw6) ?_
  exact kI_ret (v := 0) hx hb hr hlocks (by decide +kernel) hK hS dX12_readsAs_39 (f9, a10, g11) hP hD rfl
set_option maxHeartbeats 4000000 in
set_option maxRecDepth 100000 in
theorem c_law (l : Launch) {D : va_G} {K : Nat → ClassId} (o : Nat) (r : Nat → Nat) (f : Nat → Int32) (a : Nat → Nat → Int32) (g : Nat → Int64) (h0 : f 13 = 0) (h1 : a 2 105 = 0)   : kI l yX12_law (Cond.code yX12_law cX12_law 1 (some .int) :: kG) (rmD 8 0 0) D (tysK K) [.ref o] (mW K o r f a g) (fun v (u : mS) => v = (-6)) (fun u => mW K o r u.1 u.2.1 u.2.2) 0 0 := by
  refine kI.of (cc := cX12_law) (maxL := 1) (ret := (some .int)) (by decide) rfl (Nat.le_of_ble_eq_true rfl) ?_
  intro p e s m below meth c A hx hb hr hml hown hts hlocks hnm hK hP hD hS hA ls hl
  have hg : ∀ w ∈ kG, w.before _ s = true := fun w h => hts w (List.mem_cons_of_mem _ h)
  have hown : s.vm.findClass RX12 = some m.cls := hown
  have hl : lv_has ls 1 [(0, .ref o)] := hl
  refine lv_aload_n hx hb dX12_law_0 rfl (lv_at hl 0 rfl) ?_
  refine va_get (D := D) (ci := 12) (v := .ref (r 2)) (C := RX12) (T := TX12) (N := 48) hx hb hg inC12 hown hK hP 0 rfl rfl 2 (by decide) (hg _ wt5_162) (fun _ h9 => h9) rfl dX12_law_1 ?_
  refine lv_bipush (v := 105) hx hb dX12_law_4 (by decide) ?_
  refine va_iald hx hb hK hP 2 0 rfl rfl (k_in (by decide +kernel)) dX12_law_6 ?_
  refine k_top (z := 0) (by rw [cl_105]; exact h1) ?_
  refine lv_bipush (v := 6) hx hb dX12_law_7 (by decide) ?_
  refine lv_icmp_ne (tgt := 24) hx hb dX12_law_9 (by decide) (fun c1 => ?_) (fun c1 => absurd c1 (by decide +kernel))
  refine lv_aload_n hx hb dX12_law_24 rfl (lv_at hl 0 rfl) ?_
  refine lv_iconst (v := 0) hx hb dX12_law_25 (by decide) ?_
  refine kI.callV (As := [.int 0]) (rest := []) ⟨hx, hb, hml, hown, hg⟩ (c_readsAs0 l o r f a g h0 ) (cwV 1 hg (kgV wt6_169 wt6_171 wp4_0 wt1_14 wt6_172) rfl rfl rfl (by decide +kernel) ⟨by decide, by decide⟩) hK hP hD hS hA mIs [] rfl (wr := []) rfl rfl rfl (fun i h => by cases h) 0 12 rfl rfl rfl hl.1 rfl (Nat.le_of_ble_eq_true rfl) dX12_law_26 ⟨by decide, by decide⟩ (fun v4 u3 H locs hw2 hP hD hS => ?_)
  obtain ⟨f5, a6, g7⟩ := u3
  have hP : va_P D vwCl (mW K o r f5 a6 g7) H := hP
  have hD : va_D A (mW K o r f5 a6 g7) := hD
  refine k_top (z := 0) (hw2) ?_
  refine lv_if_ne (tgt := 39) hx hb dX12_law_29 (by decide) (fun c8 => absurd (by decide +kernel) c8) (fun c8 => ?_)
  refine lv_aload_n hx hb dX12_law_32 rfl (lv_at hl 0 rfl) ?_
  refine lv_bipush (v := (-6)) hx hb dX12_law_33 (by decide) ?_
  refine kI.callV (As := [.int (-6)]) (rest := []) ⟨hx, hb, hml, hown, hg⟩ (c_refuses6 l o r f5 a6 g7  ) (cwV 1 hg (kgV wt6_72 wt6_74 wp3_5 wt1_14 wt6_75) rfl rfl rfl (by decide +kernel) ⟨by decide, by decide⟩) hK hP hD hS hA mIs [] rfl (wr := []) rfl rfl rfl (fun i h => by cases h) 0 12 rfl rfl rfl hl.1 rfl (Nat.le_of_ble_eq_true rfl) dX12_law_35 ⟨by decide, by decide⟩ (fun v11 u10 H locs hw9 hP hD hS => ?_)
  obtain ⟨f12, a13, g14⟩ := u10
  have hP : va_P D vwCl (mW K o r f12 a13 g14) H := hP
  have hD : va_D A (mW K o r f12 a13 g14) := hD
  refine k_top (z := (-6)) (hw9) ?_
  exact kI_ret (v := (-6)) hx hb hr hlocks rfl hK hS dX12_law_38 (f12, a13, g14) hP hD rfl
set_option maxHeartbeats 4000000 in
set_option maxRecDepth 100000 in
theorem c_orders (l : Launch) {D : va_G} {K : Nat → ClassId} (o : Nat) (r : Nat → Nat) (f : Nat → Int32) (a : Nat → Nat → Int32) (g : Nat → Int64) (h0 : f 13 = 0)   : kI l yX12_orders (Cond.code yX12_orders cX12_orders 5 (some .int) :: kG) (rmD 8 0 0) D (tysK K) [.ref o] (mW K o r f a g) (fun v (u : mS) => v = (-6)) (fun u => mW K o r u.1 u.2.1 u.2.2) 0 0 := by
  refine kI.of (cc := cX12_orders) (maxL := 5) (ret := (some .int)) (by decide) rfl (Nat.le_of_ble_eq_true rfl) ?_
  intro p e s m below meth c A hx hb hr hml hown hts hlocks hnm hK hP hD hS hA ls hl
  have hg : ∀ w ∈ kG, w.before _ s = true := fun w h => hts w (List.mem_cons_of_mem _ h)
  have hown : s.vm.findClass RX12 = some m.cls := hown
  have hl : lv_has ls 5 [(0, .ref o)] := hl
  refine lv_aload_n hx hb dX12_orders_0 rfl (lv_at hl 0 rfl) ?_
  refine lv_iconst (v := (-1)) hx hb dX12_orders_1 (by decide) ?_
  refine va_put (D := D) (ci := 12) (v := .int (-1)) (ty := .int) (C := RX12) (T := TX12) (N := 48) hx hb hg inC12 tyX12 tyX12_ok nmX12 hown hK hP hD hS 0 rfl rfl 37 (by decide) (hg _ wt5_197) (fun _ h9 => h9) rfl (by decide +kernel) rfl rfl (Nat.le_of_ble_eq_true rfl) dX12_orders_2 (fun H locs hP hD hS => ?_)
  have hP : va_P D vwCl (mW K o r (upd f 37 (-1)) a g) H := hP
  have hD : va_D A (mW K o r (upd f 37 (-1)) a g) := hD
  refine k_gen (P := fun z => va_P D vwCl (mW K o r z a g) H ∧ va_D A (mW K o r z a g)) (upd f 37 (-1)) ⟨hP, hD⟩ (fun f_1 ef_1 hPD => ?_)
  have hP := hPD.1
  have hD := hPD.2
  refine lv_aload_n hx hb dX12_orders_5 rfl (lv_at hl 0 rfl) ?_
  refine lv_iconst (v := 1) hx hb dX12_orders_6 (by decide) ?_
  refine kI.callV (As := [.int 1]) (rest := []) ⟨hx, hb, hml, hown, hg⟩ (c_readsAs1 l o r f_1 a g ((show f_1 13 = f 13 from by rw [← ef_1]; rfl).trans h0) ) (cwV 1 hg (kgV wt6_169 wt6_171 wp4_0 wt1_14 wt6_172) rfl rfl rfl (by decide +kernel) ⟨by decide, by decide⟩) hK hP hD hS hA mIs [] rfl (wr := []) rfl rfl rfl (fun i h => by cases h) 0 12 rfl rfl rfl hl.1 rfl (Nat.le_of_ble_eq_true rfl) dX12_orders_7 ⟨by decide, by decide⟩ (fun v4 u3 H locs hw2 hP hD hS => ?_)
  obtain ⟨f5, a6, g7⟩ := u3
  have hP : va_P D vwCl (mW K o r f5 a6 g7) H := hP
  have hD : va_D A (mW K o r f5 a6 g7) := hD
  refine k_top (z := 0) (hw2) ?_
  refine lv_if_ne (tgt := 20) hx hb dX12_orders_10 (by decide) (fun c8 => absurd (by decide +kernel) c8) (fun c8 => ?_)
  refine lv_aload_n hx hb dX12_orders_13 rfl (lv_at hl 0 rfl) ?_
  refine lv_bipush (v := (-6)) hx hb dX12_orders_14 (by decide) ?_
  refine kI.callV (As := [.int (-6)]) (rest := []) ⟨hx, hb, hml, hown, hg⟩ (c_refuses6 l o r f5 a6 g7  ) (cwV 1 hg (kgV wt6_72 wt6_74 wp3_5 wt1_14 wt6_75) rfl rfl rfl (by decide +kernel) ⟨by decide, by decide⟩) hK hP hD hS hA mIs [] rfl (wr := []) rfl rfl rfl (fun i h => by cases h) 0 12 rfl rfl rfl hl.1 rfl (Nat.le_of_ble_eq_true rfl) dX12_orders_16 ⟨by decide, by decide⟩ (fun v11 u10 H locs hw9 hP hD hS => ?_)
  obtain ⟨f12, a13, g14⟩ := u10
  have hP : va_P D vwCl (mW K o r f12 a13 g14) H := hP
  have hD : va_D A (mW K o r f12 a13 g14) := hD
  refine k_top (z := (-6)) (hw9) ?_
  exact kI_ret (v := (-6)) hx hb hr hlocks rfl hK hS dX12_orders_19 (f12, a13, g14) hP hD rfl
set_option maxHeartbeats 4000000 in
set_option maxRecDepth 100000 in
theorem c_keeps3 (l : Launch) {D : va_G} {K : Nat → ClassId} (o : Nat) (r : Nat → Nat) (f : Nat → Int32) (a : Nat → Nat → Int32) (g : Nat → Int64) (h0 : a 2 102 = 0) (h1 : a 2 103 = 0) (h2 : a 2 22 = 0) (h3 : f 33 = 0)   : kV l yX12_keeps (Cond.code yX12_keeps cX12_keeps 4 none :: kG) (rmD 1 0 0) D (tysK K) [.ref o, .int 3] (mW K o r f a g) (fun (u : mS) => u.2.1 2 102 = 0 ∧ u.2.1 2 103 = 0 ∧ u.2.1 2 22 = 0) (fun u => mW K o r u.1 u.2.1 u.2.2) 0 0 := by
  refine kV.of (cc := cX12_keeps) (maxL := 4) (ret := none) (by decide) rfl (Nat.le_of_ble_eq_true rfl) ?_
  intro p e s m below meth c A hx hb hr hml hown hts hlocks hnm hK hP hD hS hA ls hl
  have hg : ∀ w ∈ kG, w.before _ s = true := fun w h => hts w (List.mem_cons_of_mem _ h)
  have hown : s.vm.findClass RX12 = some m.cls := hown
  have hl : lv_has ls 4 [(0, .ref o), (1, .int 3)] := hl
  refine lv_bipush (v := 24) hx hb dX12_keeps_0 (by decide) ?_
  refine lv_istore_n (lv' := [(2, .int 24), (0, .ref o), (1, .int 3)]) hx hb dX12_keeps_2 rfl hl (by decide) rfl (fun ls hl => ?_)
  refine lv_aload_n hx hb dX12_keeps_3 rfl (lv_at hl 1 rfl) ?_
  refine va_get (D := D) (ci := 12) (v := .int (f 33)) (C := RX12) (T := TX12) (N := 48) hx hb hg inC12 hown hK hP 0 rfl rfl 33 (by decide) (hg _ wt5_193) (fun _ h9 => h9) rfl dX12_keeps_4 ?_
  refine k_top (z := 0) h3 ?_
  refine lv_bipush (v := 16) hx hb dX12_keeps_7 (by decide) ?_
  refine lv_icmp_ne (tgt := 52) hx hb dX12_keeps_9 (by decide) (fun c1 => ?_) (fun c1 => absurd c1 (by decide +kernel))
  refine lv_iconst (v := 0) hx hb dX12_keeps_52 (by decide) ?_
  refine lv_istore_n (lv' := [(3, .int 0), (2, .int 24), (0, .ref o), (1, .int 3)]) hx hb dX12_keeps_53 rfl hl (by decide) rfl (fun ls hl => ?_)
  have lp2 : ∀ (n i : Nat) (F : Nat → Int32) (B : Nat → Nat → Int32) (G : Nat → Int64) (H : Heap) (locs : List Loc) (ls : Array Slot), i + n = 23 →  B 2 102 = 0 → B 2 103 = 0 → B 2 22 = 0 → F 33 = 0 → va_P D vwCl (mW K o r F B G) H → va_D A (mW K o r F B G) → va_S A s.heap H locs → lv_has ls 4 [(3, .int (nI i)), (2, .int 24), (0, .ref o), (1, .int 3)] → W p l e (rmD 1 0 0) s m ([.ref o, .int 3] : List Value).toArray below meth c H locs 0 0 (kQv D (tysK K) (fun (u : mS) => u.2.1 2 102 = 0 ∧ u.2.1 2 103 = 0 ∧ u.2.1 2 22 = 0) (fun u => mW K o r u.1 u.2.1 u.2.2) A below ([.ref o, .int 3] : List Value).toArray s 0 0) (F0 m 54 ls []) := by
    intro n
    induction n with
    | zero =>
      intro i F B G H locs ls  hin  z0 z1 z2 z3 hP hD hS hl
      obtain rfl : 23 = i := by omega
      have hl : lv_has ls 4 [(3, .int 23), (2, .int 24), (0, .ref o), (1, .int 3)] := hl
      refine lv_iload_n hx hb dX12_keeps_54 rfl (lv_at hl 0 rfl) ?_
      refine lv_bipush (v := 23) hx hb dX12_keeps_55 (by decide) ?_
      refine lv_icmp_ge (tgt := 85) hx hb dX12_keeps_57 (by decide) (fun c3 => ?_) (fun c3 => absurd (by decide +kernel) c3)
      refine lv_aload_n hx hb dX12_keeps_85 rfl (lv_at hl 2 rfl) ?_
      refine va_get (D := D) (ci := 12) (v := .ref (r 31)) (C := RX12) (T := TX12) (N := 48) hx hb hg inC12 hown hK hP 0 rfl rfl 31 (by decide) (hg _ wt5_191) (fun _ h9 => h9) rfl dX12_keeps_86 ?_
      refine lv_iload_n hx hb dX12_keeps_89 rfl (lv_at hl 1 rfl) ?_
      refine lv_aload_n hx hb dX12_keeps_90 rfl (lv_at hl 2 rfl) ?_
      refine va_get (D := D) (ci := 12) (v := .int (F 33)) (C := RX12) (T := TX12) (N := 48) hx hb hg inC12 hown hK hP 0 rfl rfl 33 (by decide) (hg _ wt5_193) (fun _ h9 => h9) rfl dX12_keeps_91 ?_
      refine k_top (z := 0) z3 ?_
      refine lv_imul hx hb dX12_keeps_94 ?_
      refine k_top (z := 0) (by decide +kernel) ?_
      refine lv_bipush (v := 23) hx hb dX12_keeps_95 (by decide) ?_
      refine lv_iadd hx hb dX12_keeps_97 ?_
      refine k_top (z := 23) (by decide +kernel) ?_
      refine lv_iload_n hx hb dX12_keeps_98 rfl (lv_at hl 3 rfl) ?_
      refine va_iast hx hb hK hP hD hS 15 0 rfl rfl (k_in (by decide +kernel)) dX12_keeps_99 (fun H locs hP hD hS => ?_)
      rw [cl_23] at hP hD
      have hP : va_P D vwCl (mW K o r F (va_up B 31 (upd (B 31) 23 3)) G) H := hP
      have hD : va_D A (mW K o r F (va_up B 31 (upd (B 31) 23 3)) G) := hD
      refine k_gen (P := fun z => va_P D vwCl (mW K o r F z G) H ∧ va_D A (mW K o r F z G)) (va_up B 31 (upd (B 31) 23 3)) ⟨hP, hD⟩ (fun a_4 ea_4 hPD => ?_)
      have hP := hPD.1
      have hD := hPD.2
      refine lv_aload_n hx hb dX12_keeps_100 rfl (lv_at hl 2 rfl) ?_
      refine lv_dup hx hb dX12_keeps_101 rfl ?_
      refine va_get (D := D) (ci := 12) (v := .int (F 33)) (C := RX12) (T := TX12) (N := 48) hx hb hg inC12 hown hK hP 0 rfl rfl 33 (by decide) (hg _ wt5_193) (fun _ h9 => h9) rfl dX12_keeps_102 ?_
      refine k_top (z := 0) z3 ?_
      refine lv_iconst (v := 1) hx hb dX12_keeps_105 (by decide) ?_
      refine lv_iadd hx hb dX12_keeps_106 ?_
      refine k_top (z := 1) (by decide +kernel) ?_
      refine va_put (D := D) (ci := 12) (v := .int 1) (ty := .int) (C := RX12) (T := TX12) (N := 48) hx hb hg inC12 tyX12 tyX12_ok nmX12 hown hK hP hD hS 0 rfl rfl 33 (by decide) (hg _ wt5_193) (fun _ h9 => h9) rfl (by decide +kernel) rfl rfl (Nat.le_of_ble_eq_true rfl) dX12_keeps_107 (fun H locs hP hD hS => ?_)
      have hP : va_P D vwCl (mW K o r (upd F 33 1) a_4 G) H := hP
      have hD : va_D A (mW K o r (upd F 33 1) a_4 G) := hD
      refine k_gen (P := fun z => va_P D vwCl (mW K o r z a_4 G) H ∧ va_D A (mW K o r z a_4 G)) (upd F 33 1) ⟨hP, hD⟩ (fun f_5 ef_5 hPD => ?_)
      have hP := hPD.1
      have hD := hPD.2
      exact kV_ret hx hb hr hlocks hK hS dX12_keeps_110 (f_5, a_4, G) hP hD ⟨((show a_4 2 102 = B 2 102 from by rw [← ea_4]; rfl).trans z0), ((show a_4 2 103 = B 2 103 from by rw [← ea_4]; rfl).trans z1), ((show a_4 2 22 = B 2 22 from by rw [← ea_4]; rfl).trans z2)⟩
    | succ n ih =>
      intro i F B G H locs ls  hin  z0 z1 z2 z3 hP hD hS hl
      have hlt : i < 23 := by omega
      refine lv_iload_n hx hb dX12_keeps_54 rfl (lv_at hl 0 rfl) ?_
      refine lv_bipush (v := 23) hx hb dX12_keeps_55 (by decide) ?_
      refine lv_icmp_ge (tgt := 85) hx hb dX12_keeps_57 (by decide) (fun c6 => absurd c6 (nI_ge (b := 23) hlt (by decide))) (fun c6 => ?_)
      refine lv_aload_n hx hb dX12_keeps_60 rfl (lv_at hl 2 rfl) ?_
      refine va_get (D := D) (ci := 12) (v := .ref (r 31)) (C := RX12) (T := TX12) (N := 48) hx hb hg inC12 hown hK hP 0 rfl rfl 31 (by decide) (hg _ wt5_191) (fun _ h9 => h9) rfl dX12_keeps_61 ?_
      refine lv_iload_n hx hb dX12_keeps_64 rfl (lv_at hl 1 rfl) ?_
      refine lv_aload_n hx hb dX12_keeps_65 rfl (lv_at hl 2 rfl) ?_
      refine va_get (D := D) (ci := 12) (v := .int (F 33)) (C := RX12) (T := TX12) (N := 48) hx hb hg inC12 hown hK hP 0 rfl rfl 33 (by decide) (hg _ wt5_193) (fun _ h9 => h9) rfl dX12_keeps_66 ?_
      refine k_top (z := 0) z3 ?_
      refine lv_imul hx hb dX12_keeps_69 ?_
      refine k_top (z := 0) (by decide +kernel) ?_
      refine lv_iload_n hx hb dX12_keeps_70 rfl (lv_at hl 0 rfl) ?_
      refine lv_iadd hx hb dX12_keeps_71 ?_
      refine k_top (z := nI (0 + i)) (nI_add 0 i) ?_
      refine lv_aload_n hx hb dX12_keeps_72 rfl (lv_at hl 2 rfl) ?_
      refine va_get (D := D) (ci := 12) (v := .ref (r 2)) (C := RX12) (T := TX12) (N := 48) hx hb hg inC12 hown hK hP 0 rfl rfl 2 (by decide) (hg _ wt5_162) (fun _ h9 => h9) rfl dX12_keeps_73 ?_
      refine lv_iload_n hx hb dX12_keeps_76 rfl (lv_at hl 0 rfl) ?_
      refine va_iald hx hb hK hP 2 0 rfl rfl (vp_in_nI (by omega) (by decide)) dX12_keeps_77 ?_
      refine lv_topi (fun t7 et7 => ?_)
      rw [nI_clamp (n := i) (by omega)] at et7
      refine va_iast hx hb hK hP hD hS 15 0 rfl rfl (vp_in_nI (by omega) (by decide)) dX12_keeps_78 (fun H locs hP hD hS => ?_)
      rw [nI_clamp (n := (0 + i)) (by omega)] at hP hD
      have hP : va_P D vwCl (mW K o r F (va_up B 31 (upd (B 31) (0 + i) t7)) G) H := hP
      have hD : va_D A (mW K o r F (va_up B 31 (upd (B 31) (0 + i) t7)) G) := hD
      refine k_gen (P := fun z => va_P D vwCl (mW K o r F z G) H ∧ va_D A (mW K o r F z G)) (va_up B 31 (upd (B 31) (0 + i) t7)) ⟨hP, hD⟩ (fun a_8 ea_8 hPD => ?_)
      have hP := hPD.1
      have hD := hPD.2
      refine lv_iinc (v := nI (i + 1)) (lv' := [(3, .int (nI (i + 1))), (2, .int 24), (0, .ref o), (1, .int 3)]) hx hb dX12_keeps_79 hl (k := 0) rfl (nI_1 _) (by decide) rfl (fun ls hl => ?_)
      refine lv_goto (tgt := 54) hx hb dX12_keeps_82 (by decide) ?_
      exact ih (i + 1) F a_8 G _ _ _  (by omega)  ((show a_8 2 102 = B 2 102 from by rw [← ea_8]; rfl).trans z0) ((show a_8 2 103 = B 2 103 from by rw [← ea_8]; rfl).trans z1) ((show a_8 2 22 = B 2 22 from by rw [← ea_8]; rfl).trans z2) z3 hP hD hS (lv_sub hl [0, 1, 2, 3] rfl)
  exact lp2 (23 - 0) 0 f a g _ _ _  (by omega)  h0 h1 h2 h3 hP hD hS hl
set_option maxHeartbeats 4000000 in
set_option maxRecDepth 100000 in
theorem c_ticks (l : Launch) {D : va_G} {K : Nat → ClassId} (o : Nat) (r : Nat → Nat) (f : Nat → Int32) (a : Nat → Nat → Int32) (g : Nat → Int64) (h0 : a 2 102 = 0) (h1 : a 2 103 = 0) (h2 : a 2 104 = 0) (h3 : a 2 99 = 30) (h4 : a 2 100 = 2)   : kI l yX12_ticks (Cond.code yX12_ticks cX12_ticks 5 (some .int) :: kG) (rmD 2 0 0) D (tysK K) [.ref o, .int 0] (mW K o r f a g) (fun v (u : mS) => v = 0 ∧ u.2.1 2 102 = 0 ∧ u.2.1 2 103 = 0 ∧ u.2.1 2 104 = 0 ∧ u.2.1 2 99 = 30 ∧ u.2.1 2 100 = 2) (fun u => mW K o r u.1 u.2.1 u.2.2) 0 0 := by
  refine kI.of (cc := cX12_ticks) (maxL := 5) (ret := (some .int)) (by decide) rfl (Nat.le_of_ble_eq_true rfl) ?_
  intro p e s m below meth c A hx hb hr hml hown hts hlocks hnm hK hP hD hS hA ls hl
  have hg : ∀ w ∈ kG, w.before _ s = true := fun w h => hts w (List.mem_cons_of_mem _ h)
  have hown : s.vm.findClass RX12 = some m.cls := hown
  have hl : lv_has ls 5 [(0, .ref o), (1, .int 0)] := hl
  refine lv_aload_n hx hb dX12_ticks_0 rfl (lv_at hl 0 rfl) ?_
  refine kI.callV (As := []) (rest := []) ⟨hx, hb, hml, hown, hg⟩ (c_standing l o r f a g h0 ) (cwV 0 hg (kgV wt6_116 wt6_118 wp3_13 wt1_14 wt6_119) rfl rfl rfl (by decide +kernel) ⟨by decide, by decide⟩) hK hP hD hS hA mIs [] rfl (wr := []) rfl rfl rfl (fun i h => by cases h) 0 12 rfl rfl rfl hl.1 rfl (Nat.le_of_ble_eq_true rfl) dX12_ticks_1 ⟨by decide, by decide⟩ (fun v3 u2 H locs hw1 hP hD hS => ?_)
  have hP : va_P D vwCl (mW K o r f a g) H := hP
  have hD : va_D A (mW K o r f a g) := hD
  refine k_top (z := 0) (hw1) ?_
  refine lv_istore_n (lv' := [(2, .int 0), (0, .ref o), (1, .int 0)]) hx hb dX12_ticks_4 rfl hl (by decide) rfl (fun ls hl => ?_)
  refine lv_iconst (v := 0) hx hb dX12_ticks_5 (by decide) ?_
  refine lv_istore_n (lv' := [(3, .int 0), (2, .int 0), (0, .ref o), (1, .int 0)]) hx hb dX12_ticks_6 rfl hl (by decide) rfl (fun ls hl => ?_)
  refine lv_iload_n hx hb dX12_ticks_7 rfl (lv_at hl 0 rfl) ?_
  refine lv_aload_n hx hb dX12_ticks_8 rfl (lv_at hl 2 rfl) ?_
  refine va_get (D := D) (ci := 12) (v := .ref (r 2)) (C := RX12) (T := TX12) (N := 48) hx hb hg inC12 hown hK hP 0 rfl rfl 2 (by decide) (hg _ wt5_162) (fun _ h9 => h9) rfl dX12_ticks_9 ?_
  refine lv_bipush (v := 103) hx hb dX12_ticks_12 (by decide) ?_
  refine va_iald hx hb hK hP 2 0 rfl rfl (k_in (by decide +kernel)) dX12_ticks_14 ?_
  refine k_top (z := 0) (by rw [cl_103]; exact h1) ?_
  refine lv_icmp_ge (tgt := 111) hx hb dX12_ticks_15 (by decide) (fun c4 => ?_) (fun c4 => absurd (by decide +kernel) c4)
  refine lv_iconst (v := 0) hx hb dX12_ticks_111 (by decide) ?_
  refine lv_istore_n (lv' := [(3, .int 0), (2, .int 0), (0, .ref o), (1, .int 0)]) hx hb dX12_ticks_112 rfl hl (by decide) rfl (fun ls hl => ?_)
  refine lv_iload_n hx hb dX12_ticks_113 rfl (lv_at hl 0 rfl) ?_
  refine lv_aload_n hx hb dX12_ticks_114 rfl (lv_at hl 2 rfl) ?_
  refine va_get (D := D) (ci := 12) (v := .ref (r 2)) (C := RX12) (T := TX12) (N := 48) hx hb hg inC12 hown hK hP 0 rfl rfl 2 (by decide) (hg _ wt5_162) (fun _ h9 => h9) rfl dX12_ticks_115 ?_
  refine lv_bipush (v := 103) hx hb dX12_ticks_118 (by decide) ?_
  refine va_iald hx hb hK hP 2 0 rfl rfl (k_in (by decide +kernel)) dX12_ticks_120 ?_
  refine k_top (z := 0) (by rw [cl_103]; exact h1) ?_
  refine lv_icmp_ge (tgt := 221) hx hb dX12_ticks_121 (by decide) (fun c5 => ?_) (fun c5 => absurd (by decide +kernel) c5)
  refine lv_iconst (v := 0) hx hb dX12_ticks_221 (by decide) ?_
  refine lv_istore_n (lv' := [(3, .int 0), (2, .int 0), (0, .ref o), (1, .int 0)]) hx hb dX12_ticks_222 rfl hl (by decide) rfl (fun ls hl => ?_)
  refine lv_iload_n hx hb dX12_ticks_223 rfl (lv_at hl 0 rfl) ?_
  refine lv_aload_n hx hb dX12_ticks_224 rfl (lv_at hl 2 rfl) ?_
  refine va_get (D := D) (ci := 12) (v := .ref (r 2)) (C := RX12) (T := TX12) (N := 48) hx hb hg inC12 hown hK hP 0 rfl rfl 2 (by decide) (hg _ wt5_162) (fun _ h9 => h9) rfl dX12_ticks_225 ?_
  refine lv_bipush (v := 103) hx hb dX12_ticks_228 (by decide) ?_
  refine va_iald hx hb hK hP 2 0 rfl rfl (k_in (by decide +kernel)) dX12_ticks_230 ?_
  refine k_top (z := 0) (by rw [cl_103]; exact h1) ?_
  refine lv_icmp_ge (tgt := 279) hx hb dX12_ticks_231 (by decide) (fun c6 => ?_) (fun c6 => absurd (by decide +kernel) c6)
  refine lv_aload_n hx hb dX12_ticks_279 rfl (lv_at hl 2 rfl) ?_
  refine va_get (D := D) (ci := 12) (v := .ref (r 2)) (C := RX12) (T := TX12) (N := 48) hx hb hg inC12 hown hK hP 0 rfl rfl 2 (by decide) (hg _ wt5_162) (fun _ h9 => h9) rfl dX12_ticks_280 ?_
  refine lv_bipush (v := 22) hx hb dX12_ticks_283 (by decide) ?_
  refine lv_dup2_11 hx hb dX12_ticks_285 rfl rfl ?_
  refine va_iald hx hb hK hP 2 0 rfl rfl (k_in (by decide +kernel)) dX12_ticks_286 ?_
  refine lv_topi (fun t7 et7 => ?_)
  rw [cl_22] at et7
  refine lv_iconst (v := 1) hx hb dX12_ticks_287 (by decide) ?_
  refine lv_iadd hx hb dX12_ticks_288 ?_
  refine lv_topi (fun t8 et8 => ?_)
  refine va_iast hx hb hK hP hD hS 2 0 rfl rfl (k_in (by decide +kernel)) dX12_ticks_289 (fun H locs hP hD hS => ?_)
  rw [cl_22] at hP hD
  have hP : va_P D vwCl (mW K o r f (va_up a 2 (upd (a 2) 22 t8)) g) H := hP
  have hD : va_D A (mW K o r f (va_up a 2 (upd (a 2) 22 t8)) g) := hD
  refine k_gen (P := fun z => va_P D vwCl (mW K o r f z g) H ∧ va_D A (mW K o r f z g)) (va_up a 2 (upd (a 2) 22 t8)) ⟨hP, hD⟩ (fun a_9 ea_9 hPD => ?_)
  have hP := hPD.1
  have hD := hPD.2
  refine lv_aload_n hx hb dX12_ticks_290 rfl (lv_at hl 2 rfl) ?_
  refine kI.callV (As := []) (rest := []) ⟨hx, hb, hml, hown, hg⟩ (c_standing l o r f a_9 g ((show a_9 2 102 = a 2 102 from by rw [← ea_9]; rfl).trans h0) ) (cwV 0 hg (kgV wt6_116 wt6_118 wp3_13 wt1_14 wt6_119) rfl rfl rfl (by decide +kernel) ⟨by decide, by decide⟩) hK hP hD hS hA mIs [] rfl (wr := []) rfl rfl rfl (fun i h => by cases h) 0 12 rfl rfl rfl hl.1 rfl (Nat.le_of_ble_eq_true rfl) dX12_ticks_291 ⟨by decide, by decide⟩ (fun v12 u11 H locs hw10 hP hD hS => ?_)
  have hP : va_P D vwCl (mW K o r f a_9 g) H := hP
  have hD : va_D A (mW K o r f a_9 g) := hD
  refine k_top (z := 0) (hw10) ?_
  refine lv_iload_n hx hb dX12_ticks_294 rfl (lv_at hl 1 rfl) ?_
  refine lv_iconst (v := (-1)) hx hb dX12_ticks_295 (by decide) ?_
  refine lv_ixor hx hb dX12_ticks_296 ?_
  refine k_top (z := (-1)) (by decide +kernel) ?_
  refine lv_iand hx hb dX12_ticks_297 ?_
  refine k_top (z := 0) (by decide +kernel) ?_
  refine kN.callS (As := [.int 0]) (rest := []) ⟨hx, hb, hml, hown, hg⟩ (c_ones0 l ) (va_cwS 1 hg (kgS wt7_71 wt7_72 wt1_14 wt7_73) rfl rfl rfl (by decide +kernel) ⟨by decide, by decide⟩) hP hS rfl hl.1 rfl (Nat.le_of_ble_eq_true rfl) dX12_ticks_298 ⟨by decide, by decide⟩ (fun v14 H locs hw13 hP hS => ?_)
  refine k_top (z := 0) (hw13) ?_
  exact kI_ret (v := 0) hx hb hr hlocks rfl hK hS dX12_ticks_301 (f, a_9, g) hP hD ⟨rfl, ((show a_9 2 102 = a 2 102 from by rw [← ea_9]; rfl).trans h0), ((show a_9 2 103 = a 2 103 from by rw [← ea_9]; rfl).trans h1), ((show a_9 2 104 = a 2 104 from by rw [← ea_9]; rfl).trans h2), ((show a_9 2 99 = a 2 99 from by rw [← ea_9]; rfl).trans h3), ((show a_9 2 100 = a 2 100 from by rw [← ea_9]; rfl).trans h4)⟩
set_option maxHeartbeats 4000000 in
set_option maxRecDepth 100000 in
theorem c_ticks1 (l : Launch) {D : va_G} {K : Nat → ClassId} (o : Nat) (r : Nat → Nat) (f : Nat → Int32) (a : Nat → Nat → Int32) (g : Nat → Int64) (h0 : a 2 102 = 0) (h1 : a 2 103 = 0)   : kI l yX12_ticks (Cond.code yX12_ticks cX12_ticks 5 (some .int) :: kG) (rmD 2 0 0) D (tysK K) [.ref o, .int 0] (mW K o r f a g) (fun v (u : mS) => v = 0 ∧ u.2.1 2 102 = 0 ∧ u.2.1 2 103 = 0) (fun u => mW K o r u.1 u.2.1 u.2.2) 0 0 := by
  refine kI.of (cc := cX12_ticks) (maxL := 5) (ret := (some .int)) (by decide) rfl (Nat.le_of_ble_eq_true rfl) ?_
  intro p e s m below meth c A hx hb hr hml hown hts hlocks hnm hK hP hD hS hA ls hl
  have hg : ∀ w ∈ kG, w.before _ s = true := fun w h => hts w (List.mem_cons_of_mem _ h)
  have hown : s.vm.findClass RX12 = some m.cls := hown
  have hl : lv_has ls 5 [(0, .ref o), (1, .int 0)] := hl
  refine lv_aload_n hx hb dX12_ticks_0 rfl (lv_at hl 0 rfl) ?_
  refine kI.callV (As := []) (rest := []) ⟨hx, hb, hml, hown, hg⟩ (c_standing l o r f a g h0 ) (cwV 0 hg (kgV wt6_116 wt6_118 wp3_13 wt1_14 wt6_119) rfl rfl rfl (by decide +kernel) ⟨by decide, by decide⟩) hK hP hD hS hA mIs [] rfl (wr := []) rfl rfl rfl (fun i h => by cases h) 0 12 rfl rfl rfl hl.1 rfl (Nat.le_of_ble_eq_true rfl) dX12_ticks_1 ⟨by decide, by decide⟩ (fun v3 u2 H locs hw1 hP hD hS => ?_)
  have hP : va_P D vwCl (mW K o r f a g) H := hP
  have hD : va_D A (mW K o r f a g) := hD
  refine k_top (z := 0) (hw1) ?_
  refine lv_istore_n (lv' := [(2, .int 0), (0, .ref o), (1, .int 0)]) hx hb dX12_ticks_4 rfl hl (by decide) rfl (fun ls hl => ?_)
  refine lv_iconst (v := 0) hx hb dX12_ticks_5 (by decide) ?_
  refine lv_istore_n (lv' := [(3, .int 0), (2, .int 0), (0, .ref o), (1, .int 0)]) hx hb dX12_ticks_6 rfl hl (by decide) rfl (fun ls hl => ?_)
  refine lv_iload_n hx hb dX12_ticks_7 rfl (lv_at hl 0 rfl) ?_
  refine lv_aload_n hx hb dX12_ticks_8 rfl (lv_at hl 2 rfl) ?_
  refine va_get (D := D) (ci := 12) (v := .ref (r 2)) (C := RX12) (T := TX12) (N := 48) hx hb hg inC12 hown hK hP 0 rfl rfl 2 (by decide) (hg _ wt5_162) (fun _ h9 => h9) rfl dX12_ticks_9 ?_
  refine lv_bipush (v := 103) hx hb dX12_ticks_12 (by decide) ?_
  refine va_iald hx hb hK hP 2 0 rfl rfl (k_in (by decide +kernel)) dX12_ticks_14 ?_
  refine k_top (z := 0) (by rw [cl_103]; exact h1) ?_
  refine lv_icmp_ge (tgt := 111) hx hb dX12_ticks_15 (by decide) (fun c4 => ?_) (fun c4 => absurd (by decide +kernel) c4)
  refine lv_iconst (v := 0) hx hb dX12_ticks_111 (by decide) ?_
  refine lv_istore_n (lv' := [(3, .int 0), (2, .int 0), (0, .ref o), (1, .int 0)]) hx hb dX12_ticks_112 rfl hl (by decide) rfl (fun ls hl => ?_)
  refine lv_iload_n hx hb dX12_ticks_113 rfl (lv_at hl 0 rfl) ?_
  refine lv_aload_n hx hb dX12_ticks_114 rfl (lv_at hl 2 rfl) ?_
  refine va_get (D := D) (ci := 12) (v := .ref (r 2)) (C := RX12) (T := TX12) (N := 48) hx hb hg inC12 hown hK hP 0 rfl rfl 2 (by decide) (hg _ wt5_162) (fun _ h9 => h9) rfl dX12_ticks_115 ?_
  refine lv_bipush (v := 103) hx hb dX12_ticks_118 (by decide) ?_
  refine va_iald hx hb hK hP 2 0 rfl rfl (k_in (by decide +kernel)) dX12_ticks_120 ?_
  refine k_top (z := 0) (by rw [cl_103]; exact h1) ?_
  refine lv_icmp_ge (tgt := 221) hx hb dX12_ticks_121 (by decide) (fun c5 => ?_) (fun c5 => absurd (by decide +kernel) c5)
  refine lv_iconst (v := 0) hx hb dX12_ticks_221 (by decide) ?_
  refine lv_istore_n (lv' := [(3, .int 0), (2, .int 0), (0, .ref o), (1, .int 0)]) hx hb dX12_ticks_222 rfl hl (by decide) rfl (fun ls hl => ?_)
  refine lv_iload_n hx hb dX12_ticks_223 rfl (lv_at hl 0 rfl) ?_
  refine lv_aload_n hx hb dX12_ticks_224 rfl (lv_at hl 2 rfl) ?_
  refine va_get (D := D) (ci := 12) (v := .ref (r 2)) (C := RX12) (T := TX12) (N := 48) hx hb hg inC12 hown hK hP 0 rfl rfl 2 (by decide) (hg _ wt5_162) (fun _ h9 => h9) rfl dX12_ticks_225 ?_
  refine lv_bipush (v := 103) hx hb dX12_ticks_228 (by decide) ?_
  refine va_iald hx hb hK hP 2 0 rfl rfl (k_in (by decide +kernel)) dX12_ticks_230 ?_
  refine k_top (z := 0) (by rw [cl_103]; exact h1) ?_
  refine lv_icmp_ge (tgt := 279) hx hb dX12_ticks_231 (by decide) (fun c6 => ?_) (fun c6 => absurd (by decide +kernel) c6)
  refine lv_aload_n hx hb dX12_ticks_279 rfl (lv_at hl 2 rfl) ?_
  refine va_get (D := D) (ci := 12) (v := .ref (r 2)) (C := RX12) (T := TX12) (N := 48) hx hb hg inC12 hown hK hP 0 rfl rfl 2 (by decide) (hg _ wt5_162) (fun _ h9 => h9) rfl dX12_ticks_280 ?_
  refine lv_bipush (v := 22) hx hb dX12_ticks_283 (by decide) ?_
  refine lv_dup2_11 hx hb dX12_ticks_285 rfl rfl ?_
  refine va_iald hx hb hK hP 2 0 rfl rfl (k_in (by decide +kernel)) dX12_ticks_286 ?_
  refine lv_topi (fun t7 et7 => ?_)
  rw [cl_22] at et7
  refine lv_iconst (v := 1) hx hb dX12_ticks_287 (by decide) ?_
  refine lv_iadd hx hb dX12_ticks_288 ?_
  refine lv_topi (fun t8 et8 => ?_)
  refine va_iast hx hb hK hP hD hS 2 0 rfl rfl (k_in (by decide +kernel)) dX12_ticks_289 (fun H locs hP hD hS => ?_)
  rw [cl_22] at hP hD
  have hP : va_P D vwCl (mW K o r f (va_up a 2 (upd (a 2) 22 t8)) g) H := hP
  have hD : va_D A (mW K o r f (va_up a 2 (upd (a 2) 22 t8)) g) := hD
  refine k_gen (P := fun z => va_P D vwCl (mW K o r f z g) H ∧ va_D A (mW K o r f z g)) (va_up a 2 (upd (a 2) 22 t8)) ⟨hP, hD⟩ (fun a_9 ea_9 hPD => ?_)
  have hP := hPD.1
  have hD := hPD.2
  refine lv_aload_n hx hb dX12_ticks_290 rfl (lv_at hl 2 rfl) ?_
  refine kI.callV (As := []) (rest := []) ⟨hx, hb, hml, hown, hg⟩ (c_standing l o r f a_9 g ((show a_9 2 102 = a 2 102 from by rw [← ea_9]; rfl).trans h0) ) (cwV 0 hg (kgV wt6_116 wt6_118 wp3_13 wt1_14 wt6_119) rfl rfl rfl (by decide +kernel) ⟨by decide, by decide⟩) hK hP hD hS hA mIs [] rfl (wr := []) rfl rfl rfl (fun i h => by cases h) 0 12 rfl rfl rfl hl.1 rfl (Nat.le_of_ble_eq_true rfl) dX12_ticks_291 ⟨by decide, by decide⟩ (fun v12 u11 H locs hw10 hP hD hS => ?_)
  have hP : va_P D vwCl (mW K o r f a_9 g) H := hP
  have hD : va_D A (mW K o r f a_9 g) := hD
  refine k_top (z := 0) (hw10) ?_
  refine lv_iload_n hx hb dX12_ticks_294 rfl (lv_at hl 1 rfl) ?_
  refine lv_iconst (v := (-1)) hx hb dX12_ticks_295 (by decide) ?_
  refine lv_ixor hx hb dX12_ticks_296 ?_
  refine k_top (z := (-1)) (by decide +kernel) ?_
  refine lv_iand hx hb dX12_ticks_297 ?_
  refine k_top (z := 0) (by decide +kernel) ?_
  refine kN.callS (As := [.int 0]) (rest := []) ⟨hx, hb, hml, hown, hg⟩ (c_ones0 l ) (va_cwS 1 hg (kgS wt7_71 wt7_72 wt1_14 wt7_73) rfl rfl rfl (by decide +kernel) ⟨by decide, by decide⟩) hP hS rfl hl.1 rfl (Nat.le_of_ble_eq_true rfl) dX12_ticks_298 ⟨by decide, by decide⟩ (fun v14 H locs hw13 hP hS => ?_)
  refine k_top (z := 0) (hw13) ?_
  exact kI_ret (v := 0) hx hb hr hlocks rfl hK hS dX12_ticks_301 (f, a_9, g) hP hD ⟨rfl, ((show a_9 2 102 = a 2 102 from by rw [← ea_9]; rfl).trans h0), ((show a_9 2 103 = a 2 103 from by rw [← ea_9]; rfl).trans h1)⟩
set_option maxHeartbeats 4000000 in
set_option maxRecDepth 100000 in
theorem c_ticksKept (l : Launch) {D : va_G} {K : Nat → ClassId} (o : Nat) (r : Nat → Nat) (f : Nat → Int32) (a : Nat → Nat → Int32) (g : Nat → Int64) (h0 : a 2 102 = 0) (h1 : a 2 103 = 0) (h2 : a 2 22 = 0) (h3 : f 33 = 0)   : kI l yX12_ticksKept (Cond.code yX12_ticksKept cX12_ticksKept 1 (some .int) :: kG) (rmD 3 0 0) D (tysK K) [.ref o] (mW K o r f a g) (fun v (u : mS) => v = 0) (fun u => mW K o r u.1 u.2.1 u.2.2) 0 0 := by
  refine kI.of (cc := cX12_ticksKept) (maxL := 1) (ret := (some .int)) (by decide) rfl (Nat.le_of_ble_eq_true rfl) ?_
  intro p e s m below meth c A hx hb hr hml hown hts hlocks hnm hK hP hD hS hA ls hl
  have hg : ∀ w ∈ kG, w.before _ s = true := fun w h => hts w (List.mem_cons_of_mem _ h)
  have hown : s.vm.findClass RX12 = some m.cls := hown
  have hl : lv_has ls 1 [(0, .ref o)] := hl
  refine lv_aload_n hx hb dX12_ticksKept_0 rfl (lv_at hl 0 rfl) ?_
  refine va_get (D := D) (ci := 12) (v := .ref (r 2)) (C := RX12) (T := TX12) (N := 48) hx hb hg inC12 hown hK hP 0 rfl rfl 2 (by decide) (hg _ wt5_162) (fun _ h9 => h9) rfl dX12_ticksKept_1 ?_
  refine lv_bipush (v := 22) hx hb dX12_ticksKept_4 (by decide) ?_
  refine va_iald hx hb hK hP 2 0 rfl rfl (k_in (by decide +kernel)) dX12_ticksKept_6 ?_
  refine k_top (z := 0) (by rw [cl_22]; exact h2) ?_
  refine lv_sipush (v := 999) hx hb dX12_ticksKept_7 (by decide) ?_
  refine lv_icmp_ne (tgt := 16) hx hb dX12_ticksKept_10 (by decide) (fun c1 => ?_) (fun c1 => absurd c1 (by decide +kernel))
  refine lv_aload_n hx hb dX12_ticksKept_16 rfl (lv_at hl 0 rfl) ?_
  refine lv_iconst (v := 3) hx hb dX12_ticksKept_17 (by decide) ?_
  refine kV.callV (As := [.int 3]) (rest := []) ⟨hx, hb, hml, hown, hg⟩ (c_keeps3 l o r f a g h0 h1 h2 h3 ) (cwV 1 hg (kgV wt7_124 wt7_126 wp6_7 wt1_14 wt7_127) rfl rfl rfl (by decide +kernel) ⟨by decide, by decide⟩) hK hP hD hS hA mIs [] rfl (wr := []) rfl rfl rfl (fun i h => by cases h) 0 12 rfl rfl rfl hl.1 rfl (Nat.le_of_ble_eq_true rfl) dX12_ticksKept_18 ⟨by decide, by decide⟩ (fun u3 H locs hw2 hP hD hS => ?_)
  obtain ⟨f5, a6, g7⟩ := u3
  have hP : va_P D vwCl (mW K o r f5 a6 g7) H := hP
  have hD : va_D A (mW K o r f5 a6 g7) := hD
  refine lv_aload_n hx hb dX12_ticksKept_21 rfl (lv_at hl 0 rfl) ?_
  refine lv_aload_n hx hb dX12_ticksKept_22 rfl (lv_at hl 0 rfl) ?_
  refine kI.callV (As := []) (rest := [.ref o]) ⟨hx, hb, hml, hown, hg⟩ (c_allBuilders l o r f5 a6 g7 hw2.2.1 ) (cwV 0 hg (kgV wt7_164 wt7_166 wp6_14 wt1_14 wt7_167) rfl rfl rfl (by decide +kernel) ⟨by decide, by decide⟩) hK hP hD hS hA mIs [] rfl (wr := []) rfl rfl rfl (fun i h => by cases h) 0 12 rfl rfl rfl hl.1 rfl (Nat.le_of_ble_eq_true rfl) dX12_ticksKept_23 ⟨by decide, by decide⟩ (fun v10 u9 H locs hw8 hP hD hS => ?_)
  have hP : va_P D vwCl (mW K o r f5 a6 g7) H := hP
  have hD : va_D A (mW K o r f5 a6 g7) := hD
  refine k_top (z := 0) (hw8) ?_
  refine kI.callV (As := [.int 0]) (rest := []) ⟨hx, hb, hml, hown, hg⟩ (c_ticks1 l o r f5 a6 g7 hw2.1 hw2.2.1 ) (cwV 1 hg (kgV wt7_168 wt7_170 wp6_15 wt1_14 wt7_171) rfl rfl rfl (by decide +kernel) ⟨by decide, by decide⟩) hK hP hD hS hA mIs [] rfl (wr := []) rfl rfl rfl (fun i h => by cases h) 0 12 rfl rfl rfl hl.1 rfl (Nat.le_of_ble_eq_true rfl) dX12_ticksKept_26 ⟨by decide, by decide⟩ (fun v13 u12 H locs hw11 hP hD hS => ?_)
  obtain ⟨f14, a15, g16⟩ := u12
  have hP : va_P D vwCl (mW K o r f14 a15 g16) H := hP
  have hD : va_D A (mW K o r f14 a15 g16) := hD
  refine k_top (z := 0) (hw11.1) ?_
  exact kI_ret (v := 0) hx hb hr hlocks rfl hK hS dX12_ticksKept_29 (f14, a15, g16) hP hD rfl
set_option maxHeartbeats 4000000 in
set_option maxRecDepth 100000 in
theorem c_tick (l : Launch) {D : va_G} {K : Nat → ClassId} (o : Nat) (r : Nat → Nat) (f : Nat → Int32) (a : Nat → Nat → Int32) (g : Nat → Int64) (h0 : a 2 102 = 0) (h1 : a 2 103 = 0) (h2 : a 2 22 = 0) (h3 : f 33 = 0)   : kI l yX12_tick (Cond.code yX12_tick cX12_tick 1 (some .int) :: kG) (rmD 4 0 0) D (tysK K) [.ref o] (mW K o r f a g) (fun v (u : mS) => v = 0) (fun u => mW K o r u.1 u.2.1 u.2.2) 0 0 := by
  refine kI.of (cc := cX12_tick) (maxL := 1) (ret := (some .int)) (by decide) rfl (Nat.le_of_ble_eq_true rfl) ?_
  intro p e s m below meth c A hx hb hr hml hown hts hlocks hnm hK hP hD hS hA ls hl
  have hg : ∀ w ∈ kG, w.before _ s = true := fun w h => hts w (List.mem_cons_of_mem _ h)
  have hown : s.vm.findClass RX12 = some m.cls := hown
  have hl : lv_has ls 1 [(0, .ref o)] := hl
  refine lv_aload_n hx hb dX12_tick_0 rfl (lv_at hl 0 rfl) ?_
  refine lv_aload_n hx hb dX12_tick_1 rfl (lv_at hl 0 rfl) ?_
  refine kI.callV (As := []) (rest := [.ref o]) ⟨hx, hb, hml, hown, hg⟩ (c_ticksKept l o r f a g h0 h1 h2 h3 ) (cwV 0 hg (kgV wt7_160 wt7_162 wp6_13 wt1_14 wt7_163) rfl rfl rfl (by decide +kernel) ⟨by decide, by decide⟩) hK hP hD hS hA mIs [] rfl (wr := []) rfl rfl rfl (fun i h => by cases h) 0 12 rfl rfl rfl hl.1 rfl (Nat.le_of_ble_eq_true rfl) dX12_tick_2 ⟨by decide, by decide⟩ (fun v3 u2 H locs hw1 hP hD hS => ?_)
  obtain ⟨f4, a5, g6⟩ := u2
  have hP : va_P D vwCl (mW K o r f4 a5 g6) H := hP
  have hD : va_D A (mW K o r f4 a5 g6) := hD
  refine k_top (z := 0) (hw1) ?_
  refine kI.callV (As := [.int 0]) (rest := []) ⟨hx, hb, hml, hown, hg⟩ (c_goodOr0 l o r f4 a5 g6  ) (cwV 1 hg (kgV wt7_128 wt7_130 wp6_8 wt1_14 wt7_131) rfl rfl rfl (by decide +kernel) ⟨by decide, by decide⟩) hK hP hD hS hA mIs [] rfl (wr := []) rfl rfl rfl (fun i h => by cases h) 0 12 rfl rfl rfl hl.1 rfl (Nat.le_of_ble_eq_true rfl) dX12_tick_5 ⟨by decide, by decide⟩ (fun v9 u8 H locs hw7 hP hD hS => ?_)
  obtain ⟨f10, a11, g12⟩ := u8
  have hP : va_P D vwCl (mW K o r f10 a11 g12) H := hP
  have hD : va_D A (mW K o r f10 a11 g12) := hD
  refine k_top (z := 0) (hw7) ?_
  exact kI_ret (v := 0) hx hb hr hlocks rfl hK hS dX12_tick_8 (f10, a11, g12) hP hD rfl
set_option maxHeartbeats 4000000 in
set_option maxRecDepth 100000 in
theorem c_rows (l : Launch) {D : va_G} {K : Nat → ClassId} (o : Nat) (r : Nat → Nat) (f : Nat → Int32) (a : Nat → Nat → Int32) (g : Nat → Int64) (h0 : a 2 102 = 0) (x : Int32) (y : Int32)  : kI l yX12_rows (Cond.code yX12_rows cX12_rows 7 (some .int) :: kG) (rmD 3 0 0) D (tysK K) [.ref o, .int x, .int y] (mW K o r f a g) (fun v (u : mS) => v = (if x < (-1) then (-1 : Int32) else if x = (-1) then 1 else -1)) (fun u => mW K o r u.1 u.2.1 u.2.2) 0 0 := by
  refine kI.of (cc := cX12_rows) (maxL := 7) (ret := (some .int)) (by decide) rfl (Nat.le_of_ble_eq_true rfl) ?_
  intro p e s m below meth c A hx hb hr hml hown hts hlocks hnm hK hP hD hS hA ls hl
  have hg : ∀ w ∈ kG, w.before _ s = true := fun w h => hts w (List.mem_cons_of_mem _ h)
  have hown : s.vm.findClass RX12 = some m.cls := hown
  have hl : lv_has ls 7 [(0, .ref o), (1, .int x), (2, .int y)] := hl
  refine lv_iload_n hx hb dX12_rows_0 rfl (lv_at hl 1 rfl) ?_
  refine lv_iconst (v := (-1)) hx hb dX12_rows_1 (by decide) ?_
  refine lv_icmp_ge (tgt := 7) hx hb dX12_rows_2 (by decide) (fun c1 => ?_) (fun c1 => ?_)
  · refine lv_aload_n hx hb dX12_rows_7 rfl (lv_at hl 0 rfl) ?_
    refine kV.callV (As := []) (rest := []) ⟨hx, hb, hml, hown, hg⟩ (c_laysOrders l o r f a g h0 ) (cwV 0 hg (kgV wt7_183 wt7_185 wp7_0 wt1_14 wt7_186) rfl rfl rfl (by decide +kernel) ⟨by decide, by decide⟩) hK hP hD hS hA mIs [] rfl (wr := []) rfl rfl rfl (fun i h => by cases h) 0 12 rfl rfl rfl hl.1 rfl (Nat.le_of_ble_eq_true rfl) dX12_rows_8 ⟨by decide, by decide⟩ (fun u3 H locs hw2 hP hD hS => ?_)
    obtain ⟨f5, a6, g7⟩ := u3
    have hP : va_P D vwCl (mW K o r f5 a6 g7) H := hP
    have hD : va_D A (mW K o r f5 a6 g7) := hD
    refine lv_aload_n hx hb dX12_rows_11 rfl (lv_at hl 0 rfl) ?_
    refine kI.callV (As := []) (rest := []) ⟨hx, hb, hml, hown, hg⟩ (c_standing l o r f5 a6 g7 hw2.1 ) (cwV 0 hg (kgV wt6_116 wt6_118 wp3_13 wt1_14 wt6_119) rfl rfl rfl (by decide +kernel) ⟨by decide, by decide⟩) hK hP hD hS hA mIs [] rfl (wr := []) rfl rfl rfl (fun i h => by cases h) 0 12 rfl rfl rfl hl.1 rfl (Nat.le_of_ble_eq_true rfl) dX12_rows_12 ⟨by decide, by decide⟩ (fun v10 u9 H locs hw8 hP hD hS => ?_)
    have hP : va_P D vwCl (mW K o r f5 a6 g7) H := hP
    have hD : va_D A (mW K o r f5 a6 g7) := hD
    refine k_top (z := 0) (hw8) ?_
    refine lv_istore_n (lv' := [(3, .int 0), (0, .ref o), (1, .int x), (2, .int y)]) hx hb dX12_rows_15 rfl hl (by decide) rfl (fun ls hl => ?_)
    refine lv_iload_n hx hb dX12_rows_16 rfl (lv_at hl 2 rfl) ?_
    refine lv_iconst (v := (-1)) hx hb dX12_rows_17 (by decide) ?_
    refine lv_icmp_ne (tgt := 28) hx hb dX12_rows_18 (by decide) (fun c11 => ?_) (fun c11 => ?_)
    · refine lv_iload_n hx hb dX12_rows_28 rfl (lv_at hl 2 rfl) ?_
      refine lv_istore (lv' := [(4, .int x), (3, .int 0), (0, .ref o), (1, .int x), (2, .int y)]) hx hb dX12_rows_29 hl (by decide) rfl (fun ls hl => ?_)
      refine lv_iload_n hx hb dX12_rows_31 rfl (lv_at hl 3 rfl) ?_
      refine lv_aload_n hx hb dX12_rows_32 rfl (lv_at hl 2 rfl) ?_
      refine va_get (D := D) (ci := 12) (v := .ref (r 35)) (C := RX12) (T := TX12) (N := 48) hx hb hg inC12 hown hK hP 0 rfl rfl 35 (by decide) (hg _ wt5_195) (fun _ h9 => h9) rfl dX12_rows_33 ?_
      refine lv_iload_n hx hb dX12_rows_36 rfl (lv_at hl 1 rfl) ?_
      refine va_iald hx hb hK hP 18 0 rfl rfl (k_in (by decide +kernel)) dX12_rows_37 ?_
      refine k_top (z := 1) (by rw [cl_0]; exact hw2.2) ?_
      refine lv_icmp_ge (tgt := 63) hx hb dX12_rows_38 (by decide) (fun c12 => ?_) (fun c12 => ?_)
      · refine lv_iconst (v := (-1)) hx hb dX12_rows_63 (by decide) ?_
        exact kI_ret (v := (-1)) hx hb hr hlocks rfl hK hS dX12_rows_64 (f5, a6, g7) hP hD (by simp [c1, c11, c12])
      · refine lv_iload_n hx hb dX12_rows_41 rfl (lv_at hl 4 rfl) ?_
        refine lv_iconst (v := 0) hx hb dX12_rows_42 (by decide) ?_
        refine lv_aload_n hx hb dX12_rows_43 rfl (lv_at hl 2 rfl) ?_
        refine va_get (D := D) (ci := 12) (v := .ref (r 2)) (C := RX12) (T := TX12) (N := 48) hx hb hg inC12 hown hK hP 0 rfl rfl 2 (by decide) (hg _ wt5_162) (fun _ h9 => h9) rfl dX12_rows_44 ?_
        refine lv_bipush (v := 102) hx hb dX12_rows_47 (by decide) ?_
        refine va_iald hx hb hK hP 2 0 rfl rfl (k_in (by decide +kernel)) dX12_rows_49 ?_
        refine k_top (z := 0) (by rw [cl_102]; exact hw2.1) ?_
        refine lv_iload_n hx hb dX12_rows_50 rfl (lv_at hl 1 rfl) ?_
        refine kN.callS (As := [.int 0]) (rest := [.int 0, .int 0, .int y]) ⟨hx, hb, hml, hown, hg⟩ (c_ones0 l ) (va_cwS 1 hg (kgS wt7_71 wt7_72 wt1_14 wt7_73) rfl rfl rfl (by decide +kernel) ⟨by decide, by decide⟩) hP hS rfl hl.1 rfl (Nat.le_of_ble_eq_true rfl) dX12_rows_51 ⟨by decide, by decide⟩ (fun v14 H locs hw13 hP hS => ?_)
        refine k_top (z := 0) (hw13) ?_
        refine lv_isub hx hb dX12_rows_54 ?_
        refine k_top (z := 0) (by decide +kernel) ?_
        refine lv_iconst (v := 1) hx hb dX12_rows_55 (by decide) ?_
        refine lv_isub hx hb dX12_rows_56 ?_
        refine k_top (z := (-1)) (by decide +kernel) ?_
        refine kN.callS (As := [.int y, .int 0, .int (-1)]) (rest := []) ⟨hx, hb, hml, hown, hg⟩ (c_lies l y 0 (-1)) (va_cwS 3 hg (kgS wt6_69 wt6_70 wt1_14 wt6_71) rfl rfl rfl (by decide +kernel) ⟨by decide, by decide⟩) hP hS rfl hl.1 rfl (Nat.le_of_ble_eq_true rfl) dX12_rows_57 ⟨by decide, by decide⟩ (fun v16 H locs hw15 hP hS => ?_)
        refine k_top (z := 0) (hw15.trans (mLies_e (by decide +kernel))) ?_
        refine lv_if_ne (tgt := 65) hx hb dX12_rows_60 (by decide) (fun c17 => absurd (by decide +kernel) c17) (fun c17 => ?_)
        refine lv_iconst (v := (-1)) hx hb dX12_rows_63 (by decide) ?_
        exact kI_ret (v := (-1)) hx hb hr hlocks rfl hK hS dX12_rows_64 (f5, a6, g7) hP hD (by simp [c1, c11, c12])
    · refine lv_aload_n hx hb dX12_rows_21 rfl (lv_at hl 1 rfl) ?_
      refine va_get (D := D) (ci := 12) (v := .ref (r 35)) (C := RX12) (T := TX12) (N := 48) hx hb hg inC12 hown hK hP 0 rfl rfl 35 (by decide) (hg _ wt5_195) (fun _ h9 => h9) rfl dX12_rows_22 ?_
      refine lv_iload_n hx hb dX12_rows_25 rfl (lv_at hl 0 rfl) ?_
      refine va_iald hx hb hK hP 18 0 rfl rfl (k_in (by decide +kernel)) dX12_rows_26 ?_
      refine k_top (z := 1) (by rw [cl_0]; exact hw2.2) ?_
      exact kI_ret (v := 1) hx hb hr hlocks rfl hK hS dX12_rows_27 (f5, a6, g7) hP hD (by simp [c1, c11])
  · refine lv_iconst (v := (-1)) hx hb dX12_rows_5 (by decide) ?_
    exact kI_ret (v := (-1)) hx hb hr hlocks rfl hK hS dX12_rows_6 (f, a, g) hP hD (by simp [c1])
set_option maxHeartbeats 4000000 in
set_option maxRecDepth 100000 in
theorem c_plan (l : Launch) {D : va_G} {K : Nat → ClassId} (o : Nat) (r : Nat → Nat) (f : Nat → Int32) (a : Nat → Nat → Int32) (g : Nat → Int64) (h0 : a 2 102 = 0) (h1 : a 2 103 = 0) (h2 : a 2 104 = 0) (h3 : a 2 99 = 30) (h4 : a 2 100 = 2) (x : Int32)  : kI l yX12_plan (Cond.code yX12_plan cX12_plan 2 (some .int) :: kG) (rmD 4 0 0) D (tysK K) [.ref o, .int x] (mW K o r f a g) (fun v (u : mS) => v = (if x = (-1) then (0 : Int32) else -1) ∧ u.2.1 2 102 = 0 ∧ u.2.1 2 103 = 0 ∧ u.2.1 2 104 = 0 ∧ u.2.1 2 99 = 30 ∧ u.2.1 2 100 = 2) (fun u => mW K o r u.1 u.2.1 u.2.2) 0 0 := by
  refine kI.of (cc := cX12_plan) (maxL := 2) (ret := (some .int)) (by decide) rfl (Nat.le_of_ble_eq_true rfl) ?_
  intro p e s m below meth c A hx hb hr hml hown hts hlocks hnm hK hP hD hS hA ls hl
  have hg : ∀ w ∈ kG, w.before _ s = true := fun w h => hts w (List.mem_cons_of_mem _ h)
  have hown : s.vm.findClass RX12 = some m.cls := hown
  have hl : lv_has ls 2 [(0, .ref o), (1, .int x)] := hl
  by_cases q1 : x = (-1)
  · subst q1
    have hl : lv_has ls 2 [(0, .ref o), (1, .int (-1))] := hl
    refine lv_iload_n hx hb dX12_plan_0 rfl (lv_at hl 1 rfl) ?_
    refine lv_iconst (v := (-1)) hx hb dX12_plan_1 (by decide) ?_
    refine lv_icmp_eq (tgt := 15) hx hb dX12_plan_2 (by decide) (fun c2 => ?_) (fun c2 => absurd (by decide +kernel) c2)
    refine lv_aload_n hx hb dX12_plan_15 rfl (lv_at hl 0 rfl) ?_
    refine lv_aload_n hx hb dX12_plan_16 rfl (lv_at hl 0 rfl) ?_
    refine kI.callV (As := []) (rest := [.ref o]) ⟨hx, hb, hml, hown, hg⟩ (c_allBuilders l o r f a g h1 ) (cwV 0 hg (kgV wt7_164 wt7_166 wp6_14 wt1_14 wt7_167) rfl rfl rfl (by decide +kernel) ⟨by decide, by decide⟩) hK hP hD hS hA mIs [] rfl (wr := []) rfl rfl rfl (fun i h => by cases h) 0 12 rfl rfl rfl hl.1 rfl (Nat.le_of_ble_eq_true rfl) dX12_plan_17 ⟨by decide, by decide⟩ (fun v5 u4 H locs hw3 hP hD hS => ?_)
    have hP : va_P D vwCl (mW K o r f a g) H := hP
    have hD : va_D A (mW K o r f a g) := hD
    refine k_top (z := 0) (hw3) ?_
    refine lv_iload_n hx hb dX12_plan_20 rfl (lv_at hl 1 rfl) ?_
    refine lv_iconst (v := (-1)) hx hb dX12_plan_21 (by decide) ?_
    refine lv_icmp_ne (tgt := 32) hx hb dX12_plan_22 (by decide) (fun c6 => absurd (by decide +kernel) c6) (fun c6 => ?_)
    refine lv_aload_n hx hb dX12_plan_25 rfl (lv_at hl 0 rfl) ?_
    refine kI.callV (As := []) (rest := [.int 0, .ref o]) ⟨hx, hb, hml, hown, hg⟩ (c_allParts l o r f a g h0 ) (cwV 0 hg (kgV wt7_187 wt7_189 wp7_1 wt1_14 wt7_190) rfl rfl rfl (by decide +kernel) ⟨by decide, by decide⟩) hK hP hD hS hA mIs [] rfl (wr := []) rfl rfl rfl (fun i h => by cases h) 0 12 rfl rfl rfl hl.1 rfl (Nat.le_of_ble_eq_true rfl) dX12_plan_26 ⟨by decide, by decide⟩ (fun v9 u8 H locs hw7 hP hD hS => ?_)
    have hP : va_P D vwCl (mW K o r f a g) H := hP
    have hD : va_D A (mW K o r f a g) := hD
    refine k_top (z := 0) (hw7) ?_
    refine lv_goto (tgt := 35) hx hb dX12_plan_29 (by decide) ?_
    refine lv_sipush (v := 200) hx hb dX12_plan_35 (by decide) ?_
    refine kI.callV (As := [.int 0, .int 0, .int 200]) (rest := []) ⟨hx, hb, hml, hown, hg⟩ (c_planned200 l o r f a g h0 h1 h2 h3 h4 ) (cwV 3 hg (kgV wt7_199 wt7_201 wp7_3 wt1_14 wt7_202) rfl rfl rfl (by decide +kernel) ⟨by decide, by decide⟩) hK hP hD hS hA mIs [] rfl (wr := []) rfl rfl rfl (fun i h => by cases h) 0 12 rfl rfl rfl hl.1 rfl (Nat.le_of_ble_eq_true rfl) dX12_plan_38 ⟨by decide, by decide⟩ (fun v12 u11 H locs hw10 hP hD hS => ?_)
    obtain ⟨f13, a14, g15⟩ := u11
    have hP : va_P D vwCl (mW K o r f13 a14 g15) H := hP
    have hD : va_D A (mW K o r f13 a14 g15) := hD
    refine k_top (z := 0) (hw10.1) ?_
    exact kI_ret (v := 0) hx hb hr hlocks rfl hK hS dX12_plan_41 (f13, a14, g15) hP hD ⟨rfl, hw10.2.1, hw10.2.2.1, hw10.2.2.2.1, hw10.2.2.2.2.1, hw10.2.2.2.2.2⟩
  refine lv_iload_n hx hb dX12_plan_0 rfl (lv_at hl 1 rfl) ?_
  refine lv_iconst (v := (-1)) hx hb dX12_plan_1 (by decide) ?_
  refine lv_icmp_eq (tgt := 15) hx hb dX12_plan_2 (by decide) (fun c16 => ?_) (fun c16 => ?_)
  · refine lv_aload_n hx hb dX12_plan_15 rfl (lv_at hl 0 rfl) ?_
    refine lv_aload_n hx hb dX12_plan_16 rfl (lv_at hl 0 rfl) ?_
    refine kI.callV (As := []) (rest := [.ref o]) ⟨hx, hb, hml, hown, hg⟩ (c_allBuilders l o r f a g h1 ) (cwV 0 hg (kgV wt7_164 wt7_166 wp6_14 wt1_14 wt7_167) rfl rfl rfl (by decide +kernel) ⟨by decide, by decide⟩) hK hP hD hS hA mIs [] rfl (wr := []) rfl rfl rfl (fun i h => by cases h) 0 12 rfl rfl rfl hl.1 rfl (Nat.le_of_ble_eq_true rfl) dX12_plan_17 ⟨by decide, by decide⟩ (fun v19 u18 H locs hw17 hP hD hS => ?_)
    have hP : va_P D vwCl (mW K o r f a g) H := hP
    have hD : va_D A (mW K o r f a g) := hD
    refine k_top (z := 0) (hw17) ?_
    refine lv_iload_n hx hb dX12_plan_20 rfl (lv_at hl 1 rfl) ?_
    refine lv_iconst (v := (-1)) hx hb dX12_plan_21 (by decide) ?_
    refine lv_icmp_ne (tgt := 32) hx hb dX12_plan_22 (by decide) (fun c20 => absurd c16 c20) (fun c20 => ?_)
    refine lv_aload_n hx hb dX12_plan_25 rfl (lv_at hl 0 rfl) ?_
    refine kI.callV (As := []) (rest := [.int 0, .ref o]) ⟨hx, hb, hml, hown, hg⟩ (c_allParts l o r f a g h0 ) (cwV 0 hg (kgV wt7_187 wt7_189 wp7_1 wt1_14 wt7_190) rfl rfl rfl (by decide +kernel) ⟨by decide, by decide⟩) hK hP hD hS hA mIs [] rfl (wr := []) rfl rfl rfl (fun i h => by cases h) 0 12 rfl rfl rfl hl.1 rfl (Nat.le_of_ble_eq_true rfl) dX12_plan_26 ⟨by decide, by decide⟩ (fun v23 u22 H locs hw21 hP hD hS => ?_)
    have hP : va_P D vwCl (mW K o r f a g) H := hP
    have hD : va_D A (mW K o r f a g) := hD
    refine k_top (z := 0) (hw21) ?_
    refine lv_goto (tgt := 35) hx hb dX12_plan_29 (by decide) ?_
    refine lv_sipush (v := 200) hx hb dX12_plan_35 (by decide) ?_
    refine kI.callV (As := [.int 0, .int 0, .int 200]) (rest := []) ⟨hx, hb, hml, hown, hg⟩ (c_planned200 l o r f a g h0 h1 h2 h3 h4 ) (cwV 3 hg (kgV wt7_199 wt7_201 wp7_3 wt1_14 wt7_202) rfl rfl rfl (by decide +kernel) ⟨by decide, by decide⟩) hK hP hD hS hA mIs [] rfl (wr := []) rfl rfl rfl (fun i h => by cases h) 0 12 rfl rfl rfl hl.1 rfl (Nat.le_of_ble_eq_true rfl) dX12_plan_38 ⟨by decide, by decide⟩ (fun v26 u25 H locs hw24 hP hD hS => ?_)
    obtain ⟨f27, a28, g29⟩ := u25
    have hP : va_P D vwCl (mW K o r f27 a28 g29) H := hP
    have hD : va_D A (mW K o r f27 a28 g29) := hD
    refine k_top (z := 0) (hw24.1) ?_
    exact kI_ret (v := 0) hx hb hr hlocks rfl hK hS dX12_plan_41 (f27, a28, g29) hP hD ⟨(by simp [q1, c16]), hw24.2.1, hw24.2.2.1, hw24.2.2.2.1, hw24.2.2.2.2.1, hw24.2.2.2.2.2⟩
  · refine lv_aload_n hx hb dX12_plan_5 rfl (lv_at hl 0 rfl) ?_
    refine lv_iload_n hx hb dX12_plan_6 rfl (lv_at hl 1 rfl) ?_
    refine kI.callV (As := [.int x]) (rest := []) ⟨hx, hb, hml, hown, hg⟩ (c_isPart l o r f a g h0 x) (cwV 1 hg (kgV wt6_104 wt6_106 wp3_10 wt1_14 wt6_107) rfl rfl rfl (by decide +kernel) ⟨by decide, by decide⟩) hK hP hD hS hA mIs [] rfl (wr := []) rfl rfl rfl (fun i h => by cases h) 0 12 rfl rfl rfl hl.1 rfl (Nat.le_of_ble_eq_true rfl) dX12_plan_7 ⟨by decide, by decide⟩ (fun v32 u31 H locs hw30 hP hD hS => ?_)
    have hP : va_P D vwCl (mW K o r f a g) H := hP
    have hD : va_D A (mW K o r f a g) := hD
    refine k_top (z := 0) (hw30) ?_
    refine lv_if_ne (tgt := 15) hx hb dX12_plan_10 (by decide) (fun c33 => absurd (by decide +kernel) c33) (fun c33 => ?_)
    refine lv_iconst (v := (-1)) hx hb dX12_plan_13 (by decide) ?_
    exact kI_ret (v := (-1)) hx hb hr hlocks rfl hK hS dX12_plan_14 (f, a, g) hP hD ⟨(by simp [q1, c16]), h0, h1, h2, h3, h4⟩
set_option maxHeartbeats 4000000 in
set_option maxRecDepth 100000 in
theorem c_hands (l : Launch) {D : va_G} {K : Nat → ClassId} (o : Nat) (r : Nat → Nat) (f : Nat → Int32) (a : Nat → Nat → Int32) (g : Nat → Int64) (h0 : a 2 102 = 0) (h1 : a 2 103 = 0) (h2 : a 2 104 = 0) (h3 : a 2 99 = 30) (h4 : a 2 100 = 2) (x : Int32)  : kI l yX12_hands (Cond.code yX12_hands cX12_hands 4 (some .int) :: kG) (rmD 4 0 0) D (tysK K) [.ref o, .int x] (mW K o r f a g) (fun v (u : mS) => v = (if mLies x 0 1 = 0 then (-1 : Int32) else 0)) (fun u => mW K o r u.1 u.2.1 u.2.2) 0 0 := by
  refine kI.of (cc := cX12_hands) (maxL := 4) (ret := (some .int)) (by decide) rfl (Nat.le_of_ble_eq_true rfl) ?_
  intro p e s m below meth c A hx hb hr hml hown hts hlocks hnm hK hP hD hS hA ls hl
  have hg : ∀ w ∈ kG, w.before _ s = true := fun w h => hts w (List.mem_cons_of_mem _ h)
  have hown : s.vm.findClass RX12 = some m.cls := hown
  have hl : lv_has ls 4 [(0, .ref o), (1, .int x)] := hl
  refine lv_iload_n hx hb dX12_hands_0 rfl (lv_at hl 1 rfl) ?_
  refine lv_iconst (v := 0) hx hb dX12_hands_1 (by decide) ?_
  refine lv_iconst (v := 1) hx hb dX12_hands_2 (by decide) ?_
  refine kN.callS (As := [.int x, .int 0, .int 1]) (rest := []) ⟨hx, hb, hml, hown, hg⟩ (c_lies l x 0 1) (va_cwS 3 hg (kgS wt6_69 wt6_70 wt1_14 wt6_71) rfl rfl rfl (by decide +kernel) ⟨by decide, by decide⟩) hP hS rfl hl.1 rfl (Nat.le_of_ble_eq_true rfl) dX12_hands_3 ⟨by decide, by decide⟩ (fun v2 H locs hw1 hP hS => ?_)
  refine k_top (z := mLies x 0 1) hw1 ?_
  refine lv_if_ne (tgt := 11) hx hb dX12_hands_6 (by decide) (fun c3 => ?_) (fun c3 => ?_)
  · refine lv_iconst (v := (-1)) hx hb dX12_hands_11 (by decide) ?_
    refine lv_istore_n (lv' := [(2, .int (-1)), (0, .ref o), (1, .int x)]) hx hb dX12_hands_12 rfl hl (by decide) rfl (fun ls hl => ?_)
    refine lv_iconst (v := 0) hx hb dX12_hands_13 (by decide) ?_
    refine lv_istore_n (lv' := [(3, .int 0), (2, .int (-1)), (0, .ref o), (1, .int x)]) hx hb dX12_hands_14 rfl hl (by decide) rfl (fun ls hl => ?_)
    refine lv_iload_n hx hb dX12_hands_15 rfl (lv_at hl 0 rfl) ?_
    refine lv_aload_n hx hb dX12_hands_16 rfl (lv_at hl 2 rfl) ?_
    refine kI.callV (As := []) (rest := [.int 0]) ⟨hx, hb, hml, hown, hg⟩ (c_allBuilders l o r f a g h1 ) (cwV 0 hg (kgV wt7_164 wt7_166 wp6_14 wt1_14 wt7_167) rfl rfl rfl (by decide +kernel) ⟨by decide, by decide⟩) hK hP hD hS hA mIs [] rfl (wr := []) rfl rfl rfl (fun i h => by cases h) 0 12 rfl rfl rfl hl.1 rfl (Nat.le_of_ble_eq_true rfl) dX12_hands_17 ⟨by decide, by decide⟩ (fun v6 u5 H locs hw4 hP hD hS => ?_)
    have hP : va_P D vwCl (mW K o r f a g) H := hP
    have hD : va_D A (mW K o r f a g) := hD
    refine k_top (z := 0) (hw4) ?_
    refine lv_icmp_gt (tgt := 70) hx hb dX12_hands_20 (by decide) (fun c7 => absurd c7 (by decide +kernel)) (fun c7 => ?_)
    refine lv_iload_n hx hb dX12_hands_23 rfl (lv_at hl 1 rfl) ?_
    refine lv_iconst (v := (-1)) hx hb dX12_hands_24 (by decide) ?_
    refine lv_icmp_eq (tgt := 42) hx hb dX12_hands_25 (by decide) (fun c8 => ?_) (fun c8 => absurd (by decide +kernel) c8)
    refine lv_aload_n hx hb dX12_hands_42 rfl (lv_at hl 2 rfl) ?_
    refine lv_iload_n hx hb dX12_hands_43 rfl (lv_at hl 0 rfl) ?_
    refine lv_aload_n hx hb dX12_hands_44 rfl (lv_at hl 2 rfl) ?_
    refine kI.callV (As := []) (rest := [.int 0, .ref o]) ⟨hx, hb, hml, hown, hg⟩ (c_allParts l o r f a g h0 ) (cwV 0 hg (kgV wt7_187 wt7_189 wp7_1 wt1_14 wt7_190) rfl rfl rfl (by decide +kernel) ⟨by decide, by decide⟩) hK hP hD hS hA mIs [] rfl (wr := []) rfl rfl rfl (fun i h => by cases h) 0 12 rfl rfl rfl hl.1 rfl (Nat.le_of_ble_eq_true rfl) dX12_hands_45 ⟨by decide, by decide⟩ (fun v11 u10 H locs hw9 hP hD hS => ?_)
    have hP : va_P D vwCl (mW K o r f a g) H := hP
    have hD : va_D A (mW K o r f a g) := hD
    refine k_top (z := 0) (hw9) ?_
    refine lv_aload_n hx hb dX12_hands_48 rfl (lv_at hl 2 rfl) ?_
    refine va_get (D := D) (ci := 12) (v := .ref (r 2)) (C := RX12) (T := TX12) (N := 48) hx hb hg inC12 hown hK hP 0 rfl rfl 2 (by decide) (hg _ wt5_162) (fun _ h9 => h9) rfl dX12_hands_49 ?_
    refine lv_bipush (v := 99) hx hb dX12_hands_52 (by decide) ?_
    refine va_iald hx hb hK hP 2 0 rfl rfl (k_in (by decide +kernel)) dX12_hands_54 ?_
    refine k_top (z := 30) (by rw [cl_99]; exact h3) ?_
    refine kI.callV (As := [.int 0, .int 0, .int 30]) (rest := []) ⟨hx, hb, hml, hown, hg⟩ (c_planned30 l o r f a g h0 h1 h2 h3 h4 ) (cwV 3 hg (kgV wt7_199 wt7_201 wp7_3 wt1_14 wt7_202) rfl rfl rfl (by decide +kernel) ⟨by decide, by decide⟩) hK hP hD hS hA mIs [] rfl (wr := []) rfl rfl rfl (fun i h => by cases h) 0 12 rfl rfl rfl hl.1 rfl (Nat.le_of_ble_eq_true rfl) dX12_hands_55 ⟨by decide, by decide⟩ (fun v14 u13 H locs hw12 hP hD hS => ?_)
    obtain ⟨f15, a16, g17⟩ := u13
    have hP : va_P D vwCl (mW K o r f15 a16 g17) H := hP
    have hD : va_D A (mW K o r f15 a16 g17) := hD
    refine k_top (z := 0) (hw12.1) ?_
    refine lv_iconst (v := (-1)) hx hb dX12_hands_58 (by decide) ?_
    refine lv_icmp_eq (tgt := 64) hx hb dX12_hands_59 (by decide) (fun c18 => absurd c18 (by decide +kernel)) (fun c18 => ?_)
    refine lv_iload_n hx hb dX12_hands_62 rfl (lv_at hl 0 rfl) ?_
    refine lv_istore_n (lv' := [(2, .int 0), (3, .int 0), (0, .ref o), (1, .int x)]) hx hb dX12_hands_63 rfl hl (by decide) rfl (fun ls hl => ?_)
    refine lv_iinc (v := 1) (lv' := [(3, .int 1), (2, .int 0), (0, .ref o), (1, .int x)]) hx hb dX12_hands_64 hl (k := 1) rfl (by decide +kernel) (by decide) rfl (fun ls hl => ?_)
    refine lv_goto (tgt := 15) hx hb dX12_hands_67 (by decide) ?_
    refine lv_iload_n hx hb dX12_hands_15 rfl (lv_at hl 0 rfl) ?_
    refine lv_aload_n hx hb dX12_hands_16 rfl (lv_at hl 2 rfl) ?_
    refine kI.callV (As := []) (rest := [.int 1]) ⟨hx, hb, hml, hown, hg⟩ (c_allBuilders l o r f15 a16 g17 hw12.2.2.1 ) (cwV 0 hg (kgV wt7_164 wt7_166 wp6_14 wt1_14 wt7_167) rfl rfl rfl (by decide +kernel) ⟨by decide, by decide⟩) hK hP hD hS hA mIs [] rfl (wr := []) rfl rfl rfl (fun i h => by cases h) 0 12 rfl rfl rfl hl.1 rfl (Nat.le_of_ble_eq_true rfl) dX12_hands_17 ⟨by decide, by decide⟩ (fun v21 u20 H locs hw19 hP hD hS => ?_)
    have hP : va_P D vwCl (mW K o r f15 a16 g17) H := hP
    have hD : va_D A (mW K o r f15 a16 g17) := hD
    refine k_top (z := 0) (hw19) ?_
    refine lv_icmp_gt (tgt := 70) hx hb dX12_hands_20 (by decide) (fun c22 => ?_) (fun c22 => absurd (by decide +kernel) c22)
    refine lv_iload_n hx hb dX12_hands_70 rfl (lv_at hl 1 rfl) ?_
    refine lv_iconst (v := (-1)) hx hb dX12_hands_71 (by decide) ?_
    refine lv_icmp_eq (tgt := 80) hx hb dX12_hands_72 (by decide) (fun c23 => absurd c23 (by decide +kernel)) (fun c23 => ?_)
    refine lv_iload_n hx hb dX12_hands_75 rfl (lv_at hl 3 rfl) ?_
    refine lv_iconst (v := 1) hx hb dX12_hands_76 (by decide) ?_
    refine lv_icmp_ne (tgt := 84) hx hb dX12_hands_77 (by decide) (fun c24 => ?_) (fun c24 => ?_)
    · refine lv_iload_n hx hb dX12_hands_84 rfl (lv_at hl 1 rfl) ?_
      refine kN.callS (As := [.int 0]) (rest := []) ⟨hx, hb, hml, hown, hg⟩ (c_ones0 l ) (va_cwS 1 hg (kgS wt7_71 wt7_72 wt1_14 wt7_73) rfl rfl rfl (by decide +kernel) ⟨by decide, by decide⟩) hP hS rfl hl.1 rfl (Nat.le_of_ble_eq_true rfl) dX12_hands_85 ⟨by decide, by decide⟩ (fun v26 H locs hw25 hP hS => ?_)
      refine k_top (z := 0) (hw25) ?_
      exact kI_ret (v := 0) hx hb hr hlocks rfl hK hS dX12_hands_88 (f15, a16, g17) hP hD (by simp [c3])
    · refine lv_iload_n hx hb dX12_hands_80 rfl (lv_at hl 1 rfl) ?_
      refine lv_goto (tgt := 88) hx hb dX12_hands_81 (by decide) ?_
      exact kI_ret (v := 0) hx hb hr hlocks rfl hK hS dX12_hands_88 (f15, a16, g17) hP hD (by simp [c3])
  · refine lv_iconst (v := (-1)) hx hb dX12_hands_9 (by decide) ?_
    exact kI_ret (v := (-1)) hx hb hr hlocks rfl hK hS dX12_hands_10 (f, a, g) hP hD (by simp [c3])
set_option maxHeartbeats 4000000 in
set_option maxRecDepth 100000 in
theorem c_taught (l : Launch) {D : va_G} {K : Nat → ClassId} (o : Nat) (r : Nat → Nat) (f : Nat → Int32) (a : Nat → Nat → Int32) (g : Nat → Int64) (h0 : a 2 102 = 0) (h1 : a 2 103 = 0) (h2 : a 2 104 = 0) (h3 : a 2 99 = 30) (h4 : a 2 100 = 2) (x : Int32)  : kI l yX12_taught (Cond.code yX12_taught cX12_taught 8 (some .int) :: kG) (rmD 5 0 0) D (tysK K) [.ref o, .int x] (mW K o r f a g) (fun v (u : mS) => v = (-1)) (fun u => mW K o r u.1 u.2.1 u.2.2) 0 0 := by
  refine kI.of (cc := cX12_taught) (maxL := 8) (ret := (some .int)) (by decide) rfl (Nat.le_of_ble_eq_true rfl) ?_
  intro p e s m below meth c A hx hb hr hml hown hts hlocks hnm hK hP hD hS hA ls hl
  have hg : ∀ w ∈ kG, w.before _ s = true := fun w h => hts w (List.mem_cons_of_mem _ h)
  have hown : s.vm.findClass RX12 = some m.cls := hown
  have hl : lv_has ls 8 [(0, .ref o), (1, .int x)] := hl
  refine lv_iload_n hx hb dX12_taught_0 rfl (lv_at hl 1 rfl) ?_
  refine lv_iconst (v := 0) hx hb dX12_taught_1 (by decide) ?_
  refine lv_iconst (v := 2) hx hb dX12_taught_2 (by decide) ?_
  refine kN.callS (As := [.int x, .int 0, .int 2]) (rest := []) ⟨hx, hb, hml, hown, hg⟩ (c_lies l x 0 2) (va_cwS 3 hg (kgS wt6_69 wt6_70 wt1_14 wt6_71) rfl rfl rfl (by decide +kernel) ⟨by decide, by decide⟩) hP hS rfl hl.1 rfl (Nat.le_of_ble_eq_true rfl) dX12_taught_3 ⟨by decide, by decide⟩ (fun v2 H locs hw1 hP hS => ?_)
  refine k_top (z := mLies x 0 2) hw1 ?_
  refine lv_if_ne (tgt := 11) hx hb dX12_taught_6 (by decide) (fun c3 => ?_) (fun c3 => ?_)
  · refine lv_aload_n hx hb dX12_taught_11 rfl (lv_at hl 0 rfl) ?_
    refine lv_iconst (v := (-1)) hx hb dX12_taught_12 (by decide) ?_
    refine kI.callV (As := [.int (-1)]) (rest := []) ⟨hx, hb, hml, hown, hg⟩ (c_plan l o r f a g h0 h1 h2 h3 h4 (-1)) (cwV 1 hg (kgV wt7_235 wt7_196 wt7_197 wt1_14 wt7_198) rfl rfl rfl (by decide +kernel) ⟨by decide, by decide⟩) hK hP hD hS hA mIs [] rfl (wr := []) rfl rfl rfl (fun i h => by cases h) 0 12 rfl rfl rfl hl.1 rfl (Nat.le_of_ble_eq_true rfl) dX12_taught_13 ⟨by decide, by decide⟩ (fun v6 u5 H locs hw4 hP hD hS => ?_)
    obtain ⟨f7, a8, g9⟩ := u5
    have hP : va_P D vwCl (mW K o r f7 a8 g9) H := hP
    have hD : va_D A (mW K o r f7 a8 g9) := hD
    refine k_top (z := 0) (hw4.1.trans (if_pos rfl)) ?_
    refine lv_istore_n (lv' := [(2, .int 0), (0, .ref o), (1, .int x)]) hx hb dX12_taught_16 rfl hl (by decide) rfl (fun ls hl => ?_)
    refine lv_iload_n hx hb dX12_taught_17 rfl (lv_at hl 0 rfl) ?_
    refine lv_iconst (v := (-1)) hx hb dX12_taught_18 (by decide) ?_
    refine lv_icmp_ne (tgt := 27) hx hb dX12_taught_19 (by decide) (fun c10 => ?_) (fun c10 => absurd c10 (by decide +kernel))
    refine lv_iload_n hx hb dX12_taught_27 rfl (lv_at hl 0 rfl) ?_
    refine lv_istore_n (lv' := [(3, .int 0), (2, .int 0), (0, .ref o), (1, .int x)]) hx hb dX12_taught_28 rfl hl (by decide) rfl (fun ls hl => ?_)
    refine lv_iconst (v := (-1)) hx hb dX12_taught_29 (by decide) ?_
    refine lv_istore (lv' := [(4, .int (-1)), (3, .int 0), (2, .int 0), (0, .ref o), (1, .int x)]) hx hb dX12_taught_30 hl (by decide) rfl (fun ls hl => ?_)
    refine lv_iconst (v := 0) hx hb dX12_taught_32 (by decide) ?_
    refine lv_istore (lv' := [(5, .int 0), (4, .int (-1)), (3, .int 0), (2, .int 0), (0, .ref o), (1, .int x)]) hx hb dX12_taught_33 hl (by decide) rfl (fun ls hl => ?_)
    refine lv_iload hx hb dX12_taught_35 (lv_at hl 0 rfl) ?_
    refine lv_aload_n hx hb dX12_taught_37 rfl (lv_at hl 4 rfl) ?_
    refine va_get (D := D) (ci := 12) (v := .ref (r 2)) (C := RX12) (T := TX12) (N := 48) hx hb hg inC12 hown hK hP 0 rfl rfl 2 (by decide) (hg _ wt5_162) (fun _ h9 => h9) rfl dX12_taught_38 ?_
    refine lv_bipush (v := 103) hx hb dX12_taught_41 (by decide) ?_
    refine va_iald hx hb hK hP 2 0 rfl rfl (k_in (by decide +kernel)) dX12_taught_43 ?_
    refine k_top (z := 0) (by rw [cl_103]; exact hw4.2.2.1) ?_
    refine lv_icmp_ge (tgt := 120) hx hb dX12_taught_44 (by decide) (fun c11 => ?_) (fun c11 => absurd (by decide +kernel) c11)
    refine lv_iload hx hb dX12_taught_120 (lv_at hl 1 rfl) ?_
    refine lv_iconst (v := (-1)) hx hb dX12_taught_122 (by decide) ?_
    refine lv_icmp_ne (tgt := 128) hx hb dX12_taught_123 (by decide) (fun c12 => absurd (by decide +kernel) c12) (fun c12 => ?_)
    refine lv_iconst (v := (-1)) hx hb dX12_taught_126 (by decide) ?_
    exact kI_ret (v := (-1)) hx hb hr hlocks rfl hK hS dX12_taught_127 (f7, a8, g9) hP hD rfl
  · refine lv_iconst (v := (-1)) hx hb dX12_taught_9 (by decide) ?_
    exact kI_ret (v := (-1)) hx hb hr hlocks rfl hK hS dX12_taught_10 (f, a, g) hP hD rfl
set_option maxHeartbeats 4000000 in
set_option maxRecDepth 100000 in
theorem c_unseen (l : Launch) {D : va_G} {K : Nat → ClassId} (o : Nat) (r : Nat → Nat) (f : Nat → Int32) (a : Nat → Nat → Int32) (g : Nat → Int64) (h0 : a 2 102 = 0) (h1 : a 2 103 = 0) (h2 : a 2 104 = 0) (h3 : a 2 99 = 30) (h4 : a 2 100 = 2) (x : Int32)  : kL l yX12_unseen (Cond.code yX12_unseen cX12_unseen 6 (some .long) :: kG) (rmD 3 0 0) D (tysK K) [.ref o, .int x] (mW K o r f a g) (fun v (u : mS) => v = (if mLies x 0 99 = 0 then (-1 : Int64) else 1000000000000)) (fun u => mW K o r u.1 u.2.1 u.2.2) 0 0 := by
  refine kL.of (cc := cX12_unseen) (maxL := 6) (ret := (some .long)) (by decide) rfl (Nat.le_of_ble_eq_true rfl) ?_
  intro p e s m below meth c A hx hb hr hml hown hts hlocks hnm hK hP hD hS hA ls hl
  have hg : ∀ w ∈ kG, w.before _ s = true := fun w h => hts w (List.mem_cons_of_mem _ h)
  have hown : s.vm.findClass RX12 = some m.cls := hown
  have hl : lv_has ls 6 [(0, .ref o), (1, .int x)] := hl
  refine lv_iload_n hx hb dX12_unseen_0 rfl (lv_at hl 1 rfl) ?_
  refine lv_iconst (v := 0) hx hb dX12_unseen_1 (by decide) ?_
  refine lv_bipush (v := 99) hx hb dX12_unseen_2 (by decide) ?_
  refine kN.callS (As := [.int x, .int 0, .int 99]) (rest := []) ⟨hx, hb, hml, hown, hg⟩ (c_lies l x 0 99) (va_cwS 3 hg (kgS wt6_69 wt6_70 wt1_14 wt6_71) rfl rfl rfl (by decide +kernel) ⟨by decide, by decide⟩) hP hS rfl hl.1 rfl (Nat.le_of_ble_eq_true rfl) dX12_unseen_4 ⟨by decide, by decide⟩ (fun v2 H locs hw1 hP hS => ?_)
  refine k_top (z := mLies x 0 99) hw1 ?_
  refine lv_if_ne (tgt := 14) hx hb dX12_unseen_7 (by decide) (fun c3 => ?_) (fun c3 => ?_)
  · refine lv_aload_n hx hb dX12_unseen_14 rfl (lv_at hl 0 rfl) ?_
    refine kV.callV (As := []) (rest := []) ⟨hx, hb, hml, hown, hg⟩ (c_begins l o r f a g h0 h1 h2 h3 h4 ) (cwV 0 hg (kgV wt7_203 wt7_205 wp7_4 wt1_14 wt7_206) rfl rfl rfl (by decide +kernel) ⟨by decide, by decide⟩) hK hP hD hS hA mIs [] rfl (wr := []) rfl rfl rfl (fun i h => by cases h) 0 12 rfl rfl rfl hl.1 rfl (Nat.le_of_ble_eq_true rfl) dX12_unseen_15 ⟨by decide, by decide⟩ (fun u5 H locs hw4 hP hD hS => ?_)
    obtain ⟨f7, a8, g9⟩ := u5
    have hP : va_P D vwCl (mW K o r f7 a8 g9) H := hP
    have hD : va_D A (mW K o r f7 a8 g9) := hD
    refine lv_ldc2 (v := (1000000000000)) hx hb hown (hg _ wt8_5) dX12_unseen_18 ?_
    refine lv_lstore_n (lv' := [(2, .long (1000000000000)), (0, .ref o), (1, .int x)]) hx hb dX12_unseen_21 rfl hl (by decide) rfl (fun ls hl => ?_)
    refine lv_iconst (v := 0) hx hb dX12_unseen_22 (by decide) ?_
    refine lv_istore (lv' := [(4, .int 0), (2, .long (1000000000000)), (0, .ref o), (1, .int x)]) hx hb dX12_unseen_23 hl (by decide) rfl (fun ls hl => ?_)
    refine lv_iload hx hb dX12_unseen_25 (lv_at hl 0 rfl) ?_
    refine lv_iload_n hx hb dX12_unseen_27 rfl (lv_at hl 3 rfl) ?_
    refine lv_icmp_ge (tgt := 127) hx hb dX12_unseen_28 (by decide) (fun c10 => ?_) (fun c10 => ?_)
    · refine lv_aload_n hx hb dX12_unseen_127 rfl (lv_at hl 2 rfl) ?_
      refine lv_iconst (v := 0) hx hb dX12_unseen_128 (by decide) ?_
      refine kV.callV (As := [.int 0]) (rest := []) ⟨hx, hb, hml, hown, hg⟩ (c_takesBack0 l o r f7 a8 g9 hw4.1 hw4.2.1 hw4.2.2.1 hw4.2.2.2.1 hw4.2.2.2.2 ) (cwV 1 hg (kgV wt7_223 wt7_225 wp7_9 wt1_14 wt7_226) rfl rfl rfl (by decide +kernel) ⟨by decide, by decide⟩) hK hP hD hS hA mIs [] rfl (wr := []) rfl rfl rfl (fun i h => by cases h) 0 12 rfl rfl rfl hl.1 rfl (Nat.le_of_ble_eq_true rfl) dX12_unseen_129 ⟨by decide, by decide⟩ (fun u12 H locs hw11 hP hD hS => ?_)
      obtain ⟨f14, a15, g16⟩ := u12
      have hP : va_P D vwCl (mW K o r f14 a15 g16) H := hP
      have hD : va_D A (mW K o r f14 a15 g16) := hD
      refine lv_lload_n hx hb dX12_unseen_132 rfl (lv_at hl 1 rfl) ?_
      exact kL_ret (v := (1000000000000)) hx hb hr hlocks hK hS dX12_unseen_133 (f14, a15, g16) hP hD (by simp [c3, c10])
    · refine lv_aload_n hx hb dX12_unseen_31 rfl (lv_at hl 2 rfl) ?_
      refine lv_aload_n hx hb dX12_unseen_32 rfl (lv_at hl 2 rfl) ?_
      refine kI.callV (As := []) (rest := [.ref o]) ⟨hx, hb, hml, hown, hg⟩ (c_allParts l o r f7 a8 g9 hw4.1 ) (cwV 0 hg (kgV wt7_187 wt7_189 wp7_1 wt1_14 wt7_190) rfl rfl rfl (by decide +kernel) ⟨by decide, by decide⟩) hK hP hD hS hA mIs [] rfl (wr := []) rfl rfl rfl (fun i h => by cases h) 0 12 rfl rfl rfl hl.1 rfl (Nat.le_of_ble_eq_true rfl) dX12_unseen_33 ⟨by decide, by decide⟩ (fun v19 u18 H locs hw17 hP hD hS => ?_)
      have hP : va_P D vwCl (mW K o r f7 a8 g9) H := hP
      have hD : va_D A (mW K o r f7 a8 g9) := hD
      refine k_top (z := 0) (hw17) ?_
      refine kI.callV (As := [.int 0]) (rest := []) ⟨hx, hb, hml, hown, hg⟩ (c_areStanding l o r f7 a8 g9 hw4.1 ) (cwV 1 hg (kgV wt7_211 wt7_213 wp7_6 wt1_14 wt7_214) rfl rfl rfl (by decide +kernel) ⟨by decide, by decide⟩) hK hP hD hS hA mIs [] rfl (wr := []) rfl rfl rfl (fun i h => by cases h) 0 12 rfl rfl rfl hl.1 rfl (Nat.le_of_ble_eq_true rfl) dX12_unseen_36 ⟨by decide, by decide⟩ (fun v22 u21 H locs hw20 hP hD hS => ?_)
      have hP : va_P D vwCl (mW K o r f7 a8 g9) H := hP
      have hD : va_D A (mW K o r f7 a8 g9) := hD
      refine k_top (z := 1) (hw20) ?_
      refine lv_if_ne (tgt := 127) hx hb dX12_unseen_39 (by decide) (fun c23 => ?_) (fun c23 => absurd c23 (by decide +kernel))
      refine lv_aload_n hx hb dX12_unseen_127 rfl (lv_at hl 2 rfl) ?_
      refine lv_iconst (v := 0) hx hb dX12_unseen_128 (by decide) ?_
      refine kV.callV (As := [.int 0]) (rest := []) ⟨hx, hb, hml, hown, hg⟩ (c_takesBack0 l o r f7 a8 g9 hw4.1 hw4.2.1 hw4.2.2.1 hw4.2.2.2.1 hw4.2.2.2.2 ) (cwV 1 hg (kgV wt7_223 wt7_225 wp7_9 wt1_14 wt7_226) rfl rfl rfl (by decide +kernel) ⟨by decide, by decide⟩) hK hP hD hS hA mIs [] rfl (wr := []) rfl rfl rfl (fun i h => by cases h) 0 12 rfl rfl rfl hl.1 rfl (Nat.le_of_ble_eq_true rfl) dX12_unseen_129 ⟨by decide, by decide⟩ (fun u25 H locs hw24 hP hD hS => ?_)
      obtain ⟨f27, a28, g29⟩ := u25
      have hP : va_P D vwCl (mW K o r f27 a28 g29) H := hP
      have hD : va_D A (mW K o r f27 a28 g29) := hD
      refine lv_lload_n hx hb dX12_unseen_132 rfl (lv_at hl 1 rfl) ?_
      exact kL_ret (v := (1000000000000)) hx hb hr hlocks hK hS dX12_unseen_133 (f27, a28, g29) hP hD (by simp [c3, c10])
  · refine lv_ldc2 (v := (-1)) hx hb hown (hg _ wt8_4) dX12_unseen_10 ?_
    exact kL_ret (v := (-1)) hx hb hr hlocks hK hS dX12_unseen_13 (f, a, g) hP hD (by simp [c3])
set_option maxHeartbeats 4000000 in
set_option maxRecDepth 100000 in
theorem c_whose (l : Launch) {D : va_G} {K : Nat → ClassId} (o : Nat) (r : Nat → Nat) (f : Nat → Int32) (a : Nat → Nat → Int32) (g : Nat → Int64) (h0 : a 2 102 = 0) (h1 : a 2 103 = 0) (h2 : a 2 104 = 0) (h3 : a 2 99 = 30) (h4 : a 2 100 = 2) (x : Int32)  : kI l yX12_whose (Cond.code yX12_whose cX12_whose 4 (some .int) :: kG) (rmD 4 0 0) D (tysK K) [.ref o, .int x] (mW K o r f a g) (fun v (u : mS) => v = (if (-1) ≤ x then (if (0 : Int32) = x then (0 : Int32) else if x = (-1) then 1 else -1) else -1)) (fun u => mW K o r u.1 u.2.1 u.2.2) 0 0 := by
  refine kI.of (cc := cX12_whose) (maxL := 4) (ret := (some .int)) (by decide) rfl (Nat.le_of_ble_eq_true rfl) ?_
  intro p e s m below meth c A hx hb hr hml hown hts hlocks hnm hK hP hD hS hA ls hl
  have hg : ∀ w ∈ kG, w.before _ s = true := fun w h => hts w (List.mem_cons_of_mem _ h)
  have hown : s.vm.findClass RX12 = some m.cls := hown
  have hl : lv_has ls 4 [(0, .ref o), (1, .int x)] := hl
  refine lv_iload_n hx hb dX12_whose_0 rfl (lv_at hl 1 rfl) ?_
  refine lv_iconst (v := (-1)) hx hb dX12_whose_1 (by decide) ?_
  refine lv_icmp_ge (tgt := 7) hx hb dX12_whose_2 (by decide) (fun c1 => ?_) (fun c1 => ?_)
  · refine lv_iconst (v := 0) hx hb dX12_whose_7 (by decide) ?_
    refine lv_istore_n (lv' := [(2, .int 0), (0, .ref o), (1, .int x)]) hx hb dX12_whose_8 rfl hl (by decide) rfl (fun ls hl => ?_)
    refine lv_iconst (v := 0) hx hb dX12_whose_9 (by decide) ?_
    refine lv_istore_n (lv' := [(3, .int 0), (2, .int 0), (0, .ref o), (1, .int x)]) hx hb dX12_whose_10 rfl hl (by decide) rfl (fun ls hl => ?_)
    refine lv_iload_n hx hb dX12_whose_11 rfl (lv_at hl 0 rfl) ?_
    refine lv_aload_n hx hb dX12_whose_12 rfl (lv_at hl 2 rfl) ?_
    refine kI.callV (As := []) (rest := [.int 0]) ⟨hx, hb, hml, hown, hg⟩ (c_allBuilders l o r f a g h1 ) (cwV 0 hg (kgV wt7_164 wt7_166 wp6_14 wt1_14 wt7_167) rfl rfl rfl (by decide +kernel) ⟨by decide, by decide⟩) hK hP hD hS hA mIs [] rfl (wr := []) rfl rfl rfl (fun i h => by cases h) 0 12 rfl rfl rfl hl.1 rfl (Nat.le_of_ble_eq_true rfl) dX12_whose_13 ⟨by decide, by decide⟩ (fun v4 u3 H locs hw2 hP hD hS => ?_)
    have hP : va_P D vwCl (mW K o r f a g) H := hP
    have hD : va_D A (mW K o r f a g) := hD
    refine k_top (z := 0) (hw2) ?_
    refine lv_icmp_gt (tgt := 46) hx hb dX12_whose_16 (by decide) (fun c5 => absurd c5 (by decide +kernel)) (fun c5 => ?_)
    refine lv_aload_n hx hb dX12_whose_19 rfl (lv_at hl 2 rfl) ?_
    refine lv_iload_n hx hb dX12_whose_20 rfl (lv_at hl 0 rfl) ?_
    refine kI.callV (As := [.int 0]) (rest := []) ⟨hx, hb, hml, hown, hg⟩ (c_canBeWhose l o r f a g h0 h1 h2 h3 h4 ) (cwV 1 hg (kgV wt8_19 wt8_21 wp7_11 wt1_14 wt8_22) rfl rfl rfl (by decide +kernel) ⟨by decide, by decide⟩) hK hP hD hS hA mIs [] rfl (wr := []) rfl rfl rfl (fun i h => by cases h) 0 12 rfl rfl rfl hl.1 rfl (Nat.le_of_ble_eq_true rfl) dX12_whose_21 ⟨by decide, by decide⟩ (fun v8 u7 H locs hw6 hP hD hS => ?_)
    obtain ⟨f9, a10, g11⟩ := u7
    have hP : va_P D vwCl (mW K o r f9 a10 g11) H := hP
    have hD : va_D A (mW K o r f9 a10 g11) := hD
    refine k_top (z := 1) (hw6.1) ?_
    refine lv_if_ne (tgt := 30) hx hb dX12_whose_24 (by decide) (fun c12 => ?_) (fun c12 => absurd c12 (by decide +kernel))
    refine lv_iload_n hx hb dX12_whose_30 rfl (lv_at hl 1 rfl) ?_
    refine lv_iload_n hx hb dX12_whose_31 rfl (lv_at hl 3 rfl) ?_
    refine lv_icmp_ne (tgt := 37) hx hb dX12_whose_32 (by decide) (fun c13 => ?_) (fun c13 => ?_)
    · refine lv_iinc (v := 1) (lv' := [(2, .int 1), (3, .int 0), (0, .ref o), (1, .int x)]) hx hb dX12_whose_37 hl (k := 1) rfl (by decide +kernel) (by decide) rfl (fun ls hl => ?_)
      refine lv_iinc (v := 1) (lv' := [(3, .int 1), (2, .int 1), (0, .ref o), (1, .int x)]) hx hb dX12_whose_40 hl (k := 1) rfl (by decide +kernel) (by decide) rfl (fun ls hl => ?_)
      refine lv_goto (tgt := 11) hx hb dX12_whose_43 (by decide) ?_
      refine lv_iload_n hx hb dX12_whose_11 rfl (lv_at hl 0 rfl) ?_
      refine lv_aload_n hx hb dX12_whose_12 rfl (lv_at hl 2 rfl) ?_
      refine kI.callV (As := []) (rest := [.int 1]) ⟨hx, hb, hml, hown, hg⟩ (c_allBuilders l o r f9 a10 g11 hw6.2.2.1 ) (cwV 0 hg (kgV wt7_164 wt7_166 wp6_14 wt1_14 wt7_167) rfl rfl rfl (by decide +kernel) ⟨by decide, by decide⟩) hK hP hD hS hA mIs [] rfl (wr := []) rfl rfl rfl (fun i h => by cases h) 0 12 rfl rfl rfl hl.1 rfl (Nat.le_of_ble_eq_true rfl) dX12_whose_13 ⟨by decide, by decide⟩ (fun v16 u15 H locs hw14 hP hD hS => ?_)
      have hP : va_P D vwCl (mW K o r f9 a10 g11) H := hP
      have hD : va_D A (mW K o r f9 a10 g11) := hD
      refine k_top (z := 0) (hw14) ?_
      refine lv_icmp_gt (tgt := 46) hx hb dX12_whose_16 (by decide) (fun c17 => ?_) (fun c17 => absurd (by decide +kernel) c17)
      refine lv_iload_n hx hb dX12_whose_46 rfl (lv_at hl 3 rfl) ?_
      refine lv_iconst (v := (-1)) hx hb dX12_whose_47 (by decide) ?_
      refine lv_icmp_ne (tgt := 55) hx hb dX12_whose_48 (by decide) (fun c18 => ?_) (fun c18 => ?_)
      · refine lv_iconst (v := (-1)) hx hb dX12_whose_55 (by decide) ?_
        exact kI_ret (v := (-1)) hx hb hr hlocks rfl hK hS dX12_whose_56 (f9, a10, g11) hP hD (by rw [if_pos c1, if_neg c13, if_neg c18])
      · refine lv_iload_n hx hb dX12_whose_51 rfl (lv_at hl 1 rfl) ?_
        refine lv_goto (tgt := 56) hx hb dX12_whose_52 (by decide) ?_
        exact kI_ret (v := 1) hx hb hr hlocks rfl hK hS dX12_whose_56 (f9, a10, g11) hP hD (by rw [if_pos c1, if_neg c13, if_pos c18])
    · refine lv_iload_n hx hb dX12_whose_35 rfl (lv_at hl 0 rfl) ?_
      exact kI_ret (v := 0) hx hb hr hlocks rfl hK hS dX12_whose_36 (f9, a10, g11) hP hD (by rw [if_pos c1, if_pos c13])
  · refine lv_iconst (v := (-1)) hx hb dX12_whose_5 (by decide) ?_
    exact kI_ret (v := (-1)) hx hb hr hlocks rfl hK hS dX12_whose_6 (f, a, g) hP hD (by rw [if_neg c1])
