set_option maxHeartbeats 4000000 in
set_option maxRecDepth 100000 in
theorem c_rest (l : Launch) {D : va_G} {K : Nat → ClassId} (o : Nat) (r : Nat → Nat) (f : Nat → Int32) (a : Nat → Nat → Int32) (g : Nat → Int64) (h0 : a 2 103 = 0) (x : Int32)  : kI l yX12_rest (Cond.code yX12_rest cX12_rest 2 (some .int) :: kG) (rmD 4 0 0) D (tysK K) [.ref o, .int x] (mW K o r f a g) (fun v (u : mS) => v = (-2)) (fun u => mW K o r u.1 u.2.1 u.2.2) 0 0 := by
  refine kI.of (cc := cX12_rest) (maxL := 2) (ret := (some .int)) (by decide) rfl (Nat.le_of_ble_eq_true rfl) ?_
  intro p e s m below meth c A hx hb hr hml hown hts hlocks hnm hK hP hD hS hA ls hl
  have hg : ∀ w ∈ kG, w.before _ s = true := fun w h => hts w (List.mem_cons_of_mem _ h)
  have hown : s.vm.findClass RX12 = some m.cls := hown
  have hl : lv_has ls 2 [(0, .ref o), (1, .int x)] := hl
  refine lv_aload_n hx hb dX12_rest_0 rfl (lv_at hl 0 rfl) ?_
  refine lv_aload_n hx hb dX12_rest_1 rfl (lv_at hl 0 rfl) ?_
  refine lv_iload_n hx hb dX12_rest_2 rfl (lv_at hl 1 rfl) ?_
  refine kI.callV (As := [.int x]) (rest := [.ref o]) ⟨hx, hb, hml, hown, hg⟩ (c_restsKept l o r f a g h0 x) (cwV 1 hg (kgV wt7_136 wt7_138 wp6_9 wt1_14 wt7_139) rfl rfl rfl (by decide +kernel) ⟨by decide, by decide⟩) hK hP hD hS hA mIs [] rfl (wr := []) rfl rfl rfl (fun i h => by cases h) 0 12 rfl rfl rfl hl.1 rfl (Nat.le_of_ble_eq_true rfl) dX12_rest_3 ⟨by decide, by decide⟩ (fun v3 u2 H locs hw1 hP hD hS => ?_)
  have hP : va_P D vwCl (mW K o r f a g) H := hP
  have hD : va_D A (mW K o r f a g) := hD
  refine k_top (z := (-2)) (hw1) ?_
  refine kI.callV (As := [.int (-2)]) (rest := []) ⟨hx, hb, hml, hown, hg⟩ (c_goodOr2 l o r f a g  ) (cwV 1 hg (kgV wt7_128 wt7_130 wp6_8 wt1_14 wt7_131) rfl rfl rfl (by decide +kernel) ⟨by decide, by decide⟩) hK hP hD hS hA mIs [] rfl (wr := []) rfl rfl rfl (fun i h => by cases h) 0 12 rfl rfl rfl hl.1 rfl (Nat.le_of_ble_eq_true rfl) dX12_rest_6 ⟨by decide, by decide⟩ (fun v6 u5 H locs hw4 hP hD hS => ?_)
  obtain ⟨f7, a8, g9⟩ := u5
  have hP : va_P D vwCl (mW K o r f7 a8 g9) H := hP
  have hD : va_D A (mW K o r f7 a8 g9) := hD
  refine k_top (z := (-2)) (hw4) ?_
  exact kI_ret (v := (-2)) hx hb hr hlocks rfl hK hS dX12_rest_9 (f7, a8, g9) hP hD rfl
set_option maxHeartbeats 4000000 in
set_option maxRecDepth 100000 in
theorem c_throwDown (l : Launch) {D : va_G} {K : Nat → ClassId} (o : Nat) (r : Nat → Nat) (f : Nat → Int32) (a : Nat → Nat → Int32) (g : Nat → Int64) (h0 : a 2 102 = 0) (x : Int32)  : kI l yX12_throwDown (Cond.code yX12_throwDown cX12_throwDown 2 (some .int) :: kG) (rmD 4 0 0) D (tysK K) [.ref o, .int x] (mW K o r f a g) (fun v (u : mS) => v = (-2)) (fun u => mW K o r u.1 u.2.1 u.2.2) 0 0 := by
  refine kI.of (cc := cX12_throwDown) (maxL := 2) (ret := (some .int)) (by decide) rfl (Nat.le_of_ble_eq_true rfl) ?_
  intro p e s m below meth c A hx hb hr hml hown hts hlocks hnm hK hP hD hS hA ls hl
  have hg : ∀ w ∈ kG, w.before _ s = true := fun w h => hts w (List.mem_cons_of_mem _ h)
  have hown : s.vm.findClass RX12 = some m.cls := hown
  have hl : lv_has ls 2 [(0, .ref o), (1, .int x)] := hl
  refine lv_aload_n hx hb dX12_throwDown_0 rfl (lv_at hl 0 rfl) ?_
  refine lv_aload_n hx hb dX12_throwDown_1 rfl (lv_at hl 0 rfl) ?_
  refine lv_iload_n hx hb dX12_throwDown_2 rfl (lv_at hl 1 rfl) ?_
  refine kI.callV (As := [.int x]) (rest := [.ref o]) ⟨hx, hb, hml, hown, hg⟩ (c_throwsKept l o r f a g h0 x) (cwV 1 hg (kgV wt7_144 wt7_146 wp6_10 wt1_14 wt7_147) rfl rfl rfl (by decide +kernel) ⟨by decide, by decide⟩) hK hP hD hS hA mIs [] rfl (wr := []) rfl rfl rfl (fun i h => by cases h) 0 12 rfl rfl rfl hl.1 rfl (Nat.le_of_ble_eq_true rfl) dX12_throwDown_3 ⟨by decide, by decide⟩ (fun v3 u2 H locs hw1 hP hD hS => ?_)
  have hP : va_P D vwCl (mW K o r f a g) H := hP
  have hD : va_D A (mW K o r f a g) := hD
  refine k_top (z := (-2)) (hw1) ?_
  refine kI.callV (As := [.int (-2)]) (rest := []) ⟨hx, hb, hml, hown, hg⟩ (c_goodOr2 l o r f a g  ) (cwV 1 hg (kgV wt7_128 wt7_130 wp6_8 wt1_14 wt7_131) rfl rfl rfl (by decide +kernel) ⟨by decide, by decide⟩) hK hP hD hS hA mIs [] rfl (wr := []) rfl rfl rfl (fun i h => by cases h) 0 12 rfl rfl rfl hl.1 rfl (Nat.le_of_ble_eq_true rfl) dX12_throwDown_6 ⟨by decide, by decide⟩ (fun v6 u5 H locs hw4 hP hD hS => ?_)
  obtain ⟨f7, a8, g9⟩ := u5
  have hP : va_P D vwCl (mW K o r f7 a8 g9) H := hP
  have hD : va_D A (mW K o r f7 a8 g9) := hD
  refine k_top (z := (-2)) (hw4) ?_
  exact kI_ret (v := (-2)) hx hb hr hlocks rfl hK hS dX12_throwDown_9 (f7, a8, g9) hP hD rfl
set_option maxHeartbeats 4000000 in
set_option maxRecDepth 100000 in
theorem c_undo (l : Launch) {D : va_G} {K : Nat → ClassId} (o : Nat) (r : Nat → Nat) (f : Nat → Int32) (a : Nat → Nat → Int32) (g : Nat → Int64) (h0 : f 33 = 0)   : kI l yX12_undo (Cond.code yX12_undo cX12_undo 3 (some .int) :: kG) (rmD 2 0 0) D (tysK K) [.ref o] (mW K o r f a g) (fun v (u : mS) => v = (-3)) (fun u => mW K o r u.1 u.2.1 u.2.2) 0 0 := by
  refine kI.of (cc := cX12_undo) (maxL := 3) (ret := (some .int)) (by decide) rfl (Nat.le_of_ble_eq_true rfl) ?_
  intro p e s m below meth c A hx hb hr hml hown hts hlocks hnm hK hP hD hS hA ls hl
  have hg : ∀ w ∈ kG, w.before _ s = true := fun w h => hts w (List.mem_cons_of_mem _ h)
  have hown : s.vm.findClass RX12 = some m.cls := hown
  have hl : lv_has ls 3 [(0, .ref o)] := hl
  refine lv_aload_n hx hb dX12_undo_0 rfl (lv_at hl 0 rfl) ?_
  refine va_get (D := D) (ci := 12) (v := .int (f 33)) (C := RX12) (T := TX12) (N := 48) hx hb hg inC12 hown hK hP 0 rfl rfl 33 (by decide) (hg _ wt5_193) (fun _ h9 => h9) rfl dX12_undo_1 ?_
  refine k_top (z := 0) h0 ?_
  refine lv_if_ne (tgt := 14) hx hb dX12_undo_4 (by decide) (fun c1 => absurd (by decide +kernel) c1) (fun c1 => ?_)
  refine lv_aload_n hx hb dX12_undo_7 rfl (lv_at hl 0 rfl) ?_
  refine lv_bipush (v := (-3)) hx hb dX12_undo_8 (by decide) ?_
  refine kI.callV (As := [.int (-3)]) (rest := []) ⟨hx, hb, hml, hown, hg⟩ (c_refuses3 l o r f a g  ) (cwV 1 hg (kgV wt6_72 wt6_74 wp3_5 wt1_14 wt6_75) rfl rfl rfl (by decide +kernel) ⟨by decide, by decide⟩) hK hP hD hS hA mIs [] rfl (wr := []) rfl rfl rfl (fun i h => by cases h) 0 12 rfl rfl rfl hl.1 rfl (Nat.le_of_ble_eq_true rfl) dX12_undo_10 ⟨by decide, by decide⟩ (fun v4 u3 H locs hw2 hP hD hS => ?_)
  obtain ⟨f5, a6, g7⟩ := u3
  have hP : va_P D vwCl (mW K o r f5 a6 g7) H := hP
  have hD : va_D A (mW K o r f5 a6 g7) := hD
  refine k_top (z := (-3)) (hw2) ?_
  exact kI_ret (v := (-3)) hx hb hr hlocks rfl hK hS dX12_undo_13 (f5, a6, g7) hP hD rfl
set_option maxHeartbeats 4000000 in
set_option maxRecDepth 100000 in
theorem c_laysChains (l : Launch) {D : va_G} {K : Nat → ClassId} (o : Nat) (r : Nat → Nat) (f : Nat → Int32) (a : Nat → Nat → Int32) (g : Nat → Int64) (h0 : a 2 102 = 0)   : kV l yX12_laysChains (Cond.code yX12_laysChains cX12_laysChains 4 none :: kG) (rmD 1 0 0) D (tysK K) [.ref o] (mW K o r f a g) (fun (_ : Unit) => True) (fun _ => mW K o r f a g) 0 0 := by
  refine kV.of (cc := cX12_laysChains) (maxL := 4) (ret := none) (by decide) rfl (Nat.le_of_ble_eq_true rfl) ?_
  intro p e s m below meth c A hx hb hr hml hown hts hlocks hnm hK hP hD hS hA ls hl
  have hg : ∀ w ∈ kG, w.before _ s = true := fun w h => hts w (List.mem_cons_of_mem _ h)
  have hown : s.vm.findClass RX12 = some m.cls := hown
  have hl : lv_has ls 4 [(0, .ref o)] := hl
  refine lv_aload_n hx hb dX12_laysChains_0 rfl (lv_at hl 0 rfl) ?_
  refine va_get (D := D) (ci := 12) (v := .ref (r 2)) (C := RX12) (T := TX12) (N := 48) hx hb hg inC12 hown hK hP 0 rfl rfl 2 (by decide) (hg _ wt5_162) (fun _ h9 => h9) rfl dX12_laysChains_1 ?_
  refine lv_bipush (v := 102) hx hb dX12_laysChains_4 (by decide) ?_
  refine va_iald hx hb hK hP 2 0 rfl rfl (k_in (by decide +kernel)) dX12_laysChains_6 ?_
  refine k_top (z := 0) (by rw [cl_102]; exact h0) ?_
  refine lv_iconst (v := 1) hx hb dX12_laysChains_7 (by decide) ?_
  refine lv_isub hx hb dX12_laysChains_8 ?_
  refine k_top (z := (-1)) (by decide +kernel) ?_
  refine lv_istore_n (lv' := [(1, .int (-1)), (0, .ref o)]) hx hb dX12_laysChains_9 rfl hl (by decide) rfl (fun ls hl => ?_)
  refine lv_iload_n hx hb dX12_laysChains_10 rfl (lv_at hl 0 rfl) ?_
  refine lv_if_lt (tgt := 94) hx hb dX12_laysChains_11 (by decide) (fun c1 => ?_) (fun c1 => absurd (by decide +kernel) c1)
  exact kV_ret hx hb hr hlocks hK hS dX12_laysChains_94 () hP hD trivial
set_option maxHeartbeats 4000000 in
set_option maxRecDepth 100000 in
theorem c_longest (l : Launch) {D : va_G} {K : Nat → ClassId} (o : Nat) (r : Nat → Nat) (f : Nat → Int32) (a : Nat → Nat → Int32) (g : Nat → Int64) (h0 : a 2 102 = 0)   : kI l yX12_longest (Cond.code yX12_longest cX12_longest 3 (some .int) :: kG) (rmD 2 0 0) D (tysK K) [.ref o] (mW K o r f a g) (fun v (_ : Unit) => v = 0) (fun _ => mW K o r f a g) 0 0 := by
  refine kI.of (cc := cX12_longest) (maxL := 3) (ret := (some .int)) (by decide) rfl (Nat.le_of_ble_eq_true rfl) ?_
  intro p e s m below meth c A hx hb hr hml hown hts hlocks hnm hK hP hD hS hA ls hl
  have hg : ∀ w ∈ kG, w.before _ s = true := fun w h => hts w (List.mem_cons_of_mem _ h)
  have hown : s.vm.findClass RX12 = some m.cls := hown
  have hl : lv_has ls 3 [(0, .ref o)] := hl
  refine lv_aload_n hx hb dX12_longest_0 rfl (lv_at hl 0 rfl) ?_
  refine kV.callV (As := []) (rest := []) ⟨hx, hb, hml, hown, hg⟩ (c_laysChains l o r f a g h0 ) (cwV 0 hg (kgV wt6_120 wt6_122 wp3_14 wt1_14 wt6_123) rfl rfl rfl (by decide +kernel) ⟨by decide, by decide⟩) hK hP hD hS hA mIs [] rfl (wr := []) rfl rfl rfl (fun i h => by cases h) 0 12 rfl rfl rfl hl.1 rfl (Nat.le_of_ble_eq_true rfl) dX12_longest_1 ⟨by decide, by decide⟩ (fun u2 H locs hw1 hP hD hS => ?_)
  have hP : va_P D vwCl (mW K o r f a g) H := hP
  have hD : va_D A (mW K o r f a g) := hD
  refine lv_iconst (v := 0) hx hb dX12_longest_4 (by decide) ?_
  refine lv_istore_n (lv' := [(1, .int 0), (0, .ref o)]) hx hb dX12_longest_5 rfl hl (by decide) rfl (fun ls hl => ?_)
  refine lv_iconst (v := 0) hx hb dX12_longest_6 (by decide) ?_
  refine lv_istore_n (lv' := [(2, .int 0), (1, .int 0), (0, .ref o)]) hx hb dX12_longest_7 rfl hl (by decide) rfl (fun ls hl => ?_)
  refine lv_iload_n hx hb dX12_longest_8 rfl (lv_at hl 0 rfl) ?_
  refine lv_aload_n hx hb dX12_longest_9 rfl (lv_at hl 2 rfl) ?_
  refine va_get (D := D) (ci := 12) (v := .ref (r 2)) (C := RX12) (T := TX12) (N := 48) hx hb hg inC12 hown hK hP 0 rfl rfl 2 (by decide) (hg _ wt5_162) (fun _ h9 => h9) rfl dX12_longest_10 ?_
  refine lv_bipush (v := 102) hx hb dX12_longest_13 (by decide) ?_
  refine va_iald hx hb hK hP 2 0 rfl rfl (k_in (by decide +kernel)) dX12_longest_15 ?_
  refine k_top (z := 0) (by rw [cl_102]; exact h0) ?_
  refine lv_icmp_ge (tgt := 36) hx hb dX12_longest_16 (by decide) (fun c4 => ?_) (fun c4 => absurd (by decide +kernel) c4)
  refine lv_iload_n hx hb dX12_longest_36 rfl (lv_at hl 1 rfl) ?_
  exact kI_ret (v := 0) hx hb hr hlocks rfl hK hS dX12_longest_37 () hP hD rfl
set_option maxHeartbeats 4000000 in
set_option maxRecDepth 100000 in
theorem c_laysOrders (l : Launch) {D : va_G} {K : Nat → ClassId} (o : Nat) (r : Nat → Nat) (f : Nat → Int32) (a : Nat → Nat → Int32) (g : Nat → Int64) (h0 : a 2 102 = 0)   : kV l yX12_laysOrders (Cond.code yX12_laysOrders cX12_laysOrders 5 none :: kG) (rmD 2 0 0) D (tysK K) [.ref o] (mW K o r f a g) (fun (u : mS) => u.2.1 2 102 = 0 ∧ u.2.1 35 0 = 1) (fun u => mW K o r u.1 u.2.1 u.2.2) 0 0 := by
  refine kV.of (cc := cX12_laysOrders) (maxL := 5) (ret := none) (by decide) rfl (Nat.le_of_ble_eq_true rfl) ?_
  intro p e s m below meth c A hx hb hr hml hown hts hlocks hnm hK hP hD hS hA ls hl
  have hg : ∀ w ∈ kG, w.before _ s = true := fun w h => hts w (List.mem_cons_of_mem _ h)
  have hown : s.vm.findClass RX12 = some m.cls := hown
  have hl : lv_has ls 5 [(0, .ref o)] := hl
  refine lv_aload_n hx hb dX12_laysOrders_0 rfl (lv_at hl 0 rfl) ?_
  refine kI.callV (As := []) (rest := []) ⟨hx, hb, hml, hown, hg⟩ (c_allParts l o r f a g h0 ) (cwV 0 hg (kgV wt7_187 wt7_189 wp7_1 wt1_14 wt7_190) rfl rfl rfl (by decide +kernel) ⟨by decide, by decide⟩) hK hP hD hS hA mIs [] rfl (wr := []) rfl rfl rfl (fun i h => by cases h) 0 12 rfl rfl rfl hl.1 rfl (Nat.le_of_ble_eq_true rfl) dX12_laysOrders_1 ⟨by decide, by decide⟩ (fun v3 u2 H locs hw1 hP hD hS => ?_)
  have hP : va_P D vwCl (mW K o r f a g) H := hP
  have hD : va_D A (mW K o r f a g) := hD
  refine k_top (z := 0) (hw1) ?_
  refine lv_istore_n (lv' := [(1, .int 0), (0, .ref o)]) hx hb dX12_laysOrders_4 rfl hl (by decide) rfl (fun ls hl => ?_)
  refine lv_aload_n hx hb dX12_laysOrders_5 rfl (lv_at hl 1 rfl) ?_
  refine va_get (D := D) (ci := 12) (v := .ref (r 35)) (C := RX12) (T := TX12) (N := 48) hx hb hg inC12 hown hK hP 0 rfl rfl 35 (by decide) (hg _ wt5_195) (fun _ h9 => h9) rfl dX12_laysOrders_6 ?_
  refine lv_iload_n hx hb dX12_laysOrders_9 rfl (lv_at hl 0 rfl) ?_
  refine lv_iconst (v := 1) hx hb dX12_laysOrders_10 (by decide) ?_
  refine va_iast hx hb hK hP hD hS 18 0 rfl rfl (k_in (by decide +kernel)) dX12_laysOrders_11 (fun H locs hP hD hS => ?_)
  rw [cl_0] at hP hD
  have hP : va_P D vwCl (mW K o r f (va_up a 35 (upd (a 35) 0 1)) g) H := hP
  have hD : va_D A (mW K o r f (va_up a 35 (upd (a 35) 0 1)) g) := hD
  refine k_gen (P := fun z => va_P D vwCl (mW K o r f z g) H ∧ va_D A (mW K o r f z g)) (va_up a 35 (upd (a 35) 0 1)) ⟨hP, hD⟩ (fun a_4 ea_4 hPD => ?_)
  have hP := hPD.1
  have hD := hPD.2
  refine lv_iload_n hx hb dX12_laysOrders_12 rfl (lv_at hl 0 rfl) ?_
  refine lv_iconst (v := 1) hx hb dX12_laysOrders_13 (by decide) ?_
  refine lv_isub hx hb dX12_laysOrders_14 ?_
  refine k_top (z := (-1)) (by decide +kernel) ?_
  refine lv_istore_n (lv' := [(2, .int (-1)), (1, .int 0), (0, .ref o)]) hx hb dX12_laysOrders_15 rfl hl (by decide) rfl (fun ls hl => ?_)
  refine lv_iload_n hx hb dX12_laysOrders_16 rfl (lv_at hl 0 rfl) ?_
  refine lv_if_lt (tgt := 84) hx hb dX12_laysOrders_17 (by decide) (fun c5 => ?_) (fun c5 => absurd (by decide +kernel) c5)
  exact kV_ret hx hb hr hlocks hK hS dX12_laysOrders_84 (f, a_4, g) hP hD ⟨((show a_4 2 102 = a 2 102 from by rw [← ea_4]; rfl).trans h0), (show a_4 35 0 = 1 from by rw [← ea_4]; rfl)⟩
set_option maxHeartbeats 4000000 in
set_option maxRecDepth 100000 in
theorem c_drawn (l : Launch) {D : va_G} {K : Nat → ClassId} (o : Nat) (r : Nat → Nat) (f : Nat → Int32) (a : Nat → Nat → Int32) (g : Nat → Int64) (h0 : f 45 = (-1)) (x : Int32) (y : Int32)  : kI l yX12_drawn (Cond.code yX12_drawn cX12_drawn 3 (some .int) :: kG) (rmD 1 0 0) D (tysK K) [.ref o, .int x, .int y] (mW K o r f a g) (fun v (_ : Unit) => v = (-1)) (fun _ => mW K o r f a g) 0 0 := by
  refine kI.of (cc := cX12_drawn) (maxL := 3) (ret := (some .int)) (by decide) rfl (Nat.le_of_ble_eq_true rfl) ?_
  intro p e s m below meth c A hx hb hr hml hown hts hlocks hnm hK hP hD hS hA ls hl
  have hg : ∀ w ∈ kG, w.before _ s = true := fun w h => hts w (List.mem_cons_of_mem _ h)
  have hown : s.vm.findClass RX12 = some m.cls := hown
  have hl : lv_has ls 3 [(0, .ref o), (1, .int x), (2, .int y)] := hl
  refine lv_aload_n hx hb dX12_drawn_0 rfl (lv_at hl 0 rfl) ?_
  refine va_get (D := D) (ci := 12) (v := .int (f 45)) (C := RX12) (T := TX12) (N := 48) hx hb hg inC12 hown hK hP 0 rfl rfl 45 (by decide) (hg _ wt5_205) (fun _ h9 => h9) rfl dX12_drawn_1 ?_
  refine k_top (z := (-1)) h0 ?_
  refine lv_iconst (v := (-1)) hx hb dX12_drawn_4 (by decide) ?_
  refine lv_icmp_eq (tgt := 42) hx hb dX12_drawn_5 (by decide) (fun c1 => ?_) (fun c1 => absurd (by decide +kernel) c1)
  refine lv_iconst (v := (-1)) hx hb dX12_drawn_42 (by decide) ?_
  exact kI_ret (v := (-1)) hx hb hr hlocks rfl hK hS dX12_drawn_43 () hP hD rfl
set_option maxHeartbeats 4000000 in
set_option maxRecDepth 100000 in
theorem c_sight (l : Launch) {D : va_G} {K : Nat → ClassId} (o : Nat) (r : Nat → Nat) (f : Nat → Int32) (a : Nat → Nat → Int32) (g : Nat → Int64) (h0 : a 2 102 = 0) (x : Int32) (y : Int32) (z : Int32)  : kI l yX12_sight (Cond.code yX12_sight cX12_sight 5 (some .int) :: kG) (rmD 3 0 0) D (tysK K) [.ref o, .int x, .int y, .int z] (mW K o r f a g) (fun v (u : mS) => v = (if mLies x 0 99 = 0 then (-1 : Int32) else if mLies z 0 1 = 0 then -1 else -2)) (fun u => mW K o r u.1 u.2.1 u.2.2) 0 0 := by
  refine kI.of (cc := cX12_sight) (maxL := 5) (ret := (some .int)) (by decide) rfl (Nat.le_of_ble_eq_true rfl) ?_
  intro p e s m below meth c A hx hb hr hml hown hts hlocks hnm hK hP hD hS hA ls hl
  have hg : ∀ w ∈ kG, w.before _ s = true := fun w h => hts w (List.mem_cons_of_mem _ h)
  have hown : s.vm.findClass RX12 = some m.cls := hown
  have hl : lv_has ls 5 [(0, .ref o), (1, .int x), (2, .int y), (3, .int z)] := hl
  refine lv_iload_n hx hb dX12_sight_0 rfl (lv_at hl 1 rfl) ?_
  refine lv_iconst (v := 0) hx hb dX12_sight_1 (by decide) ?_
  refine lv_bipush (v := 99) hx hb dX12_sight_2 (by decide) ?_
  refine kN.callS (As := [.int x, .int 0, .int 99]) (rest := []) ⟨hx, hb, hml, hown, hg⟩ (c_lies l x 0 99) (va_cwS 3 hg (kgS wt6_69 wt6_70 wt1_14 wt6_71) rfl rfl rfl (by decide +kernel) ⟨by decide, by decide⟩) hP hS rfl hl.1 rfl (Nat.le_of_ble_eq_true rfl) dX12_sight_4 ⟨by decide, by decide⟩ (fun v2 H locs hw1 hP hS => ?_)
  refine k_top (z := mLies x 0 99) hw1 ?_
  refine lv_if_eq (tgt := 19) hx hb dX12_sight_7 (by decide) (fun c3 => ?_) (fun c3 => ?_)
  · refine lv_aload_n hx hb dX12_sight_19 rfl (lv_at hl 0 rfl) ?_
    refine lv_iconst (v := (-1)) hx hb dX12_sight_20 (by decide) ?_
    refine kI.callV (As := [.int (-1)]) (rest := []) ⟨hx, hb, hml, hown, hg⟩ (c_refuses1 l o r f a g  ) (cwV 1 hg (kgV wt6_72 wt6_74 wp3_5 wt1_14 wt6_75) rfl rfl rfl (by decide +kernel) ⟨by decide, by decide⟩) hK hP hD hS hA mIs [] rfl (wr := []) rfl rfl rfl (fun i h => by cases h) 0 12 rfl rfl rfl hl.1 rfl (Nat.le_of_ble_eq_true rfl) dX12_sight_21 ⟨by decide, by decide⟩ (fun v6 u5 H locs hw4 hP hD hS => ?_)
    obtain ⟨f7, a8, g9⟩ := u5
    have hP : va_P D vwCl (mW K o r f7 a8 g9) H := hP
    have hD : va_D A (mW K o r f7 a8 g9) := hD
    refine k_top (z := (-1)) (hw4) ?_
    exact kI_ret (v := (-1)) hx hb hr hlocks rfl hK hS dX12_sight_24 (f7, a8, g9) hP hD (by simp [c3])
  · refine lv_iload_n hx hb dX12_sight_10 rfl (lv_at hl 3 rfl) ?_
    refine lv_iconst (v := 0) hx hb dX12_sight_11 (by decide) ?_
    refine lv_iconst (v := 1) hx hb dX12_sight_12 (by decide) ?_
    refine kN.callS (As := [.int z, .int 0, .int 1]) (rest := []) ⟨hx, hb, hml, hown, hg⟩ (c_lies l z 0 1) (va_cwS 3 hg (kgS wt6_69 wt6_70 wt1_14 wt6_71) rfl rfl rfl (by decide +kernel) ⟨by decide, by decide⟩) hP hS rfl hl.1 rfl (Nat.le_of_ble_eq_true rfl) dX12_sight_13 ⟨by decide, by decide⟩ (fun v11 H locs hw10 hP hS => ?_)
    refine k_top (z := mLies z 0 1) hw10 ?_
    refine lv_if_ne (tgt := 25) hx hb dX12_sight_16 (by decide) (fun c12 => ?_) (fun c12 => ?_)
    · refine lv_aload_n hx hb dX12_sight_25 rfl (lv_at hl 0 rfl) ?_
      refine lv_iload_n hx hb dX12_sight_26 rfl (lv_at hl 2 rfl) ?_
      refine kI.callV (As := [.int y]) (rest := []) ⟨hx, hb, hml, hown, hg⟩ (c_isPart l o r f a g h0 y) (cwV 1 hg (kgV wt6_104 wt6_106 wp3_10 wt1_14 wt6_107) rfl rfl rfl (by decide +kernel) ⟨by decide, by decide⟩) hK hP hD hS hA mIs [] rfl (wr := []) rfl rfl rfl (fun i h => by cases h) 0 12 rfl rfl rfl hl.1 rfl (Nat.le_of_ble_eq_true rfl) dX12_sight_27 ⟨by decide, by decide⟩ (fun v15 u14 H locs hw13 hP hD hS => ?_)
      have hP : va_P D vwCl (mW K o r f a g) H := hP
      have hD : va_D A (mW K o r f a g) := hD
      refine k_top (z := 0) (hw13) ?_
      refine lv_if_ne (tgt := 40) hx hb dX12_sight_30 (by decide) (fun c16 => absurd (by decide +kernel) c16) (fun c16 => ?_)
      refine lv_aload_n hx hb dX12_sight_33 rfl (lv_at hl 0 rfl) ?_
      refine lv_bipush (v := (-2)) hx hb dX12_sight_34 (by decide) ?_
      refine kI.callV (As := [.int (-2)]) (rest := []) ⟨hx, hb, hml, hown, hg⟩ (c_refuses2 l o r f a g  ) (cwV 1 hg (kgV wt6_72 wt6_74 wp3_5 wt1_14 wt6_75) rfl rfl rfl (by decide +kernel) ⟨by decide, by decide⟩) hK hP hD hS hA mIs [] rfl (wr := []) rfl rfl rfl (fun i h => by cases h) 0 12 rfl rfl rfl hl.1 rfl (Nat.le_of_ble_eq_true rfl) dX12_sight_36 ⟨by decide, by decide⟩ (fun v19 u18 H locs hw17 hP hD hS => ?_)
      obtain ⟨f20, a21, g22⟩ := u18
      have hP : va_P D vwCl (mW K o r f20 a21 g22) H := hP
      have hD : va_D A (mW K o r f20 a21 g22) := hD
      refine k_top (z := (-2)) (hw17) ?_
      exact kI_ret (v := (-2)) hx hb hr hlocks rfl hK hS dX12_sight_39 (f20, a21, g22) hP hD (by simp [c3, c12])
    · refine lv_aload_n hx hb dX12_sight_19 rfl (lv_at hl 0 rfl) ?_
      refine lv_iconst (v := (-1)) hx hb dX12_sight_20 (by decide) ?_
      refine kI.callV (As := [.int (-1)]) (rest := []) ⟨hx, hb, hml, hown, hg⟩ (c_refuses1 l o r f a g  ) (cwV 1 hg (kgV wt6_72 wt6_74 wp3_5 wt1_14 wt6_75) rfl rfl rfl (by decide +kernel) ⟨by decide, by decide⟩) hK hP hD hS hA mIs [] rfl (wr := []) rfl rfl rfl (fun i h => by cases h) 0 12 rfl rfl rfl hl.1 rfl (Nat.le_of_ble_eq_true rfl) dX12_sight_21 ⟨by decide, by decide⟩ (fun v25 u24 H locs hw23 hP hD hS => ?_)
      obtain ⟨f26, a27, g28⟩ := u24
      have hP : va_P D vwCl (mW K o r f26 a27 g28) H := hP
      have hD : va_D A (mW K o r f26 a27 g28) := hD
      refine k_top (z := (-1)) (hw23) ?_
      exact kI_ret (v := (-1)) hx hb hr hlocks rfl hK hS dX12_sight_24 (f26, a27, g28) hP hD (by simp [c3, c12])
set_option maxHeartbeats 4000000 in
set_option maxRecDepth 100000 in
theorem c_forget (l : Launch) {D : va_G} {K : Nat → ClassId} (o : Nat) (r : Nat → Nat) (f : Nat → Int32) (a : Nat → Nat → Int32) (g : Nat → Int64) (h0 : a 2 104 = 0)   : kI l yX12_forget (Cond.code yX12_forget cX12_forget 2 (some .int) :: kG) (rmD 1 0 0) D (tysK K) [.ref o] (mW K o r f a g) (fun v (u : mS) => v = 0) (fun u => mW K o r u.1 u.2.1 u.2.2) 0 0 := by
  refine kI.of (cc := cX12_forget) (maxL := 2) (ret := (some .int)) (by decide) rfl (Nat.le_of_ble_eq_true rfl) ?_
  intro p e s m below meth c A hx hb hr hml hown hts hlocks hnm hK hP hD hS hA ls hl
  have hg : ∀ w ∈ kG, w.before _ s = true := fun w h => hts w (List.mem_cons_of_mem _ h)
  have hown : s.vm.findClass RX12 = some m.cls := hown
  have hl : lv_has ls 2 [(0, .ref o)] := hl
  refine lv_aload_n hx hb dX12_forget_0 rfl (lv_at hl 0 rfl) ?_
  refine va_get (D := D) (ci := 12) (v := .ref (r 2)) (C := RX12) (T := TX12) (N := 48) hx hb hg inC12 hown hK hP 0 rfl rfl 2 (by decide) (hg _ wt5_162) (fun _ h9 => h9) rfl dX12_forget_1 ?_
  refine lv_bipush (v := 104) hx hb dX12_forget_4 (by decide) ?_
  refine va_iald hx hb hK hP 2 0 rfl rfl (k_in (by decide +kernel)) dX12_forget_6 ?_
  refine k_top (z := 0) (by rw [cl_104]; exact h0) ?_
  refine lv_istore_n (lv' := [(1, .int 0), (0, .ref o)]) hx hb dX12_forget_7 rfl hl (by decide) rfl (fun ls hl => ?_)
  refine lv_aload_n hx hb dX12_forget_8 rfl (lv_at hl 1 rfl) ?_
  refine va_get (D := D) (ci := 12) (v := .ref (r 2)) (C := RX12) (T := TX12) (N := 48) hx hb hg inC12 hown hK hP 0 rfl rfl 2 (by decide) (hg _ wt5_162) (fun _ h9 => h9) rfl dX12_forget_9 ?_
  refine lv_bipush (v := 104) hx hb dX12_forget_12 (by decide) ?_
  refine lv_iconst (v := 0) hx hb dX12_forget_14 (by decide) ?_
  refine va_iast hx hb hK hP hD hS 2 0 rfl rfl (k_in (by decide +kernel)) dX12_forget_15 (fun H locs hP hD hS => ?_)
  rw [cl_104] at hP hD
  have hP : va_P D vwCl (mW K o r f (va_up a 2 (upd (a 2) 104 0)) g) H := hP
  have hD : va_D A (mW K o r f (va_up a 2 (upd (a 2) 104 0)) g) := hD
  refine k_gen (P := fun z => va_P D vwCl (mW K o r f z g) H ∧ va_D A (mW K o r f z g)) (va_up a 2 (upd (a 2) 104 0)) ⟨hP, hD⟩ (fun a_1 ea_1 hPD => ?_)
  have hP := hPD.1
  have hD := hPD.2
  refine lv_iload_n hx hb dX12_forget_16 rfl (lv_at hl 0 rfl) ?_
  exact kI_ret (v := 0) hx hb hr hlocks rfl hK hS dX12_forget_17 (f, a_1, g) hP hD rfl
set_option maxHeartbeats 4000000 in
set_option maxRecDepth 100000 in
theorem c_laysAside0 (l : Launch) {D : va_G} {K : Nat → ClassId} (o : Nat) (r : Nat → Nat) (f : Nat → Int32) (a : Nat → Nat → Int32) (g : Nat → Int64) (h0 : a 2 102 = 0) (h1 : a 2 103 = 0) (h2 : a 2 104 = 0) (h3 : a 2 99 = 30) (h4 : a 2 100 = 2)   : kV l yX12_laysAside (Cond.code yX12_laysAside cX12_laysAside 3 none :: kG) (rmD 1 0 0) D (tysK K) [.ref o, .int 0] (mW K o r f a g) (fun (u : mS) => u.2.1 2 102 = 0 ∧ u.2.1 2 103 = 0 ∧ u.2.1 2 104 = 0 ∧ u.2.1 2 99 = 30 ∧ u.2.1 2 100 = 2) (fun u => mW K o r u.1 u.2.1 u.2.2) 0 0 := by
  refine kV.of (cc := cX12_laysAside) (maxL := 3) (ret := none) (by decide) rfl (Nat.le_of_ble_eq_true rfl) ?_
  intro p e s m below meth c A hx hb hr hml hown hts hlocks hnm hK hP hD hS hA ls hl
  have hg : ∀ w ∈ kG, w.before _ s = true := fun w h => hts w (List.mem_cons_of_mem _ h)
  have hown : s.vm.findClass RX12 = some m.cls := hown
  have hl : lv_has ls 3 [(0, .ref o), (1, .int 0)] := hl
  refine lv_iconst (v := 0) hx hb dX12_laysAside_0 (by decide) ?_
  refine lv_istore_n (lv' := [(2, .int 0), (0, .ref o), (1, .int 0)]) hx hb dX12_laysAside_1 rfl hl (by decide) rfl (fun ls hl => ?_)
  have lp1 : ∀ (n i : Nat) (F : Nat → Int32) (B : Nat → Nat → Int32) (G : Nat → Int64) (H : Heap) (locs : List Loc) (ls : Array Slot), i + n = 23 →  B 2 102 = 0 → B 2 103 = 0 → B 2 104 = 0 → B 2 99 = 30 → B 2 100 = 2 → va_P D vwCl (mW K o r F B G) H → va_D A (mW K o r F B G) → va_S A s.heap H locs → lv_has ls 3 [(2, .int (nI i)), (0, .ref o), (1, .int 0)] → W p l e (rmD 1 0 0) s m ([.ref o, .int 0] : List Value).toArray below meth c H locs 0 0 (kQv D (tysK K) (fun (u : mS) => u.2.1 2 102 = 0 ∧ u.2.1 2 103 = 0 ∧ u.2.1 2 104 = 0 ∧ u.2.1 2 99 = 30 ∧ u.2.1 2 100 = 2) (fun u => mW K o r u.1 u.2.1 u.2.2) A below ([.ref o, .int 0] : List Value).toArray s 0 0) (F0 m 2 ls []) := by
    intro n
    induction n with
    | zero =>
      intro i F B G H locs ls  hin  z0 z1 z2 z3 z4 hP hD hS hl
      obtain rfl : 23 = i := by omega
      have hl : lv_has ls 3 [(2, .int 23), (0, .ref o), (1, .int 0)] := hl
      refine lv_iload_n hx hb dX12_laysAside_2 rfl (lv_at hl 0 rfl) ?_
      refine lv_bipush (v := 23) hx hb dX12_laysAside_3 (by decide) ?_
      refine lv_icmp_ge (tgt := 31) hx hb dX12_laysAside_5 (by decide) (fun c2 => ?_) (fun c2 => absurd (by decide +kernel) c2)
      exact kV_ret hx hb hr hlocks hK hS dX12_laysAside_31 (F, B, G) hP hD ⟨z0, z1, z2, z3, z4⟩
    | succ n ih =>
      intro i F B G H locs ls  hin  z0 z1 z2 z3 z4 hP hD hS hl
      have hlt : i < 23 := by omega
      refine lv_iload_n hx hb dX12_laysAside_2 rfl (lv_at hl 0 rfl) ?_
      refine lv_bipush (v := 23) hx hb dX12_laysAside_3 (by decide) ?_
      refine lv_icmp_ge (tgt := 31) hx hb dX12_laysAside_5 (by decide) (fun c3 => absurd c3 (nI_ge (b := 23) hlt (by decide))) (fun c3 => ?_)
      refine lv_aload_n hx hb dX12_laysAside_8 rfl (lv_at hl 1 rfl) ?_
      refine va_get (D := D) (ci := 12) (v := .ref (r 5)) (C := RX12) (T := TX12) (N := 48) hx hb hg inC12 hown hK hP 0 rfl rfl 5 (by decide) (hg _ wt5_165) (fun _ h9 => h9) rfl dX12_laysAside_9 ?_
      refine lv_bipush (v := 23) hx hb dX12_laysAside_12 (by decide) ?_
      refine lv_iload_n hx hb dX12_laysAside_14 rfl (lv_at hl 2 rfl) ?_
      refine lv_imul hx hb dX12_laysAside_15 ?_
      refine k_top (z := 0) (by decide +kernel) ?_
      refine lv_iload_n hx hb dX12_laysAside_16 rfl (lv_at hl 0 rfl) ?_
      refine lv_iadd hx hb dX12_laysAside_17 ?_
      refine k_top (z := nI (0 + i)) (nI_add 0 i) ?_
      refine lv_aload_n hx hb dX12_laysAside_18 rfl (lv_at hl 1 rfl) ?_
      refine va_get (D := D) (ci := 12) (v := .ref (r 2)) (C := RX12) (T := TX12) (N := 48) hx hb hg inC12 hown hK hP 0 rfl rfl 2 (by decide) (hg _ wt5_162) (fun _ h9 => h9) rfl dX12_laysAside_19 ?_
      refine lv_iload_n hx hb dX12_laysAside_22 rfl (lv_at hl 0 rfl) ?_
      refine va_iald hx hb hK hP 2 0 rfl rfl (vp_in_nI (by omega) (by decide)) dX12_laysAside_23 ?_
      refine lv_topi (fun t4 et4 => ?_)
      rw [nI_clamp (n := i) (by omega)] at et4
      refine va_iast hx hb hK hP hD hS 5 0 rfl rfl (vp_in_nI (by omega) (by decide)) dX12_laysAside_24 (fun H locs hP hD hS => ?_)
      rw [nI_clamp (n := (0 + i)) (by omega)] at hP hD
      have hP : va_P D vwCl (mW K o r F (va_up B 5 (upd (B 5) (0 + i) t4)) G) H := hP
      have hD : va_D A (mW K o r F (va_up B 5 (upd (B 5) (0 + i) t4)) G) := hD
      refine k_gen (P := fun z => va_P D vwCl (mW K o r F z G) H ∧ va_D A (mW K o r F z G)) (va_up B 5 (upd (B 5) (0 + i) t4)) ⟨hP, hD⟩ (fun a_5 ea_5 hPD => ?_)
      have hP := hPD.1
      have hD := hPD.2
      refine lv_iinc (v := nI (i + 1)) (lv' := [(2, .int (nI (i + 1))), (0, .ref o), (1, .int 0)]) hx hb dX12_laysAside_25 hl (k := 0) rfl (nI_1 _) (by decide) rfl (fun ls hl => ?_)
      refine lv_goto (tgt := 2) hx hb dX12_laysAside_28 (by decide) ?_
      exact ih (i + 1) F a_5 G _ _ _  (by omega)  ((show a_5 2 102 = B 2 102 from by rw [← ea_5]; rfl).trans z0) ((show a_5 2 103 = B 2 103 from by rw [← ea_5]; rfl).trans z1) ((show a_5 2 104 = B 2 104 from by rw [← ea_5]; rfl).trans z2) ((show a_5 2 99 = B 2 99 from by rw [← ea_5]; rfl).trans z3) ((show a_5 2 100 = B 2 100 from by rw [← ea_5]; rfl).trans z4) hP hD hS (lv_sub hl [0, 1, 2] rfl)
  exact lp1 (23 - 0) 0 f a g _ _ _  (by omega)  h0 h1 h2 h3 h4 hP hD hS hl
set_option maxHeartbeats 4000000 in
set_option maxRecDepth 100000 in
theorem c_laysAside1 (l : Launch) {D : va_G} {K : Nat → ClassId} (o : Nat) (r : Nat → Nat) (f : Nat → Int32) (a : Nat → Nat → Int32) (g : Nat → Int64) (h0 : a 2 102 = 0) (h1 : a 2 103 = 0) (h2 : a 2 104 = 0) (h3 : a 2 99 = 30) (h4 : a 2 100 = 2)   : kV l yX12_laysAside (Cond.code yX12_laysAside cX12_laysAside 3 none :: kG) (rmD 1 0 0) D (tysK K) [.ref o, .int 1] (mW K o r f a g) (fun (u : mS) => u.2.1 2 102 = 0 ∧ u.2.1 2 103 = 0 ∧ u.2.1 2 104 = 0 ∧ u.2.1 2 99 = 30 ∧ u.2.1 2 100 = 2) (fun u => mW K o r u.1 u.2.1 u.2.2) 0 0 := by
  refine kV.of (cc := cX12_laysAside) (maxL := 3) (ret := none) (by decide) rfl (Nat.le_of_ble_eq_true rfl) ?_
  intro p e s m below meth c A hx hb hr hml hown hts hlocks hnm hK hP hD hS hA ls hl
  have hg : ∀ w ∈ kG, w.before _ s = true := fun w h => hts w (List.mem_cons_of_mem _ h)
  have hown : s.vm.findClass RX12 = some m.cls := hown
  have hl : lv_has ls 3 [(0, .ref o), (1, .int 1)] := hl
  refine lv_iconst (v := 0) hx hb dX12_laysAside_0 (by decide) ?_
  refine lv_istore_n (lv' := [(2, .int 0), (0, .ref o), (1, .int 1)]) hx hb dX12_laysAside_1 rfl hl (by decide) rfl (fun ls hl => ?_)
  have lp1 : ∀ (n i : Nat) (F : Nat → Int32) (B : Nat → Nat → Int32) (G : Nat → Int64) (H : Heap) (locs : List Loc) (ls : Array Slot), i + n = 23 →  B 2 102 = 0 → B 2 103 = 0 → B 2 104 = 0 → B 2 99 = 30 → B 2 100 = 2 → va_P D vwCl (mW K o r F B G) H → va_D A (mW K o r F B G) → va_S A s.heap H locs → lv_has ls 3 [(2, .int (nI i)), (0, .ref o), (1, .int 1)] → W p l e (rmD 1 0 0) s m ([.ref o, .int 1] : List Value).toArray below meth c H locs 0 0 (kQv D (tysK K) (fun (u : mS) => u.2.1 2 102 = 0 ∧ u.2.1 2 103 = 0 ∧ u.2.1 2 104 = 0 ∧ u.2.1 2 99 = 30 ∧ u.2.1 2 100 = 2) (fun u => mW K o r u.1 u.2.1 u.2.2) A below ([.ref o, .int 1] : List Value).toArray s 0 0) (F0 m 2 ls []) := by
    intro n
    induction n with
    | zero =>
      intro i F B G H locs ls  hin  z0 z1 z2 z3 z4 hP hD hS hl
      obtain rfl : 23 = i := by omega
      have hl : lv_has ls 3 [(2, .int 23), (0, .ref o), (1, .int 1)] := hl
      refine lv_iload_n hx hb dX12_laysAside_2 rfl (lv_at hl 0 rfl) ?_
      refine lv_bipush (v := 23) hx hb dX12_laysAside_3 (by decide) ?_
      refine lv_icmp_ge (tgt := 31) hx hb dX12_laysAside_5 (by decide) (fun c2 => ?_) (fun c2 => absurd (by decide +kernel) c2)
      exact kV_ret hx hb hr hlocks hK hS dX12_laysAside_31 (F, B, G) hP hD ⟨z0, z1, z2, z3, z4⟩
    | succ n ih =>
      intro i F B G H locs ls  hin  z0 z1 z2 z3 z4 hP hD hS hl
      have hlt : i < 23 := by omega
      refine lv_iload_n hx hb dX12_laysAside_2 rfl (lv_at hl 0 rfl) ?_
      refine lv_bipush (v := 23) hx hb dX12_laysAside_3 (by decide) ?_
      refine lv_icmp_ge (tgt := 31) hx hb dX12_laysAside_5 (by decide) (fun c3 => absurd c3 (nI_ge (b := 23) hlt (by decide))) (fun c3 => ?_)
      refine lv_aload_n hx hb dX12_laysAside_8 rfl (lv_at hl 1 rfl) ?_
      refine va_get (D := D) (ci := 12) (v := .ref (r 5)) (C := RX12) (T := TX12) (N := 48) hx hb hg inC12 hown hK hP 0 rfl rfl 5 (by decide) (hg _ wt5_165) (fun _ h9 => h9) rfl dX12_laysAside_9 ?_
      refine lv_bipush (v := 23) hx hb dX12_laysAside_12 (by decide) ?_
      refine lv_iload_n hx hb dX12_laysAside_14 rfl (lv_at hl 2 rfl) ?_
      refine lv_imul hx hb dX12_laysAside_15 ?_
      refine k_top (z := 23) (by decide +kernel) ?_
      refine lv_iload_n hx hb dX12_laysAside_16 rfl (lv_at hl 0 rfl) ?_
      refine lv_iadd hx hb dX12_laysAside_17 ?_
      refine k_top (z := nI (23 + i)) (nI_add 23 i) ?_
      refine lv_aload_n hx hb dX12_laysAside_18 rfl (lv_at hl 1 rfl) ?_
      refine va_get (D := D) (ci := 12) (v := .ref (r 2)) (C := RX12) (T := TX12) (N := 48) hx hb hg inC12 hown hK hP 0 rfl rfl 2 (by decide) (hg _ wt5_162) (fun _ h9 => h9) rfl dX12_laysAside_19 ?_
      refine lv_iload_n hx hb dX12_laysAside_22 rfl (lv_at hl 0 rfl) ?_
      refine va_iald hx hb hK hP 2 0 rfl rfl (vp_in_nI (by omega) (by decide)) dX12_laysAside_23 ?_
      refine lv_topi (fun t4 et4 => ?_)
      rw [nI_clamp (n := i) (by omega)] at et4
      refine va_iast hx hb hK hP hD hS 5 0 rfl rfl (vp_in_nI (by omega) (by decide)) dX12_laysAside_24 (fun H locs hP hD hS => ?_)
      rw [nI_clamp (n := (23 + i)) (by omega)] at hP hD
      have hP : va_P D vwCl (mW K o r F (va_up B 5 (upd (B 5) (23 + i) t4)) G) H := hP
      have hD : va_D A (mW K o r F (va_up B 5 (upd (B 5) (23 + i) t4)) G) := hD
      refine k_gen (P := fun z => va_P D vwCl (mW K o r F z G) H ∧ va_D A (mW K o r F z G)) (va_up B 5 (upd (B 5) (23 + i) t4)) ⟨hP, hD⟩ (fun a_5 ea_5 hPD => ?_)
      have hP := hPD.1
      have hD := hPD.2
      refine lv_iinc (v := nI (i + 1)) (lv' := [(2, .int (nI (i + 1))), (0, .ref o), (1, .int 1)]) hx hb dX12_laysAside_25 hl (k := 0) rfl (nI_1 _) (by decide) rfl (fun ls hl => ?_)
      refine lv_goto (tgt := 2) hx hb dX12_laysAside_28 (by decide) ?_
      exact ih (i + 1) F a_5 G _ _ _  (by omega)  ((show a_5 2 102 = B 2 102 from by rw [← ea_5]; rfl).trans z0) ((show a_5 2 103 = B 2 103 from by rw [← ea_5]; rfl).trans z1) ((show a_5 2 104 = B 2 104 from by rw [← ea_5]; rfl).trans z2) ((show a_5 2 99 = B 2 99 from by rw [← ea_5]; rfl).trans z3) ((show a_5 2 100 = B 2 100 from by rw [← ea_5]; rfl).trans z4) hP hD hS (lv_sub hl [0, 1, 2] rfl)
  exact lp1 (23 - 0) 0 f a g _ _ _  (by omega)  h0 h1 h2 h3 h4 hP hD hS hl
set_option maxHeartbeats 4000000 in
set_option maxRecDepth 100000 in
theorem c_takesBack0 (l : Launch) {D : va_G} {K : Nat → ClassId} (o : Nat) (r : Nat → Nat) (f : Nat → Int32) (a : Nat → Nat → Int32) (g : Nat → Int64) (h0 : a 2 102 = 0) (h1 : a 2 103 = 0) (h2 : a 2 104 = 0) (h3 : a 2 99 = 30) (h4 : a 2 100 = 2)   : kV l yX12_takesBack (Cond.code yX12_takesBack cX12_takesBack 3 none :: kG) (rmD 1 0 0) D (tysK K) [.ref o, .int 0] (mW K o r f a g) (fun (u : mS) => u.2.1 2 102 = 0 ∧ u.2.1 2 103 = 0 ∧ u.2.1 2 104 = 0 ∧ u.2.1 2 99 = 30 ∧ u.2.1 2 100 = 2) (fun u => mW K o r u.1 u.2.1 u.2.2) 0 0 := by
  refine kV.of (cc := cX12_takesBack) (maxL := 3) (ret := none) (by decide) rfl (Nat.le_of_ble_eq_true rfl) ?_
  intro p e s m below meth c A hx hb hr hml hown hts hlocks hnm hK hP hD hS hA ls hl
  have hg : ∀ w ∈ kG, w.before _ s = true := fun w h => hts w (List.mem_cons_of_mem _ h)
  have hown : s.vm.findClass RX12 = some m.cls := hown
  have hl : lv_has ls 3 [(0, .ref o), (1, .int 0)] := hl
  refine lv_iconst (v := 0) hx hb dX12_takesBack_0 (by decide) ?_
  refine lv_istore_n (lv' := [(2, .int 0), (0, .ref o), (1, .int 0)]) hx hb dX12_takesBack_1 rfl hl (by decide) rfl (fun ls hl => ?_)
  have lp1 : ∀ (n i : Nat) (F : Nat → Int32) (B : Nat → Nat → Int32) (G : Nat → Int64) (H : Heap) (locs : List Loc) (ls : Array Slot), i + n = 23 →  B 2 102 = 0 → B 2 103 = 0 → B 2 104 = 0 → B 2 99 = 30 → B 2 100 = 2 → va_P D vwCl (mW K o r F B G) H → va_D A (mW K o r F B G) → va_S A s.heap H locs → lv_has ls 3 [(2, .int (nI i)), (0, .ref o), (1, .int 0)] → W p l e (rmD 1 0 0) s m ([.ref o, .int 0] : List Value).toArray below meth c H locs 0 0 (kQv D (tysK K) (fun (u : mS) => u.2.1 2 102 = 0 ∧ u.2.1 2 103 = 0 ∧ u.2.1 2 104 = 0 ∧ u.2.1 2 99 = 30 ∧ u.2.1 2 100 = 2) (fun u => mW K o r u.1 u.2.1 u.2.2) A below ([.ref o, .int 0] : List Value).toArray s 0 0) (F0 m 2 ls []) := by
    intro n
    induction n with
    | zero =>
      intro i F B G H locs ls  hin  z0 z1 z2 z3 z4 hP hD hS hl
      obtain rfl : 23 = i := by omega
      have hl : lv_has ls 3 [(2, .int 23), (0, .ref o), (1, .int 0)] := hl
      refine lv_iload_n hx hb dX12_takesBack_2 rfl (lv_at hl 0 rfl) ?_
      refine lv_bipush (v := 23) hx hb dX12_takesBack_3 (by decide) ?_
      refine lv_icmp_ge (tgt := 31) hx hb dX12_takesBack_5 (by decide) (fun c2 => ?_) (fun c2 => absurd (by decide +kernel) c2)
      exact kV_ret hx hb hr hlocks hK hS dX12_takesBack_31 (F, B, G) hP hD ⟨z0, z1, z2, z3, z4⟩
    | succ n ih =>
      intro i F B G H locs ls  hin  z0 z1 z2 z3 z4 hP hD hS hl
      have hlt : i < 23 := by omega
      refine lv_iload_n hx hb dX12_takesBack_2 rfl (lv_at hl 0 rfl) ?_
      refine lv_bipush (v := 23) hx hb dX12_takesBack_3 (by decide) ?_
      refine lv_icmp_ge (tgt := 31) hx hb dX12_takesBack_5 (by decide) (fun c3 => absurd c3 (nI_ge (b := 23) hlt (by decide))) (fun c3 => ?_)
      refine lv_aload_n hx hb dX12_takesBack_8 rfl (lv_at hl 1 rfl) ?_
      refine va_get (D := D) (ci := 12) (v := .ref (r 2)) (C := RX12) (T := TX12) (N := 48) hx hb hg inC12 hown hK hP 0 rfl rfl 2 (by decide) (hg _ wt5_162) (fun _ h9 => h9) rfl dX12_takesBack_9 ?_
      refine lv_iload_n hx hb dX12_takesBack_12 rfl (lv_at hl 0 rfl) ?_
      refine lv_aload_n hx hb dX12_takesBack_13 rfl (lv_at hl 1 rfl) ?_
      refine va_get (D := D) (ci := 12) (v := .ref (r 5)) (C := RX12) (T := TX12) (N := 48) hx hb hg inC12 hown hK hP 0 rfl rfl 5 (by decide) (hg _ wt5_165) (fun _ h9 => h9) rfl dX12_takesBack_14 ?_
      refine lv_bipush (v := 23) hx hb dX12_takesBack_17 (by decide) ?_
      refine lv_iload_n hx hb dX12_takesBack_19 rfl (lv_at hl 2 rfl) ?_
      refine lv_imul hx hb dX12_takesBack_20 ?_
      refine k_top (z := 0) (by decide +kernel) ?_
      refine lv_iload_n hx hb dX12_takesBack_21 rfl (lv_at hl 0 rfl) ?_
      refine lv_iadd hx hb dX12_takesBack_22 ?_
      refine k_top (z := nI (0 + i)) (nI_add 0 i) ?_
      refine va_iald hx hb hK hP 5 0 rfl rfl (vp_in_nI (by omega) (by decide)) dX12_takesBack_23 ?_
      refine lv_topi (fun t4 et4 => ?_)
      rw [nI_clamp (n := (0 + i)) (by omega)] at et4
      refine va_iast hx hb hK hP hD hS 2 0 rfl rfl (vp_in_nI (by omega) (by decide)) dX12_takesBack_24 (fun H locs hP hD hS => ?_)
      rw [nI_clamp (n := i) (by omega)] at hP hD
      have hP : va_P D vwCl (mW K o r F (va_up B 2 (upd (B 2) i t4)) G) H := hP
      have hD : va_D A (mW K o r F (va_up B 2 (upd (B 2) i t4)) G) := hD
      refine k_gen (P := fun z => va_P D vwCl (mW K o r F z G) H ∧ va_D A (mW K o r F z G)) (va_up B 2 (upd (B 2) i t4)) ⟨hP, hD⟩ (fun a_5 ea_5 hPD => ?_)
      have hP := hPD.1
      have hD := hPD.2
      refine lv_iinc (v := nI (i + 1)) (lv' := [(2, .int (nI (i + 1))), (0, .ref o), (1, .int 0)]) hx hb dX12_takesBack_25 hl (k := 0) rfl (nI_1 _) (by decide) rfl (fun ls hl => ?_)
      refine lv_goto (tgt := 2) hx hb dX12_takesBack_28 (by decide) ?_
      exact ih (i + 1) F a_5 G _ _ _  (by omega)  ((show a_5 2 102 = B 2 102 from by rw [← ea_5]; exact pk_un (by omega)).trans z0) ((show a_5 2 103 = B 2 103 from by rw [← ea_5]; exact pk_un (by omega)).trans z1) ((show a_5 2 104 = B 2 104 from by rw [← ea_5]; exact pk_un (by omega)).trans z2) ((show a_5 2 99 = B 2 99 from by rw [← ea_5]; exact pk_un (by omega)).trans z3) ((show a_5 2 100 = B 2 100 from by rw [← ea_5]; exact pk_un (by omega)).trans z4) hP hD hS (lv_sub hl [0, 1, 2] rfl)
  exact lp1 (23 - 0) 0 f a g _ _ _  (by omega)  h0 h1 h2 h3 h4 hP hD hS hl
set_option maxHeartbeats 4000000 in
set_option maxRecDepth 100000 in
theorem c_begins (l : Launch) {D : va_G} {K : Nat → ClassId} (o : Nat) (r : Nat → Nat) (f : Nat → Int32) (a : Nat → Nat → Int32) (g : Nat → Int64) (h0 : a 2 102 = 0) (h1 : a 2 103 = 0) (h2 : a 2 104 = 0) (h3 : a 2 99 = 30) (h4 : a 2 100 = 2)   : kV l yX12_begins (Cond.code yX12_begins cX12_begins 2 none :: kG) (rmD 2 0 0) D (tysK K) [.ref o] (mW K o r f a g) (fun (u : mS) => u.2.1 2 102 = 0 ∧ u.2.1 2 103 = 0 ∧ u.2.1 2 104 = 0 ∧ u.2.1 2 99 = 30 ∧ u.2.1 2 100 = 2) (fun u => mW K o r u.1 u.2.1 u.2.2) 0 0 := by
  refine kV.of (cc := cX12_begins) (maxL := 2) (ret := none) (by decide) rfl (Nat.le_of_ble_eq_true rfl) ?_
  intro p e s m below meth c A hx hb hr hml hown hts hlocks hnm hK hP hD hS hA ls hl
  have hg : ∀ w ∈ kG, w.before _ s = true := fun w h => hts w (List.mem_cons_of_mem _ h)
  have hown : s.vm.findClass RX12 = some m.cls := hown
  have hl : lv_has ls 2 [(0, .ref o)] := hl
  refine lv_aload_n hx hb dX12_begins_0 rfl (lv_at hl 0 rfl) ?_
  refine lv_iconst (v := 0) hx hb dX12_begins_1 (by decide) ?_
  refine kV.callV (As := [.int 0]) (rest := []) ⟨hx, hb, hml, hown, hg⟩ (c_laysAside0 l o r f a g h0 h1 h2 h3 h4 ) (cwV 1 hg (kgV wt7_207 wt7_209 wp7_5 wt1_14 wt7_210) rfl rfl rfl (by decide +kernel) ⟨by decide, by decide⟩) hK hP hD hS hA mIs [] rfl (wr := []) rfl rfl rfl (fun i h => by cases h) 0 12 rfl rfl rfl hl.1 rfl (Nat.le_of_ble_eq_true rfl) dX12_begins_2 ⟨by decide, by decide⟩ (fun u2 H locs hw1 hP hD hS => ?_)
  obtain ⟨f4, a5, g6⟩ := u2
  have hP : va_P D vwCl (mW K o r f4 a5 g6) H := hP
  have hD : va_D A (mW K o r f4 a5 g6) := hD
  refine lv_iconst (v := 0) hx hb dX12_begins_5 (by decide) ?_
  refine lv_istore_n (lv' := [(1, .int 0), (0, .ref o)]) hx hb dX12_begins_6 rfl hl (by decide) rfl (fun ls hl => ?_)
  have lp7 : ∀ (n i : Nat) (F : Nat → Int32) (B : Nat → Nat → Int32) (G : Nat → Int64) (H : Heap) (locs : List Loc) (ls : Array Slot), i + n = 6 →  B 2 102 = 0 → B 2 103 = 0 → B 2 104 = 0 → B 2 99 = 30 → B 2 100 = 2 → va_P D vwCl (mW K o r F B G) H → va_D A (mW K o r F B G) → va_S A s.heap H locs → lv_has ls 2 [(1, .int (nI i)), (0, .ref o)] → W p l e (rmD 2 0 0) s m ([.ref o] : List Value).toArray below meth c H locs 0 0 (kQv D (tysK K) (fun (u : mS) => u.2.1 2 102 = 0 ∧ u.2.1 2 103 = 0 ∧ u.2.1 2 104 = 0 ∧ u.2.1 2 99 = 30 ∧ u.2.1 2 100 = 2) (fun u => mW K o r u.1 u.2.1 u.2.2) A below ([.ref o] : List Value).toArray s 0 0) (F0 m 7 ls []) := by
    intro n
    induction n with
    | zero =>
      intro i F B G H locs ls  hin  z0 z1 z2 z3 z4 hP hD hS hl
      obtain rfl : 6 = i := by omega
      have hl : lv_has ls 2 [(1, .int 6), (0, .ref o)] := hl
      refine lv_iload_n hx hb dX12_begins_7 rfl (lv_at hl 0 rfl) ?_
      refine lv_bipush (v := 6) hx hb dX12_begins_8 (by decide) ?_
      refine lv_icmp_ge (tgt := 29) hx hb dX12_begins_10 (by decide) (fun c8 => ?_) (fun c8 => absurd (by decide +kernel) c8)
      exact kV_ret hx hb hr hlocks hK hS dX12_begins_29 (F, B, G) hP hD ⟨z0, z1, z2, z3, z4⟩
    | succ n ih =>
      intro i F B G H locs ls  hin  z0 z1 z2 z3 z4 hP hD hS hl
      have hlt : i < 6 := by omega
      refine lv_iload_n hx hb dX12_begins_7 rfl (lv_at hl 0 rfl) ?_
      refine lv_bipush (v := 6) hx hb dX12_begins_8 (by decide) ?_
      refine lv_icmp_ge (tgt := 29) hx hb dX12_begins_10 (by decide) (fun c9 => absurd c9 (nI_ge (b := 6) hlt (by decide))) (fun c9 => ?_)
      refine lv_aload_n hx hb dX12_begins_13 rfl (lv_at hl 1 rfl) ?_
      refine va_get (D := D) (ci := 12) (v := .ref (r 2)) (C := RX12) (T := TX12) (N := 48) hx hb hg inC12 hown hK hP 0 rfl rfl 2 (by decide) (hg _ wt5_162) (fun _ h9 => h9) rfl dX12_begins_14 ?_
      refine lv_bipush (v := 16) hx hb dX12_begins_17 (by decide) ?_
      refine lv_iload_n hx hb dX12_begins_19 rfl (lv_at hl 0 rfl) ?_
      refine lv_iadd hx hb dX12_begins_20 ?_
      refine k_top (z := nI (16 + i)) (nI_add 16 i) ?_
      refine lv_iconst (v := (-1)) hx hb dX12_begins_21 (by decide) ?_
      refine va_iast hx hb hK hP hD hS 2 0 rfl rfl (vp_in_nI (by omega) (by decide)) dX12_begins_22 (fun H locs hP hD hS => ?_)
      rw [nI_clamp (n := (16 + i)) (by omega)] at hP hD
      have hP : va_P D vwCl (mW K o r F (va_up B 2 (upd (B 2) (16 + i) (-1))) G) H := hP
      have hD : va_D A (mW K o r F (va_up B 2 (upd (B 2) (16 + i) (-1))) G) := hD
      refine k_gen (P := fun z => va_P D vwCl (mW K o r F z G) H ∧ va_D A (mW K o r F z G)) (va_up B 2 (upd (B 2) (16 + i) (-1))) ⟨hP, hD⟩ (fun a_10 ea_10 hPD => ?_)
      have hP := hPD.1
      have hD := hPD.2
      refine lv_iinc (v := nI (i + 1)) (lv' := [(1, .int (nI (i + 1))), (0, .ref o)]) hx hb dX12_begins_23 hl (k := 0) rfl (nI_1 _) (by decide) rfl (fun ls hl => ?_)
      refine lv_goto (tgt := 7) hx hb dX12_begins_26 (by decide) ?_
      exact ih (i + 1) F a_10 G _ _ _  (by omega)  ((show a_10 2 102 = B 2 102 from by rw [← ea_10]; exact pk_un (by omega)).trans z0) ((show a_10 2 103 = B 2 103 from by rw [← ea_10]; exact pk_un (by omega)).trans z1) ((show a_10 2 104 = B 2 104 from by rw [← ea_10]; exact pk_un (by omega)).trans z2) ((show a_10 2 99 = B 2 99 from by rw [← ea_10]; exact pk_un (by omega)).trans z3) ((show a_10 2 100 = B 2 100 from by rw [← ea_10]; exact pk_un (by omega)).trans z4) hP hD hS (lv_sub hl [0, 1] rfl)
  exact lp7 (6 - 0) 0 f4 a5 g6 _ _ _  (by omega)  hw1.1 hw1.2.1 hw1.2.2.1 hw1.2.2.2.1 hw1.2.2.2.2 hP hD hS hl
set_option maxHeartbeats 4000000 in
set_option maxRecDepth 100000 in
theorem c_areStanding (l : Launch) {D : va_G} {K : Nat → ClassId} (o : Nat) (r : Nat → Nat) (f : Nat → Int32) (a : Nat → Nat → Int32) (g : Nat → Int64) (h0 : a 2 102 = 0)   : kI l yX12_areStanding (Cond.code yX12_areStanding cX12_areStanding 2 (some .boolean) :: kG) (rmD 2 0 0) D (tysK K) [.ref o, .int 0] (mW K o r f a g) (fun v (_ : Unit) => v = 1) (fun _ => mW K o r f a g) 0 0 := by
  refine kI.of (cc := cX12_areStanding) (maxL := 2) (ret := (some .boolean)) (by decide) rfl (Nat.le_of_ble_eq_true rfl) ?_
  intro p e s m below meth c A hx hb hr hml hown hts hlocks hnm hK hP hD hS hA ls hl
  have hg : ∀ w ∈ kG, w.before _ s = true := fun w h => hts w (List.mem_cons_of_mem _ h)
  have hown : s.vm.findClass RX12 = some m.cls := hown
  have hl : lv_has ls 2 [(0, .ref o), (1, .int 0)] := hl
  refine lv_iload_n hx hb dX12_areStanding_0 rfl (lv_at hl 1 rfl) ?_
  refine lv_aload_n hx hb dX12_areStanding_1 rfl (lv_at hl 0 rfl) ?_
  refine kI.callV (As := []) (rest := [.int 0]) ⟨hx, hb, hml, hown, hg⟩ (c_standing l o r f a g h0 ) (cwV 0 hg (kgV wt6_116 wt6_118 wp3_13 wt1_14 wt6_119) rfl rfl rfl (by decide +kernel) ⟨by decide, by decide⟩) hK hP hD hS hA mIs [] rfl (wr := []) rfl rfl rfl (fun i h => by cases h) 0 12 rfl rfl rfl hl.1 rfl (Nat.le_of_ble_eq_true rfl) dX12_areStanding_2 ⟨by decide, by decide⟩ (fun v3 u2 H locs hw1 hP hD hS => ?_)
  have hP : va_P D vwCl (mW K o r f a g) H := hP
  have hD : va_D A (mW K o r f a g) := hD
  refine k_top (z := 0) (hw1) ?_
  refine lv_iconst (v := (-1)) hx hb dX12_areStanding_5 (by decide) ?_
  refine lv_ixor hx hb dX12_areStanding_6 ?_
  refine k_top (z := (-1)) (by decide +kernel) ?_
  refine lv_iand hx hb dX12_areStanding_7 ?_
  refine k_top (z := 0) (by decide +kernel) ?_
  refine lv_if_ne (tgt := 15) hx hb dX12_areStanding_8 (by decide) (fun c4 => absurd (by decide +kernel) c4) (fun c4 => ?_)
  refine lv_iconst (v := 1) hx hb dX12_areStanding_11 (by decide) ?_
  refine lv_goto (tgt := 16) hx hb dX12_areStanding_12 (by decide) ?_
  exact kI_ret (v := 1) hx hb hr hlocks (by decide +kernel) hK hS dX12_areStanding_16 () hP hD rfl
set_option maxHeartbeats 4000000 in
set_option maxRecDepth 100000 in
theorem c_planned30 (l : Launch) {D : va_G} {K : Nat → ClassId} (o : Nat) (r : Nat → Nat) (f : Nat → Int32) (a : Nat → Nat → Int32) (g : Nat → Int64) (h0 : a 2 102 = 0) (h1 : a 2 103 = 0) (h2 : a 2 104 = 0) (h3 : a 2 99 = 30) (h4 : a 2 100 = 2)   : kI l yX12_planned (Cond.code yX12_planned cX12_planned 6 (some .int) :: kG) (rmD 3 0 0) D (tysK K) [.ref o, .int 0, .int 0, .int 30] (mW K o r f a g) (fun v (u : mS) => v = 0 ∧ u.2.1 2 102 = 0 ∧ u.2.1 2 103 = 0 ∧ u.2.1 2 104 = 0 ∧ u.2.1 2 99 = 30 ∧ u.2.1 2 100 = 2) (fun u => mW K o r u.1 u.2.1 u.2.2) 0 0 := by
  refine kI.of (cc := cX12_planned) (maxL := 6) (ret := (some .int)) (by decide) rfl (Nat.le_of_ble_eq_true rfl) ?_
  intro p e s m below meth c A hx hb hr hml hown hts hlocks hnm hK hP hD hS hA ls hl
  have hg : ∀ w ∈ kG, w.before _ s = true := fun w h => hts w (List.mem_cons_of_mem _ h)
  have hown : s.vm.findClass RX12 = some m.cls := hown
  have hl : lv_has ls 6 [(0, .ref o), (1, .int 0), (2, .int 0), (3, .int 30)] := hl
  refine lv_aload_n hx hb dX12_planned_0 rfl (lv_at hl 0 rfl) ?_
  refine kV.callV (As := []) (rest := []) ⟨hx, hb, hml, hown, hg⟩ (c_begins l o r f a g h0 h1 h2 h3 h4 ) (cwV 0 hg (kgV wt7_203 wt7_205 wp7_4 wt1_14 wt7_206) rfl rfl rfl (by decide +kernel) ⟨by decide, by decide⟩) hK hP hD hS hA mIs [] rfl (wr := []) rfl rfl rfl (fun i h => by cases h) 0 12 rfl rfl rfl hl.1 rfl (Nat.le_of_ble_eq_true rfl) dX12_planned_1 ⟨by decide, by decide⟩ (fun u2 H locs hw1 hP hD hS => ?_)
  obtain ⟨f4, a5, g6⟩ := u2
  have hP : va_P D vwCl (mW K o r f4 a5 g6) H := hP
  have hD : va_D A (mW K o r f4 a5 g6) := hD
  refine lv_iconst (v := 0) hx hb dX12_planned_4 (by decide) ?_
  refine lv_istore (lv' := [(4, .int 0), (0, .ref o), (1, .int 0), (2, .int 0), (3, .int 30)]) hx hb dX12_planned_5 hl (by decide) rfl (fun ls hl => ?_)
  refine lv_iload hx hb dX12_planned_7 (lv_at hl 0 rfl) ?_
  refine lv_iload_n hx hb dX12_planned_9 rfl (lv_at hl 4 rfl) ?_
  refine lv_icmp_ge (tgt := 38) hx hb dX12_planned_10 (by decide) (fun c7 => absurd c7 (by decide +kernel)) (fun c7 => ?_)
  refine lv_aload_n hx hb dX12_planned_13 rfl (lv_at hl 1 rfl) ?_
  refine lv_iload_n hx hb dX12_planned_14 rfl (lv_at hl 3 rfl) ?_
  refine kI.callV (As := [.int 0]) (rest := []) ⟨hx, hb, hml, hown, hg⟩ (c_areStanding l o r f4 a5 g6 hw1.1 ) (cwV 1 hg (kgV wt7_211 wt7_213 wp7_6 wt1_14 wt7_214) rfl rfl rfl (by decide +kernel) ⟨by decide, by decide⟩) hK hP hD hS hA mIs [] rfl (wr := []) rfl rfl rfl (fun i h => by cases h) 0 12 rfl rfl rfl hl.1 rfl (Nat.le_of_ble_eq_true rfl) dX12_planned_15 ⟨by decide, by decide⟩ (fun v10 u9 H locs hw8 hP hD hS => ?_)
  have hP : va_P D vwCl (mW K o r f4 a5 g6) H := hP
  have hD : va_D A (mW K o r f4 a5 g6) := hD
  refine k_top (z := 1) (hw8) ?_
  refine lv_if_ne (tgt := 38) hx hb dX12_planned_18 (by decide) (fun c11 => ?_) (fun c11 => absurd c11 (by decide +kernel))
  refine lv_aload_n hx hb dX12_planned_38 rfl (lv_at hl 1 rfl) ?_
  refine lv_iload_n hx hb dX12_planned_39 rfl (lv_at hl 3 rfl) ?_
  refine kI.callV (As := [.int 0]) (rest := []) ⟨hx, hb, hml, hown, hg⟩ (c_areStanding l o r f4 a5 g6 hw1.1 ) (cwV 1 hg (kgV wt7_211 wt7_213 wp7_6 wt1_14 wt7_214) rfl rfl rfl (by decide +kernel) ⟨by decide, by decide⟩) hK hP hD hS hA mIs [] rfl (wr := []) rfl rfl rfl (fun i h => by cases h) 0 12 rfl rfl rfl hl.1 rfl (Nat.le_of_ble_eq_true rfl) dX12_planned_40 ⟨by decide, by decide⟩ (fun v14 u13 H locs hw12 hP hD hS => ?_)
  have hP : va_P D vwCl (mW K o r f4 a5 g6) H := hP
  have hD : va_D A (mW K o r f4 a5 g6) := hD
  refine k_top (z := 1) (hw12) ?_
  refine lv_if_eq (tgt := 51) hx hb dX12_planned_43 (by decide) (fun c15 => absurd c15 (by decide +kernel)) (fun c15 => ?_)
  refine lv_iload hx hb dX12_planned_46 (lv_at hl 0 rfl) ?_
  refine lv_goto (tgt := 52) hx hb dX12_planned_48 (by decide) ?_
  refine lv_istore (lv' := [(5, .int 0), (4, .int 0), (0, .ref o), (1, .int 0), (2, .int 0), (3, .int 30)]) hx hb dX12_planned_52 hl (by decide) rfl (fun ls hl => ?_)
  refine lv_aload_n hx hb dX12_planned_54 rfl (lv_at hl 2 rfl) ?_
  refine lv_iconst (v := 0) hx hb dX12_planned_55 (by decide) ?_
  refine kV.callV (As := [.int 0]) (rest := []) ⟨hx, hb, hml, hown, hg⟩ (c_takesBack0 l o r f4 a5 g6 hw1.1 hw1.2.1 hw1.2.2.1 hw1.2.2.2.1 hw1.2.2.2.2 ) (cwV 1 hg (kgV wt7_223 wt7_225 wp7_9 wt1_14 wt7_226) rfl rfl rfl (by decide +kernel) ⟨by decide, by decide⟩) hK hP hD hS hA mIs [] rfl (wr := []) rfl rfl rfl (fun i h => by cases h) 0 12 rfl rfl rfl hl.1 rfl (Nat.le_of_ble_eq_true rfl) dX12_planned_56 ⟨by decide, by decide⟩ (fun u17 H locs hw16 hP hD hS => ?_)
  obtain ⟨f19, a20, g21⟩ := u17
  have hP : va_P D vwCl (mW K o r f19 a20 g21) H := hP
  have hD : va_D A (mW K o r f19 a20 g21) := hD
  refine lv_iload hx hb dX12_planned_59 (lv_at hl 0 rfl) ?_
  exact kI_ret (v := 0) hx hb hr hlocks rfl hK hS dX12_planned_61 (f19, a20, g21) hP hD ⟨rfl, hw16.1, hw16.2.1, hw16.2.2.1, hw16.2.2.2.1, hw16.2.2.2.2⟩
set_option maxHeartbeats 4000000 in
set_option maxRecDepth 100000 in
theorem c_planned200 (l : Launch) {D : va_G} {K : Nat → ClassId} (o : Nat) (r : Nat → Nat) (f : Nat → Int32) (a : Nat → Nat → Int32) (g : Nat → Int64) (h0 : a 2 102 = 0) (h1 : a 2 103 = 0) (h2 : a 2 104 = 0) (h3 : a 2 99 = 30) (h4 : a 2 100 = 2)   : kI l yX12_planned (Cond.code yX12_planned cX12_planned 6 (some .int) :: kG) (rmD 3 0 0) D (tysK K) [.ref o, .int 0, .int 0, .int 200] (mW K o r f a g) (fun v (u : mS) => v = 0 ∧ u.2.1 2 102 = 0 ∧ u.2.1 2 103 = 0 ∧ u.2.1 2 104 = 0 ∧ u.2.1 2 99 = 30 ∧ u.2.1 2 100 = 2) (fun u => mW K o r u.1 u.2.1 u.2.2) 0 0 := by
  refine kI.of (cc := cX12_planned) (maxL := 6) (ret := (some .int)) (by decide) rfl (Nat.le_of_ble_eq_true rfl) ?_
  intro p e s m below meth c A hx hb hr hml hown hts hlocks hnm hK hP hD hS hA ls hl
  have hg : ∀ w ∈ kG, w.before _ s = true := fun w h => hts w (List.mem_cons_of_mem _ h)
  have hown : s.vm.findClass RX12 = some m.cls := hown
  have hl : lv_has ls 6 [(0, .ref o), (1, .int 0), (2, .int 0), (3, .int 200)] := hl
  refine lv_aload_n hx hb dX12_planned_0 rfl (lv_at hl 0 rfl) ?_
  refine kV.callV (As := []) (rest := []) ⟨hx, hb, hml, hown, hg⟩ (c_begins l o r f a g h0 h1 h2 h3 h4 ) (cwV 0 hg (kgV wt7_203 wt7_205 wp7_4 wt1_14 wt7_206) rfl rfl rfl (by decide +kernel) ⟨by decide, by decide⟩) hK hP hD hS hA mIs [] rfl (wr := []) rfl rfl rfl (fun i h => by cases h) 0 12 rfl rfl rfl hl.1 rfl (Nat.le_of_ble_eq_true rfl) dX12_planned_1 ⟨by decide, by decide⟩ (fun u2 H locs hw1 hP hD hS => ?_)
  obtain ⟨f4, a5, g6⟩ := u2
  have hP : va_P D vwCl (mW K o r f4 a5 g6) H := hP
  have hD : va_D A (mW K o r f4 a5 g6) := hD
  refine lv_iconst (v := 0) hx hb dX12_planned_4 (by decide) ?_
  refine lv_istore (lv' := [(4, .int 0), (0, .ref o), (1, .int 0), (2, .int 0), (3, .int 200)]) hx hb dX12_planned_5 hl (by decide) rfl (fun ls hl => ?_)
  refine lv_iload hx hb dX12_planned_7 (lv_at hl 0 rfl) ?_
  refine lv_iload_n hx hb dX12_planned_9 rfl (lv_at hl 4 rfl) ?_
  refine lv_icmp_ge (tgt := 38) hx hb dX12_planned_10 (by decide) (fun c7 => absurd c7 (by decide +kernel)) (fun c7 => ?_)
  refine lv_aload_n hx hb dX12_planned_13 rfl (lv_at hl 1 rfl) ?_
  refine lv_iload_n hx hb dX12_planned_14 rfl (lv_at hl 3 rfl) ?_
  refine kI.callV (As := [.int 0]) (rest := []) ⟨hx, hb, hml, hown, hg⟩ (c_areStanding l o r f4 a5 g6 hw1.1 ) (cwV 1 hg (kgV wt7_211 wt7_213 wp7_6 wt1_14 wt7_214) rfl rfl rfl (by decide +kernel) ⟨by decide, by decide⟩) hK hP hD hS hA mIs [] rfl (wr := []) rfl rfl rfl (fun i h => by cases h) 0 12 rfl rfl rfl hl.1 rfl (Nat.le_of_ble_eq_true rfl) dX12_planned_15 ⟨by decide, by decide⟩ (fun v10 u9 H locs hw8 hP hD hS => ?_)
  have hP : va_P D vwCl (mW K o r f4 a5 g6) H := hP
  have hD : va_D A (mW K o r f4 a5 g6) := hD
  refine k_top (z := 1) (hw8) ?_
  refine lv_if_ne (tgt := 38) hx hb dX12_planned_18 (by decide) (fun c11 => ?_) (fun c11 => absurd c11 (by decide +kernel))
  refine lv_aload_n hx hb dX12_planned_38 rfl (lv_at hl 1 rfl) ?_
  refine lv_iload_n hx hb dX12_planned_39 rfl (lv_at hl 3 rfl) ?_
  refine kI.callV (As := [.int 0]) (rest := []) ⟨hx, hb, hml, hown, hg⟩ (c_areStanding l o r f4 a5 g6 hw1.1 ) (cwV 1 hg (kgV wt7_211 wt7_213 wp7_6 wt1_14 wt7_214) rfl rfl rfl (by decide +kernel) ⟨by decide, by decide⟩) hK hP hD hS hA mIs [] rfl (wr := []) rfl rfl rfl (fun i h => by cases h) 0 12 rfl rfl rfl hl.1 rfl (Nat.le_of_ble_eq_true rfl) dX12_planned_40 ⟨by decide, by decide⟩ (fun v14 u13 H locs hw12 hP hD hS => ?_)
  have hP : va_P D vwCl (mW K o r f4 a5 g6) H := hP
  have hD : va_D A (mW K o r f4 a5 g6) := hD
  refine k_top (z := 1) (hw12) ?_
  refine lv_if_eq (tgt := 51) hx hb dX12_planned_43 (by decide) (fun c15 => absurd c15 (by decide +kernel)) (fun c15 => ?_)
  refine lv_iload hx hb dX12_planned_46 (lv_at hl 0 rfl) ?_
  refine lv_goto (tgt := 52) hx hb dX12_planned_48 (by decide) ?_
  refine lv_istore (lv' := [(5, .int 0), (4, .int 0), (0, .ref o), (1, .int 0), (2, .int 0), (3, .int 200)]) hx hb dX12_planned_52 hl (by decide) rfl (fun ls hl => ?_)
  refine lv_aload_n hx hb dX12_planned_54 rfl (lv_at hl 2 rfl) ?_
  refine lv_iconst (v := 0) hx hb dX12_planned_55 (by decide) ?_
  refine kV.callV (As := [.int 0]) (rest := []) ⟨hx, hb, hml, hown, hg⟩ (c_takesBack0 l o r f4 a5 g6 hw1.1 hw1.2.1 hw1.2.2.1 hw1.2.2.2.1 hw1.2.2.2.2 ) (cwV 1 hg (kgV wt7_223 wt7_225 wp7_9 wt1_14 wt7_226) rfl rfl rfl (by decide +kernel) ⟨by decide, by decide⟩) hK hP hD hS hA mIs [] rfl (wr := []) rfl rfl rfl (fun i h => by cases h) 0 12 rfl rfl rfl hl.1 rfl (Nat.le_of_ble_eq_true rfl) dX12_planned_56 ⟨by decide, by decide⟩ (fun u17 H locs hw16 hP hD hS => ?_)
  obtain ⟨f19, a20, g21⟩ := u17
  have hP : va_P D vwCl (mW K o r f19 a20 g21) H := hP
  have hD : va_D A (mW K o r f19 a20 g21) := hD
  refine lv_iload hx hb dX12_planned_59 (lv_at hl 0 rfl) ?_
  exact kI_ret (v := 0) hx hb hr hlocks rfl hK hS dX12_planned_61 (f19, a20, g21) hP hD ⟨rfl, hw16.1, hw16.2.1, hw16.2.2.1, hw16.2.2.2.1, hw16.2.2.2.2⟩
set_option maxHeartbeats 4000000 in
set_option maxRecDepth 100000 in
theorem c_lastSight (l : Launch) {D : va_G} {K : Nat → ClassId} (o : Nat) (r : Nat → Nat) (f : Nat → Int32) (a : Nat → Nat → Int32) (g : Nat → Int64) (h0 : a 2 104 = 0)   : kI l yX12_lastSight (Cond.code yX12_lastSight cX12_lastSight 3 (some .int) :: kG) (rmD 1 0 0) D (tysK K) [.ref o] (mW K o r f a g) (fun v (_ : Unit) => v = 0) (fun _ => mW K o r f a g) 0 0 := by
  refine kI.of (cc := cX12_lastSight) (maxL := 3) (ret := (some .int)) (by decide) rfl (Nat.le_of_ble_eq_true rfl) ?_
  intro p e s m below meth c A hx hb hr hml hown hts hlocks hnm hK hP hD hS hA ls hl
  have hg : ∀ w ∈ kG, w.before _ s = true := fun w h => hts w (List.mem_cons_of_mem _ h)
  have hown : s.vm.findClass RX12 = some m.cls := hown
  have hl : lv_has ls 3 [(0, .ref o)] := hl
  refine lv_iconst (v := 0) hx hb dX12_lastSight_0 (by decide) ?_
  refine lv_istore_n (lv' := [(1, .int 0), (0, .ref o)]) hx hb dX12_lastSight_1 rfl hl (by decide) rfl (fun ls hl => ?_)
  refine lv_iconst (v := 0) hx hb dX12_lastSight_2 (by decide) ?_
  refine lv_istore_n (lv' := [(2, .int 0), (1, .int 0), (0, .ref o)]) hx hb dX12_lastSight_3 rfl hl (by decide) rfl (fun ls hl => ?_)
  refine lv_iload_n hx hb dX12_lastSight_4 rfl (lv_at hl 0 rfl) ?_
  refine lv_aload_n hx hb dX12_lastSight_5 rfl (lv_at hl 2 rfl) ?_
  refine va_get (D := D) (ci := 12) (v := .ref (r 2)) (C := RX12) (T := TX12) (N := 48) hx hb hg inC12 hown hK hP 0 rfl rfl 2 (by decide) (hg _ wt5_162) (fun _ h9 => h9) rfl dX12_lastSight_6 ?_
  refine lv_bipush (v := 104) hx hb dX12_lastSight_9 (by decide) ?_
  refine va_iald hx hb hK hP 2 0 rfl rfl (k_in (by decide +kernel)) dX12_lastSight_11 ?_
  refine k_top (z := 0) (by rw [cl_104]; exact h0) ?_
  refine lv_icmp_ge (tgt := 37) hx hb dX12_lastSight_12 (by decide) (fun c1 => ?_) (fun c1 => absurd (by decide +kernel) c1)
  refine lv_iload_n hx hb dX12_lastSight_37 rfl (lv_at hl 1 rfl) ?_
  exact kI_ret (v := 0) hx hb hr hlocks rfl hK hS dX12_lastSight_38 () hP hD rfl
set_option maxHeartbeats 4000000 in
set_option maxRecDepth 100000 in
theorem c_areSo (l : Launch) {D : va_G} {K : Nat → ClassId} (o : Nat) (r : Nat → Nat) (f : Nat → Int32) (a : Nat → Nat → Int32) (g : Nat → Int64) (h0 : a 2 104 = 0) (x : Int32)  : kI l yX12_areSo (Cond.code yX12_areSo cX12_areSo 4 (some .boolean) :: kG) (rmD 1 0 0) D (tysK K) [.ref o, .int x] (mW K o r f a g) (fun v (_ : Unit) => v = 1) (fun _ => mW K o r f a g) 0 0 := by
  refine kI.of (cc := cX12_areSo) (maxL := 4) (ret := (some .boolean)) (by decide) rfl (Nat.le_of_ble_eq_true rfl) ?_
  intro p e s m below meth c A hx hb hr hml hown hts hlocks hnm hK hP hD hS hA ls hl
  have hg : ∀ w ∈ kG, w.before _ s = true := fun w h => hts w (List.mem_cons_of_mem _ h)
  have hown : s.vm.findClass RX12 = some m.cls := hown
  have hl : lv_has ls 4 [(0, .ref o), (1, .int x)] := hl
  refine lv_iconst (v := 1) hx hb dX12_areSo_0 (by decide) ?_
  refine lv_istore_n (lv' := [(2, .int 1), (0, .ref o), (1, .int x)]) hx hb dX12_areSo_1 rfl hl (by decide) rfl (fun ls hl => ?_)
  refine lv_iconst (v := 0) hx hb dX12_areSo_2 (by decide) ?_
  refine lv_istore_n (lv' := [(3, .int 0), (2, .int 1), (0, .ref o), (1, .int x)]) hx hb dX12_areSo_3 rfl hl (by decide) rfl (fun ls hl => ?_)
  refine lv_iload_n hx hb dX12_areSo_4 rfl (lv_at hl 0 rfl) ?_
  refine lv_aload_n hx hb dX12_areSo_5 rfl (lv_at hl 2 rfl) ?_
  refine va_get (D := D) (ci := 12) (v := .ref (r 2)) (C := RX12) (T := TX12) (N := 48) hx hb hg inC12 hown hK hP 0 rfl rfl 2 (by decide) (hg _ wt5_162) (fun _ h9 => h9) rfl dX12_areSo_6 ?_
  refine lv_bipush (v := 104) hx hb dX12_areSo_9 (by decide) ?_
  refine va_iald hx hb hK hP 2 0 rfl rfl (k_in (by decide +kernel)) dX12_areSo_11 ?_
  refine k_top (z := 0) (by rw [cl_104]; exact h0) ?_
  refine lv_icmp_ge (tgt := 88) hx hb dX12_areSo_12 (by decide) (fun c1 => ?_) (fun c1 => absurd (by decide +kernel) c1)
  refine lv_iload_n hx hb dX12_areSo_88 rfl (lv_at hl 1 rfl) ?_
  exact kI_ret (v := 1) hx hb hr hlocks (by decide +kernel) hK hS dX12_areSo_89 () hP hD rfl
set_option maxHeartbeats 4000000 in
set_option maxRecDepth 100000 in
theorem c_canBeWhose (l : Launch) {D : va_G} {K : Nat → ClassId} (o : Nat) (r : Nat → Nat) (f : Nat → Int32) (a : Nat → Nat → Int32) (g : Nat → Int64) (h0 : a 2 102 = 0) (h1 : a 2 103 = 0) (h2 : a 2 104 = 0) (h3 : a 2 99 = 30) (h4 : a 2 100 = 2)   : kI l yX12_canBeWhose (Cond.code yX12_canBeWhose cX12_canBeWhose 5 (some .boolean) :: kG) (rmD 3 0 0) D (tysK K) [.ref o, .int 0] (mW K o r f a g) (fun v (u : mS) => v = 1 ∧ u.2.1 2 102 = 0 ∧ u.2.1 2 103 = 0 ∧ u.2.1 2 104 = 0 ∧ u.2.1 2 99 = 30 ∧ u.2.1 2 100 = 2) (fun u => mW K o r u.1 u.2.1 u.2.2) 0 0 := by
  refine kI.of (cc := cX12_canBeWhose) (maxL := 5) (ret := (some .boolean)) (by decide) rfl (Nat.le_of_ble_eq_true rfl) ?_
  intro p e s m below meth c A hx hb hr hml hown hts hlocks hnm hK hP hD hS hA ls hl
  have hg : ∀ w ∈ kG, w.before _ s = true := fun w h => hts w (List.mem_cons_of_mem _ h)
  have hown : s.vm.findClass RX12 = some m.cls := hown
  have hl : lv_has ls 5 [(0, .ref o), (1, .int 0)] := hl
  refine lv_aload_n hx hb dX12_canBeWhose_0 rfl (lv_at hl 0 rfl) ?_
  refine kV.callV (As := []) (rest := []) ⟨hx, hb, hml, hown, hg⟩ (c_begins l o r f a g h0 h1 h2 h3 h4 ) (cwV 0 hg (kgV wt7_203 wt7_205 wp7_4 wt1_14 wt7_206) rfl rfl rfl (by decide +kernel) ⟨by decide, by decide⟩) hK hP hD hS hA mIs [] rfl (wr := []) rfl rfl rfl (fun i h => by cases h) 0 12 rfl rfl rfl hl.1 rfl (Nat.le_of_ble_eq_true rfl) dX12_canBeWhose_1 ⟨by decide, by decide⟩ (fun u2 H locs hw1 hP hD hS => ?_)
  obtain ⟨f4, a5, g6⟩ := u2
  have hP : va_P D vwCl (mW K o r f4 a5 g6) H := hP
  have hD : va_D A (mW K o r f4 a5 g6) := hD
  refine lv_aload_n hx hb dX12_canBeWhose_4 rfl (lv_at hl 0 rfl) ?_
  refine kI.callV (As := []) (rest := []) ⟨hx, hb, hml, hown, hg⟩ (c_lastSight l o r f4 a5 g6 hw1.2.2.1 ) (cwV 0 hg (kgV wt8_23 wt8_25 wp7_12 wt1_14 wt8_26) rfl rfl rfl (by decide +kernel) ⟨by decide, by decide⟩) hK hP hD hS hA mIs [] rfl (wr := []) rfl rfl rfl (fun i h => by cases h) 0 12 rfl rfl rfl hl.1 rfl (Nat.le_of_ble_eq_true rfl) dX12_canBeWhose_5 ⟨by decide, by decide⟩ (fun v9 u8 H locs hw7 hP hD hS => ?_)
  have hP : va_P D vwCl (mW K o r f4 a5 g6) H := hP
  have hD : va_D A (mW K o r f4 a5 g6) := hD
  refine k_top (z := 0) (hw7) ?_
  refine lv_istore_n (lv' := [(2, .int 0), (0, .ref o), (1, .int 0)]) hx hb dX12_canBeWhose_8 rfl hl (by decide) rfl (fun ls hl => ?_)
  refine lv_aload_n hx hb dX12_canBeWhose_9 rfl (lv_at hl 1 rfl) ?_
  refine lv_iconst (v := 0) hx hb dX12_canBeWhose_10 (by decide) ?_
  refine kI.callV (As := [.int 0]) (rest := []) ⟨hx, hb, hml, hown, hg⟩ (c_areSo l o r f4 a5 g6 hw1.2.2.1 0) (cwV 1 hg (kgV wt8_27 wt8_29 wp7_13 wt1_14 wt8_30) rfl rfl rfl (by decide +kernel) ⟨by decide, by decide⟩) hK hP hD hS hA mIs [] rfl (wr := []) rfl rfl rfl (fun i h => by cases h) 0 12 rfl rfl rfl hl.1 rfl (Nat.le_of_ble_eq_true rfl) dX12_canBeWhose_11 ⟨by decide, by decide⟩ (fun v12 u11 H locs hw10 hP hD hS => ?_)
  have hP : va_P D vwCl (mW K o r f4 a5 g6) H := hP
  have hD : va_D A (mW K o r f4 a5 g6) := hD
  refine k_top (z := 1) (hw10) ?_
  refine lv_istore_n (lv' := [(3, .int 1), (2, .int 0), (0, .ref o), (1, .int 0)]) hx hb dX12_canBeWhose_14 rfl hl (by decide) rfl (fun ls hl => ?_)
  refine lv_iconst (v := 1) hx hb dX12_canBeWhose_15 (by decide) ?_
  refine lv_istore (lv' := [(4, .int 1), (3, .int 1), (2, .int 0), (0, .ref o), (1, .int 0)]) hx hb dX12_canBeWhose_16 hl (by decide) rfl (fun ls hl => ?_)
  refine lv_iload hx hb dX12_canBeWhose_18 (lv_at hl 0 rfl) ?_
  refine lv_iload_n hx hb dX12_canBeWhose_20 rfl (lv_at hl 2 rfl) ?_
  refine lv_icmp_gt (tgt := 46) hx hb dX12_canBeWhose_21 (by decide) (fun c13 => ?_) (fun c13 => absurd (by decide +kernel) c13)
  refine lv_aload_n hx hb dX12_canBeWhose_46 rfl (lv_at hl 3 rfl) ?_
  refine lv_iconst (v := 0) hx hb dX12_canBeWhose_47 (by decide) ?_
  refine kV.callV (As := [.int 0]) (rest := []) ⟨hx, hb, hml, hown, hg⟩ (c_takesBack0 l o r f4 a5 g6 hw1.1 hw1.2.1 hw1.2.2.1 hw1.2.2.2.1 hw1.2.2.2.2 ) (cwV 1 hg (kgV wt7_223 wt7_225 wp7_9 wt1_14 wt7_226) rfl rfl rfl (by decide +kernel) ⟨by decide, by decide⟩) hK hP hD hS hA mIs [] rfl (wr := []) rfl rfl rfl (fun i h => by cases h) 0 12 rfl rfl rfl hl.1 rfl (Nat.le_of_ble_eq_true rfl) dX12_canBeWhose_48 ⟨by decide, by decide⟩ (fun u15 H locs hw14 hP hD hS => ?_)
  obtain ⟨f17, a18, g19⟩ := u15
  have hP : va_P D vwCl (mW K o r f17 a18 g19) H := hP
  have hD : va_D A (mW K o r f17 a18 g19) := hD
  refine lv_iload_n hx hb dX12_canBeWhose_51 rfl (lv_at hl 1 rfl) ?_
  exact kI_ret (v := 1) hx hb hr hlocks (by decide +kernel) hK hS dX12_canBeWhose_52 (f17, a18, g19) hP hD ⟨rfl, hw14.1, hw14.2.1, hw14.2.2.1, hw14.2.2.2.1, hw14.2.2.2.2⟩
