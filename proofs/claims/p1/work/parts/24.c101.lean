set_option maxHeartbeats 4000000 in
set_option maxRecDepth 100000 in
theorem x_at (l : Launch) {D : va_G} {K : Nat → ClassId} (r : Nat → Nat) (f : Nat → Int32) (a : Nat → Nat → Int32) (g : xG) (h0 : f 38 = 0) (x : Int32) (y : Int32)  : kI l yX11_at (Cond.code yX11_at cX11_at 3 (some .int) :: kG) (rmD 2 0 0) D (tysK K) [.ref (r 0), .int x, .int y] (xW K r f a g) (fun v (_ : Unit) => v = (-1)) (fun _ => xW K r f a g) 0 0 := by
  refine kI.of (cc := cX11_at) (maxL := 3) (ret := (some .int)) (by decide) rfl (Nat.le_of_ble_eq_true rfl) ?_
  intro p e s m below meth c A hx hb hr hml hown hts hlocks hnm hK hP hD hS hA ls hl
  have hg : ∀ w ∈ kG, w.before _ s = true := fun w h => hts w (List.mem_cons_of_mem _ h)
  have hown : s.vm.findClass RX11 = some m.cls := hown
  have hl : lv_has ls 3 [(0, .ref (r 0)), (1, .int x), (2, .int y)] := hl
  refine lv_aload_n hx hb dX11_at_0 rfl (lv_at hl 0 rfl) ?_
  refine va_get (D := D) (ci := 11) (v := .ref (r 1)) (C := RX11) (T := TX11) (N := 17) hx hb hg inC11 hown hK hP 0 rfl rfl 0 (by decide) (hg _ wt2_186) (fun _ h9 => h9) rfl dX11_at_1 ?_
  refine lv_iload_n hx hb dX11_at_4 rfl (lv_at hl 1 rfl) ?_
  refine kI.callW (As := [.int x]) (rest := []) ⟨hx, hb, hml, hown, hg⟩ (x_hasBuilder_now l r f a g h0 x) (cwV 1 hg (kgV wt3_67 wt3_68 wt3_69 wt1_2 wt3_70) rfl rfl rfl (by decide +kernel) ⟨by decide, by decide⟩) hK hP hD hS hA 1 7 rfl rfl rfl hl.1 rfl (Nat.le_of_ble_eq_true rfl) dX11_at_5 ⟨by decide, by decide⟩ (fun v3 u2 H locs hw1 hP hD hS => ?_)
  have hP : va_P D vwCl (xW K r f a g) H := hP
  have hD : va_D A (xW K r f a g) := hD
  refine k_top (z := 0) (hw1) ?_
  refine lv_if_ne (tgt := 13) hx hb dX11_at_8 (by decide) (fun c4 => absurd (by decide +kernel) c4) (fun c4 => ?_)
  refine lv_iconst (v := (-1)) hx hb dX11_at_11 (by decide) ?_
  exact kI_ret (v := (-1)) hx hb hr hlocks rfl hK hS dX11_at_12 () hP hD rfl
set_option maxHeartbeats 4000000 in
set_option maxRecDepth 100000 in
theorem x_asks (l : Launch) {D : va_G} {K : Nat → ClassId} (r : Nat → Nat) (f : Nat → Int32) (a : Nat → Nat → Int32) (g : xG) (h0 : f 38 = 0) (x : Int32) (y : Int32) (z : Int32)  : kI l yX11_asks (Cond.code yX11_asks cX11_asks 4 (some .int) :: kG) (rmD 2 0 0) D (tysK K) [.ref (r 0), .int x, .int y, .int z] (xW K r f a g) (fun v (_ : Unit) => v = (-1)) (fun _ => xW K r f a g) 0 0 := by
  refine kI.of (cc := cX11_asks) (maxL := 4) (ret := (some .int)) (by decide) rfl (Nat.le_of_ble_eq_true rfl) ?_
  intro p e s m below meth c A hx hb hr hml hown hts hlocks hnm hK hP hD hS hA ls hl
  have hg : ∀ w ∈ kG, w.before _ s = true := fun w h => hts w (List.mem_cons_of_mem _ h)
  have hown : s.vm.findClass RX11 = some m.cls := hown
  have hl : lv_has ls 4 [(0, .ref (r 0)), (1, .int x), (2, .int y), (3, .int z)] := hl
  refine lv_aload_n hx hb dX11_asks_0 rfl (lv_at hl 0 rfl) ?_
  refine va_get (D := D) (ci := 11) (v := .ref (r 1)) (C := RX11) (T := TX11) (N := 17) hx hb hg inC11 hown hK hP 0 rfl rfl 0 (by decide) (hg _ wt2_186) (fun _ h9 => h9) rfl dX11_asks_1 ?_
  refine lv_iload_n hx hb dX11_asks_4 rfl (lv_at hl 1 rfl) ?_
  refine kI.callW (As := [.int x]) (rest := []) ⟨hx, hb, hml, hown, hg⟩ (x_hasBuilder_now l r f a g h0 x) (cwV 1 hg (kgV wt3_67 wt3_68 wt3_69 wt1_2 wt3_70) rfl rfl rfl (by decide +kernel) ⟨by decide, by decide⟩) hK hP hD hS hA 1 7 rfl rfl rfl hl.1 rfl (Nat.le_of_ble_eq_true rfl) dX11_asks_5 ⟨by decide, by decide⟩ (fun v3 u2 H locs hw1 hP hD hS => ?_)
  have hP : va_P D vwCl (xW K r f a g) H := hP
  have hD : va_D A (xW K r f a g) := hD
  refine k_top (z := 0) (hw1) ?_
  refine lv_if_eq (tgt := 34) hx hb dX11_asks_8 (by decide) (fun c4 => ?_) (fun c4 => absurd (by decide +kernel) c4)
  refine lv_iconst (v := (-1)) hx hb dX11_asks_34 (by decide) ?_
  exact kI_ret (v := (-1)) hx hb hr hlocks rfl hK hS dX11_asks_35 () hP hD rfl
set_option maxHeartbeats 4000000 in
set_option maxRecDepth 100000 in
theorem x_end (l : Launch) {D : va_G} {K : Nat → ClassId} (r : Nat → Nat) (f : Nat → Int32) (a : Nat → Nat → Int32) (g : xG) (h0 : f 12 = 0) (x : Int32)  : kI l yX11_end (Cond.code yX11_end cX11_end 2 (some .int) :: kG) (rmD 1 0 0) D (tysK K) [.ref (r 0), .int x] (xW K r f a g) (fun v (u : xS) => v = (if x < 0 then (-1 : Int32) else if x ≤ 0 then x else -1)) (fun u => xW K r u.1 u.2.1 u.2.2) 0 0 := by
  refine kI.of (cc := cX11_end) (maxL := 2) (ret := (some .int)) (by decide) rfl (Nat.le_of_ble_eq_true rfl) ?_
  intro p e s m below meth c A hx hb hr hml hown hts hlocks hnm hK hP hD hS hA ls hl
  have hg : ∀ w ∈ kG, w.before _ s = true := fun w h => hts w (List.mem_cons_of_mem _ h)
  have hown : s.vm.findClass RX11 = some m.cls := hown
  have hl : lv_has ls 2 [(0, .ref (r 0)), (1, .int x)] := hl
  refine lv_iload_n hx hb dX11_end_0 rfl (lv_at hl 1 rfl) ?_
  refine lv_if_lt (tgt := 12) hx hb dX11_end_1 (by decide) (fun c1 => ?_) (fun c1 => ?_)
  · refine lv_iconst (v := (-1)) hx hb dX11_end_12 (by decide) ?_
    exact kI_ret (v := (-1)) hx hb hr hlocks rfl hK hS dX11_end_13 (f, a, g) hP hD (by rw [if_pos c1])
  · refine lv_iload_n hx hb dX11_end_4 rfl (lv_at hl 1 rfl) ?_
    refine lv_aload_n hx hb dX11_end_5 rfl (lv_at hl 0 rfl) ?_
    refine va_get (D := D) (ci := 11) (v := .int (f 12)) (C := RX11) (T := TX11) (N := 17) hx hb hg inC11 hown hK hP 0 rfl rfl 12 (by decide) (hg _ wt2_198) (fun _ h9 => h9) rfl dX11_end_6 ?_
    refine k_top (z := 0) h0 ?_
    refine lv_icmp_le (tgt := 14) hx hb dX11_end_9 (by decide) (fun c2 => ?_) (fun c2 => ?_)
    · refine lv_aload_n hx hb dX11_end_14 rfl (lv_at hl 0 rfl) ?_
      refine lv_iload_n hx hb dX11_end_15 rfl (lv_at hl 1 rfl) ?_
      refine va_put (D := D) (ci := 11) (v := .int x) (ty := .int) (C := RX11) (T := TX11) (N := 17) hx hb hg inC11 tyX11 tyX11_ok nmX11 hown hK hP hD hS 0 rfl rfl 12 (by decide) (hg _ wt2_198) (fun _ h9 => h9) rfl (by decide +kernel) rfl rfl (Nat.le_of_ble_eq_true rfl) dX11_end_16 (fun H locs hP hD hS => ?_)
      have hP : va_P D vwCl (xW K r (upd f 12 x) a g) H := hP
      have hD : va_D A (xW K r (upd f 12 x) a g) := hD
      refine k_gen (P := fun z => va_P D vwCl (xW K r z a g) H ∧ va_D A (xW K r z a g)) (upd f 12 x) ⟨hP, hD⟩ (fun f_3 ef_3 hPD => ?_)
      have hP := hPD.1
      have hD := hPD.2
      refine lv_iload_n hx hb dX11_end_19 rfl (lv_at hl 1 rfl) ?_
      exact kI_ret (v := x) hx hb hr hlocks rfl hK hS dX11_end_20 (f_3, a, g) hP hD (by rw [if_neg c1, if_pos c2])
    · refine lv_iconst (v := (-1)) hx hb dX11_end_12 (by decide) ?_
      exact kI_ret (v := (-1)) hx hb hr hlocks rfl hK hS dX11_end_13 (f, a, g) hP hD (by rw [if_neg c1, if_neg c2])
set_option maxHeartbeats 4000000 in
set_option maxRecDepth 100000 in
theorem x_row (l : Launch) {D : va_G} {K : Nat → ClassId} (r : Nat → Nat) (f : Nat → Int32) (a : Nat → Nat → Int32) (g : xG) (h0 : f 12 = 0)   : kI l yX11_row (Cond.code yX11_row cX11_row 5 (some .int) :: kG) (rmD 2 0 0) D (tysK K) [.ref (r 0)] (xW K r f a g) (fun v (u : xS) => v = (-6)) (fun u => xW K r u.1 u.2.1 u.2.2) 0 0 := by
  refine kI.of (cc := cX11_row) (maxL := 5) (ret := (some .int)) (by decide) rfl (Nat.le_of_ble_eq_true rfl) ?_
  intro p e s m below meth c A hx hb hr hml hown hts hlocks hnm hK hP hD hS hA ls hl
  have hg : ∀ w ∈ kG, w.before _ s = true := fun w h => hts w (List.mem_cons_of_mem _ h)
  have hown : s.vm.findClass RX11 = some m.cls := hown
  have hl : lv_has ls 5 [(0, .ref (r 0))] := hl
  refine lv_aload_n hx hb dX11_row_0 rfl (lv_at hl 0 rfl) ?_
  refine kI.callW (As := []) (rest := []) ⟨hx, hb, hml, hown, hg⟩ (x_emptyTape l r f a g h0 ) (cwV 0 hg (kgV wt3_137 wt3_139 wp1_7 wt1_1 wt3_140) rfl rfl rfl (by decide +kernel) ⟨by decide, by decide⟩) hK hP hD hS hA 0 11 rfl rfl rfl hl.1 rfl (Nat.le_of_ble_eq_true rfl) dX11_row_1 ⟨by decide, by decide⟩ (fun v3 u2 H locs hw1 hP hD hS => ?_)
  obtain ⟨f4, a5, g6⟩ := u2
  have hP : va_P D vwCl (xW K r f4 a5 g6) H := hP
  have hD : va_D A (xW K r f4 a5 g6) := hD
  refine k_top (z := 0) (hw1.1) ?_
  refine lv_istore_n (lv' := [(1, .int 0), (0, .ref (r 0))]) hx hb dX11_row_4 rfl hl (by decide) rfl (fun ls hl => ?_)
  refine lv_iload_n hx hb dX11_row_5 rfl (lv_at hl 0 rfl) ?_
  refine lv_if_ne (tgt := 16) hx hb dX11_row_6 (by decide) (fun c7 => absurd (by decide +kernel) c7) (fun c7 => ?_)
  refine lv_aload_n hx hb dX11_row_9 rfl (lv_at hl 1 rfl) ?_
  refine lv_bipush (v := (-6)) hx hb dX11_row_10 (by decide) ?_
  refine kI.callW (As := [.int (-6)]) (rest := []) ⟨hx, hb, hml, hown, hg⟩ (x_refuse6 l r f4 a5 g6  ) (cwV 1 hg (kgV wt3_7 wt3_9 wp1_0 wt1_1 wt3_10) rfl rfl rfl (by decide +kernel) ⟨by decide, by decide⟩) hK hP hD hS hA 0 11 rfl rfl rfl hl.1 rfl (Nat.le_of_ble_eq_true rfl) dX11_row_12 ⟨by decide, by decide⟩ (fun v10 u9 H locs hw8 hP hD hS => ?_)
  obtain ⟨f11, a12, g13⟩ := u9
  have hP : va_P D vwCl (xW K r f11 a12 g13) H := hP
  have hD : va_D A (xW K r f11 a12 g13) := hD
  refine k_top (z := (-6)) (hw8) ?_
  exact kI_ret (v := (-6)) hx hb hr hlocks rfl hK hS dX11_row_15 (f11, a12, g13) hP hD rfl
set_option maxHeartbeats 4000000 in
set_option maxRecDepth 100000 in
theorem x_stands (l : Launch) {D : va_G} {K : Nat → ClassId} (r : Nat → Nat) (f : Nat → Int32) (a : Nat → Nat → Int32) (g : xG) (h0 : f 32 = 0) (x : Int32)  : kI l yX11_stands (Cond.code yX11_stands cX11_stands 2 (some .int) :: kG) (rmD 3 0 0) D (tysK K) [.ref (r 0), .int x] (xW K r f a g) (fun v (_ : Unit) => v = (if x = 0 then (0 : Int32) else if x = 1 then 0 else -1)) (fun _ => xW K r f a g) 0 0 := by
  refine kI.of (cc := cX11_stands) (maxL := 2) (ret := (some .int)) (by decide) rfl (Nat.le_of_ble_eq_true rfl) ?_
  intro p e s m below meth c A hx hb hr hml hown hts hlocks hnm hK hP hD hS hA ls hl
  have hg : ∀ w ∈ kG, w.before _ s = true := fun w h => hts w (List.mem_cons_of_mem _ h)
  have hown : s.vm.findClass RX11 = some m.cls := hown
  have hl : lv_has ls 2 [(0, .ref (r 0)), (1, .int x)] := hl
  refine lv_iload_n hx hb dX11_stands_0 rfl (lv_at hl 1 rfl) ?_
  by_cases q1 : x = 0
  · subst q1
    refine lv_lookup (tgt := 28) (off := 27) hx hb dX11_stands_1 (by decide +kernel) (by decide +kernel) (by decide) ?_
    refine lv_aload_n hx hb dX11_stands_28 rfl (lv_at hl 0 rfl) ?_
    refine va_get (D := D) (ci := 11) (v := .ref (r 1)) (C := RX11) (T := TX11) (N := 17) hx hb hg inC11 hown hK hP 0 rfl rfl 0 (by decide) (hg _ wt2_186) (fun _ h9 => h9) rfl dX11_stands_29 ?_
    refine kI.callW (As := []) (rest := []) ⟨hx, hb, hml, hown, hg⟩ (x_upMask_now l r f a g h0 ) (cwV 0 hg (kgV wt4_164 wt3_44 wt3_45 wt1_2 wt3_46) rfl rfl rfl (by decide +kernel) ⟨by decide, by decide⟩) hK hP hD hS hA 1 7 rfl rfl rfl hl.1 rfl (Nat.le_of_ble_eq_true rfl) dX11_stands_32 ⟨by decide, by decide⟩ (fun v4 u3 H locs hw2 hP hD hS => ?_)
    have hP : va_P D vwCl (xW K r f a g) H := hP
    have hD : va_D A (xW K r f a g) := hD
    refine k_top (z := 0) (hw2) ?_
    exact kI_ret (v := 0) hx hb hr hlocks rfl hK hS dX11_stands_35 () hP hD rfl
  by_cases q5 : x = 1
  · subst q5
    refine lv_lookup (tgt := 36) (off := 35) hx hb dX11_stands_1 (by decide +kernel) (by decide +kernel) (by decide) ?_
    refine lv_aload_n hx hb dX11_stands_36 rfl (lv_at hl 0 rfl) ?_
    refine va_get (D := D) (ci := 11) (v := .ref (r 1)) (C := RX11) (T := TX11) (N := 17) hx hb hg inC11 hown hK hP 0 rfl rfl 0 (by decide) (hg _ wt2_186) (fun _ h9 => h9) rfl dX11_stands_37 ?_
    refine kI.callW (As := []) (rest := []) ⟨hx, hb, hml, hown, hg⟩ (x_readyMask_now l r f a g h0 ) (cwV 0 hg (kgV wt3_39 wt3_40 wt3_41 wt1_2 wt3_42) rfl rfl rfl (by decide +kernel) ⟨by decide, by decide⟩) hK hP hD hS hA 1 7 rfl rfl rfl hl.1 rfl (Nat.le_of_ble_eq_true rfl) dX11_stands_40 ⟨by decide, by decide⟩ (fun v8 u7 H locs hw6 hP hD hS => ?_)
    have hP : va_P D vwCl (xW K r f a g) H := hP
    have hD : va_D A (xW K r f a g) := hD
    refine k_top (z := 0) (hw6) ?_
    exact kI_ret (v := 0) hx hb hr hlocks rfl hK hS dX11_stands_43 () hP hD rfl
  refine lv_lookup (tgt := 44) (off := 43) hx hb dX11_stands_1 (by decide +kernel) ((lv_osw q1 (by decide +kernel)).trans ((lv_osw q5 (by decide +kernel)).trans rfl)) (by decide) ?_
  refine lv_iconst (v := (-1)) hx hb dX11_stands_44 (by decide) ?_
  exact kI_ret (v := (-1)) hx hb hr hlocks rfl hK hS dX11_stands_45 () hP hD (by simp [q1, q5])
set_option maxHeartbeats 4000000 in
set_option maxRecDepth 100000 in
theorem x_sendBuilder (l : Launch) {D : va_G} {K : Nat → ClassId} (r : Nat → Nat) (f : Nat → Int32) (a : Nat → Nat → Int32) (g : xG) (h0 : f 38 = 0) (x : Int32) (y : Int32)  : kI l yX0_sendBuilder (Cond.code yX0_sendBuilder cX0_sendBuilder 3 (some .int) :: kG) (rmD 2 0 0) D (tysK K) [.ref (r 24), .int x, .int y] (xW K r f a g) (fun v (_ : Unit) => v = (-2)) (fun _ => xW K r f a g) 0 0 := by
  refine kI.of (cc := cX0_sendBuilder) (maxL := 3) (ret := (some .int)) (by decide) rfl (Nat.le_of_ble_eq_true rfl) ?_
  intro p e s m below meth c A hx hb hr hml hown hts hlocks hnm hK hP hD hS hA ls hl
  have hg : ∀ w ∈ kG, w.before _ s = true := fun w h => hts w (List.mem_cons_of_mem _ h)
  have hown : s.vm.findClass RX0 = some m.cls := hown
  have hl : lv_has ls 3 [(0, .ref (r 24)), (1, .int x), (2, .int y)] := hl
  refine lv_aload_n hx hb dX0_sendBuilder_0 rfl (lv_at hl 0 rfl) ?_
  refine va_get (D := D) (ci := 0) (v := .ref (r 1)) (C := RX0) (T := TX0) (N := 2) hx hb hg inC0 hown hK hP 24 rfl rfl 0 (by decide) (hg _ wt1_222) (fun _ h9 => h9) rfl dX0_sendBuilder_1 ?_
  refine lv_iload_n hx hb dX0_sendBuilder_4 rfl (lv_at hl 1 rfl) ?_
  refine kI.callW (As := [.int x]) (rest := []) ⟨hx, hb, hml, hown, hg⟩ (x_hasBuilder_now l r f a g h0 x) (cwV 1 hg (kgV wt4_113 wt3_68 wt3_69 wt1_2 wt3_70) rfl rfl rfl (by decide +kernel) ⟨by decide, by decide⟩) hK hP hD hS hA 1 7 rfl rfl rfl hl.1 rfl (Nat.le_of_ble_eq_true rfl) dX0_sendBuilder_5 ⟨by decide, by decide⟩ (fun v3 u2 H locs hw1 hP hD hS => ?_)
  have hP : va_P D vwCl (xW K r f a g) H := hP
  have hD : va_D A (xW K r f a g) := hD
  refine k_top (z := 0) (hw1) ?_
  refine lv_if_eq (tgt := 22) hx hb dX0_sendBuilder_8 (by decide) (fun c4 => ?_) (fun c4 => absurd (by decide +kernel) c4)
  refine lv_bipush (v := (-2)) hx hb dX0_sendBuilder_22 (by decide) ?_
  exact kI_ret (v := (-2)) hx hb hr hlocks rfl hK hS dX0_sendBuilder_24 () hP hD rfl
set_option maxHeartbeats 4000000 in
set_option maxRecDepth 100000 in
theorem x_restBuilder (l : Launch) {D : va_G} {K : Nat → ClassId} (r : Nat → Nat) (f : Nat → Int32) (a : Nat → Nat → Int32) (g : xG) (h0 : f 38 = 0) (x : Int32)  : kI l yX0_restBuilder (Cond.code yX0_restBuilder cX0_restBuilder 3 (some .int) :: kG) (rmD 2 0 0) D (tysK K) [.ref (r 24), .int x] (xW K r f a g) (fun v (_ : Unit) => v = (-2)) (fun _ => xW K r f a g) 0 0 := by
  refine kI.of (cc := cX0_restBuilder) (maxL := 3) (ret := (some .int)) (by decide) rfl (Nat.le_of_ble_eq_true rfl) ?_
  intro p e s m below meth c A hx hb hr hml hown hts hlocks hnm hK hP hD hS hA ls hl
  have hg : ∀ w ∈ kG, w.before _ s = true := fun w h => hts w (List.mem_cons_of_mem _ h)
  have hown : s.vm.findClass RX0 = some m.cls := hown
  have hl : lv_has ls 3 [(0, .ref (r 24)), (1, .int x)] := hl
  refine lv_aload_n hx hb dX0_restBuilder_0 rfl (lv_at hl 0 rfl) ?_
  refine va_get (D := D) (ci := 0) (v := .ref (r 1)) (C := RX0) (T := TX0) (N := 2) hx hb hg inC0 hown hK hP 24 rfl rfl 0 (by decide) (hg _ wt1_222) (fun _ h9 => h9) rfl dX0_restBuilder_1 ?_
  refine lv_iload_n hx hb dX0_restBuilder_4 rfl (lv_at hl 1 rfl) ?_
  refine kI.callW (As := [.int x]) (rest := []) ⟨hx, hb, hml, hown, hg⟩ (x_hasBuilder_now l r f a g h0 x) (cwV 1 hg (kgV wt4_113 wt3_68 wt3_69 wt1_2 wt3_70) rfl rfl rfl (by decide +kernel) ⟨by decide, by decide⟩) hK hP hD hS hA 1 7 rfl rfl rfl hl.1 rfl (Nat.le_of_ble_eq_true rfl) dX0_restBuilder_5 ⟨by decide, by decide⟩ (fun v3 u2 H locs hw1 hP hD hS => ?_)
  have hP : va_P D vwCl (xW K r f a g) H := hP
  have hD : va_D A (xW K r f a g) := hD
  refine k_top (z := 0) (hw1) ?_
  refine lv_if_ne (tgt := 14) hx hb dX0_restBuilder_8 (by decide) (fun c4 => absurd (by decide +kernel) c4) (fun c4 => ?_)
  refine lv_bipush (v := (-2)) hx hb dX0_restBuilder_11 (by decide) ?_
  exact kI_ret (v := (-2)) hx hb hr hlocks rfl hK hS dX0_restBuilder_13 () hP hD rfl
set_option maxHeartbeats 4000000 in
set_option maxRecDepth 100000 in
theorem x_razePart (l : Launch) {D : va_G} {K : Nat → ClassId} (r : Nat → Nat) (f : Nat → Int32) (a : Nat → Nat → Int32) (g : xG) (h0 : f 32 = 0) (x : Int32)  : kI l yX0_razePart (Cond.code yX0_razePart cX0_razePart 2 (some .int) :: kG) (rmD 2 0 0) D (tysK K) [.ref (r 24), .int x] (xW K r f a g) (fun v (_ : Unit) => v = (-2)) (fun _ => xW K r f a g) 0 0 := by
  refine kI.of (cc := cX0_razePart) (maxL := 2) (ret := (some .int)) (by decide) rfl (Nat.le_of_ble_eq_true rfl) ?_
  intro p e s m below meth c A hx hb hr hml hown hts hlocks hnm hK hP hD hS hA ls hl
  have hg : ∀ w ∈ kG, w.before _ s = true := fun w h => hts w (List.mem_cons_of_mem _ h)
  have hown : s.vm.findClass RX0 = some m.cls := hown
  have hl : lv_has ls 2 [(0, .ref (r 24)), (1, .int x)] := hl
  refine lv_aload_n hx hb dX0_razePart_0 rfl (lv_at hl 0 rfl) ?_
  refine va_get (D := D) (ci := 0) (v := .ref (r 1)) (C := RX0) (T := TX0) (N := 2) hx hb hg inC0 hown hK hP 24 rfl rfl 0 (by decide) (hg _ wt1_222) (fun _ h9 => h9) rfl dX0_razePart_1 ?_
  refine lv_iload_n hx hb dX0_razePart_4 rfl (lv_at hl 1 rfl) ?_
  refine kI.callW (As := [.int x]) (rest := []) ⟨hx, hb, hml, hown, hg⟩ (x_hasPart_now l r f a g h0 x) (cwV 1 hg (kgV wt4_114 wt3_36 wt3_37 wt1_2 wt3_38) rfl rfl rfl (by decide +kernel) ⟨by decide, by decide⟩) hK hP hD hS hA 1 7 rfl rfl rfl hl.1 rfl (Nat.le_of_ble_eq_true rfl) dX0_razePart_5 ⟨by decide, by decide⟩ (fun v3 u2 H locs hw1 hP hD hS => ?_)
  have hP : va_P D vwCl (xW K r f a g) H := hP
  have hD : va_D A (xW K r f a g) := hD
  refine k_top (z := 0) (hw1) ?_
  refine lv_if_ne (tgt := 14) hx hb dX0_razePart_8 (by decide) (fun c4 => absurd (by decide +kernel) c4) (fun c4 => ?_)
  refine lv_bipush (v := (-2)) hx hb dX0_razePart_11 (by decide) ?_
  exact kI_ret (v := (-2)) hx hb hr hlocks rfl hK hS dX0_razePart_13 () hP hD rfl
set_option maxHeartbeats 4000000 in
set_option maxRecDepth 100000 in
theorem x_send (l : Launch) {D : va_G} {K : Nat → ClassId} (r : Nat → Nat) (f : Nat → Int32) (a : Nat → Nat → Int32) (g : xG) (h0 : f 38 = 0) (x : Int32) (y : Int32)  : kI l yX11_send (Cond.code yX11_send cX11_send 3 (some .int) :: kG) (rmD 3 0 0) D (tysK K) [.ref (r 0), .int x, .int y] (xW K r f a g) (fun v (u : xS) => v = (-2)) (fun u => xW K r u.1 u.2.1 u.2.2) 0 0 := by
  refine kI.of (cc := cX11_send) (maxL := 3) (ret := (some .int)) (by decide) rfl (Nat.le_of_ble_eq_true rfl) ?_
  intro p e s m below meth c A hx hb hr hml hown hts hlocks hnm hK hP hD hS hA ls hl
  have hg : ∀ w ∈ kG, w.before _ s = true := fun w h => hts w (List.mem_cons_of_mem _ h)
  have hown : s.vm.findClass RX11 = some m.cls := hown
  have hl : lv_has ls 3 [(0, .ref (r 0)), (1, .int x), (2, .int y)] := hl
  refine lv_aload_n hx hb dX11_send_0 rfl (lv_at hl 0 rfl) ?_
  refine lv_aload_n hx hb dX11_send_1 rfl (lv_at hl 0 rfl) ?_
  refine va_get (D := D) (ci := 11) (v := .ref (r 24)) (C := RX11) (T := TX11) (N := 17) hx hb hg inC11 hown hK hP 0 rfl rfl 2 (by decide) (hg _ wt2_188) (fun _ h9 => h9) rfl dX11_send_2 ?_
  refine lv_iload_n hx hb dX11_send_5 rfl (lv_at hl 1 rfl) ?_
  refine lv_iload_n hx hb dX11_send_6 rfl (lv_at hl 2 rfl) ?_
  refine kI.callW (As := [.int x, .int y]) (rest := [.ref (r 0)]) ⟨hx, hb, hml, hown, hg⟩ (x_sendBuilder l r f a g h0 x y) (cwV 2 hg (kgV wt4_169 wt4_110 wt4_111 wt1_5 wt4_112) rfl rfl rfl (by decide +kernel) ⟨by decide, by decide⟩) hK hP hD hS hA 24 0 rfl rfl rfl hl.1 rfl (Nat.le_of_ble_eq_true rfl) dX11_send_7 ⟨by decide, by decide⟩ (fun v3 u2 H locs hw1 hP hD hS => ?_)
  have hP : va_P D vwCl (xW K r f a g) H := hP
  have hD : va_D A (xW K r f a g) := hD
  refine k_top (z := (-2)) (hw1) ?_
  refine kI.callW (As := [.int (-2)]) (rest := []) ⟨hx, hb, hml, hown, hg⟩ (x_settle2 l r f a g  ) (cwV 1 hg (kgV wt4_170 wt4_172 wp2_11 wt1_1 wt4_173) rfl rfl rfl (by decide +kernel) ⟨by decide, by decide⟩) hK hP hD hS hA 0 11 rfl rfl rfl hl.1 rfl (Nat.le_of_ble_eq_true rfl) dX11_send_10 ⟨by decide, by decide⟩ (fun v6 u5 H locs hw4 hP hD hS => ?_)
  obtain ⟨f7, a8, g9⟩ := u5
  have hP : va_P D vwCl (xW K r f7 a8 g9) H := hP
  have hD : va_D A (xW K r f7 a8 g9) := hD
  refine k_top (z := (-2)) (hw4) ?_
  exact kI_ret (v := (-2)) hx hb hr hlocks rfl hK hS dX11_send_13 (f7, a8, g9) hP hD rfl
set_option maxHeartbeats 4000000 in
set_option maxRecDepth 100000 in
theorem x_rest (l : Launch) {D : va_G} {K : Nat → ClassId} (r : Nat → Nat) (f : Nat → Int32) (a : Nat → Nat → Int32) (g : xG) (h0 : f 38 = 0) (x : Int32)  : kI l yX11_rest (Cond.code yX11_rest cX11_rest 2 (some .int) :: kG) (rmD 3 0 0) D (tysK K) [.ref (r 0), .int x] (xW K r f a g) (fun v (u : xS) => v = (-2)) (fun u => xW K r u.1 u.2.1 u.2.2) 0 0 := by
  refine kI.of (cc := cX11_rest) (maxL := 2) (ret := (some .int)) (by decide) rfl (Nat.le_of_ble_eq_true rfl) ?_
  intro p e s m below meth c A hx hb hr hml hown hts hlocks hnm hK hP hD hS hA ls hl
  have hg : ∀ w ∈ kG, w.before _ s = true := fun w h => hts w (List.mem_cons_of_mem _ h)
  have hown : s.vm.findClass RX11 = some m.cls := hown
  have hl : lv_has ls 2 [(0, .ref (r 0)), (1, .int x)] := hl
  refine lv_aload_n hx hb dX11_rest_0 rfl (lv_at hl 0 rfl) ?_
  refine lv_aload_n hx hb dX11_rest_1 rfl (lv_at hl 0 rfl) ?_
  refine va_get (D := D) (ci := 11) (v := .ref (r 24)) (C := RX11) (T := TX11) (N := 17) hx hb hg inC11 hown hK hP 0 rfl rfl 2 (by decide) (hg _ wt2_188) (fun _ h9 => h9) rfl dX11_rest_2 ?_
  refine lv_iload_n hx hb dX11_rest_5 rfl (lv_at hl 1 rfl) ?_
  refine kI.callW (As := [.int x]) (rest := [.ref (r 0)]) ⟨hx, hb, hml, hown, hg⟩ (x_restBuilder l r f a g h0 x) (cwV 1 hg (kgV wt4_178 wt4_123 wt4_124 wt1_5 wt4_125) rfl rfl rfl (by decide +kernel) ⟨by decide, by decide⟩) hK hP hD hS hA 24 0 rfl rfl rfl hl.1 rfl (Nat.le_of_ble_eq_true rfl) dX11_rest_6 ⟨by decide, by decide⟩ (fun v3 u2 H locs hw1 hP hD hS => ?_)
  have hP : va_P D vwCl (xW K r f a g) H := hP
  have hD : va_D A (xW K r f a g) := hD
  refine k_top (z := (-2)) (hw1) ?_
  refine kI.callW (As := [.int (-2)]) (rest := []) ⟨hx, hb, hml, hown, hg⟩ (x_settle2 l r f a g  ) (cwV 1 hg (kgV wt4_170 wt4_172 wp2_11 wt1_1 wt4_173) rfl rfl rfl (by decide +kernel) ⟨by decide, by decide⟩) hK hP hD hS hA 0 11 rfl rfl rfl hl.1 rfl (Nat.le_of_ble_eq_true rfl) dX11_rest_9 ⟨by decide, by decide⟩ (fun v6 u5 H locs hw4 hP hD hS => ?_)
  obtain ⟨f7, a8, g9⟩ := u5
  have hP : va_P D vwCl (xW K r f7 a8 g9) H := hP
  have hD : va_D A (xW K r f7 a8 g9) := hD
  refine k_top (z := (-2)) (hw4) ?_
  exact kI_ret (v := (-2)) hx hb hr hlocks rfl hK hS dX11_rest_12 (f7, a8, g9) hP hD rfl
set_option maxHeartbeats 4000000 in
set_option maxRecDepth 100000 in
theorem x_throwDown (l : Launch) {D : va_G} {K : Nat → ClassId} (r : Nat → Nat) (f : Nat → Int32) (a : Nat → Nat → Int32) (g : xG) (h0 : f 32 = 0) (x : Int32)  : kI l yX11_throwDown (Cond.code yX11_throwDown cX11_throwDown 2 (some .int) :: kG) (rmD 3 0 0) D (tysK K) [.ref (r 0), .int x] (xW K r f a g) (fun v (u : xS) => v = (-2)) (fun u => xW K r u.1 u.2.1 u.2.2) 0 0 := by
  refine kI.of (cc := cX11_throwDown) (maxL := 2) (ret := (some .int)) (by decide) rfl (Nat.le_of_ble_eq_true rfl) ?_
  intro p e s m below meth c A hx hb hr hml hown hts hlocks hnm hK hP hD hS hA ls hl
  have hg : ∀ w ∈ kG, w.before _ s = true := fun w h => hts w (List.mem_cons_of_mem _ h)
  have hown : s.vm.findClass RX11 = some m.cls := hown
  have hl : lv_has ls 2 [(0, .ref (r 0)), (1, .int x)] := hl
  refine lv_aload_n hx hb dX11_throwDown_0 rfl (lv_at hl 0 rfl) ?_
  refine lv_aload_n hx hb dX11_throwDown_1 rfl (lv_at hl 0 rfl) ?_
  refine va_get (D := D) (ci := 11) (v := .ref (r 24)) (C := RX11) (T := TX11) (N := 17) hx hb hg inC11 hown hK hP 0 rfl rfl 2 (by decide) (hg _ wt2_188) (fun _ h9 => h9) rfl dX11_throwDown_2 ?_
  refine lv_iload_n hx hb dX11_throwDown_5 rfl (lv_at hl 1 rfl) ?_
  refine kI.callW (As := [.int x]) (rest := [.ref (r 0)]) ⟨hx, hb, hml, hown, hg⟩ (x_razePart l r f a g h0 x) (cwV 1 hg (kgV wt4_183 wt4_127 wt4_128 wt1_5 wt4_129) rfl rfl rfl (by decide +kernel) ⟨by decide, by decide⟩) hK hP hD hS hA 24 0 rfl rfl rfl hl.1 rfl (Nat.le_of_ble_eq_true rfl) dX11_throwDown_6 ⟨by decide, by decide⟩ (fun v3 u2 H locs hw1 hP hD hS => ?_)
  have hP : va_P D vwCl (xW K r f a g) H := hP
  have hD : va_D A (xW K r f a g) := hD
  refine k_top (z := (-2)) (hw1) ?_
  refine kI.callW (As := [.int (-2)]) (rest := []) ⟨hx, hb, hml, hown, hg⟩ (x_settle2 l r f a g  ) (cwV 1 hg (kgV wt4_170 wt4_172 wp2_11 wt1_1 wt4_173) rfl rfl rfl (by decide +kernel) ⟨by decide, by decide⟩) hK hP hD hS hA 0 11 rfl rfl rfl hl.1 rfl (Nat.le_of_ble_eq_true rfl) dX11_throwDown_9 ⟨by decide, by decide⟩ (fun v6 u5 H locs hw4 hP hD hS => ?_)
  obtain ⟨f7, a8, g9⟩ := u5
  have hP : va_P D vwCl (xW K r f7 a8 g9) H := hP
  have hD : va_D A (xW K r f7 a8 g9) := hD
  refine k_top (z := (-2)) (hw4) ?_
  exact kI_ret (v := (-2)) hx hb hr hlocks rfl hK hS dX11_throwDown_12 (f7, a8, g9) hP hD rfl
set_option maxHeartbeats 4000000 in
set_option maxRecDepth 100000 in
theorem x_restoreLatest (l : Launch) {D : va_G} {K : Nat → ClassId} (r : Nat → Nat) (f : Nat → Int32) (a : Nat → Nat → Int32) (g : xG) (h0 : f 704 = 0)   : kI l yX2_restoreLatest (Cond.code yX2_restoreLatest cX2_restoreLatest 3 (some .int) :: kG) (rmD 1 0 0) D (tysK K) [.ref (r 22), .ref (r 1)] (xW K r f a g) (fun v (_ : Unit) => v = (-3)) (fun _ => xW K r f a g) 0 0 := by
  refine kI.of (cc := cX2_restoreLatest) (maxL := 3) (ret := (some .int)) (by decide) rfl (Nat.le_of_ble_eq_true rfl) ?_
  intro p e s m below meth c A hx hb hr hml hown hts hlocks hnm hK hP hD hS hA ls hl
  have hg : ∀ w ∈ kG, w.before _ s = true := fun w h => hts w (List.mem_cons_of_mem _ h)
  have hown : s.vm.findClass RX2 = some m.cls := hown
  have hl : lv_has ls 3 [(0, .ref (r 22)), (1, .ref (r 1))] := hl
  refine lv_aload_n hx hb dX2_restoreLatest_0 rfl (lv_at hl 0 rfl) ?_
  refine va_get (D := D) (ci := 2) (v := .int (f 704)) (C := RX2) (T := TX2) (N := 3) hx hb hg inC2 hown hK hP 22 rfl rfl 0 (by decide) (hg _ wt1_205) (fun _ h9 => h9) rfl dX2_restoreLatest_1 ?_
  refine k_top (z := 0) h0 ?_
  refine lv_if_gt (tgt := 10) hx hb dX2_restoreLatest_4 (by decide) (fun c1 => absurd c1 (by decide +kernel)) (fun c1 => ?_)
  refine lv_bipush (v := (-3)) hx hb dX2_restoreLatest_7 (by decide) ?_
  exact kI_ret (v := (-3)) hx hb hr hlocks rfl hK hS dX2_restoreLatest_9 () hP hD rfl
set_option maxHeartbeats 4000000 in
set_option maxRecDepth 100000 in
theorem x_undo (l : Launch) {D : va_G} {K : Nat → ClassId} (r : Nat → Nat) (f : Nat → Int32) (a : Nat → Nat → Int32) (g : xG) (h0 : f 704 = 0)   : kI l yX11_undo (Cond.code yX11_undo cX11_undo 1 (some .int) :: kG) (rmD 3 0 0) D (tysK K) [.ref (r 0)] (xW K r f a g) (fun v (u : xS) => v = (-3)) (fun u => xW K r u.1 u.2.1 u.2.2) 0 0 := by
  refine kI.of (cc := cX11_undo) (maxL := 1) (ret := (some .int)) (by decide) rfl (Nat.le_of_ble_eq_true rfl) ?_
  intro p e s m below meth c A hx hb hr hml hown hts hlocks hnm hK hP hD hS hA ls hl
  have hg : ∀ w ∈ kG, w.before _ s = true := fun w h => hts w (List.mem_cons_of_mem _ h)
  have hown : s.vm.findClass RX11 = some m.cls := hown
  have hl : lv_has ls 1 [(0, .ref (r 0))] := hl
  refine lv_aload_n hx hb dX11_undo_0 rfl (lv_at hl 0 rfl) ?_
  refine lv_aload_n hx hb dX11_undo_1 rfl (lv_at hl 0 rfl) ?_
  refine va_get (D := D) (ci := 11) (v := .ref (r 22)) (C := RX11) (T := TX11) (N := 17) hx hb hg inC11 hown hK hP 0 rfl rfl 1 (by decide) (hg _ wt2_187) (fun _ h9 => h9) rfl dX11_undo_2 ?_
  refine lv_aload_n hx hb dX11_undo_5 rfl (lv_at hl 0 rfl) ?_
  refine va_get (D := D) (ci := 11) (v := .ref (r 1)) (C := RX11) (T := TX11) (N := 17) hx hb hg inC11 hown hK hP 0 rfl rfl 0 (by decide) (hg _ wt2_186) (fun _ h9 => h9) rfl dX11_undo_6 ?_
  refine kI.callW (As := [.ref (r 1)]) (rest := [.ref (r 0)]) ⟨hx, hb, hml, hown, hg⟩ (x_restoreLatest l r f a g h0 ) (cwV 1 hg (kgV wt4_193 wt4_194 wt4_195 wt1_4 wt4_196) rfl rfl rfl (by decide +kernel) ⟨by decide, by decide⟩) hK hP hD hS hA 22 2 rfl rfl rfl hl.1 rfl (Nat.le_of_ble_eq_true rfl) dX11_undo_9 ⟨by decide, by decide⟩ (fun v3 u2 H locs hw1 hP hD hS => ?_)
  have hP : va_P D vwCl (xW K r f a g) H := hP
  have hD : va_D A (xW K r f a g) := hD
  refine k_top (z := (-3)) (hw1) ?_
  refine kI.callW (As := [.int (-3)]) (rest := []) ⟨hx, hb, hml, hown, hg⟩ (x_settle3 l r f a g  ) (cwV 1 hg (kgV wt4_170 wt4_172 wp2_11 wt1_1 wt4_173) rfl rfl rfl (by decide +kernel) ⟨by decide, by decide⟩) hK hP hD hS hA 0 11 rfl rfl rfl hl.1 rfl (Nat.le_of_ble_eq_true rfl) dX11_undo_12 ⟨by decide, by decide⟩ (fun v6 u5 H locs hw4 hP hD hS => ?_)
  obtain ⟨f7, a8, g9⟩ := u5
  have hP : va_P D vwCl (xW K r f7 a8 g9) H := hP
  have hD : va_D A (xW K r f7 a8 g9) := hD
  refine k_top (z := (-3)) (hw4) ?_
  exact kI_ret (v := (-3)) hx hb hr hlocks rfl hK hS dX11_undo_15 (f7, a8, g9) hP hD rfl
set_option maxHeartbeats 4000000 in
set_option maxRecDepth 100000 in
theorem x_longest (l : Launch) {D : va_G} {K : Nat → ClassId} (r : Nat → Nat) (f : Nat → Int32) (a : Nat → Nat → Int32) (g : xG) (h0 : f 32 = 0)   : kI l yX11_longest (Cond.code yX11_longest cX11_longest 1 (some .int) :: kG) (rmD 3 0 0) D (tysK K) [.ref (r 0)] (xW K r f a g) (fun v (_ : Unit) => v = 0) (fun _ => xW K r f a g) 0 0 := by
  refine kI.of (cc := cX11_longest) (maxL := 1) (ret := (some .int)) (by decide) rfl (Nat.le_of_ble_eq_true rfl) ?_
  intro p e s m below meth c A hx hb hr hml hown hts hlocks hnm hK hP hD hS hA ls hl
  have hg : ∀ w ∈ kG, w.before _ s = true := fun w h => hts w (List.mem_cons_of_mem _ h)
  have hown : s.vm.findClass RX11 = some m.cls := hown
  have hl : lv_has ls 1 [(0, .ref (r 0))] := hl
  refine lv_aload_n hx hb dX11_longest_0 rfl (lv_at hl 0 rfl) ?_
  refine va_get (D := D) (ci := 11) (v := .ref (r 1)) (C := RX11) (T := TX11) (N := 17) hx hb hg inC11 hown hK hP 0 rfl rfl 0 (by decide) (hg _ wt2_186) (fun _ h9 => h9) rfl dX11_longest_1 ?_
  refine kI.callW (As := []) (rest := []) ⟨hx, hb, hml, hown, hg⟩ (x_reckonChains_now l r f a g h0 ) (cwV 0 hg (kgV wt3_47 wt3_48 wt3_49 wt1_2 wt3_50) rfl rfl rfl (by decide +kernel) ⟨by decide, by decide⟩) hK hP hD hS hA 1 7 rfl rfl rfl hl.1 rfl (Nat.le_of_ble_eq_true rfl) dX11_longest_4 ⟨by decide, by decide⟩ (fun v3 u2 H locs hw1 hP hD hS => ?_)
  have hP : va_P D vwCl (xW K r f a g) H := hP
  have hD : va_D A (xW K r f a g) := hD
  refine k_top (z := 0) (hw1) ?_
  exact kI_ret (v := 0) hx hb hr hlocks rfl hK hS dX11_longest_7 () hP hD rfl
set_option maxHeartbeats 4000000 in
set_option maxRecDepth 100000 in
theorem x_endOf (l : Launch) {D : va_G} {K : Nat → ClassId} (r : Nat → Nat) (f : Nat → Int32) (a : Nat → Nat → Int32) (g : xG) (h0 : f 2849 = 0) (h1 : f 2850 = 0) (x : Int32) (y : Int32)  : kI l yX1_endOf (Cond.code yX1_endOf cX1_endOf 3 (some .int) :: kG) (rmD 1 0 0) D (tysK K) [.ref (r 89), .int x, .int y] (xW K r f a g) (fun v (_ : Unit) => v = (-1)) (fun _ => xW K r f a g) 0 0 := by
  refine kI.of (cc := cX1_endOf) (maxL := 3) (ret := (some .int)) (by decide) rfl (Nat.le_of_ble_eq_true rfl) ?_
  intro p e s m below meth c A hx hb hr hml hown hts hlocks hnm hK hP hD hS hA ls hl
  have hg : ∀ w ∈ kG, w.before _ s = true := fun w h => hts w (List.mem_cons_of_mem _ h)
  have hown : s.vm.findClass RX1 = some m.cls := hown
  have hl : lv_has ls 3 [(0, .ref (r 89)), (1, .int x), (2, .int y)] := hl
  refine lv_iload_n hx hb dX1_endOf_0 rfl (lv_at hl 2 rfl) ?_
  refine lv_if_ne (tgt := 29) hx hb dX1_endOf_1 (by decide) (fun c1 => ?_) (fun c1 => ?_)
  · refine lv_iload_n hx hb dX1_endOf_29 rfl (lv_at hl 2 rfl) ?_
    refine lv_iconst (v := 1) hx hb dX1_endOf_30 (by decide) ?_
    refine lv_icmp_ne (tgt := 61) hx hb dX1_endOf_31 (by decide) (fun c2 => ?_) (fun c2 => ?_)
    · refine lv_iconst (v := (-1)) hx hb dX1_endOf_61 (by decide) ?_
      exact kI_ret (v := (-1)) hx hb hr hlocks rfl hK hS dX1_endOf_62 () hP hD rfl
    · refine lv_iload_n hx hb dX1_endOf_34 rfl (lv_at hl 1 rfl) ?_
      refine lv_if_lt (tgt := 61) hx hb dX1_endOf_35 (by decide) (fun c3 => ?_) (fun c3 => ?_)
      · refine lv_iconst (v := (-1)) hx hb dX1_endOf_61 (by decide) ?_
        exact kI_ret (v := (-1)) hx hb hr hlocks rfl hK hS dX1_endOf_62 () hP hD rfl
      · refine lv_iload_n hx hb dX1_endOf_38 rfl (lv_at hl 1 rfl) ?_
        refine lv_aload_n hx hb dX1_endOf_39 rfl (lv_at hl 0 rfl) ?_
        refine va_get (D := D) (ci := 1) (v := .int (f 2850)) (C := RX1) (T := TX1) (N := 5) hx hb hg inC1 hown hK hP 89 rfl rfl 2 (by decide) (hg _ wt2_171) (fun _ h9 => h9) rfl dX1_endOf_40 ?_
        refine k_top (z := 0) h1 ?_
        refine lv_icmp_ge (tgt := 61) hx hb dX1_endOf_43 (by decide) (fun c4 => ?_) (fun c4 => absurd (Int32.not_lt.mp c3) c4)
        refine lv_iconst (v := (-1)) hx hb dX1_endOf_61 (by decide) ?_
        exact kI_ret (v := (-1)) hx hb hr hlocks rfl hK hS dX1_endOf_62 () hP hD rfl
  · refine lv_iload_n hx hb dX1_endOf_4 rfl (lv_at hl 1 rfl) ?_
    refine lv_if_lt (tgt := 29) hx hb dX1_endOf_5 (by decide) (fun c5 => ?_) (fun c5 => ?_)
    · refine lv_iload_n hx hb dX1_endOf_29 rfl (lv_at hl 2 rfl) ?_
      refine lv_iconst (v := 1) hx hb dX1_endOf_30 (by decide) ?_
      refine lv_icmp_ne (tgt := 61) hx hb dX1_endOf_31 (by decide) (fun c6 => ?_) (fun c6 => ?_)
      · refine lv_iconst (v := (-1)) hx hb dX1_endOf_61 (by decide) ?_
        exact kI_ret (v := (-1)) hx hb hr hlocks rfl hK hS dX1_endOf_62 () hP hD rfl
      · refine lv_iload_n hx hb dX1_endOf_34 rfl (lv_at hl 1 rfl) ?_
        refine lv_if_lt (tgt := 61) hx hb dX1_endOf_35 (by decide) (fun c7 => ?_) (fun c7 => absurd c5 c7)
        refine lv_iconst (v := (-1)) hx hb dX1_endOf_61 (by decide) ?_
        exact kI_ret (v := (-1)) hx hb hr hlocks rfl hK hS dX1_endOf_62 () hP hD rfl
    · refine lv_iload_n hx hb dX1_endOf_8 rfl (lv_at hl 1 rfl) ?_
      refine lv_aload_n hx hb dX1_endOf_9 rfl (lv_at hl 0 rfl) ?_
      refine va_get (D := D) (ci := 1) (v := .int (f 2849)) (C := RX1) (T := TX1) (N := 5) hx hb hg inC1 hown hK hP 89 rfl rfl 1 (by decide) (hg _ wt2_170) (fun _ h9 => h9) rfl dX1_endOf_10 ?_
      refine k_top (z := 0) h0 ?_
      refine lv_icmp_ge (tgt := 29) hx hb dX1_endOf_13 (by decide) (fun c8 => ?_) (fun c8 => absurd (Int32.not_lt.mp c5) c8)
      refine lv_iload_n hx hb dX1_endOf_29 rfl (lv_at hl 2 rfl) ?_
      refine lv_iconst (v := 1) hx hb dX1_endOf_30 (by decide) ?_
      refine lv_icmp_ne (tgt := 61) hx hb dX1_endOf_31 (by decide) (fun c9 => ?_) (fun c9 => ?_)
      · refine lv_iconst (v := (-1)) hx hb dX1_endOf_61 (by decide) ?_
        exact kI_ret (v := (-1)) hx hb hr hlocks rfl hK hS dX1_endOf_62 () hP hD rfl
      · refine lv_iload_n hx hb dX1_endOf_34 rfl (lv_at hl 1 rfl) ?_
        refine lv_if_lt (tgt := 61) hx hb dX1_endOf_35 (by decide) (fun c10 => absurd c10 c5) (fun c10 => ?_)
        refine lv_iload_n hx hb dX1_endOf_38 rfl (lv_at hl 1 rfl) ?_
        refine lv_aload_n hx hb dX1_endOf_39 rfl (lv_at hl 0 rfl) ?_
        refine va_get (D := D) (ci := 1) (v := .int (f 2850)) (C := RX1) (T := TX1) (N := 5) hx hb hg inC1 hown hK hP 89 rfl rfl 2 (by decide) (hg _ wt2_171) (fun _ h9 => h9) rfl dX1_endOf_40 ?_
        refine k_top (z := 0) h1 ?_
        refine lv_icmp_ge (tgt := 61) hx hb dX1_endOf_43 (by decide) (fun c11 => ?_) (fun c11 => absurd (Int32.not_lt.mp c5) c11)
        refine lv_iconst (v := (-1)) hx hb dX1_endOf_61 (by decide) ?_
        exact kI_ret (v := (-1)) hx hb hr hlocks rfl hK hS dX1_endOf_62 () hP hD rfl
