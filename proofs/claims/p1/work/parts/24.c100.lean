set_option maxHeartbeats 4000000 in
set_option maxRecDepth 100000 in
theorem x_bitCount0 (l : Launch)   : kN l yJ6_bitCount_0f7a4 (Cond.code yJ6_bitCount_0f7a4 cJ6_bitCount_0f7a4 1 (some .int) :: kG) (rmD 1 0 0) [.int 0] (fun v => v = 0) := by
  refine kN.of (cc := cJ6_bitCount_0f7a4) (maxL := 1) (ret := (some .int)) (by decide) rfl (Nat.le_of_ble_eq_true rfl) ?_
  intro p e s m below meth c hx hb hr hml hown hts hlocks hS ls hl
  have hg : ∀ w ∈ kG, w.before _ s = true := fun w h => hts w (List.mem_cons_of_mem _ h)
  have hown : s.vm.findClass RJ6 = some m.cls := hown
  have hl : lv_has ls 1 [(0, .int 0)] := hl
  refine lv_iload_n hx hb dJ6_bitCount_0f7a4_0 rfl (lv_at hl 0 rfl) ?_
  refine lv_iload_n hx hb dJ6_bitCount_0f7a4_1 rfl (lv_at hl 0 rfl) ?_
  refine lv_iconst (v := 1) hx hb dJ6_bitCount_0f7a4_2 (by decide) ?_
  refine lv_iushr (v := 0) hx hb dJ6_bitCount_0f7a4_3 (by decide +kernel) ?_
  refine lv_ldcw (v := (1431655765)) hx hb hown (hg _ wt4_101) dJ6_bitCount_0f7a4_4 ?_
  refine lv_iand hx hb dJ6_bitCount_0f7a4_7 ?_
  refine k_top (z := 0) (by decide +kernel) ?_
  refine lv_isub hx hb dJ6_bitCount_0f7a4_8 ?_
  refine k_top (z := 0) (by decide +kernel) ?_
  refine lv_istore_n (lv' := [(0, .int 0)]) hx hb dJ6_bitCount_0f7a4_9 rfl hl (by decide) rfl (fun ls hl => ?_)
  refine lv_iload_n hx hb dJ6_bitCount_0f7a4_10 rfl (lv_at hl 0 rfl) ?_
  refine lv_ldcw (v := (858993459)) hx hb hown (hg _ wt4_102) dJ6_bitCount_0f7a4_11 ?_
  refine lv_iand hx hb dJ6_bitCount_0f7a4_14 ?_
  refine k_top (z := 0) (by decide +kernel) ?_
  refine lv_iload_n hx hb dJ6_bitCount_0f7a4_15 rfl (lv_at hl 0 rfl) ?_
  refine lv_iconst (v := 2) hx hb dJ6_bitCount_0f7a4_16 (by decide) ?_
  refine lv_iushr (v := 0) hx hb dJ6_bitCount_0f7a4_17 (by decide +kernel) ?_
  refine lv_ldcw (v := (858993459)) hx hb hown (hg _ wt4_102) dJ6_bitCount_0f7a4_18 ?_
  refine lv_iand hx hb dJ6_bitCount_0f7a4_21 ?_
  refine k_top (z := 0) (by decide +kernel) ?_
  refine lv_iadd hx hb dJ6_bitCount_0f7a4_22 ?_
  refine k_top (z := 0) (by decide +kernel) ?_
  refine lv_istore_n (lv' := [(0, .int 0)]) hx hb dJ6_bitCount_0f7a4_23 rfl hl (by decide) rfl (fun ls hl => ?_)
  refine lv_iload_n hx hb dJ6_bitCount_0f7a4_24 rfl (lv_at hl 0 rfl) ?_
  refine lv_iload_n hx hb dJ6_bitCount_0f7a4_25 rfl (lv_at hl 0 rfl) ?_
  refine lv_iconst (v := 4) hx hb dJ6_bitCount_0f7a4_26 (by decide) ?_
  refine lv_iushr (v := 0) hx hb dJ6_bitCount_0f7a4_27 (by decide +kernel) ?_
  refine lv_iadd hx hb dJ6_bitCount_0f7a4_28 ?_
  refine k_top (z := 0) (by decide +kernel) ?_
  refine lv_ldcw (v := (252645135)) hx hb hown (hg _ wt4_103) dJ6_bitCount_0f7a4_29 ?_
  refine lv_iand hx hb dJ6_bitCount_0f7a4_32 ?_
  refine k_top (z := 0) (by decide +kernel) ?_
  refine lv_istore_n (lv' := [(0, .int 0)]) hx hb dJ6_bitCount_0f7a4_33 rfl hl (by decide) rfl (fun ls hl => ?_)
  refine lv_iload_n hx hb dJ6_bitCount_0f7a4_34 rfl (lv_at hl 0 rfl) ?_
  refine lv_iload_n hx hb dJ6_bitCount_0f7a4_35 rfl (lv_at hl 0 rfl) ?_
  refine lv_bipush (v := 8) hx hb dJ6_bitCount_0f7a4_36 (by decide) ?_
  refine lv_iushr (v := 0) hx hb dJ6_bitCount_0f7a4_38 (by decide +kernel) ?_
  refine lv_iadd hx hb dJ6_bitCount_0f7a4_39 ?_
  refine k_top (z := 0) (by decide +kernel) ?_
  refine lv_istore_n (lv' := [(0, .int 0)]) hx hb dJ6_bitCount_0f7a4_40 rfl hl (by decide) rfl (fun ls hl => ?_)
  refine lv_iload_n hx hb dJ6_bitCount_0f7a4_41 rfl (lv_at hl 0 rfl) ?_
  refine lv_iload_n hx hb dJ6_bitCount_0f7a4_42 rfl (lv_at hl 0 rfl) ?_
  refine lv_bipush (v := 16) hx hb dJ6_bitCount_0f7a4_43 (by decide) ?_
  refine lv_iushr (v := 0) hx hb dJ6_bitCount_0f7a4_45 (by decide +kernel) ?_
  refine lv_iadd hx hb dJ6_bitCount_0f7a4_46 ?_
  refine k_top (z := 0) (by decide +kernel) ?_
  refine lv_istore_n (lv' := [(0, .int 0)]) hx hb dJ6_bitCount_0f7a4_47 rfl hl (by decide) rfl (fun ls hl => ?_)
  refine lv_iload_n hx hb dJ6_bitCount_0f7a4_48 rfl (lv_at hl 0 rfl) ?_
  refine lv_bipush (v := 63) hx hb dJ6_bitCount_0f7a4_49 (by decide) ?_
  refine lv_iand hx hb dJ6_bitCount_0f7a4_51 ?_
  refine k_top (z := 0) (by decide +kernel) ?_
  exact kN_ret (v := 0) hx hb hr hlocks rfl hS dJ6_bitCount_0f7a4_52 rfl
set_option maxHeartbeats 4000000 in
set_option maxRecDepth 100000 in
theorem x_hasPart_now (l : Launch) {D : va_G} {K : Nat → ClassId} (r : Nat → Nat) (f : Nat → Int32) (a : Nat → Nat → Int32) (g : xG) (h0 : f 32 = 0) (x : Int32)  : kI l yX7_hasPart (Cond.code yX7_hasPart cX7_hasPart 2 (some .boolean) :: kG) (rmD 1 0 0) D (tysK K) [.ref (r 1), .int x] (xW K r f a g) (fun v (_ : Unit) => v = 0) (fun _ => xW K r f a g) 0 0 := by
  refine kI.of (cc := cX7_hasPart) (maxL := 2) (ret := (some .boolean)) (by decide) rfl (Nat.le_of_ble_eq_true rfl) ?_
  intro p e s m below meth c A hx hb hr hml hown hts hlocks hnm hK hP hD hS hA ls hl
  have hg : ∀ w ∈ kG, w.before _ s = true := fun w h => hts w (List.mem_cons_of_mem _ h)
  have hown : s.vm.findClass RX7 = some m.cls := hown
  have hl : lv_has ls 2 [(0, .ref (r 1)), (1, .int x)] := hl
  refine lv_iload_n hx hb dX7_hasPart_0 rfl (lv_at hl 1 rfl) ?_
  refine lv_if_lt (tgt := 22) hx hb dX7_hasPart_1 (by decide) (fun c1 => ?_) (fun c1 => ?_)
  · refine lv_iconst (v := 0) hx hb dX7_hasPart_22 (by decide) ?_
    exact kI_ret (v := 0) hx hb hr hlocks (by decide +kernel) hK hS dX7_hasPart_23 () hP hD rfl
  · refine lv_iload_n hx hb dX7_hasPart_4 rfl (lv_at hl 1 rfl) ?_
    refine lv_aload_n hx hb dX7_hasPart_5 rfl (lv_at hl 0 rfl) ?_
    refine va_get (D := D) (ci := 7) (v := .int (f 32)) (C := RX7) (T := TX7) (N := 20) hx hb hg inC7 hown hK hP 1 rfl rfl 0 (by decide) (hg _ wt1_79) (fun _ h9 => h9) rfl dX7_hasPart_6 ?_
    refine k_top (z := 0) h0 ?_
    refine lv_icmp_ge (tgt := 22) hx hb dX7_hasPart_9 (by decide) (fun c2 => ?_) (fun c2 => absurd (Int32.not_lt.mp c1) c2)
    refine lv_iconst (v := 0) hx hb dX7_hasPart_22 (by decide) ?_
    exact kI_ret (v := 0) hx hb hr hlocks (by decide +kernel) hK hS dX7_hasPart_23 () hP hD rfl
set_option maxHeartbeats 4000000 in
set_option maxRecDepth 100000 in
theorem x_hasBuilder_now (l : Launch) {D : va_G} {K : Nat → ClassId} (r : Nat → Nat) (f : Nat → Int32) (a : Nat → Nat → Int32) (g : xG) (h0 : f 38 = 0) (x : Int32)  : kI l yX7_hasBuilder (Cond.code yX7_hasBuilder cX7_hasBuilder 2 (some .boolean) :: kG) (rmD 1 0 0) D (tysK K) [.ref (r 1), .int x] (xW K r f a g) (fun v (_ : Unit) => v = 0) (fun _ => xW K r f a g) 0 0 := by
  refine kI.of (cc := cX7_hasBuilder) (maxL := 2) (ret := (some .boolean)) (by decide) rfl (Nat.le_of_ble_eq_true rfl) ?_
  intro p e s m below meth c A hx hb hr hml hown hts hlocks hnm hK hP hD hS hA ls hl
  have hg : ∀ w ∈ kG, w.before _ s = true := fun w h => hts w (List.mem_cons_of_mem _ h)
  have hown : s.vm.findClass RX7 = some m.cls := hown
  have hl : lv_has ls 2 [(0, .ref (r 1)), (1, .int x)] := hl
  refine lv_iload_n hx hb dX7_hasBuilder_0 rfl (lv_at hl 1 rfl) ?_
  refine lv_if_lt (tgt := 22) hx hb dX7_hasBuilder_1 (by decide) (fun c1 => ?_) (fun c1 => ?_)
  · refine lv_iconst (v := 0) hx hb dX7_hasBuilder_22 (by decide) ?_
    exact kI_ret (v := 0) hx hb hr hlocks (by decide +kernel) hK hS dX7_hasBuilder_23 () hP hD rfl
  · refine lv_iload_n hx hb dX7_hasBuilder_4 rfl (lv_at hl 1 rfl) ?_
    refine lv_aload_n hx hb dX7_hasBuilder_5 rfl (lv_at hl 0 rfl) ?_
    refine va_get (D := D) (ci := 7) (v := .int (f 38)) (C := RX7) (T := TX7) (N := 20) hx hb hg inC7 hown hK hP 1 rfl rfl 6 (by decide) (hg _ wt1_104) (fun _ h9 => h9) rfl dX7_hasBuilder_6 ?_
    refine k_top (z := 0) h0 ?_
    refine lv_icmp_ge (tgt := 22) hx hb dX7_hasBuilder_9 (by decide) (fun c2 => ?_) (fun c2 => absurd (Int32.not_lt.mp c1) c2)
    refine lv_iconst (v := 0) hx hb dX7_hasBuilder_22 (by decide) ?_
    exact kI_ret (v := 0) hx hb hr hlocks (by decide +kernel) hK hS dX7_hasBuilder_23 () hP hD rfl
set_option maxHeartbeats 4000000 in
set_option maxRecDepth 100000 in
theorem x_upMask_now (l : Launch) {D : va_G} {K : Nat → ClassId} (r : Nat → Nat) (f : Nat → Int32) (a : Nat → Nat → Int32) (g : xG) (h0 : f 32 = 0)   : kI l yX7_upMask (Cond.code yX7_upMask cX7_upMask 3 (some .int) :: kG) (rmD 1 0 0) D (tysK K) [.ref (r 1)] (xW K r f a g) (fun v (_ : Unit) => v = 0) (fun _ => xW K r f a g) 0 0 := by
  refine kI.of (cc := cX7_upMask) (maxL := 3) (ret := (some .int)) (by decide) rfl (Nat.le_of_ble_eq_true rfl) ?_
  intro p e s m below meth c A hx hb hr hml hown hts hlocks hnm hK hP hD hS hA ls hl
  have hg : ∀ w ∈ kG, w.before _ s = true := fun w h => hts w (List.mem_cons_of_mem _ h)
  have hown : s.vm.findClass RX7 = some m.cls := hown
  have hl : lv_has ls 3 [(0, .ref (r 1))] := hl
  refine lv_iconst (v := 0) hx hb dX7_upMask_0 (by decide) ?_
  refine lv_istore_n (lv' := [(1, .int 0), (0, .ref (r 1))]) hx hb dX7_upMask_1 rfl hl (by decide) rfl (fun ls hl => ?_)
  refine lv_iconst (v := 0) hx hb dX7_upMask_2 (by decide) ?_
  refine lv_istore_n (lv' := [(2, .int 0), (1, .int 0), (0, .ref (r 1))]) hx hb dX7_upMask_3 rfl hl (by decide) rfl (fun ls hl => ?_)
  refine lv_iload_n hx hb dX7_upMask_4 rfl (lv_at hl 0 rfl) ?_
  refine lv_aload_n hx hb dX7_upMask_5 rfl (lv_at hl 2 rfl) ?_
  refine va_get (D := D) (ci := 7) (v := .int (f 32)) (C := RX7) (T := TX7) (N := 20) hx hb hg inC7 hown hK hP 1 rfl rfl 0 (by decide) (hg _ wt1_79) (fun _ h9 => h9) rfl dX7_upMask_6 ?_
  refine k_top (z := 0) h0 ?_
  refine lv_icmp_ge (tgt := 39) hx hb dX7_upMask_9 (by decide) (fun c1 => ?_) (fun c1 => absurd (by decide +kernel) c1)
  refine lv_iload_n hx hb dX7_upMask_39 rfl (lv_at hl 1 rfl) ?_
  exact kI_ret (v := 0) hx hb hr hlocks rfl hK hS dX7_upMask_40 () hP hD rfl
set_option maxHeartbeats 4000000 in
set_option maxRecDepth 100000 in
theorem x_readyMask_now (l : Launch) {D : va_G} {K : Nat → ClassId} (r : Nat → Nat) (f : Nat → Int32) (a : Nat → Nat → Int32) (g : xG) (h0 : f 32 = 0)   : kI l yX7_readyMask (Cond.code yX7_readyMask cX7_readyMask 4 (some .int) :: kG) (rmD 2 0 0) D (tysK K) [.ref (r 1)] (xW K r f a g) (fun v (_ : Unit) => v = 0) (fun _ => xW K r f a g) 0 0 := by
  refine kI.of (cc := cX7_readyMask) (maxL := 4) (ret := (some .int)) (by decide) rfl (Nat.le_of_ble_eq_true rfl) ?_
  intro p e s m below meth c A hx hb hr hml hown hts hlocks hnm hK hP hD hS hA ls hl
  have hg : ∀ w ∈ kG, w.before _ s = true := fun w h => hts w (List.mem_cons_of_mem _ h)
  have hown : s.vm.findClass RX7 = some m.cls := hown
  have hl : lv_has ls 4 [(0, .ref (r 1))] := hl
  refine lv_aload_n hx hb dX7_readyMask_0 rfl (lv_at hl 0 rfl) ?_
  refine kI.callW (As := []) (rest := []) ⟨hx, hb, hml, hown, hg⟩ (x_upMask_now l r f a g h0 ) (cwV 0 hg (kgV wt3_43 wt3_44 wt3_45 wt1_2 wt3_46) rfl rfl rfl (by decide +kernel) ⟨by decide, by decide⟩) hK hP hD hS hA 1 7 rfl rfl rfl hl.1 rfl (Nat.le_of_ble_eq_true rfl) dX7_readyMask_1 ⟨by decide, by decide⟩ (fun v3 u2 H locs hw1 hP hD hS => ?_)
  have hP : va_P D vwCl (xW K r f a g) H := hP
  have hD : va_D A (xW K r f a g) := hD
  refine k_top (z := 0) (hw1) ?_
  refine lv_istore_n (lv' := [(1, .int 0), (0, .ref (r 1))]) hx hb dX7_readyMask_4 rfl hl (by decide) rfl (fun ls hl => ?_)
  refine lv_iconst (v := 0) hx hb dX7_readyMask_5 (by decide) ?_
  refine lv_istore_n (lv' := [(2, .int 0), (1, .int 0), (0, .ref (r 1))]) hx hb dX7_readyMask_6 rfl hl (by decide) rfl (fun ls hl => ?_)
  refine lv_iconst (v := 0) hx hb dX7_readyMask_7 (by decide) ?_
  refine lv_istore_n (lv' := [(3, .int 0), (2, .int 0), (1, .int 0), (0, .ref (r 1))]) hx hb dX7_readyMask_8 rfl hl (by decide) rfl (fun ls hl => ?_)
  refine lv_iload_n hx hb dX7_readyMask_9 rfl (lv_at hl 0 rfl) ?_
  refine lv_aload_n hx hb dX7_readyMask_10 rfl (lv_at hl 3 rfl) ?_
  refine va_get (D := D) (ci := 7) (v := .int (f 32)) (C := RX7) (T := TX7) (N := 20) hx hb hg inC7 hown hK hP 1 rfl rfl 0 (by decide) (hg _ wt1_79) (fun _ h9 => h9) rfl dX7_readyMask_11 ?_
  refine k_top (z := 0) h0 ?_
  refine lv_icmp_ge (tgt := 57) hx hb dX7_readyMask_14 (by decide) (fun c4 => ?_) (fun c4 => absurd (by decide +kernel) c4)
  refine lv_iload_n hx hb dX7_readyMask_57 rfl (lv_at hl 1 rfl) ?_
  exact kI_ret (v := 0) hx hb hr hlocks rfl hK hS dX7_readyMask_58 () hP hD rfl
set_option maxHeartbeats 4000000 in
set_option maxRecDepth 100000 in
theorem x_reckonChains_now (l : Launch) {D : va_G} {K : Nat → ClassId} (r : Nat → Nat) (f : Nat → Int32) (a : Nat → Nat → Int32) (g : xG) (h0 : f 32 = 0)   : kI l yX7_reckonChains (Cond.code yX7_reckonChains cX7_reckonChains 5 (some .int) :: kG) (rmD 2 0 0) D (tysK K) [.ref (r 1)] (xW K r f a g) (fun v (_ : Unit) => v = 0) (fun _ => xW K r f a g) 0 0 := by
  refine kI.of (cc := cX7_reckonChains) (maxL := 5) (ret := (some .int)) (by decide) rfl (Nat.le_of_ble_eq_true rfl) ?_
  intro p e s m below meth c A hx hb hr hml hown hts hlocks hnm hK hP hD hS hA ls hl
  have hg : ∀ w ∈ kG, w.before _ s = true := fun w h => hts w (List.mem_cons_of_mem _ h)
  have hown : s.vm.findClass RX7 = some m.cls := hown
  have hl : lv_has ls 5 [(0, .ref (r 1))] := hl
  refine lv_iconst (v := 0) hx hb dX7_reckonChains_0 (by decide) ?_
  refine lv_istore_n (lv' := [(1, .int 0), (0, .ref (r 1))]) hx hb dX7_reckonChains_1 rfl hl (by decide) rfl (fun ls hl => ?_)
  refine lv_aload_n hx hb dX7_reckonChains_2 rfl (lv_at hl 1 rfl) ?_
  refine va_get (D := D) (ci := 7) (v := .int (f 32)) (C := RX7) (T := TX7) (N := 20) hx hb hg inC7 hown hK hP 1 rfl rfl 0 (by decide) (hg _ wt1_79) (fun _ h9 => h9) rfl dX7_reckonChains_3 ?_
  refine k_top (z := 0) h0 ?_
  refine lv_bipush (v := 10) hx hb dX7_reckonChains_6 (by decide) ?_
  refine va_mmin hx hb (hml.trans hl.1.symm) hown (hg _ wt3_51) (hg _ wt3_52) (hg _ wt1_9) (hg _ wt3_53) (by decide) (Nat.le_of_ble_eq_true rfl) (by decide) (by decide) dX7_reckonChains_8 ?_
  refine k_top (z := 0) (by decide +kernel) ?_
  refine lv_iconst (v := 1) hx hb dX7_reckonChains_11 (by decide) ?_
  refine lv_isub hx hb dX7_reckonChains_12 ?_
  refine k_top (z := (-1)) (by decide +kernel) ?_
  refine lv_istore_n (lv' := [(2, .int (-1)), (1, .int 0), (0, .ref (r 1))]) hx hb dX7_reckonChains_13 rfl hl (by decide) rfl (fun ls hl => ?_)
  refine lv_iload_n hx hb dX7_reckonChains_14 rfl (lv_at hl 0 rfl) ?_
  refine lv_if_lt (tgt := 134) hx hb dX7_reckonChains_15 (by decide) (fun c1 => ?_) (fun c1 => absurd (by decide +kernel) c1)
  refine lv_iload_n hx hb dX7_reckonChains_134 rfl (lv_at hl 1 rfl) ?_
  exact kI_ret (v := 0) hx hb hr hlocks rfl hK hS dX7_reckonChains_135 () hP hD rfl
set_option maxHeartbeats 4000000 in
set_option maxRecDepth 100000 in
theorem x_hasBuilder_paper (l : Launch) {D : va_G} {K : Nat → ClassId} (r : Nat → Nat) (f : Nat → Int32) (a : Nat → Nat → Int32) (g : xG) (h0 : f 1894 = 0) (x : Int32)  : kI l yX7_hasBuilder (Cond.code yX7_hasBuilder cX7_hasBuilder 2 (some .boolean) :: kG) (rmD 1 0 0) D (tysK K) [.ref (r 59), .int x] (xW K r f a g) (fun v (_ : Unit) => v = 0) (fun _ => xW K r f a g) 0 0 := by
  refine kI.of (cc := cX7_hasBuilder) (maxL := 2) (ret := (some .boolean)) (by decide) rfl (Nat.le_of_ble_eq_true rfl) ?_
  intro p e s m below meth c A hx hb hr hml hown hts hlocks hnm hK hP hD hS hA ls hl
  have hg : ∀ w ∈ kG, w.before _ s = true := fun w h => hts w (List.mem_cons_of_mem _ h)
  have hown : s.vm.findClass RX7 = some m.cls := hown
  have hl : lv_has ls 2 [(0, .ref (r 59)), (1, .int x)] := hl
  refine lv_iload_n hx hb dX7_hasBuilder_0 rfl (lv_at hl 1 rfl) ?_
  refine lv_if_lt (tgt := 22) hx hb dX7_hasBuilder_1 (by decide) (fun c1 => ?_) (fun c1 => ?_)
  · refine lv_iconst (v := 0) hx hb dX7_hasBuilder_22 (by decide) ?_
    exact kI_ret (v := 0) hx hb hr hlocks (by decide +kernel) hK hS dX7_hasBuilder_23 () hP hD rfl
  · refine lv_iload_n hx hb dX7_hasBuilder_4 rfl (lv_at hl 1 rfl) ?_
    refine lv_aload_n hx hb dX7_hasBuilder_5 rfl (lv_at hl 0 rfl) ?_
    refine va_get (D := D) (ci := 7) (v := .int (f 1894)) (C := RX7) (T := TX7) (N := 20) hx hb hg inC7 hown hK hP 59 rfl rfl 6 (by decide) (hg _ wt1_104) (fun _ h9 => h9) rfl dX7_hasBuilder_6 ?_
    refine k_top (z := 0) h0 ?_
    refine lv_icmp_ge (tgt := 22) hx hb dX7_hasBuilder_9 (by decide) (fun c2 => ?_) (fun c2 => absurd (Int32.not_lt.mp c1) c2)
    refine lv_iconst (v := 0) hx hb dX7_hasBuilder_22 (by decide) ?_
    exact kI_ret (v := 0) hx hb hr hlocks (by decide +kernel) hK hS dX7_hasBuilder_23 () hP hD rfl
set_option maxHeartbeats 4000000 in
set_option maxRecDepth 100000 in
theorem x_upMask_paper (l : Launch) {D : va_G} {K : Nat → ClassId} (r : Nat → Nat) (f : Nat → Int32) (a : Nat → Nat → Int32) (g : xG) (h0 : f 1888 = 0)   : kI l yX7_upMask (Cond.code yX7_upMask cX7_upMask 3 (some .int) :: kG) (rmD 1 0 0) D (tysK K) [.ref (r 59)] (xW K r f a g) (fun v (_ : Unit) => v = 0) (fun _ => xW K r f a g) 0 0 := by
  refine kI.of (cc := cX7_upMask) (maxL := 3) (ret := (some .int)) (by decide) rfl (Nat.le_of_ble_eq_true rfl) ?_
  intro p e s m below meth c A hx hb hr hml hown hts hlocks hnm hK hP hD hS hA ls hl
  have hg : ∀ w ∈ kG, w.before _ s = true := fun w h => hts w (List.mem_cons_of_mem _ h)
  have hown : s.vm.findClass RX7 = some m.cls := hown
  have hl : lv_has ls 3 [(0, .ref (r 59))] := hl
  refine lv_iconst (v := 0) hx hb dX7_upMask_0 (by decide) ?_
  refine lv_istore_n (lv' := [(1, .int 0), (0, .ref (r 59))]) hx hb dX7_upMask_1 rfl hl (by decide) rfl (fun ls hl => ?_)
  refine lv_iconst (v := 0) hx hb dX7_upMask_2 (by decide) ?_
  refine lv_istore_n (lv' := [(2, .int 0), (1, .int 0), (0, .ref (r 59))]) hx hb dX7_upMask_3 rfl hl (by decide) rfl (fun ls hl => ?_)
  refine lv_iload_n hx hb dX7_upMask_4 rfl (lv_at hl 0 rfl) ?_
  refine lv_aload_n hx hb dX7_upMask_5 rfl (lv_at hl 2 rfl) ?_
  refine va_get (D := D) (ci := 7) (v := .int (f 1888)) (C := RX7) (T := TX7) (N := 20) hx hb hg inC7 hown hK hP 59 rfl rfl 0 (by decide) (hg _ wt1_79) (fun _ h9 => h9) rfl dX7_upMask_6 ?_
  refine k_top (z := 0) h0 ?_
  refine lv_icmp_ge (tgt := 39) hx hb dX7_upMask_9 (by decide) (fun c1 => ?_) (fun c1 => absurd (by decide +kernel) c1)
  refine lv_iload_n hx hb dX7_upMask_39 rfl (lv_at hl 1 rfl) ?_
  exact kI_ret (v := 0) hx hb hr hlocks rfl hK hS dX7_upMask_40 () hP hD rfl
set_option maxHeartbeats 4000000 in
set_option maxRecDepth 100000 in
theorem x_agree (l : Launch) {D : va_G} {K : Nat → ClassId} (r : Nat → Nat) (f : Nat → Int32) (a : Nat → Nat → Int32) (g : xG)  (x : Int32)  : kI l yX11_agree (Cond.code yX11_agree cX11_agree 2 (some .int) :: kG) (rmD 1 0 0) D (tysK K) [.ref (r 0), .int x] (xW K r f a g) (fun v (u : xS) => v = x) (fun u => xW K r u.1 u.2.1 u.2.2) 0 0 := by
  refine kI.of (cc := cX11_agree) (maxL := 2) (ret := (some .int)) (by decide) rfl (Nat.le_of_ble_eq_true rfl) ?_
  intro p e s m below meth c A hx hb hr hml hown hts hlocks hnm hK hP hD hS hA ls hl
  have hg : ∀ w ∈ kG, w.before _ s = true := fun w h => hts w (List.mem_cons_of_mem _ h)
  have hown : s.vm.findClass RX11 = some m.cls := hown
  have hl : lv_has ls 2 [(0, .ref (r 0)), (1, .int x)] := hl
  refine lv_aload_n hx hb dX11_agree_0 rfl (lv_at hl 0 rfl) ?_
  refine lv_iconst (v := 0) hx hb dX11_agree_1 (by decide) ?_
  refine va_put (D := D) (ci := 11) (v := .int 0) (ty := .int) (C := RX11) (T := TX11) (N := 17) hx hb hg inC11 tyX11 tyX11_ok nmX11 hown hK hP hD hS 0 rfl rfl 16 (by decide) (hg _ wt2_202) (fun _ h9 => h9) rfl (by decide +kernel) rfl rfl (Nat.le_of_ble_eq_true rfl) dX11_agree_2 (fun H locs hP hD hS => ?_)
  have hP : va_P D vwCl (xW K r (upd f 16 0) a g) H := hP
  have hD : va_D A (xW K r (upd f 16 0) a g) := hD
  refine k_gen (P := fun z => va_P D vwCl (xW K r z a g) H ∧ va_D A (xW K r z a g)) (upd f 16 0) ⟨hP, hD⟩ (fun f_1 ef_1 hPD => ?_)
  have hP := hPD.1
  have hD := hPD.2
  refine lv_iload_n hx hb dX11_agree_5 rfl (lv_at hl 1 rfl) ?_
  exact kI_ret (v := x) hx hb hr hlocks rfl hK hS dX11_agree_6 (f_1, a, g) hP hD rfl
set_option maxHeartbeats 4000000 in
set_option maxRecDepth 100000 in
theorem x_studyClear (l : Launch) {D : va_G} {K : Nat → ClassId} (r : Nat → Nat) (f : Nat → Int32) (a : Nat → Nat → Int32) (g : xG)    : kV l yX9_clear (Cond.code yX9_clear cX9_clear 1 none :: kG) (rmD 1 0 0) D (tysK K) [.ref (r 80)] (xW K r f a g) (fun (u : xS) => True) (fun u => xW K r u.1 u.2.1 u.2.2) 0 0 := by
  refine kV.of (cc := cX9_clear) (maxL := 1) (ret := none) (by decide) rfl (Nat.le_of_ble_eq_true rfl) ?_
  intro p e s m below meth c A hx hb hr hml hown hts hlocks hnm hK hP hD hS hA ls hl
  have hg : ∀ w ∈ kG, w.before _ s = true := fun w h => hts w (List.mem_cons_of_mem _ h)
  have hown : s.vm.findClass RX9 = some m.cls := hown
  have hl : lv_has ls 1 [(0, .ref (r 80))] := hl
  refine lv_aload_n hx hb dX9_clear_0 rfl (lv_at hl 0 rfl) ?_
  refine va_get (D := D) (ci := 9) (v := .ref (r 81)) (C := RX9) (T := TX9) (N := 10) hx hb hg inC9 hown hK hP 80 rfl rfl 2 (by decide) (hg _ wt2_117) (fun _ h9 => h9) rfl dX9_clear_1 ?_
  refine lv_iconst (v := 0) hx hb dX9_clear_4 (by decide) ?_
  refine lv_bipush (v := (-2)) hx hb dX9_clear_5 (by decide) ?_
  refine va_iast hx hb hK hP hD hS 81 0 rfl rfl (k_in (by decide +kernel)) dX9_clear_7 (fun H locs hP hD hS => ?_)
  rw [cl_0] at hP hD
  have hP : va_P D vwCl (xW K r f (va_up a 81 (upd (a 81) 0 (-2))) g) H := hP
  have hD : va_D A (xW K r f (va_up a 81 (upd (a 81) 0 (-2))) g) := hD
  refine k_gen (P := fun z => va_P D vwCl (xW K r f z g) H ∧ va_D A (xW K r f z g)) (va_up a 81 (upd (a 81) 0 (-2))) ⟨hP, hD⟩ (fun a_1 ea_1 hPD => ?_)
  have hP := hPD.1
  have hD := hPD.2
  refine lv_aload_n hx hb dX9_clear_8 rfl (lv_at hl 0 rfl) ?_
  refine lv_iconst (v := 0) hx hb dX9_clear_9 (by decide) ?_
  refine va_put (D := D) (ci := 9) (v := .int 0) (ty := .int) (C := RX9) (T := TX9) (N := 10) hx hb hg inC9 tyX9 tyX9_ok nmX9 hown hK hP hD hS 80 rfl rfl 5 (by decide) (hg _ wt2_120) (fun _ h9 => h9) rfl (by decide +kernel) rfl rfl (Nat.le_of_ble_eq_true rfl) dX9_clear_10 (fun H locs hP hD hS => ?_)
  have hP : va_P D vwCl (xW K r (upd f 2565 0) a_1 g) H := hP
  have hD : va_D A (xW K r (upd f 2565 0) a_1 g) := hD
  refine k_gen (P := fun z => va_P D vwCl (xW K r z a_1 g) H ∧ va_D A (xW K r z a_1 g)) (upd f 2565 0) ⟨hP, hD⟩ (fun f_2 ef_2 hPD => ?_)
  have hP := hPD.1
  have hD := hPD.2
  refine lv_aload_n hx hb dX9_clear_13 rfl (lv_at hl 0 rfl) ?_
  refine lv_iconst (v := 0) hx hb dX9_clear_14 (by decide) ?_
  refine va_put (D := D) (ci := 9) (v := .int 0) (ty := .boolean) (C := RX9) (T := TX9) (N := 10) hx hb hg inC9 tyX9 tyX9_ok nmX9 hown hK hP hD hS 80 rfl rfl 6 (by decide) (hg _ wt2_121) (fun _ h9 => h9) rfl (by decide +kernel) rfl rfl (Nat.le_of_ble_eq_true rfl) dX9_clear_15 (fun H locs hP hD hS => ?_)
  have hP : va_P D vwCl (xW K r (upd f_2 2566 0) a_1 g) H := hP
  have hD : va_D A (xW K r (upd f_2 2566 0) a_1 g) := hD
  refine k_gen (P := fun z => va_P D vwCl (xW K r z a_1 g) H ∧ va_D A (xW K r z a_1 g)) (upd f_2 2566 0) ⟨hP, hD⟩ (fun f_3 ef_3 hPD => ?_)
  have hP := hPD.1
  have hD := hPD.2
  exact kV_ret hx hb hr hlocks hK hS dX9_clear_18 (f_3, a_1, g) hP hD trivial
set_option maxHeartbeats 4000000 in
set_option maxRecDepth 100000 in
theorem x_seqClear (l : Launch) {D : va_G} {K : Nat → ClassId} (r : Nat → Nat) (f : Nat → Int32) (a : Nat → Nat → Int32) (g : xG)    : kV l yX6_clear (Cond.code yX6_clear cX6_clear 1 none :: kG) (rmD 1 0 0) D (tysK K) [.ref (r 87)] (xW K r f a g) (fun (u : xS) => True) (fun u => xW K r u.1 u.2.1 u.2.2) 0 0 := by
  refine kV.of (cc := cX6_clear) (maxL := 1) (ret := none) (by decide) rfl (Nat.le_of_ble_eq_true rfl) ?_
  intro p e s m below meth c A hx hb hr hml hown hts hlocks hnm hK hP hD hS hA ls hl
  have hg : ∀ w ∈ kG, w.before _ s = true := fun w h => hts w (List.mem_cons_of_mem _ h)
  have hown : s.vm.findClass RX6 = some m.cls := hown
  have hl : lv_has ls 1 [(0, .ref (r 87))] := hl
  refine lv_aload_n hx hb dX6_clear_0 rfl (lv_at hl 0 rfl) ?_
  refine lv_iconst (v := 0) hx hb dX6_clear_1 (by decide) ?_
  refine va_put (D := D) (ci := 6) (v := .int 0) (ty := .boolean) (C := RX6) (T := TX6) (N := 3) hx hb hg inC6 tyX6 tyX6_ok nmX6 hown hK hP hD hS 87 rfl rfl 2 (by decide) (hg _ wt2_155) (fun _ h9 => h9) rfl (by decide +kernel) rfl rfl (Nat.le_of_ble_eq_true rfl) dX6_clear_2 (fun H locs hP hD hS => ?_)
  have hP : va_P D vwCl (xW K r (upd f 2786 0) a g) H := hP
  have hD : va_D A (xW K r (upd f 2786 0) a g) := hD
  refine k_gen (P := fun z => va_P D vwCl (xW K r z a g) H ∧ va_D A (xW K r z a g)) (upd f 2786 0) ⟨hP, hD⟩ (fun f_1 ef_1 hPD => ?_)
  have hP := hPD.1
  have hD := hPD.2
  exact kV_ret hx hb hr hlocks hK hS dX6_clear_5 (f_1, a, g) hP hD trivial
set_option maxHeartbeats 4000000 in
set_option maxRecDepth 100000 in
theorem x_pastClear (l : Launch) {D : va_G} {K : Nat → ClassId} (r : Nat → Nat) (f : Nat → Int32) (a : Nat → Nat → Int32) (g : xG)    : kV l yX2_clear (Cond.code yX2_clear cX2_clear 1 none :: kG) (rmD 1 0 0) D (tysK K) [.ref (r 22)] (xW K r f a g) (fun (u : xS) => True) (fun u => xW K r u.1 u.2.1 u.2.2) 0 0 := by
  refine kV.of (cc := cX2_clear) (maxL := 1) (ret := none) (by decide) rfl (Nat.le_of_ble_eq_true rfl) ?_
  intro p e s m below meth c A hx hb hr hml hown hts hlocks hnm hK hP hD hS hA ls hl
  have hg : ∀ w ∈ kG, w.before _ s = true := fun w h => hts w (List.mem_cons_of_mem _ h)
  have hown : s.vm.findClass RX2 = some m.cls := hown
  have hl : lv_has ls 1 [(0, .ref (r 22))] := hl
  refine lv_aload_n hx hb dX2_clear_0 rfl (lv_at hl 0 rfl) ?_
  refine lv_iconst (v := 0) hx hb dX2_clear_1 (by decide) ?_
  refine va_put (D := D) (ci := 2) (v := .int 0) (ty := .int) (C := RX2) (T := TX2) (N := 3) hx hb hg inC2 tyX2 tyX2_ok nmX2 hown hK hP hD hS 22 rfl rfl 0 (by decide) (hg _ wt1_205) (fun _ h9 => h9) rfl (by decide +kernel) rfl rfl (Nat.le_of_ble_eq_true rfl) dX2_clear_2 (fun H locs hP hD hS => ?_)
  have hP : va_P D vwCl (xW K r (upd f 704 0) a g) H := hP
  have hD : va_D A (xW K r (upd f 704 0) a g) := hD
  refine k_gen (P := fun z => va_P D vwCl (xW K r z a g) H ∧ va_D A (xW K r z a g)) (upd f 704 0) ⟨hP, hD⟩ (fun f_1 ef_1 hPD => ?_)
  have hP := hPD.1
  have hD := hPD.2
  refine lv_aload_n hx hb dX2_clear_5 rfl (lv_at hl 0 rfl) ?_
  refine lv_iconst (v := 0) hx hb dX2_clear_6 (by decide) ?_
  refine va_put (D := D) (ci := 2) (v := .int 0) (ty := .int) (C := RX2) (T := TX2) (N := 3) hx hb hg inC2 tyX2 tyX2_ok nmX2 hown hK hP hD hS 22 rfl rfl 1 (by decide) (hg _ wt1_207) (fun _ h9 => h9) rfl (by decide +kernel) rfl rfl (Nat.le_of_ble_eq_true rfl) dX2_clear_7 (fun H locs hP hD hS => ?_)
  have hP : va_P D vwCl (xW K r (upd f_1 705 0) a g) H := hP
  have hD : va_D A (xW K r (upd f_1 705 0) a g) := hD
  refine k_gen (P := fun z => va_P D vwCl (xW K r z a g) H ∧ va_D A (xW K r z a g)) (upd f_1 705 0) ⟨hP, hD⟩ (fun f_2 ef_2 hPD => ?_)
  have hP := hPD.1
  have hD := hPD.2
  exact kV_ret hx hb hr hlocks hK hS dX2_clear_10 (f_2, a, g) hP hD trivial
set_option maxHeartbeats 4000000 in
set_option maxRecDepth 100000 in
theorem x_agreeChanged (l : Launch) {D : va_G} {K : Nat → ClassId} (r : Nat → Nat) (f : Nat → Int32) (a : Nat → Nat → Int32) (g : xG)  (x : Int32)  : kI l yX11_agreeChanged (Cond.code yX11_agreeChanged cX11_agreeChanged 2 (some .int) :: kG) (rmD 2 0 0) D (tysK K) [.ref (r 0), .int x] (xW K r f a g) (fun v (u : xS) => v = x) (fun u => xW K r u.1 u.2.1 u.2.2) 0 0 := by
  refine kI.of (cc := cX11_agreeChanged) (maxL := 2) (ret := (some .int)) (by decide) rfl (Nat.le_of_ble_eq_true rfl) ?_
  intro p e s m below meth c A hx hb hr hml hown hts hlocks hnm hK hP hD hS hA ls hl
  have hg : ∀ w ∈ kG, w.before _ s = true := fun w h => hts w (List.mem_cons_of_mem _ h)
  have hown : s.vm.findClass RX11 = some m.cls := hown
  have hl : lv_has ls 2 [(0, .ref (r 0)), (1, .int x)] := hl
  refine lv_aload_n hx hb dX11_agreeChanged_0 rfl (lv_at hl 0 rfl) ?_
  refine va_get (D := D) (ci := 11) (v := .ref (r 80)) (C := RX11) (T := TX11) (N := 17) hx hb hg inC11 hown hK hP 0 rfl rfl 6 (by decide) (hg _ wt2_192) (fun _ h9 => h9) rfl dX11_agreeChanged_1 ?_
  refine kV.callW (As := []) (rest := []) ⟨hx, hb, hml, hown, hg⟩ (x_studyClear l r f a g  ) (cwV 0 hg (kgV wt3_19 wt3_20 wt3_21 wt1_11 wt3_22) rfl rfl rfl (by decide +kernel) ⟨by decide, by decide⟩) hK hP hD hS hA 80 9 rfl rfl rfl hl.1 rfl (Nat.le_of_ble_eq_true rfl) dX11_agreeChanged_4 ⟨by decide, by decide⟩ (fun u2 H locs hw1 hP hD hS => ?_)
  obtain ⟨f4, a5, g6⟩ := u2
  have hP : va_P D vwCl (xW K r f4 a5 g6) H := hP
  have hD : va_D A (xW K r f4 a5 g6) := hD
  refine lv_aload_n hx hb dX11_agreeChanged_7 rfl (lv_at hl 0 rfl) ?_
  refine va_get (D := D) (ci := 11) (v := .ref (r 87)) (C := RX11) (T := TX11) (N := 17) hx hb hg inC11 hown hK hP 0 rfl rfl 7 (by decide) (hg _ wt2_193) (fun _ h9 => h9) rfl dX11_agreeChanged_8 ?_
  refine kV.callW (As := []) (rest := []) ⟨hx, hb, hml, hown, hg⟩ (x_seqClear l r f4 a5 g6  ) (cwV 0 hg (kgV wt3_23 wt3_24 wt3_25 wt1_12 wt3_26) rfl rfl rfl (by decide +kernel) ⟨by decide, by decide⟩) hK hP hD hS hA 87 6 rfl rfl rfl hl.1 rfl (Nat.le_of_ble_eq_true rfl) dX11_agreeChanged_11 ⟨by decide, by decide⟩ (fun u8 H locs hw7 hP hD hS => ?_)
  obtain ⟨f10, a11, g12⟩ := u8
  have hP : va_P D vwCl (xW K r f10 a11 g12) H := hP
  have hD : va_D A (xW K r f10 a11 g12) := hD
  refine lv_aload_n hx hb dX11_agreeChanged_14 rfl (lv_at hl 0 rfl) ?_
  refine lv_iload_n hx hb dX11_agreeChanged_15 rfl (lv_at hl 1 rfl) ?_
  refine kI.callW (As := [.int x]) (rest := []) ⟨hx, hb, hml, hown, hg⟩ (x_agree l r f10 a11 g12  x) (cwV 1 hg (kgV wt3_27 wt3_29 wp1_2 wt1_1 wt3_30) rfl rfl rfl (by decide +kernel) ⟨by decide, by decide⟩) hK hP hD hS hA 0 11 rfl rfl rfl hl.1 rfl (Nat.le_of_ble_eq_true rfl) dX11_agreeChanged_16 ⟨by decide, by decide⟩ (fun v15 u14 H locs hw13 hP hD hS => ?_)
  obtain ⟨f16, a17, g18⟩ := u14
  have hP : va_P D vwCl (xW K r f16 a17 g18) H := hP
  have hD : va_D A (xW K r f16 a17 g18) := hD
  refine k_top (z := x) hw13 ?_
  exact kI_ret (v := x) hx hb hr hlocks rfl hK hS dX11_agreeChanged_19 (f16, a17, g18) hP hD rfl
set_option maxHeartbeats 4000000 in
set_option maxRecDepth 100000 in
theorem x_refuse1 (l : Launch) {D : va_G} {K : Nat → ClassId} (r : Nat → Nat) (f : Nat → Int32) (a : Nat → Nat → Int32) (g : xG)    : kI l yX11_refuse (Cond.code yX11_refuse cX11_refuse 3 (some .int) :: kG) (rmD 1 0 0) D (tysK K) [.ref (r 0), .int (-1)] (xW K r f a g) (fun v (u : xS) => v = (-1)) (fun u => xW K r u.1 u.2.1 u.2.2) 0 0 := by
  refine kI.of (cc := cX11_refuse) (maxL := 3) (ret := (some .int)) (by decide) rfl (Nat.le_of_ble_eq_true rfl) ?_
  intro p e s m below meth c A hx hb hr hml hown hts hlocks hnm hK hP hD hS hA ls hl
  have hg : ∀ w ∈ kG, w.before _ s = true := fun w h => hts w (List.mem_cons_of_mem _ h)
  have hown : s.vm.findClass RX11 = some m.cls := hown
  have hl : lv_has ls 3 [(0, .ref (r 0)), (1, .int (-1))] := hl
  refine lv_iload_n hx hb dX11_refuse_0 rfl (lv_at hl 1 rfl) ?_
  refine lv_bipush (v := (-5)) hx hb dX11_refuse_1 (by decide) ?_
  refine lv_icmp_ne (tgt := 10) hx hb dX11_refuse_3 (by decide) (fun c1 => ?_) (fun c1 => absurd c1 (by decide +kernel))
  refine lv_iload_n hx hb dX11_refuse_10 rfl (lv_at hl 1 rfl) ?_
  refine lv_bipush (v := (-6)) hx hb dX11_refuse_11 (by decide) ?_
  refine lv_icmp_ne (tgt := 20) hx hb dX11_refuse_13 (by decide) (fun c2 => ?_) (fun c2 => absurd c2 (by decide +kernel))
  refine lv_iload_n hx hb dX11_refuse_20 rfl (lv_at hl 1 rfl) ?_
  refine lv_ineg hx hb dX11_refuse_21 ?_
  refine k_top (z := 1) (by decide +kernel) ?_
  refine lv_iconst (v := 1) hx hb dX11_refuse_22 (by decide) ?_
  refine lv_isub hx hb dX11_refuse_23 ?_
  refine k_top (z := 0) (by decide +kernel) ?_
  refine lv_istore_n (lv' := [(2, .int 0), (0, .ref (r 0)), (1, .int (-1))]) hx hb dX11_refuse_24 rfl hl (by decide) rfl (fun ls hl => ?_)
  refine lv_iload_n hx hb dX11_refuse_25 rfl (lv_at hl 0 rfl) ?_
  refine lv_if_lt (tgt := 48) hx hb dX11_refuse_26 (by decide) (fun c3 => absurd c3 (by decide +kernel)) (fun c3 => ?_)
  refine lv_iload_n hx hb dX11_refuse_29 rfl (lv_at hl 0 rfl) ?_
  refine lv_aload_n hx hb dX11_refuse_30 rfl (lv_at hl 1 rfl) ?_
  refine va_get (D := D) (ci := 11) (v := .ref (r 94)) (C := RX11) (T := TX11) (N := 17) hx hb hg inC11 hown hK hP 0 rfl rfl 11 (by decide) (hg _ wt2_197) (fun _ h9 => h9) rfl dX11_refuse_31 ?_
  refine va_alen (v := 5) hx hb hK hP 94 0 rfl rfl rfl dX11_refuse_34 ?_
  refine lv_icmp_ge (tgt := 48) hx hb dX11_refuse_35 (by decide) (fun c4 => absurd c4 (by decide +kernel)) (fun c4 => ?_)
  refine lv_aload_n hx hb dX11_refuse_38 rfl (lv_at hl 1 rfl) ?_
  refine va_get (D := D) (ci := 11) (v := .ref (r 94)) (C := RX11) (T := TX11) (N := 17) hx hb hg inC11 hown hK hP 0 rfl rfl 11 (by decide) (hg _ wt2_197) (fun _ h9 => h9) rfl dX11_refuse_39 ?_
  refine lv_iload_n hx hb dX11_refuse_42 rfl (lv_at hl 0 rfl) ?_
  refine lv_dup2_11 hx hb dX11_refuse_43 rfl rfl ?_
  refine va_iald hx hb hK hP 94 0 rfl rfl (k_in (by decide +kernel)) dX11_refuse_44 ?_
  refine lv_topi (fun t5 et5 => ?_)
  rw [cl_0] at et5
  refine lv_iconst (v := 1) hx hb dX11_refuse_45 (by decide) ?_
  refine lv_iadd hx hb dX11_refuse_46 ?_
  refine lv_topi (fun t6 et6 => ?_)
  refine va_iast hx hb hK hP hD hS 94 0 rfl rfl (k_in (by decide +kernel)) dX11_refuse_47 (fun H locs hP hD hS => ?_)
  rw [cl_0] at hP hD
  have hP : va_P D vwCl (xW K r f (va_up a 94 (upd (a 94) 0 t6)) g) H := hP
  have hD : va_D A (xW K r f (va_up a 94 (upd (a 94) 0 t6)) g) := hD
  refine k_gen (P := fun z => va_P D vwCl (xW K r f z g) H ∧ va_D A (xW K r f z g)) (va_up a 94 (upd (a 94) 0 t6)) ⟨hP, hD⟩ (fun a_7 ea_7 hPD => ?_)
  have hP := hPD.1
  have hD := hPD.2
  refine lv_aload_n hx hb dX11_refuse_48 rfl (lv_at hl 1 rfl) ?_
  refine lv_iload_n hx hb dX11_refuse_49 rfl (lv_at hl 2 rfl) ?_
  refine va_put (D := D) (ci := 11) (v := .int (-1)) (ty := .int) (C := RX11) (T := TX11) (N := 17) hx hb hg inC11 tyX11 tyX11_ok nmX11 hown hK hP hD hS 0 rfl rfl 16 (by decide) (hg _ wt2_202) (fun _ h9 => h9) rfl (by decide +kernel) rfl rfl (Nat.le_of_ble_eq_true rfl) dX11_refuse_50 (fun H locs hP hD hS => ?_)
  have hP : va_P D vwCl (xW K r (upd f 16 (-1)) a_7 g) H := hP
  have hD : va_D A (xW K r (upd f 16 (-1)) a_7 g) := hD
  refine k_gen (P := fun z => va_P D vwCl (xW K r z a_7 g) H ∧ va_D A (xW K r z a_7 g)) (upd f 16 (-1)) ⟨hP, hD⟩ (fun f_8 ef_8 hPD => ?_)
  have hP := hPD.1
  have hD := hPD.2
  refine lv_iload_n hx hb dX11_refuse_53 rfl (lv_at hl 2 rfl) ?_
  exact kI_ret (v := (-1)) hx hb hr hlocks rfl hK hS dX11_refuse_54 (f_8, a_7, g) hP hD rfl
set_option maxHeartbeats 4000000 in
set_option maxRecDepth 100000 in
theorem x_refuse2 (l : Launch) {D : va_G} {K : Nat → ClassId} (r : Nat → Nat) (f : Nat → Int32) (a : Nat → Nat → Int32) (g : xG)    : kI l yX11_refuse (Cond.code yX11_refuse cX11_refuse 3 (some .int) :: kG) (rmD 1 0 0) D (tysK K) [.ref (r 0), .int (-2)] (xW K r f a g) (fun v (u : xS) => v = (-2)) (fun u => xW K r u.1 u.2.1 u.2.2) 0 0 := by
  refine kI.of (cc := cX11_refuse) (maxL := 3) (ret := (some .int)) (by decide) rfl (Nat.le_of_ble_eq_true rfl) ?_
  intro p e s m below meth c A hx hb hr hml hown hts hlocks hnm hK hP hD hS hA ls hl
  have hg : ∀ w ∈ kG, w.before _ s = true := fun w h => hts w (List.mem_cons_of_mem _ h)
  have hown : s.vm.findClass RX11 = some m.cls := hown
  have hl : lv_has ls 3 [(0, .ref (r 0)), (1, .int (-2))] := hl
  refine lv_iload_n hx hb dX11_refuse_0 rfl (lv_at hl 1 rfl) ?_
  refine lv_bipush (v := (-5)) hx hb dX11_refuse_1 (by decide) ?_
  refine lv_icmp_ne (tgt := 10) hx hb dX11_refuse_3 (by decide) (fun c1 => ?_) (fun c1 => absurd c1 (by decide +kernel))
  refine lv_iload_n hx hb dX11_refuse_10 rfl (lv_at hl 1 rfl) ?_
  refine lv_bipush (v := (-6)) hx hb dX11_refuse_11 (by decide) ?_
  refine lv_icmp_ne (tgt := 20) hx hb dX11_refuse_13 (by decide) (fun c2 => ?_) (fun c2 => absurd c2 (by decide +kernel))
  refine lv_iload_n hx hb dX11_refuse_20 rfl (lv_at hl 1 rfl) ?_
  refine lv_ineg hx hb dX11_refuse_21 ?_
  refine k_top (z := 2) (by decide +kernel) ?_
  refine lv_iconst (v := 1) hx hb dX11_refuse_22 (by decide) ?_
  refine lv_isub hx hb dX11_refuse_23 ?_
  refine k_top (z := 1) (by decide +kernel) ?_
  refine lv_istore_n (lv' := [(2, .int 1), (0, .ref (r 0)), (1, .int (-2))]) hx hb dX11_refuse_24 rfl hl (by decide) rfl (fun ls hl => ?_)
  refine lv_iload_n hx hb dX11_refuse_25 rfl (lv_at hl 0 rfl) ?_
  refine lv_if_lt (tgt := 48) hx hb dX11_refuse_26 (by decide) (fun c3 => absurd c3 (by decide +kernel)) (fun c3 => ?_)
  refine lv_iload_n hx hb dX11_refuse_29 rfl (lv_at hl 0 rfl) ?_
  refine lv_aload_n hx hb dX11_refuse_30 rfl (lv_at hl 1 rfl) ?_
  refine va_get (D := D) (ci := 11) (v := .ref (r 94)) (C := RX11) (T := TX11) (N := 17) hx hb hg inC11 hown hK hP 0 rfl rfl 11 (by decide) (hg _ wt2_197) (fun _ h9 => h9) rfl dX11_refuse_31 ?_
  refine va_alen (v := 5) hx hb hK hP 94 0 rfl rfl rfl dX11_refuse_34 ?_
  refine lv_icmp_ge (tgt := 48) hx hb dX11_refuse_35 (by decide) (fun c4 => absurd c4 (by decide +kernel)) (fun c4 => ?_)
  refine lv_aload_n hx hb dX11_refuse_38 rfl (lv_at hl 1 rfl) ?_
  refine va_get (D := D) (ci := 11) (v := .ref (r 94)) (C := RX11) (T := TX11) (N := 17) hx hb hg inC11 hown hK hP 0 rfl rfl 11 (by decide) (hg _ wt2_197) (fun _ h9 => h9) rfl dX11_refuse_39 ?_
  refine lv_iload_n hx hb dX11_refuse_42 rfl (lv_at hl 0 rfl) ?_
  refine lv_dup2_11 hx hb dX11_refuse_43 rfl rfl ?_
  refine va_iald hx hb hK hP 94 0 rfl rfl (k_in (by decide +kernel)) dX11_refuse_44 ?_
  refine lv_topi (fun t5 et5 => ?_)
  rw [cl_1] at et5
  refine lv_iconst (v := 1) hx hb dX11_refuse_45 (by decide) ?_
  refine lv_iadd hx hb dX11_refuse_46 ?_
  refine lv_topi (fun t6 et6 => ?_)
  refine va_iast hx hb hK hP hD hS 94 0 rfl rfl (k_in (by decide +kernel)) dX11_refuse_47 (fun H locs hP hD hS => ?_)
  rw [cl_1] at hP hD
  have hP : va_P D vwCl (xW K r f (va_up a 94 (upd (a 94) 1 t6)) g) H := hP
  have hD : va_D A (xW K r f (va_up a 94 (upd (a 94) 1 t6)) g) := hD
  refine k_gen (P := fun z => va_P D vwCl (xW K r f z g) H ∧ va_D A (xW K r f z g)) (va_up a 94 (upd (a 94) 1 t6)) ⟨hP, hD⟩ (fun a_7 ea_7 hPD => ?_)
  have hP := hPD.1
  have hD := hPD.2
  refine lv_aload_n hx hb dX11_refuse_48 rfl (lv_at hl 1 rfl) ?_
  refine lv_iload_n hx hb dX11_refuse_49 rfl (lv_at hl 2 rfl) ?_
  refine va_put (D := D) (ci := 11) (v := .int (-2)) (ty := .int) (C := RX11) (T := TX11) (N := 17) hx hb hg inC11 tyX11 tyX11_ok nmX11 hown hK hP hD hS 0 rfl rfl 16 (by decide) (hg _ wt2_202) (fun _ h9 => h9) rfl (by decide +kernel) rfl rfl (Nat.le_of_ble_eq_true rfl) dX11_refuse_50 (fun H locs hP hD hS => ?_)
  have hP : va_P D vwCl (xW K r (upd f 16 (-2)) a_7 g) H := hP
  have hD : va_D A (xW K r (upd f 16 (-2)) a_7 g) := hD
  refine k_gen (P := fun z => va_P D vwCl (xW K r z a_7 g) H ∧ va_D A (xW K r z a_7 g)) (upd f 16 (-2)) ⟨hP, hD⟩ (fun f_8 ef_8 hPD => ?_)
  have hP := hPD.1
  have hD := hPD.2
  refine lv_iload_n hx hb dX11_refuse_53 rfl (lv_at hl 2 rfl) ?_
  exact kI_ret (v := (-2)) hx hb hr hlocks rfl hK hS dX11_refuse_54 (f_8, a_7, g) hP hD rfl
set_option maxHeartbeats 4000000 in
set_option maxRecDepth 100000 in
theorem x_refuse3 (l : Launch) {D : va_G} {K : Nat → ClassId} (r : Nat → Nat) (f : Nat → Int32) (a : Nat → Nat → Int32) (g : xG)    : kI l yX11_refuse (Cond.code yX11_refuse cX11_refuse 3 (some .int) :: kG) (rmD 1 0 0) D (tysK K) [.ref (r 0), .int (-3)] (xW K r f a g) (fun v (u : xS) => v = (-3)) (fun u => xW K r u.1 u.2.1 u.2.2) 0 0 := by
  refine kI.of (cc := cX11_refuse) (maxL := 3) (ret := (some .int)) (by decide) rfl (Nat.le_of_ble_eq_true rfl) ?_
  intro p e s m below meth c A hx hb hr hml hown hts hlocks hnm hK hP hD hS hA ls hl
  have hg : ∀ w ∈ kG, w.before _ s = true := fun w h => hts w (List.mem_cons_of_mem _ h)
  have hown : s.vm.findClass RX11 = some m.cls := hown
  have hl : lv_has ls 3 [(0, .ref (r 0)), (1, .int (-3))] := hl
  refine lv_iload_n hx hb dX11_refuse_0 rfl (lv_at hl 1 rfl) ?_
  refine lv_bipush (v := (-5)) hx hb dX11_refuse_1 (by decide) ?_
  refine lv_icmp_ne (tgt := 10) hx hb dX11_refuse_3 (by decide) (fun c1 => ?_) (fun c1 => absurd c1 (by decide +kernel))
  refine lv_iload_n hx hb dX11_refuse_10 rfl (lv_at hl 1 rfl) ?_
  refine lv_bipush (v := (-6)) hx hb dX11_refuse_11 (by decide) ?_
  refine lv_icmp_ne (tgt := 20) hx hb dX11_refuse_13 (by decide) (fun c2 => ?_) (fun c2 => absurd c2 (by decide +kernel))
  refine lv_iload_n hx hb dX11_refuse_20 rfl (lv_at hl 1 rfl) ?_
  refine lv_ineg hx hb dX11_refuse_21 ?_
  refine k_top (z := 3) (by decide +kernel) ?_
  refine lv_iconst (v := 1) hx hb dX11_refuse_22 (by decide) ?_
  refine lv_isub hx hb dX11_refuse_23 ?_
  refine k_top (z := 2) (by decide +kernel) ?_
  refine lv_istore_n (lv' := [(2, .int 2), (0, .ref (r 0)), (1, .int (-3))]) hx hb dX11_refuse_24 rfl hl (by decide) rfl (fun ls hl => ?_)
  refine lv_iload_n hx hb dX11_refuse_25 rfl (lv_at hl 0 rfl) ?_
  refine lv_if_lt (tgt := 48) hx hb dX11_refuse_26 (by decide) (fun c3 => absurd c3 (by decide +kernel)) (fun c3 => ?_)
  refine lv_iload_n hx hb dX11_refuse_29 rfl (lv_at hl 0 rfl) ?_
  refine lv_aload_n hx hb dX11_refuse_30 rfl (lv_at hl 1 rfl) ?_
  refine va_get (D := D) (ci := 11) (v := .ref (r 94)) (C := RX11) (T := TX11) (N := 17) hx hb hg inC11 hown hK hP 0 rfl rfl 11 (by decide) (hg _ wt2_197) (fun _ h9 => h9) rfl dX11_refuse_31 ?_
  refine va_alen (v := 5) hx hb hK hP 94 0 rfl rfl rfl dX11_refuse_34 ?_
  refine lv_icmp_ge (tgt := 48) hx hb dX11_refuse_35 (by decide) (fun c4 => absurd c4 (by decide +kernel)) (fun c4 => ?_)
  refine lv_aload_n hx hb dX11_refuse_38 rfl (lv_at hl 1 rfl) ?_
  refine va_get (D := D) (ci := 11) (v := .ref (r 94)) (C := RX11) (T := TX11) (N := 17) hx hb hg inC11 hown hK hP 0 rfl rfl 11 (by decide) (hg _ wt2_197) (fun _ h9 => h9) rfl dX11_refuse_39 ?_
  refine lv_iload_n hx hb dX11_refuse_42 rfl (lv_at hl 0 rfl) ?_
  refine lv_dup2_11 hx hb dX11_refuse_43 rfl rfl ?_
  refine va_iald hx hb hK hP 94 0 rfl rfl (k_in (by decide +kernel)) dX11_refuse_44 ?_
  refine lv_topi (fun t5 et5 => ?_)
  rw [cl_2] at et5
  refine lv_iconst (v := 1) hx hb dX11_refuse_45 (by decide) ?_
  refine lv_iadd hx hb dX11_refuse_46 ?_
  refine lv_topi (fun t6 et6 => ?_)
  refine va_iast hx hb hK hP hD hS 94 0 rfl rfl (k_in (by decide +kernel)) dX11_refuse_47 (fun H locs hP hD hS => ?_)
  rw [cl_2] at hP hD
  have hP : va_P D vwCl (xW K r f (va_up a 94 (upd (a 94) 2 t6)) g) H := hP
  have hD : va_D A (xW K r f (va_up a 94 (upd (a 94) 2 t6)) g) := hD
  refine k_gen (P := fun z => va_P D vwCl (xW K r f z g) H ∧ va_D A (xW K r f z g)) (va_up a 94 (upd (a 94) 2 t6)) ⟨hP, hD⟩ (fun a_7 ea_7 hPD => ?_)
  have hP := hPD.1
  have hD := hPD.2
  refine lv_aload_n hx hb dX11_refuse_48 rfl (lv_at hl 1 rfl) ?_
  refine lv_iload_n hx hb dX11_refuse_49 rfl (lv_at hl 2 rfl) ?_
  refine va_put (D := D) (ci := 11) (v := .int (-3)) (ty := .int) (C := RX11) (T := TX11) (N := 17) hx hb hg inC11 tyX11 tyX11_ok nmX11 hown hK hP hD hS 0 rfl rfl 16 (by decide) (hg _ wt2_202) (fun _ h9 => h9) rfl (by decide +kernel) rfl rfl (Nat.le_of_ble_eq_true rfl) dX11_refuse_50 (fun H locs hP hD hS => ?_)
  have hP : va_P D vwCl (xW K r (upd f 16 (-3)) a_7 g) H := hP
  have hD : va_D A (xW K r (upd f 16 (-3)) a_7 g) := hD
  refine k_gen (P := fun z => va_P D vwCl (xW K r z a_7 g) H ∧ va_D A (xW K r z a_7 g)) (upd f 16 (-3)) ⟨hP, hD⟩ (fun f_8 ef_8 hPD => ?_)
  have hP := hPD.1
  have hD := hPD.2
  refine lv_iload_n hx hb dX11_refuse_53 rfl (lv_at hl 2 rfl) ?_
  exact kI_ret (v := (-3)) hx hb hr hlocks rfl hK hS dX11_refuse_54 (f_8, a_7, g) hP hD rfl
set_option maxHeartbeats 4000000 in
set_option maxRecDepth 100000 in
theorem x_refuse6 (l : Launch) {D : va_G} {K : Nat → ClassId} (r : Nat → Nat) (f : Nat → Int32) (a : Nat → Nat → Int32) (g : xG)    : kI l yX11_refuse (Cond.code yX11_refuse cX11_refuse 3 (some .int) :: kG) (rmD 1 0 0) D (tysK K) [.ref (r 0), .int (-6)] (xW K r f a g) (fun v (u : xS) => v = (-6)) (fun u => xW K r u.1 u.2.1 u.2.2) 0 0 := by
  refine kI.of (cc := cX11_refuse) (maxL := 3) (ret := (some .int)) (by decide) rfl (Nat.le_of_ble_eq_true rfl) ?_
  intro p e s m below meth c A hx hb hr hml hown hts hlocks hnm hK hP hD hS hA ls hl
  have hg : ∀ w ∈ kG, w.before _ s = true := fun w h => hts w (List.mem_cons_of_mem _ h)
  have hown : s.vm.findClass RX11 = some m.cls := hown
  have hl : lv_has ls 3 [(0, .ref (r 0)), (1, .int (-6))] := hl
  refine lv_iload_n hx hb dX11_refuse_0 rfl (lv_at hl 1 rfl) ?_
  refine lv_bipush (v := (-5)) hx hb dX11_refuse_1 (by decide) ?_
  refine lv_icmp_ne (tgt := 10) hx hb dX11_refuse_3 (by decide) (fun c1 => ?_) (fun c1 => absurd c1 (by decide +kernel))
  refine lv_iload_n hx hb dX11_refuse_10 rfl (lv_at hl 1 rfl) ?_
  refine lv_bipush (v := (-6)) hx hb dX11_refuse_11 (by decide) ?_
  refine lv_icmp_ne (tgt := 20) hx hb dX11_refuse_13 (by decide) (fun c2 => absurd (by decide +kernel) c2) (fun c2 => ?_)
  refine lv_iconst (v := 4) hx hb dX11_refuse_16 (by decide) ?_
  refine lv_goto (tgt := 24) hx hb dX11_refuse_17 (by decide) ?_
  refine lv_istore_n (lv' := [(2, .int 4), (0, .ref (r 0)), (1, .int (-6))]) hx hb dX11_refuse_24 rfl hl (by decide) rfl (fun ls hl => ?_)
  refine lv_iload_n hx hb dX11_refuse_25 rfl (lv_at hl 0 rfl) ?_
  refine lv_if_lt (tgt := 48) hx hb dX11_refuse_26 (by decide) (fun c3 => absurd c3 (by decide +kernel)) (fun c3 => ?_)
  refine lv_iload_n hx hb dX11_refuse_29 rfl (lv_at hl 0 rfl) ?_
  refine lv_aload_n hx hb dX11_refuse_30 rfl (lv_at hl 1 rfl) ?_
  refine va_get (D := D) (ci := 11) (v := .ref (r 94)) (C := RX11) (T := TX11) (N := 17) hx hb hg inC11 hown hK hP 0 rfl rfl 11 (by decide) (hg _ wt2_197) (fun _ h9 => h9) rfl dX11_refuse_31 ?_
  refine va_alen (v := 5) hx hb hK hP 94 0 rfl rfl rfl dX11_refuse_34 ?_
  refine lv_icmp_ge (tgt := 48) hx hb dX11_refuse_35 (by decide) (fun c4 => absurd c4 (by decide +kernel)) (fun c4 => ?_)
  refine lv_aload_n hx hb dX11_refuse_38 rfl (lv_at hl 1 rfl) ?_
  refine va_get (D := D) (ci := 11) (v := .ref (r 94)) (C := RX11) (T := TX11) (N := 17) hx hb hg inC11 hown hK hP 0 rfl rfl 11 (by decide) (hg _ wt2_197) (fun _ h9 => h9) rfl dX11_refuse_39 ?_
  refine lv_iload_n hx hb dX11_refuse_42 rfl (lv_at hl 0 rfl) ?_
  refine lv_dup2_11 hx hb dX11_refuse_43 rfl rfl ?_
  refine va_iald hx hb hK hP 94 0 rfl rfl (k_in (by decide +kernel)) dX11_refuse_44 ?_
  refine lv_topi (fun t5 et5 => ?_)
  rw [cl_4] at et5
  refine lv_iconst (v := 1) hx hb dX11_refuse_45 (by decide) ?_
  refine lv_iadd hx hb dX11_refuse_46 ?_
  refine lv_topi (fun t6 et6 => ?_)
  refine va_iast hx hb hK hP hD hS 94 0 rfl rfl (k_in (by decide +kernel)) dX11_refuse_47 (fun H locs hP hD hS => ?_)
  rw [cl_4] at hP hD
  have hP : va_P D vwCl (xW K r f (va_up a 94 (upd (a 94) 4 t6)) g) H := hP
  have hD : va_D A (xW K r f (va_up a 94 (upd (a 94) 4 t6)) g) := hD
  refine k_gen (P := fun z => va_P D vwCl (xW K r f z g) H ∧ va_D A (xW K r f z g)) (va_up a 94 (upd (a 94) 4 t6)) ⟨hP, hD⟩ (fun a_7 ea_7 hPD => ?_)
  have hP := hPD.1
  have hD := hPD.2
  refine lv_aload_n hx hb dX11_refuse_48 rfl (lv_at hl 1 rfl) ?_
  refine lv_iload_n hx hb dX11_refuse_49 rfl (lv_at hl 2 rfl) ?_
  refine va_put (D := D) (ci := 11) (v := .int (-6)) (ty := .int) (C := RX11) (T := TX11) (N := 17) hx hb hg inC11 tyX11 tyX11_ok nmX11 hown hK hP hD hS 0 rfl rfl 16 (by decide) (hg _ wt2_202) (fun _ h9 => h9) rfl (by decide +kernel) rfl rfl (Nat.le_of_ble_eq_true rfl) dX11_refuse_50 (fun H locs hP hD hS => ?_)
  have hP : va_P D vwCl (xW K r (upd f 16 (-6)) a_7 g) H := hP
  have hD : va_D A (xW K r (upd f 16 (-6)) a_7 g) := hD
  refine k_gen (P := fun z => va_P D vwCl (xW K r z a_7 g) H ∧ va_D A (xW K r z a_7 g)) (upd f 16 (-6)) ⟨hP, hD⟩ (fun f_8 ef_8 hPD => ?_)
  have hP := hPD.1
  have hD := hPD.2
  refine lv_iload_n hx hb dX11_refuse_53 rfl (lv_at hl 2 rfl) ?_
  exact kI_ret (v := (-6)) hx hb hr hlocks rfl hK hS dX11_refuse_54 (f_8, a_7, g) hP hD rfl
set_option maxHeartbeats 4000000 in
set_option maxRecDepth 100000 in
theorem x_settle2 (l : Launch) {D : va_G} {K : Nat → ClassId} (r : Nat → Nat) (f : Nat → Int32) (a : Nat → Nat → Int32) (g : xG)    : kI l yX11_settle (Cond.code yX11_settle cX11_settle 2 (some .int) :: kG) (rmD 2 0 0) D (tysK K) [.ref (r 0), .int (-2)] (xW K r f a g) (fun v (u : xS) => v = (-2)) (fun u => xW K r u.1 u.2.1 u.2.2) 0 0 := by
  refine kI.of (cc := cX11_settle) (maxL := 2) (ret := (some .int)) (by decide) rfl (Nat.le_of_ble_eq_true rfl) ?_
  intro p e s m below meth c A hx hb hr hml hown hts hlocks hnm hK hP hD hS hA ls hl
  have hg : ∀ w ∈ kG, w.before _ s = true := fun w h => hts w (List.mem_cons_of_mem _ h)
  have hown : s.vm.findClass RX11 = some m.cls := hown
  have hl : lv_has ls 2 [(0, .ref (r 0)), (1, .int (-2))] := hl
  refine lv_iload_n hx hb dX11_settle_0 rfl (lv_at hl 1 rfl) ?_
  refine lv_if_ge (tgt := 12) hx hb dX11_settle_1 (by decide) (fun c1 => absurd c1 (by decide +kernel)) (fun c1 => ?_)
  refine lv_aload_n hx hb dX11_settle_4 rfl (lv_at hl 0 rfl) ?_
  refine lv_iload_n hx hb dX11_settle_5 rfl (lv_at hl 1 rfl) ?_
  refine kI.callW (As := [.int (-2)]) (rest := []) ⟨hx, hb, hml, hown, hg⟩ (x_refuse2 l r f a g  ) (cwV 1 hg (kgV wt3_7 wt3_9 wp1_0 wt1_1 wt3_10) rfl rfl rfl (by decide +kernel) ⟨by decide, by decide⟩) hK hP hD hS hA 0 11 rfl rfl rfl hl.1 rfl (Nat.le_of_ble_eq_true rfl) dX11_settle_6 ⟨by decide, by decide⟩ (fun v4 u3 H locs hw2 hP hD hS => ?_)
  obtain ⟨f5, a6, g7⟩ := u3
  have hP : va_P D vwCl (xW K r f5 a6 g7) H := hP
  have hD : va_D A (xW K r f5 a6 g7) := hD
  refine k_top (z := (-2)) (hw2) ?_
  refine lv_goto (tgt := 17) hx hb dX11_settle_9 (by decide) ?_
  exact kI_ret (v := (-2)) hx hb hr hlocks rfl hK hS dX11_settle_17 (f5, a6, g7) hP hD rfl
set_option maxHeartbeats 4000000 in
set_option maxRecDepth 100000 in
theorem x_settle3 (l : Launch) {D : va_G} {K : Nat → ClassId} (r : Nat → Nat) (f : Nat → Int32) (a : Nat → Nat → Int32) (g : xG)    : kI l yX11_settle (Cond.code yX11_settle cX11_settle 2 (some .int) :: kG) (rmD 2 0 0) D (tysK K) [.ref (r 0), .int (-3)] (xW K r f a g) (fun v (u : xS) => v = (-3)) (fun u => xW K r u.1 u.2.1 u.2.2) 0 0 := by
  refine kI.of (cc := cX11_settle) (maxL := 2) (ret := (some .int)) (by decide) rfl (Nat.le_of_ble_eq_true rfl) ?_
  intro p e s m below meth c A hx hb hr hml hown hts hlocks hnm hK hP hD hS hA ls hl
  have hg : ∀ w ∈ kG, w.before _ s = true := fun w h => hts w (List.mem_cons_of_mem _ h)
  have hown : s.vm.findClass RX11 = some m.cls := hown
  have hl : lv_has ls 2 [(0, .ref (r 0)), (1, .int (-3))] := hl
  refine lv_iload_n hx hb dX11_settle_0 rfl (lv_at hl 1 rfl) ?_
  refine lv_if_ge (tgt := 12) hx hb dX11_settle_1 (by decide) (fun c1 => absurd c1 (by decide +kernel)) (fun c1 => ?_)
  refine lv_aload_n hx hb dX11_settle_4 rfl (lv_at hl 0 rfl) ?_
  refine lv_iload_n hx hb dX11_settle_5 rfl (lv_at hl 1 rfl) ?_
  refine kI.callW (As := [.int (-3)]) (rest := []) ⟨hx, hb, hml, hown, hg⟩ (x_refuse3 l r f a g  ) (cwV 1 hg (kgV wt3_7 wt3_9 wp1_0 wt1_1 wt3_10) rfl rfl rfl (by decide +kernel) ⟨by decide, by decide⟩) hK hP hD hS hA 0 11 rfl rfl rfl hl.1 rfl (Nat.le_of_ble_eq_true rfl) dX11_settle_6 ⟨by decide, by decide⟩ (fun v4 u3 H locs hw2 hP hD hS => ?_)
  obtain ⟨f5, a6, g7⟩ := u3
  have hP : va_P D vwCl (xW K r f5 a6 g7) H := hP
  have hD : va_D A (xW K r f5 a6 g7) := hD
  refine k_top (z := (-3)) (hw2) ?_
  refine lv_goto (tgt := 17) hx hb dX11_settle_9 (by decide) ?_
  exact kI_ret (v := (-3)) hx hb hr hlocks rfl hK hS dX11_settle_17 (f5, a6, g7) hP hD rfl
set_option maxHeartbeats 4000000 in
set_option maxRecDepth 100000 in
theorem x_settle0 (l : Launch) {D : va_G} {K : Nat → ClassId} (r : Nat → Nat) (f : Nat → Int32) (a : Nat → Nat → Int32) (g : xG)    : kI l yX11_settle (Cond.code yX11_settle cX11_settle 2 (some .int) :: kG) (rmD 3 0 0) D (tysK K) [.ref (r 0), .int 0] (xW K r f a g) (fun v (u : xS) => v = 0) (fun u => xW K r u.1 u.2.1 u.2.2) 0 0 := by
  refine kI.of (cc := cX11_settle) (maxL := 2) (ret := (some .int)) (by decide) rfl (Nat.le_of_ble_eq_true rfl) ?_
  intro p e s m below meth c A hx hb hr hml hown hts hlocks hnm hK hP hD hS hA ls hl
  have hg : ∀ w ∈ kG, w.before _ s = true := fun w h => hts w (List.mem_cons_of_mem _ h)
  have hown : s.vm.findClass RX11 = some m.cls := hown
  have hl : lv_has ls 2 [(0, .ref (r 0)), (1, .int 0)] := hl
  refine lv_iload_n hx hb dX11_settle_0 rfl (lv_at hl 1 rfl) ?_
  refine lv_if_ge (tgt := 12) hx hb dX11_settle_1 (by decide) (fun c1 => ?_) (fun c1 => absurd (by decide +kernel) c1)
  refine lv_aload_n hx hb dX11_settle_12 rfl (lv_at hl 0 rfl) ?_
  refine lv_iload_n hx hb dX11_settle_13 rfl (lv_at hl 1 rfl) ?_
  refine kI.callW (As := [.int 0]) (rest := []) ⟨hx, hb, hml, hown, hg⟩ (x_agreeChanged l r f a g  0) (cwV 1 hg (kgV wt3_15 wt3_17 wp1_1 wt1_1 wt3_18) rfl rfl rfl (by decide +kernel) ⟨by decide, by decide⟩) hK hP hD hS hA 0 11 rfl rfl rfl hl.1 rfl (Nat.le_of_ble_eq_true rfl) dX11_settle_14 ⟨by decide, by decide⟩ (fun v4 u3 H locs hw2 hP hD hS => ?_)
  obtain ⟨f5, a6, g7⟩ := u3
  have hP : va_P D vwCl (xW K r f5 a6 g7) H := hP
  have hD : va_D A (xW K r f5 a6 g7) := hD
  refine k_top (z := 0) (hw2) ?_
  exact kI_ret (v := 0) hx hb hr hlocks rfl hK hS dX11_settle_17 (f5, a6, g7) hP hD rfl
set_option maxHeartbeats 4000000 in
set_option maxRecDepth 100000 in
theorem x_emptyTape (l : Launch) {D : va_G} {K : Nat → ClassId} (r : Nat → Nat) (f : Nat → Int32) (a : Nat → Nat → Int32) (g : xG) (h0 : f 12 = 0)   : kI l yX11_emptyTape (Cond.code yX11_emptyTape cX11_emptyTape 2 (some .int) :: kG) (rmD 1 0 0) D (tysK K) [.ref (r 0)] (xW K r f a g) (fun v (u : xS) => v = 0 ∧ u.1 12 = 0) (fun u => xW K r u.1 u.2.1 u.2.2) 0 0 := by
  refine kI.of (cc := cX11_emptyTape) (maxL := 2) (ret := (some .int)) (by decide) rfl (Nat.le_of_ble_eq_true rfl) ?_
  intro p e s m below meth c A hx hb hr hml hown hts hlocks hnm hK hP hD hS hA ls hl
  have hg : ∀ w ∈ kG, w.before _ s = true := fun w h => hts w (List.mem_cons_of_mem _ h)
  have hown : s.vm.findClass RX11 = some m.cls := hown
  have hl : lv_has ls 2 [(0, .ref (r 0))] := hl
  refine lv_aload_n hx hb dX11_emptyTape_0 rfl (lv_at hl 0 rfl) ?_
  refine va_get (D := D) (ci := 11) (v := .int (f 12)) (C := RX11) (T := TX11) (N := 17) hx hb hg inC11 hown hK hP 0 rfl rfl 12 (by decide) (hg _ wt2_198) (fun _ h9 => h9) rfl dX11_emptyTape_1 ?_
  refine k_top (z := 0) h0 ?_
  refine lv_istore_n (lv' := [(1, .int 0), (0, .ref (r 0))]) hx hb dX11_emptyTape_4 rfl hl (by decide) rfl (fun ls hl => ?_)
  refine lv_aload_n hx hb dX11_emptyTape_5 rfl (lv_at hl 1 rfl) ?_
  refine lv_iconst (v := 0) hx hb dX11_emptyTape_6 (by decide) ?_
  refine va_put (D := D) (ci := 11) (v := .int 0) (ty := .int) (C := RX11) (T := TX11) (N := 17) hx hb hg inC11 tyX11 tyX11_ok nmX11 hown hK hP hD hS 0 rfl rfl 12 (by decide) (hg _ wt2_198) (fun _ h9 => h9) rfl (by decide +kernel) rfl rfl (Nat.le_of_ble_eq_true rfl) dX11_emptyTape_7 (fun H locs hP hD hS => ?_)
  have hP : va_P D vwCl (xW K r (upd f 12 0) a g) H := hP
  have hD : va_D A (xW K r (upd f 12 0) a g) := hD
  refine k_gen (P := fun z => va_P D vwCl (xW K r z a g) H ∧ va_D A (xW K r z a g)) (upd f 12 0) ⟨hP, hD⟩ (fun f_1 ef_1 hPD => ?_)
  have hP := hPD.1
  have hD := hPD.2
  refine lv_iload_n hx hb dX11_emptyTape_10 rfl (lv_at hl 0 rfl) ?_
  exact kI_ret (v := 0) hx hb hr hlocks rfl hK hS dX11_emptyTape_11 (f_1, a, g) hP hD ⟨rfl, (show f_1 12 = 0 from by rw [← ef_1]; rfl)⟩
set_option maxHeartbeats 4000000 in
set_option maxRecDepth 100000 in
theorem x_chaff (l : Launch) {D : va_G} {K : Nat → ClassId} (r : Nat → Nat) (f : Nat → Int32) (a : Nat → Nat → Int32) (g : xG) (h0 : f 14 = 0)   : kI l yX11_chaff (Cond.code yX11_chaff cX11_chaff 1 (some .int) :: kG) (rmD 1 0 0) D (tysK K) [.ref (r 0)] (xW K r f a g) (fun v (_ : Unit) => v = 0) (fun _ => xW K r f a g) 0 0 := by
  refine kI.of (cc := cX11_chaff) (maxL := 1) (ret := (some .int)) (by decide) rfl (Nat.le_of_ble_eq_true rfl) ?_
  intro p e s m below meth c A hx hb hr hml hown hts hlocks hnm hK hP hD hS hA ls hl
  have hg : ∀ w ∈ kG, w.before _ s = true := fun w h => hts w (List.mem_cons_of_mem _ h)
  have hown : s.vm.findClass RX11 = some m.cls := hown
  have hl : lv_has ls 1 [(0, .ref (r 0))] := hl
  refine lv_aload_n hx hb dX11_chaff_0 rfl (lv_at hl 0 rfl) ?_
  refine va_get (D := D) (ci := 11) (v := .int (f 14)) (C := RX11) (T := TX11) (N := 17) hx hb hg inC11 hown hK hP 0 rfl rfl 14 (by decide) (hg _ wt2_200) (fun _ h9 => h9) rfl dX11_chaff_1 ?_
  refine k_top (z := 0) h0 ?_
  exact kI_ret (v := 0) hx hb hr hlocks rfl hK hS dX11_chaff_4 () hP hD rfl
set_option maxHeartbeats 4000000 in
set_option maxRecDepth 100000 in
theorem x_fault (l : Launch) {D : va_G} {K : Nat → ClassId} (r : Nat → Nat) (f : Nat → Int32) (a : Nat → Nat → Int32) (g : xG) (h0 : f 13 = (-1))   : kI l yX11_fault (Cond.code yX11_fault cX11_fault 1 (some .int) :: kG) (rmD 1 0 0) D (tysK K) [.ref (r 0)] (xW K r f a g) (fun v (_ : Unit) => v = (-1)) (fun _ => xW K r f a g) 0 0 := by
  refine kI.of (cc := cX11_fault) (maxL := 1) (ret := (some .int)) (by decide) rfl (Nat.le_of_ble_eq_true rfl) ?_
  intro p e s m below meth c A hx hb hr hml hown hts hlocks hnm hK hP hD hS hA ls hl
  have hg : ∀ w ∈ kG, w.before _ s = true := fun w h => hts w (List.mem_cons_of_mem _ h)
  have hown : s.vm.findClass RX11 = some m.cls := hown
  have hl : lv_has ls 1 [(0, .ref (r 0))] := hl
  refine lv_aload_n hx hb dX11_fault_0 rfl (lv_at hl 0 rfl) ?_
  refine va_get (D := D) (ci := 11) (v := .int (f 13)) (C := RX11) (T := TX11) (N := 17) hx hb hg inC11 hown hK hP 0 rfl rfl 13 (by decide) (hg _ wt2_199) (fun _ h9 => h9) rfl dX11_fault_1 ?_
  refine k_top (z := (-1)) h0 ?_
  exact kI_ret (v := (-1)) hx hb hr hlocks rfl hK hS dX11_fault_4 () hP hD rfl
set_option maxHeartbeats 4000000 in
set_option maxRecDepth 100000 in
theorem x_stopped (l : Launch) {D : va_G} {K : Nat → ClassId} (r : Nat → Nat) (f : Nat → Int32) (a : Nat → Nat → Int32) (g : xG) (h0 : f 15 = (-1))   : kI l yX11_stopped (Cond.code yX11_stopped cX11_stopped 1 (some .int) :: kG) (rmD 1 0 0) D (tysK K) [.ref (r 0)] (xW K r f a g) (fun v (_ : Unit) => v = (-1)) (fun _ => xW K r f a g) 0 0 := by
  refine kI.of (cc := cX11_stopped) (maxL := 1) (ret := (some .int)) (by decide) rfl (Nat.le_of_ble_eq_true rfl) ?_
  intro p e s m below meth c A hx hb hr hml hown hts hlocks hnm hK hP hD hS hA ls hl
  have hg : ∀ w ∈ kG, w.before _ s = true := fun w h => hts w (List.mem_cons_of_mem _ h)
  have hown : s.vm.findClass RX11 = some m.cls := hown
  have hl : lv_has ls 1 [(0, .ref (r 0))] := hl
  refine lv_aload_n hx hb dX11_stopped_0 rfl (lv_at hl 0 rfl) ?_
  refine va_get (D := D) (ci := 11) (v := .int (f 15)) (C := RX11) (T := TX11) (N := 17) hx hb hg inC11 hown hK hP 0 rfl rfl 15 (by decide) (hg _ wt2_201) (fun _ h9 => h9) rfl dX11_stopped_1 ?_
  refine k_top (z := (-1)) h0 ?_
  exact kI_ret (v := (-1)) hx hb hr hlocks rfl hK hS dX11_stopped_4 () hP hD rfl
set_option maxHeartbeats 4000000 in
set_option maxRecDepth 100000 in
theorem x_status (l : Launch) {D : va_G} {K : Nat → ClassId} (r : Nat → Nat) (f : Nat → Int32) (a : Nat → Nat → Int32) (g : xG) (h0 : f 16 = 0)   : kI l yX11_status (Cond.code yX11_status cX11_status 1 (some .int) :: kG) (rmD 1 0 0) D (tysK K) [.ref (r 0)] (xW K r f a g) (fun v (_ : Unit) => v = 0) (fun _ => xW K r f a g) 0 0 := by
  refine kI.of (cc := cX11_status) (maxL := 1) (ret := (some .int)) (by decide) rfl (Nat.le_of_ble_eq_true rfl) ?_
  intro p e s m below meth c A hx hb hr hml hown hts hlocks hnm hK hP hD hS hA ls hl
  have hg : ∀ w ∈ kG, w.before _ s = true := fun w h => hts w (List.mem_cons_of_mem _ h)
  have hown : s.vm.findClass RX11 = some m.cls := hown
  have hl : lv_has ls 1 [(0, .ref (r 0))] := hl
  refine lv_aload_n hx hb dX11_status_0 rfl (lv_at hl 0 rfl) ?_
  refine va_get (D := D) (ci := 11) (v := .int (f 16)) (C := RX11) (T := TX11) (N := 17) hx hb hg inC11 hown hK hP 0 rfl rfl 16 (by decide) (hg _ wt2_202) (fun _ h9 => h9) rfl dX11_status_1 ?_
  refine k_top (z := 0) h0 ?_
  exact kI_ret (v := 0) hx hb hr hlocks rfl hK hS dX11_status_4 () hP hD rfl
set_option maxHeartbeats 4000000 in
set_option maxRecDepth 100000 in
theorem x_of (l : Launch) {D : va_G} {K : Nat → ClassId} (r : Nat → Nat) (f : Nat → Int32) (a : Nat → Nat → Int32) (g : xG) (h0 : f 32 = 0) (x : Int32) (y : Int32)  : kI l yX11_of (Cond.code yX11_of cX11_of 3 (some .int) :: kG) (rmD 2 0 0) D (tysK K) [.ref (r 0), .int x, .int y] (xW K r f a g) (fun v (_ : Unit) => v = (-1)) (fun _ => xW K r f a g) 0 0 := by
  refine kI.of (cc := cX11_of) (maxL := 3) (ret := (some .int)) (by decide) rfl (Nat.le_of_ble_eq_true rfl) ?_
  intro p e s m below meth c A hx hb hr hml hown hts hlocks hnm hK hP hD hS hA ls hl
  have hg : ∀ w ∈ kG, w.before _ s = true := fun w h => hts w (List.mem_cons_of_mem _ h)
  have hown : s.vm.findClass RX11 = some m.cls := hown
  have hl : lv_has ls 3 [(0, .ref (r 0)), (1, .int x), (2, .int y)] := hl
  refine lv_aload_n hx hb dX11_of_0 rfl (lv_at hl 0 rfl) ?_
  refine va_get (D := D) (ci := 11) (v := .ref (r 1)) (C := RX11) (T := TX11) (N := 17) hx hb hg inC11 hown hK hP 0 rfl rfl 0 (by decide) (hg _ wt2_186) (fun _ h9 => h9) rfl dX11_of_1 ?_
  refine lv_iload_n hx hb dX11_of_4 rfl (lv_at hl 1 rfl) ?_
  refine kI.callW (As := [.int x]) (rest := []) ⟨hx, hb, hml, hown, hg⟩ (x_hasPart_now l r f a g h0 x) (cwV 1 hg (kgV wt3_35 wt3_36 wt3_37 wt1_2 wt3_38) rfl rfl rfl (by decide +kernel) ⟨by decide, by decide⟩) hK hP hD hS hA 1 7 rfl rfl rfl hl.1 rfl (Nat.le_of_ble_eq_true rfl) dX11_of_5 ⟨by decide, by decide⟩ (fun v3 u2 H locs hw1 hP hD hS => ?_)
  have hP : va_P D vwCl (xW K r f a g) H := hP
  have hD : va_D A (xW K r f a g) := hD
  refine k_top (z := 0) (hw1) ?_
  refine lv_if_ne (tgt := 13) hx hb dX11_of_8 (by decide) (fun c4 => absurd (by decide +kernel) c4) (fun c4 => ?_)
  refine lv_iconst (v := (-1)) hx hb dX11_of_11 (by decide) ?_
  exact kI_ret (v := (-1)) hx hb hr hlocks rfl hK hS dX11_of_12 () hP hD rfl
