set_option maxHeartbeats 4000000 in
set_option maxRecDepth 100000 in
theorem c_lies (l : Launch) (x : Int32) (lo : Int32) (hi : Int32)  : kN l yX12_lies (Cond.code yX12_lies cX12_lies 3 (some .boolean) :: kG) (rmD 1 0 0) [.int x, .int lo, .int hi] (fun v => v = mLies x lo hi) := by
  refine kN.of (cc := cX12_lies) (maxL := 3) (ret := (some .boolean)) (by decide) rfl (Nat.le_of_ble_eq_true rfl) ?_
  intro p e s m below meth c hx hb hr hml hown hts hlocks hS ls hl
  have hg : ∀ w ∈ kG, w.before _ s = true := fun w h => hts w (List.mem_cons_of_mem _ h)
  have hown : s.vm.findClass RX12 = some m.cls := hown
  have hl : lv_has ls 3 [(0, .int x), (1, .int lo), (2, .int hi)] := hl
  refine lv_iload_n hx hb dX12_lies_0 rfl (lv_at hl 0 rfl) ?_
  refine lv_iload_n hx hb dX12_lies_1 rfl (lv_at hl 1 rfl) ?_
  refine lv_icmp_lt (tgt := 14) hx hb dX12_lies_2 (by decide) (fun c1 => ?_) (fun c1 => ?_)
  · refine lv_iconst (v := 0) hx hb dX12_lies_14 (by decide) ?_
    exact kN_ret (v := 0) hx hb hr hlocks (by decide +kernel) hS dX12_lies_15 (by simp [mLies, c1])
  · refine lv_iload_n hx hb dX12_lies_5 rfl (lv_at hl 0 rfl) ?_
    refine lv_iload_n hx hb dX12_lies_6 rfl (lv_at hl 2 rfl) ?_
    refine lv_icmp_gt (tgt := 14) hx hb dX12_lies_7 (by decide) (fun c2 => ?_) (fun c2 => ?_)
    · refine lv_iconst (v := 0) hx hb dX12_lies_14 (by decide) ?_
      exact kN_ret (v := 0) hx hb hr hlocks (by decide +kernel) hS dX12_lies_15 (by simp [mLies, c1, c2])
    · refine lv_iconst (v := 1) hx hb dX12_lies_10 (by decide) ?_
      refine lv_goto (tgt := 15) hx hb dX12_lies_11 (by decide) ?_
      exact kN_ret (v := 1) hx hb hr hlocks (by decide +kernel) hS dX12_lies_15 (by simp [mLies, c1, c2])
set_option maxHeartbeats 4000000 in
set_option maxRecDepth 100000 in
theorem c_ones0 (l : Launch)   : kN l yX12_ones (Cond.code yX12_ones cX12_ones 3 (some .int) :: kG) (rmD 1 0 0) [.int 0] (fun v => v = 0) := by
  refine kN.of (cc := cX12_ones) (maxL := 3) (ret := (some .int)) (by decide) rfl (Nat.le_of_ble_eq_true rfl) ?_
  intro p e s m below meth c hx hb hr hml hown hts hlocks hS ls hl
  have hg : ∀ w ∈ kG, w.before _ s = true := fun w h => hts w (List.mem_cons_of_mem _ h)
  have hown : s.vm.findClass RX12 = some m.cls := hown
  have hl : lv_has ls 3 [(0, .int 0)] := hl
  refine lv_iconst (v := 0) hx hb dX12_ones_0 (by decide) ?_
  refine lv_istore_n (lv' := [(1, .int 0), (0, .int 0)]) hx hb dX12_ones_1 rfl hl (by decide) rfl (fun ls hl => ?_)
  refine lv_iconst (v := 0) hx hb dX12_ones_2 (by decide) ?_
  refine lv_istore_n (lv' := [(2, .int 0), (1, .int 0), (0, .int 0)]) hx hb dX12_ones_3 rfl hl (by decide) rfl (fun ls hl => ?_)
  refine lv_iload_n hx hb dX12_ones_4 rfl (lv_at hl 0 rfl) ?_
  refine lv_bipush (v := 10) hx hb dX12_ones_5 (by decide) ?_
  refine lv_icmp_ge (tgt := 24) hx hb dX12_ones_7 (by decide) (fun c1 => absurd c1 (by decide +kernel)) (fun c1 => ?_)
  refine lv_iload_n hx hb dX12_ones_10 rfl (lv_at hl 1 rfl) ?_
  refine lv_iload_n hx hb dX12_ones_11 rfl (lv_at hl 2 rfl) ?_
  refine lv_iload_n hx hb dX12_ones_12 rfl (lv_at hl 0 rfl) ?_
  refine lv_ishr hx hb dX12_ones_13 ?_
  refine k_top (z := 0) (by decide +kernel) ?_
  refine lv_iconst (v := 1) hx hb dX12_ones_14 (by decide) ?_
  refine lv_iand hx hb dX12_ones_15 ?_
  refine k_top (z := 0) (by decide +kernel) ?_
  refine lv_iadd hx hb dX12_ones_16 ?_
  refine k_top (z := 0) (by decide +kernel) ?_
  refine lv_istore_n (lv' := [(1, .int 0), (2, .int 0), (0, .int 0)]) hx hb dX12_ones_17 rfl hl (by decide) rfl (fun ls hl => ?_)
  refine lv_iinc (v := 1) (lv' := [(2, .int 1), (1, .int 0), (0, .int 0)]) hx hb dX12_ones_18 hl (k := 1) rfl (by decide +kernel) (by decide) rfl (fun ls hl => ?_)
  refine lv_goto (tgt := 4) hx hb dX12_ones_21 (by decide) ?_
  refine lv_iload_n hx hb dX12_ones_4 rfl (lv_at hl 0 rfl) ?_
  refine lv_bipush (v := 10) hx hb dX12_ones_5 (by decide) ?_
  refine lv_icmp_ge (tgt := 24) hx hb dX12_ones_7 (by decide) (fun c2 => absurd c2 (by decide +kernel)) (fun c2 => ?_)
  refine lv_iload_n hx hb dX12_ones_10 rfl (lv_at hl 1 rfl) ?_
  refine lv_iload_n hx hb dX12_ones_11 rfl (lv_at hl 2 rfl) ?_
  refine lv_iload_n hx hb dX12_ones_12 rfl (lv_at hl 0 rfl) ?_
  refine lv_ishr hx hb dX12_ones_13 ?_
  refine k_top (z := 0) (by decide +kernel) ?_
  refine lv_iconst (v := 1) hx hb dX12_ones_14 (by decide) ?_
  refine lv_iand hx hb dX12_ones_15 ?_
  refine k_top (z := 0) (by decide +kernel) ?_
  refine lv_iadd hx hb dX12_ones_16 ?_
  refine k_top (z := 0) (by decide +kernel) ?_
  refine lv_istore_n (lv' := [(1, .int 0), (2, .int 1), (0, .int 0)]) hx hb dX12_ones_17 rfl hl (by decide) rfl (fun ls hl => ?_)
  refine lv_iinc (v := 2) (lv' := [(2, .int 2), (1, .int 0), (0, .int 0)]) hx hb dX12_ones_18 hl (k := 1) rfl (by decide +kernel) (by decide) rfl (fun ls hl => ?_)
  refine lv_goto (tgt := 4) hx hb dX12_ones_21 (by decide) ?_
  refine lv_iload_n hx hb dX12_ones_4 rfl (lv_at hl 0 rfl) ?_
  refine lv_bipush (v := 10) hx hb dX12_ones_5 (by decide) ?_
  refine lv_icmp_ge (tgt := 24) hx hb dX12_ones_7 (by decide) (fun c3 => absurd c3 (by decide +kernel)) (fun c3 => ?_)
  refine lv_iload_n hx hb dX12_ones_10 rfl (lv_at hl 1 rfl) ?_
  refine lv_iload_n hx hb dX12_ones_11 rfl (lv_at hl 2 rfl) ?_
  refine lv_iload_n hx hb dX12_ones_12 rfl (lv_at hl 0 rfl) ?_
  refine lv_ishr hx hb dX12_ones_13 ?_
  refine k_top (z := 0) (by decide +kernel) ?_
  refine lv_iconst (v := 1) hx hb dX12_ones_14 (by decide) ?_
  refine lv_iand hx hb dX12_ones_15 ?_
  refine k_top (z := 0) (by decide +kernel) ?_
  refine lv_iadd hx hb dX12_ones_16 ?_
  refine k_top (z := 0) (by decide +kernel) ?_
  refine lv_istore_n (lv' := [(1, .int 0), (2, .int 2), (0, .int 0)]) hx hb dX12_ones_17 rfl hl (by decide) rfl (fun ls hl => ?_)
  refine lv_iinc (v := 3) (lv' := [(2, .int 3), (1, .int 0), (0, .int 0)]) hx hb dX12_ones_18 hl (k := 1) rfl (by decide +kernel) (by decide) rfl (fun ls hl => ?_)
  refine lv_goto (tgt := 4) hx hb dX12_ones_21 (by decide) ?_
  refine lv_iload_n hx hb dX12_ones_4 rfl (lv_at hl 0 rfl) ?_
  refine lv_bipush (v := 10) hx hb dX12_ones_5 (by decide) ?_
  refine lv_icmp_ge (tgt := 24) hx hb dX12_ones_7 (by decide) (fun c4 => absurd c4 (by decide +kernel)) (fun c4 => ?_)
  refine lv_iload_n hx hb dX12_ones_10 rfl (lv_at hl 1 rfl) ?_
  refine lv_iload_n hx hb dX12_ones_11 rfl (lv_at hl 2 rfl) ?_
  refine lv_iload_n hx hb dX12_ones_12 rfl (lv_at hl 0 rfl) ?_
  refine lv_ishr hx hb dX12_ones_13 ?_
  refine k_top (z := 0) (by decide +kernel) ?_
  refine lv_iconst (v := 1) hx hb dX12_ones_14 (by decide) ?_
  refine lv_iand hx hb dX12_ones_15 ?_
  refine k_top (z := 0) (by decide +kernel) ?_
  refine lv_iadd hx hb dX12_ones_16 ?_
  refine k_top (z := 0) (by decide +kernel) ?_
  refine lv_istore_n (lv' := [(1, .int 0), (2, .int 3), (0, .int 0)]) hx hb dX12_ones_17 rfl hl (by decide) rfl (fun ls hl => ?_)
  refine lv_iinc (v := 4) (lv' := [(2, .int 4), (1, .int 0), (0, .int 0)]) hx hb dX12_ones_18 hl (k := 1) rfl (by decide +kernel) (by decide) rfl (fun ls hl => ?_)
  refine lv_goto (tgt := 4) hx hb dX12_ones_21 (by decide) ?_
  refine lv_iload_n hx hb dX12_ones_4 rfl (lv_at hl 0 rfl) ?_
  refine lv_bipush (v := 10) hx hb dX12_ones_5 (by decide) ?_
  refine lv_icmp_ge (tgt := 24) hx hb dX12_ones_7 (by decide) (fun c5 => absurd c5 (by decide +kernel)) (fun c5 => ?_)
  refine lv_iload_n hx hb dX12_ones_10 rfl (lv_at hl 1 rfl) ?_
  refine lv_iload_n hx hb dX12_ones_11 rfl (lv_at hl 2 rfl) ?_
  refine lv_iload_n hx hb dX12_ones_12 rfl (lv_at hl 0 rfl) ?_
  refine lv_ishr hx hb dX12_ones_13 ?_
  refine k_top (z := 0) (by decide +kernel) ?_
  refine lv_iconst (v := 1) hx hb dX12_ones_14 (by decide) ?_
  refine lv_iand hx hb dX12_ones_15 ?_
  refine k_top (z := 0) (by decide +kernel) ?_
  refine lv_iadd hx hb dX12_ones_16 ?_
  refine k_top (z := 0) (by decide +kernel) ?_
  refine lv_istore_n (lv' := [(1, .int 0), (2, .int 4), (0, .int 0)]) hx hb dX12_ones_17 rfl hl (by decide) rfl (fun ls hl => ?_)
  refine lv_iinc (v := 5) (lv' := [(2, .int 5), (1, .int 0), (0, .int 0)]) hx hb dX12_ones_18 hl (k := 1) rfl (by decide +kernel) (by decide) rfl (fun ls hl => ?_)
  refine lv_goto (tgt := 4) hx hb dX12_ones_21 (by decide) ?_
  refine lv_iload_n hx hb dX12_ones_4 rfl (lv_at hl 0 rfl) ?_
  refine lv_bipush (v := 10) hx hb dX12_ones_5 (by decide) ?_
  refine lv_icmp_ge (tgt := 24) hx hb dX12_ones_7 (by decide) (fun c6 => absurd c6 (by decide +kernel)) (fun c6 => ?_)
  refine lv_iload_n hx hb dX12_ones_10 rfl (lv_at hl 1 rfl) ?_
  refine lv_iload_n hx hb dX12_ones_11 rfl (lv_at hl 2 rfl) ?_
  refine lv_iload_n hx hb dX12_ones_12 rfl (lv_at hl 0 rfl) ?_
  refine lv_ishr hx hb dX12_ones_13 ?_
  refine k_top (z := 0) (by decide +kernel) ?_
  refine lv_iconst (v := 1) hx hb dX12_ones_14 (by decide) ?_
  refine lv_iand hx hb dX12_ones_15 ?_
  refine k_top (z := 0) (by decide +kernel) ?_
  refine lv_iadd hx hb dX12_ones_16 ?_
  refine k_top (z := 0) (by decide +kernel) ?_
  refine lv_istore_n (lv' := [(1, .int 0), (2, .int 5), (0, .int 0)]) hx hb dX12_ones_17 rfl hl (by decide) rfl (fun ls hl => ?_)
  refine lv_iinc (v := 6) (lv' := [(2, .int 6), (1, .int 0), (0, .int 0)]) hx hb dX12_ones_18 hl (k := 1) rfl (by decide +kernel) (by decide) rfl (fun ls hl => ?_)
  refine lv_goto (tgt := 4) hx hb dX12_ones_21 (by decide) ?_
  refine lv_iload_n hx hb dX12_ones_4 rfl (lv_at hl 0 rfl) ?_
  refine lv_bipush (v := 10) hx hb dX12_ones_5 (by decide) ?_
  refine lv_icmp_ge (tgt := 24) hx hb dX12_ones_7 (by decide) (fun c7 => absurd c7 (by decide +kernel)) (fun c7 => ?_)
  refine lv_iload_n hx hb dX12_ones_10 rfl (lv_at hl 1 rfl) ?_
  refine lv_iload_n hx hb dX12_ones_11 rfl (lv_at hl 2 rfl) ?_
  refine lv_iload_n hx hb dX12_ones_12 rfl (lv_at hl 0 rfl) ?_
  refine lv_ishr hx hb dX12_ones_13 ?_
  refine k_top (z := 0) (by decide +kernel) ?_
  refine lv_iconst (v := 1) hx hb dX12_ones_14 (by decide) ?_
  refine lv_iand hx hb dX12_ones_15 ?_
  refine k_top (z := 0) (by decide +kernel) ?_
  refine lv_iadd hx hb dX12_ones_16 ?_
  refine k_top (z := 0) (by decide +kernel) ?_
  refine lv_istore_n (lv' := [(1, .int 0), (2, .int 6), (0, .int 0)]) hx hb dX12_ones_17 rfl hl (by decide) rfl (fun ls hl => ?_)
  refine lv_iinc (v := 7) (lv' := [(2, .int 7), (1, .int 0), (0, .int 0)]) hx hb dX12_ones_18 hl (k := 1) rfl (by decide +kernel) (by decide) rfl (fun ls hl => ?_)
  refine lv_goto (tgt := 4) hx hb dX12_ones_21 (by decide) ?_
  refine lv_iload_n hx hb dX12_ones_4 rfl (lv_at hl 0 rfl) ?_
  refine lv_bipush (v := 10) hx hb dX12_ones_5 (by decide) ?_
  refine lv_icmp_ge (tgt := 24) hx hb dX12_ones_7 (by decide) (fun c8 => absurd c8 (by decide +kernel)) (fun c8 => ?_)
  refine lv_iload_n hx hb dX12_ones_10 rfl (lv_at hl 1 rfl) ?_
  refine lv_iload_n hx hb dX12_ones_11 rfl (lv_at hl 2 rfl) ?_
  refine lv_iload_n hx hb dX12_ones_12 rfl (lv_at hl 0 rfl) ?_
  refine lv_ishr hx hb dX12_ones_13 ?_
  refine k_top (z := 0) (by decide +kernel) ?_
  refine lv_iconst (v := 1) hx hb dX12_ones_14 (by decide) ?_
  refine lv_iand hx hb dX12_ones_15 ?_
  refine k_top (z := 0) (by decide +kernel) ?_
  refine lv_iadd hx hb dX12_ones_16 ?_
  refine k_top (z := 0) (by decide +kernel) ?_
  refine lv_istore_n (lv' := [(1, .int 0), (2, .int 7), (0, .int 0)]) hx hb dX12_ones_17 rfl hl (by decide) rfl (fun ls hl => ?_)
  refine lv_iinc (v := 8) (lv' := [(2, .int 8), (1, .int 0), (0, .int 0)]) hx hb dX12_ones_18 hl (k := 1) rfl (by decide +kernel) (by decide) rfl (fun ls hl => ?_)
  refine lv_goto (tgt := 4) hx hb dX12_ones_21 (by decide) ?_
  refine lv_iload_n hx hb dX12_ones_4 rfl (lv_at hl 0 rfl) ?_
  refine lv_bipush (v := 10) hx hb dX12_ones_5 (by decide) ?_
  refine lv_icmp_ge (tgt := 24) hx hb dX12_ones_7 (by decide) (fun c9 => absurd c9 (by decide +kernel)) (fun c9 => ?_)
  refine lv_iload_n hx hb dX12_ones_10 rfl (lv_at hl 1 rfl) ?_
  refine lv_iload_n hx hb dX12_ones_11 rfl (lv_at hl 2 rfl) ?_
  refine lv_iload_n hx hb dX12_ones_12 rfl (lv_at hl 0 rfl) ?_
  refine lv_ishr hx hb dX12_ones_13 ?_
  refine k_top (z := 0) (by decide +kernel) ?_
  refine lv_iconst (v := 1) hx hb dX12_ones_14 (by decide) ?_
  refine lv_iand hx hb dX12_ones_15 ?_
  refine k_top (z := 0) (by decide +kernel) ?_
  refine lv_iadd hx hb dX12_ones_16 ?_
  refine k_top (z := 0) (by decide +kernel) ?_
  refine lv_istore_n (lv' := [(1, .int 0), (2, .int 8), (0, .int 0)]) hx hb dX12_ones_17 rfl hl (by decide) rfl (fun ls hl => ?_)
  refine lv_iinc (v := 9) (lv' := [(2, .int 9), (1, .int 0), (0, .int 0)]) hx hb dX12_ones_18 hl (k := 1) rfl (by decide +kernel) (by decide) rfl (fun ls hl => ?_)
  refine lv_goto (tgt := 4) hx hb dX12_ones_21 (by decide) ?_
  refine lv_iload_n hx hb dX12_ones_4 rfl (lv_at hl 0 rfl) ?_
  refine lv_bipush (v := 10) hx hb dX12_ones_5 (by decide) ?_
  refine lv_icmp_ge (tgt := 24) hx hb dX12_ones_7 (by decide) (fun c10 => absurd c10 (by decide +kernel)) (fun c10 => ?_)
  refine lv_iload_n hx hb dX12_ones_10 rfl (lv_at hl 1 rfl) ?_
  refine lv_iload_n hx hb dX12_ones_11 rfl (lv_at hl 2 rfl) ?_
  refine lv_iload_n hx hb dX12_ones_12 rfl (lv_at hl 0 rfl) ?_
  refine lv_ishr hx hb dX12_ones_13 ?_
  refine k_top (z := 0) (by decide +kernel) ?_
  refine lv_iconst (v := 1) hx hb dX12_ones_14 (by decide) ?_
  refine lv_iand hx hb dX12_ones_15 ?_
  refine k_top (z := 0) (by decide +kernel) ?_
  refine lv_iadd hx hb dX12_ones_16 ?_
  refine k_top (z := 0) (by decide +kernel) ?_
  refine lv_istore_n (lv' := [(1, .int 0), (2, .int 9), (0, .int 0)]) hx hb dX12_ones_17 rfl hl (by decide) rfl (fun ls hl => ?_)
  refine lv_iinc (v := 10) (lv' := [(2, .int 10), (1, .int 0), (0, .int 0)]) hx hb dX12_ones_18 hl (k := 1) rfl (by decide +kernel) (by decide) rfl (fun ls hl => ?_)
  refine lv_goto (tgt := 4) hx hb dX12_ones_21 (by decide) ?_
  refine lv_iload_n hx hb dX12_ones_4 rfl (lv_at hl 0 rfl) ?_
  refine lv_bipush (v := 10) hx hb dX12_ones_5 (by decide) ?_
  refine lv_icmp_ge (tgt := 24) hx hb dX12_ones_7 (by decide) (fun c11 => ?_) (fun c11 => absurd (by decide +kernel) c11)
  refine lv_iload_n hx hb dX12_ones_24 rfl (lv_at hl 1 rfl) ?_
  exact kN_ret (v := 0) hx hb hr hlocks rfl hS dX12_ones_25 rfl
set_option maxHeartbeats 4000000 in
set_option maxRecDepth 100000 in
theorem c_standing (l : Launch) {D : va_G} {K : Nat → ClassId} (o : Nat) (r : Nat → Nat) (f : Nat → Int32) (a : Nat → Nat → Int32) (g : Nat → Int64) (h0 : a 2 102 = 0)   : kI l yX12_standing (Cond.code yX12_standing cX12_standing 3 (some .int) :: kG) (rmD 1 0 0) D (tysK K) [.ref o] (mW K o r f a g) (fun v (_ : Unit) => v = 0) (fun _ => mW K o r f a g) 0 0 := by
  refine kI.of (cc := cX12_standing) (maxL := 3) (ret := (some .int)) (by decide) rfl (Nat.le_of_ble_eq_true rfl) ?_
  intro p e s m below meth c A hx hb hr hml hown hts hlocks hnm hK hP hD hS hA ls hl
  have hg : ∀ w ∈ kG, w.before _ s = true := fun w h => hts w (List.mem_cons_of_mem _ h)
  have hown : s.vm.findClass RX12 = some m.cls := hown
  have hl : lv_has ls 3 [(0, .ref o)] := hl
  refine lv_iconst (v := 0) hx hb dX12_standing_0 (by decide) ?_
  refine lv_istore_n (lv' := [(1, .int 0), (0, .ref o)]) hx hb dX12_standing_1 rfl hl (by decide) rfl (fun ls hl => ?_)
  refine lv_iconst (v := 0) hx hb dX12_standing_2 (by decide) ?_
  refine lv_istore_n (lv' := [(2, .int 0), (1, .int 0), (0, .ref o)]) hx hb dX12_standing_3 rfl hl (by decide) rfl (fun ls hl => ?_)
  refine lv_iload_n hx hb dX12_standing_4 rfl (lv_at hl 0 rfl) ?_
  refine lv_aload_n hx hb dX12_standing_5 rfl (lv_at hl 2 rfl) ?_
  refine va_get (D := D) (ci := 12) (v := .ref (r 2)) (C := RX12) (T := TX12) (N := 48) hx hb hg inC12 hown hK hP 0 rfl rfl 2 (by decide) (hg _ wt5_162) (fun _ h9 => h9) rfl dX12_standing_6 ?_
  refine lv_bipush (v := 102) hx hb dX12_standing_9 (by decide) ?_
  refine va_iald hx hb hK hP 2 0 rfl rfl (k_in (by decide +kernel)) dX12_standing_11 ?_
  refine k_top (z := 0) (by rw [cl_102]; exact h0) ?_
  refine lv_icmp_ge (tgt := 39) hx hb dX12_standing_12 (by decide) (fun c1 => ?_) (fun c1 => absurd (by decide +kernel) c1)
  refine lv_iload_n hx hb dX12_standing_39 rfl (lv_at hl 1 rfl) ?_
  exact kI_ret (v := 0) hx hb hr hlocks rfl hK hS dX12_standing_40 () hP hD rfl
set_option maxHeartbeats 4000000 in
set_option maxRecDepth 100000 in
theorem c_allParts (l : Launch) {D : va_G} {K : Nat → ClassId} (o : Nat) (r : Nat → Nat) (f : Nat → Int32) (a : Nat → Nat → Int32) (g : Nat → Int64) (h0 : a 2 102 = 0)   : kI l yX12_allParts (Cond.code yX12_allParts cX12_allParts 1 (some .int) :: kG) (rmD 1 0 0) D (tysK K) [.ref o] (mW K o r f a g) (fun v (_ : Unit) => v = 0) (fun _ => mW K o r f a g) 0 0 := by
  refine kI.of (cc := cX12_allParts) (maxL := 1) (ret := (some .int)) (by decide) rfl (Nat.le_of_ble_eq_true rfl) ?_
  intro p e s m below meth c A hx hb hr hml hown hts hlocks hnm hK hP hD hS hA ls hl
  have hg : ∀ w ∈ kG, w.before _ s = true := fun w h => hts w (List.mem_cons_of_mem _ h)
  have hown : s.vm.findClass RX12 = some m.cls := hown
  have hl : lv_has ls 1 [(0, .ref o)] := hl
  refine lv_iconst (v := 1) hx hb dX12_allParts_0 (by decide) ?_
  refine lv_aload_n hx hb dX12_allParts_1 rfl (lv_at hl 0 rfl) ?_
  refine va_get (D := D) (ci := 12) (v := .ref (r 2)) (C := RX12) (T := TX12) (N := 48) hx hb hg inC12 hown hK hP 0 rfl rfl 2 (by decide) (hg _ wt5_162) (fun _ h9 => h9) rfl dX12_allParts_2 ?_
  refine lv_bipush (v := 102) hx hb dX12_allParts_5 (by decide) ?_
  refine va_iald hx hb hK hP 2 0 rfl rfl (k_in (by decide +kernel)) dX12_allParts_7 ?_
  refine k_top (z := 0) (by rw [cl_102]; exact h0) ?_
  refine lv_ishl hx hb dX12_allParts_8 ?_
  refine k_top (z := 1) (by decide +kernel) ?_
  refine lv_iconst (v := 1) hx hb dX12_allParts_9 (by decide) ?_
  refine lv_isub hx hb dX12_allParts_10 ?_
  refine k_top (z := 0) (by decide +kernel) ?_
  exact kI_ret (v := 0) hx hb hr hlocks rfl hK hS dX12_allParts_11 () hP hD rfl
set_option maxHeartbeats 4000000 in
set_option maxRecDepth 100000 in
theorem c_allBuilders (l : Launch) {D : va_G} {K : Nat → ClassId} (o : Nat) (r : Nat → Nat) (f : Nat → Int32) (a : Nat → Nat → Int32) (g : Nat → Int64) (h0 : a 2 103 = 0)   : kI l yX12_allBuilders (Cond.code yX12_allBuilders cX12_allBuilders 1 (some .int) :: kG) (rmD 1 0 0) D (tysK K) [.ref o] (mW K o r f a g) (fun v (_ : Unit) => v = 0) (fun _ => mW K o r f a g) 0 0 := by
  refine kI.of (cc := cX12_allBuilders) (maxL := 1) (ret := (some .int)) (by decide) rfl (Nat.le_of_ble_eq_true rfl) ?_
  intro p e s m below meth c A hx hb hr hml hown hts hlocks hnm hK hP hD hS hA ls hl
  have hg : ∀ w ∈ kG, w.before _ s = true := fun w h => hts w (List.mem_cons_of_mem _ h)
  have hown : s.vm.findClass RX12 = some m.cls := hown
  have hl : lv_has ls 1 [(0, .ref o)] := hl
  refine lv_iconst (v := 1) hx hb dX12_allBuilders_0 (by decide) ?_
  refine lv_aload_n hx hb dX12_allBuilders_1 rfl (lv_at hl 0 rfl) ?_
  refine va_get (D := D) (ci := 12) (v := .ref (r 2)) (C := RX12) (T := TX12) (N := 48) hx hb hg inC12 hown hK hP 0 rfl rfl 2 (by decide) (hg _ wt5_162) (fun _ h9 => h9) rfl dX12_allBuilders_2 ?_
  refine lv_bipush (v := 103) hx hb dX12_allBuilders_5 (by decide) ?_
  refine va_iald hx hb hK hP 2 0 rfl rfl (k_in (by decide +kernel)) dX12_allBuilders_7 ?_
  refine k_top (z := 0) (by rw [cl_103]; exact h0) ?_
  refine lv_ishl hx hb dX12_allBuilders_8 ?_
  refine k_top (z := 1) (by decide +kernel) ?_
  refine lv_iconst (v := 1) hx hb dX12_allBuilders_9 (by decide) ?_
  refine lv_isub hx hb dX12_allBuilders_10 ?_
  refine k_top (z := 0) (by decide +kernel) ?_
  exact kI_ret (v := 0) hx hb hr hlocks rfl hK hS dX12_allBuilders_11 () hP hD rfl
set_option maxHeartbeats 4000000 in
set_option maxRecDepth 100000 in
theorem c_isPart (l : Launch) {D : va_G} {K : Nat → ClassId} (o : Nat) (r : Nat → Nat) (f : Nat → Int32) (a : Nat → Nat → Int32) (g : Nat → Int64) (h0 : a 2 102 = 0) (x : Int32)  : kI l yX12_isPart (Cond.code yX12_isPart cX12_isPart 2 (some .boolean) :: kG) (rmD 2 0 0) D (tysK K) [.ref o, .int x] (mW K o r f a g) (fun v (_ : Unit) => v = 0) (fun _ => mW K o r f a g) 0 0 := by
  refine kI.of (cc := cX12_isPart) (maxL := 2) (ret := (some .boolean)) (by decide) rfl (Nat.le_of_ble_eq_true rfl) ?_
  intro p e s m below meth c A hx hb hr hml hown hts hlocks hnm hK hP hD hS hA ls hl
  have hg : ∀ w ∈ kG, w.before _ s = true := fun w h => hts w (List.mem_cons_of_mem _ h)
  have hown : s.vm.findClass RX12 = some m.cls := hown
  have hl : lv_has ls 2 [(0, .ref o), (1, .int x)] := hl
  refine lv_iload_n hx hb dX12_isPart_0 rfl (lv_at hl 1 rfl) ?_
  refine lv_iconst (v := 0) hx hb dX12_isPart_1 (by decide) ?_
  refine lv_aload_n hx hb dX12_isPart_2 rfl (lv_at hl 0 rfl) ?_
  refine va_get (D := D) (ci := 12) (v := .ref (r 2)) (C := RX12) (T := TX12) (N := 48) hx hb hg inC12 hown hK hP 0 rfl rfl 2 (by decide) (hg _ wt5_162) (fun _ h9 => h9) rfl dX12_isPart_3 ?_
  refine lv_bipush (v := 102) hx hb dX12_isPart_6 (by decide) ?_
  refine va_iald hx hb hK hP 2 0 rfl rfl (k_in (by decide +kernel)) dX12_isPart_8 ?_
  refine k_top (z := 0) (by rw [cl_102]; exact h0) ?_
  refine lv_iconst (v := 1) hx hb dX12_isPart_9 (by decide) ?_
  refine lv_isub hx hb dX12_isPart_10 ?_
  refine k_top (z := (-1)) (by decide +kernel) ?_
  refine kN.callS (As := [.int x, .int 0, .int (-1)]) (rest := []) ⟨hx, hb, hml, hown, hg⟩ (c_lies l x 0 (-1)) (va_cwS 3 hg (kgS wt6_69 wt6_70 wt1_14 wt6_71) rfl rfl rfl (by decide +kernel) ⟨by decide, by decide⟩) hP hS rfl hl.1 rfl (Nat.le_of_ble_eq_true rfl) dX12_isPart_11 ⟨by decide, by decide⟩ (fun v2 H locs hw1 hP hS => ?_)
  refine k_top (z := 0) (hw1.trans (mLies_e (by decide +kernel))) ?_
  exact kI_ret (v := 0) hx hb hr hlocks (by decide +kernel) hK hS dX12_isPart_14 () hP hD rfl
set_option maxHeartbeats 4000000 in
set_option maxRecDepth 100000 in
theorem c_isBuilder (l : Launch) {D : va_G} {K : Nat → ClassId} (o : Nat) (r : Nat → Nat) (f : Nat → Int32) (a : Nat → Nat → Int32) (g : Nat → Int64) (h0 : a 2 103 = 0) (x : Int32)  : kI l yX12_isBuilder (Cond.code yX12_isBuilder cX12_isBuilder 2 (some .boolean) :: kG) (rmD 2 0 0) D (tysK K) [.ref o, .int x] (mW K o r f a g) (fun v (_ : Unit) => v = 0) (fun _ => mW K o r f a g) 0 0 := by
  refine kI.of (cc := cX12_isBuilder) (maxL := 2) (ret := (some .boolean)) (by decide) rfl (Nat.le_of_ble_eq_true rfl) ?_
  intro p e s m below meth c A hx hb hr hml hown hts hlocks hnm hK hP hD hS hA ls hl
  have hg : ∀ w ∈ kG, w.before _ s = true := fun w h => hts w (List.mem_cons_of_mem _ h)
  have hown : s.vm.findClass RX12 = some m.cls := hown
  have hl : lv_has ls 2 [(0, .ref o), (1, .int x)] := hl
  refine lv_iload_n hx hb dX12_isBuilder_0 rfl (lv_at hl 1 rfl) ?_
  refine lv_iconst (v := 0) hx hb dX12_isBuilder_1 (by decide) ?_
  refine lv_aload_n hx hb dX12_isBuilder_2 rfl (lv_at hl 0 rfl) ?_
  refine va_get (D := D) (ci := 12) (v := .ref (r 2)) (C := RX12) (T := TX12) (N := 48) hx hb hg inC12 hown hK hP 0 rfl rfl 2 (by decide) (hg _ wt5_162) (fun _ h9 => h9) rfl dX12_isBuilder_3 ?_
  refine lv_bipush (v := 103) hx hb dX12_isBuilder_6 (by decide) ?_
  refine va_iald hx hb hK hP 2 0 rfl rfl (k_in (by decide +kernel)) dX12_isBuilder_8 ?_
  refine k_top (z := 0) (by rw [cl_103]; exact h0) ?_
  refine lv_iconst (v := 1) hx hb dX12_isBuilder_9 (by decide) ?_
  refine lv_isub hx hb dX12_isBuilder_10 ?_
  refine k_top (z := (-1)) (by decide +kernel) ?_
  refine kN.callS (As := [.int x, .int 0, .int (-1)]) (rest := []) ⟨hx, hb, hml, hown, hg⟩ (c_lies l x 0 (-1)) (va_cwS 3 hg (kgS wt6_69 wt6_70 wt1_14 wt6_71) rfl rfl rfl (by decide +kernel) ⟨by decide, by decide⟩) hP hS rfl hl.1 rfl (Nat.le_of_ble_eq_true rfl) dX12_isBuilder_11 ⟨by decide, by decide⟩ (fun v2 H locs hw1 hP hS => ?_)
  refine k_top (z := 0) (hw1.trans (mLies_e (by decide +kernel))) ?_
  exact kI_ret (v := 0) hx hb hr hlocks (by decide +kernel) hK hS dX12_isBuilder_14 () hP hD rfl
set_option maxHeartbeats 4000000 in
set_option maxRecDepth 100000 in
theorem c_good (l : Launch) {D : va_G} {K : Nat → ClassId} (o : Nat) (r : Nat → Nat) (f : Nat → Int32) (a : Nat → Nat → Int32) (g : Nat → Int64)  (x : Int32)  : kI l yX12_good (Cond.code yX12_good cX12_good 2 (some .int) :: kG) (rmD 1 0 0) D (tysK K) [.ref o, .int x] (mW K o r f a g) (fun v (u : mS) => v = x) (fun u => mW K o r u.1 u.2.1 u.2.2) 0 0 := by
  refine kI.of (cc := cX12_good) (maxL := 2) (ret := (some .int)) (by decide) rfl (Nat.le_of_ble_eq_true rfl) ?_
  intro p e s m below meth c A hx hb hr hml hown hts hlocks hnm hK hP hD hS hA ls hl
  have hg : ∀ w ∈ kG, w.before _ s = true := fun w h => hts w (List.mem_cons_of_mem _ h)
  have hown : s.vm.findClass RX12 = some m.cls := hown
  have hl : lv_has ls 2 [(0, .ref o), (1, .int x)] := hl
  refine lv_aload_n hx hb dX12_good_0 rfl (lv_at hl 0 rfl) ?_
  refine lv_iconst (v := 0) hx hb dX12_good_1 (by decide) ?_
  refine va_put (D := D) (ci := 12) (v := .int 0) (ty := .int) (C := RX12) (T := TX12) (N := 48) hx hb hg inC12 tyX12 tyX12_ok nmX12 hown hK hP hD hS 0 rfl rfl 0 (by decide) (hg _ wt5_160) (fun _ h9 => h9) rfl (by decide +kernel) rfl rfl (Nat.le_of_ble_eq_true rfl) dX12_good_2 (fun H locs hP hD hS => ?_)
  have hP : va_P D vwCl (mW K o r (upd f 0 0) a g) H := hP
  have hD : va_D A (mW K o r (upd f 0 0) a g) := hD
  refine k_gen (P := fun z => va_P D vwCl (mW K o r z a g) H ∧ va_D A (mW K o r z a g)) (upd f 0 0) ⟨hP, hD⟩ (fun f_1 ef_1 hPD => ?_)
  have hP := hPD.1
  have hD := hPD.2
  refine lv_iload_n hx hb dX12_good_5 rfl (lv_at hl 1 rfl) ?_
  exact kI_ret (v := x) hx hb hr hlocks rfl hK hS dX12_good_6 (f_1, a, g) hP hD rfl
set_option maxHeartbeats 4000000 in
set_option maxRecDepth 100000 in
theorem c_settled (l : Launch) {D : va_G} {K : Nat → ClassId} (o : Nat) (r : Nat → Nat) (f : Nat → Int32) (a : Nat → Nat → Int32) (g : Nat → Int64)  (x : Int32)  : kI l yX12_settled (Cond.code yX12_settled cX12_settled 2 (some .int) :: kG) (rmD 2 0 0) D (tysK K) [.ref o, .int x] (mW K o r f a g) (fun v (u : mS) => v = x) (fun u => mW K o r u.1 u.2.1 u.2.2) 0 0 := by
  refine kI.of (cc := cX12_settled) (maxL := 2) (ret := (some .int)) (by decide) rfl (Nat.le_of_ble_eq_true rfl) ?_
  intro p e s m below meth c A hx hb hr hml hown hts hlocks hnm hK hP hD hS hA ls hl
  have hg : ∀ w ∈ kG, w.before _ s = true := fun w h => hts w (List.mem_cons_of_mem _ h)
  have hown : s.vm.findClass RX12 = some m.cls := hown
  have hl : lv_has ls 2 [(0, .ref o), (1, .int x)] := hl
  refine lv_aload_n hx hb dX12_settled_0 rfl (lv_at hl 0 rfl) ?_
  refine lv_iconst (v := 0) hx hb dX12_settled_1 (by decide) ?_
  refine va_put (D := D) (ci := 12) (v := .int 0) (ty := .int) (C := RX12) (T := TX12) (N := 48) hx hb hg inC12 tyX12 tyX12_ok nmX12 hown hK hP hD hS 0 rfl rfl 33 (by decide) (hg _ wt5_193) (fun _ h9 => h9) rfl (by decide +kernel) rfl rfl (Nat.le_of_ble_eq_true rfl) dX12_settled_2 (fun H locs hP hD hS => ?_)
  have hP : va_P D vwCl (mW K o r (upd f 33 0) a g) H := hP
  have hD : va_D A (mW K o r (upd f 33 0) a g) := hD
  refine k_gen (P := fun z => va_P D vwCl (mW K o r z a g) H ∧ va_D A (mW K o r z a g)) (upd f 33 0) ⟨hP, hD⟩ (fun f_1 ef_1 hPD => ?_)
  have hP := hPD.1
  have hD := hPD.2
  refine lv_aload_n hx hb dX12_settled_5 rfl (lv_at hl 0 rfl) ?_
  refine lv_iload_n hx hb dX12_settled_6 rfl (lv_at hl 1 rfl) ?_
  refine kI.callV (As := [.int x]) (rest := []) ⟨hx, hb, hml, hown, hg⟩ (c_good l o r f_1 a g  x) (cwV 1 hg (kgV wt6_76 wt6_78 wp3_6 wt1_14 wt6_79) rfl rfl rfl (by decide +kernel) ⟨by decide, by decide⟩) hK hP hD hS hA mIs [] rfl (wr := []) rfl rfl rfl (fun i h => by cases h) 0 12 rfl rfl rfl hl.1 rfl (Nat.le_of_ble_eq_true rfl) dX12_settled_7 ⟨by decide, by decide⟩ (fun v4 u3 H locs hw2 hP hD hS => ?_)
  obtain ⟨f5, a6, g7⟩ := u3
  have hP : va_P D vwCl (mW K o r f5 a6 g7) H := hP
  have hD : va_D A (mW K o r f5 a6 g7) := hD
  refine k_top (z := x) hw2 ?_
  exact kI_ret (v := x) hx hb hr hlocks rfl hK hS dX12_settled_10 (f5, a6, g7) hP hD rfl
