/-! where the two begin -/
theorem fI_z : fI xBf (fun _ => 0) := by
  intro i
  show (xBf i).1 ≤ (0 : Int32).toInt ∧ (0 : Int32).toInt ≤ (xBf i).2
  unfold xBf
  repeat' split
  all_goals exact ⟨by decide +kernel, by decide +kernel⟩
theorem aI_z : aI xBa (fun _ _ => 0) := by
  intro s i
  show (xBa s i).1 ≤ (0 : Int32).toInt ∧ (0 : Int32).toInt ≤ (xBa s i).2
  unfold xBa
  split
  all_goals exact ⟨by decide +kernel, by decide +kernel⟩
theorem xf0_ok : fI xBf xf0 := by
  unfold xf0
  refine fI_st ?_ 1906 (kb_any _) (by decide) (by decide)
  refine fI_st ?_ 1858 (kb_any _) (by decide) (by decide)
  refine fI_st ?_ 850 (kb_any _) (by decide) (by decide)
  refine fI_st ?_ 807 (kb_any _) (by decide) (by decide)
  refine fI_st ?_ 50 (kb_any _) (by decide) (by decide)
  refine fI_st ?_ 15 (kb_any _) (by decide) (by decide)
  refine fI_st ?_ 13 (kb_any _) (by decide) (by decide)
  exact fI_z
theorem xI_z : xI xf0 xa0 := by
  unfold xa0
  exact xI_a (xI_a (xI_a (xI_a ⟨xf0_ok, aI_z⟩ (by decide)) (by decide)) (by decide)) (by decide)
theorem rJ_z {K : Nat → ClassId} {ef : Nat → Int32} {ea : Nat → Nat → Int32} (h : mI ef ea ∧ ef 13 = 0 ∧ ef 6 = 0 ∧ ea 11 = (fun _ => 0) ∧ ea 4 0 = 0 ∧ ea 4 1 = 0 ∧ ef 14 = -1 ∧ ef 37 = -1 ∧ ef 0 = 0 ∧ ef 33 = 0 ∧ ea 1 = (fun _ => 0) ∧ kQe kz (ea 2)) : rJ K xf0 xa0 xg0 none none [] ef ea := by
  obtain ⟨hM, h13, h6, h11, h40, h41, h14, h37, h0, h33, h1, hk⟩ := h
  have hK := kQe_kK hk kK_z
  have z0 : (0 : Int32).toInt = 0 := by decide +kernel
  have e5 : ea 2 105 = 0 := (hk 105 (by decide)).trans (by decide +kernel)
  have e22 : ea 2 22 = 0 := (hk 22 (by decide)).trans (by decide +kernel)
  have hV : sV 32 2 xf0 xa0 kz := ⟨by decide +kernel, by decide +kernel, by decide +kernel, by decide +kernel, by decide +kernel⟩
  refine ⟨xI_z, fun _ _ _ => Or.inl rfl, trivial, trivial, rfl, rfl, hM, (show xf0 12 = 0 from by decide +kernel).trans h13.symm, ⟨⟨fun _ => h40, fun _ => rfl⟩, ⟨fun _ => h41, fun _ => rfl⟩⟩, ⟨(show xa0 93 = fun _ => 0 from rfl).trans h11.symm, fun j => by rw [h11]; show kb (-128) 0 127; exact ⟨by decide +kernel, by decide +kernel⟩⟩, (show xf0 14 = 0 from by decide +kernel).trans h6.symm, (show xf0 13 = -1 from by decide +kernel).trans h14.symm, (show xf0 15 = -1 from by decide +kernel).trans h37.symm, (show xf0 16 = 0 from by decide +kernel).trans h0.symm, ?_, ?_, rlI_n, rlI_n⟩
  · rw [h1]; exact ⟨by decide +kernel, by decide +kernel, by decide +kernel, by decide +kernel, by decide +kernel⟩
  · refine ⟨fun _ => (0, fun _ => 0, fun _ => 0, fun _ => 0, fun _ _ => none, fun _ _ => none, fun _ _ => none), (0, fun _ => 0, fun _ _ => 0), sV_ce hV hk, hK, ?_, ?_, ?_, ?_, ?_, ?_⟩
    · rw [e22, z0]; decide
    · intro t ht; rw [e5, z0] at ht; omega
    · intro t ht; rw [e5, z0] at ht; omega
    · exact ⟨by decide +kernel, by decide, by decide +kernel, by decide +kernel, fun j hj => absurd hj (Nat.not_lt_zero j)⟩
    · exact ⟨by rw [h33]; decide +kernel, by decide, fun j hj => absurd hj (Nat.not_lt_zero j)⟩
    · exact fun j hj => absurd hj (Nat.not_lt_zero j)
theorem ll_toInt {L : Nat} (h : L ≤ 3072) : (Int32.ofNat L - 6).toInt = (L : Int) - 6 := by
  have e : (Int32.ofNat L).toInt = (L : Int) := nI_toInt (n := L) (by omega)
  have e6 : (6 : Int32).toInt = 6 := by decide +kernel
  have b1 : kb 0 (Int32.ofNat L) 3072 := ⟨by rw [e]; omega, by rw [e]; omega⟩
  have b2 : kb 6 (6 : Int32) 6 := ⟨by rw [e6]; omega, by rw [e6]; omega⟩
  rw [kt_sub b1 b2 (by decide) (by decide), e, e6]
theorem ll_next {i : Int32} {ii : Nat} (hi : i.toInt = (ii : Int)) (h : ii ≤ 3072) : (i + Int32.ofInt 6).toInt = ((ii + 6 : Nat) : Int) := by
  have e6 : (Int32.ofInt 6).toInt = 6 := by decide +kernel
  have b1 : kb 0 i 3072 := ⟨by rw [hi]; omega, by rw [hi]; omega⟩
  have b2 : kb 6 (Int32.ofInt 6) 6 := ⟨by rw [e6]; omega, by rw [e6]; omega⟩
  rw [kt_add b1 b2 (by decide) (by decide), hi, e6]
  omega
theorem dL_law_0 : decode cL_law 0 = .ok (.new 7, 3) := by decide +kernel
theorem dL_law_3 : decode cL_law 3 = .ok (.dup, 1) := by decide +kernel
theorem dL_law_4 : decode cL_law 4 = .ok (.invokespecial 9, 3) := by decide +kernel
theorem dL_law_7 : decode cL_law 7 = .ok (.astore_n 1, 1) := by decide +kernel
theorem dL_law_8 : decode cL_law 8 = .ok (.new 10, 3) := by decide +kernel
theorem dL_law_11 : decode cL_law 11 = .ok (.dup, 1) := by decide +kernel
theorem dL_law_12 : decode cL_law 12 = .ok (.invokespecial 12, 3) := by decide +kernel
theorem dL_law_15 : decode cL_law 15 = .ok (.astore_n 2, 1) := by decide +kernel
theorem dL_law_16 : decode cL_law 16 = .ok (.iconst 0, 1) := by decide +kernel
theorem dL_law_17 : decode cL_law 17 = .ok (.istore_n 3, 1) := by decide +kernel
theorem dL_law_18 : decode cL_law 18 = .ok (.iload_n 3, 1) := by decide +kernel
theorem dL_law_19 : decode cL_law 19 = .ok (.aload_n 0, 1) := by decide +kernel
theorem dL_law_20 : decode cL_law 20 = .ok (.arraylength, 1) := by decide +kernel
theorem dL_law_21 : decode cL_law 21 = .ok (.bipush 6, 2) := by decide +kernel
theorem dL_law_23 : decode cL_law 23 = .ok (.isub, 1) := by decide +kernel
theorem dL_law_24 : decode cL_law 24 = .ok (.if_icmp .gt 1109, 3) := by decide +kernel
theorem dL_law_27 : decode cL_law 27 = .ok (.aload_n 0, 1) := by decide +kernel
theorem dL_law_28 : decode cL_law 28 = .ok (.iload_n 3, 1) := by decide +kernel
theorem dL_law_29 : decode cL_law 29 = .ok (.iaload, 1) := by decide +kernel
theorem dL_law_30 : decode cL_law 30 = .ok (.bipush 63, 2) := by decide +kernel
theorem dL_law_32 : decode cL_law 32 = .ok (.iand, 1) := by decide +kernel
theorem dL_law_33 : decode cL_law 33 = .ok (.tableswitch 1094 0 36 #[163, 216, 249, 282, 315, 358, 391, 454, 477, 490, 503, 516, 529, 542, 555, 578, 601, 634, 657, 680, 693, 706, 719, 752, 775, 798, 821, 844, 887, 900, 923, 946, 979, 1012, 1035, 1058, 1081], 163) := by decide +kernel
theorem dL_law_1127 : decode cL_law 1127 = .ok (.iinc 3 6, 3) := by decide +kernel
theorem dL_law_1130 : decode cL_law 1130 = .ok (.goto (-1112), 3) := by decide +kernel
theorem dL_law_1133 : decode cL_law 1133 = .ok (.iconst 1, 1) := by decide +kernel
theorem dL_law_1134 : decode cL_law 1134 = .ok (.ireturn, 1) := by decide +kernel
theorem wt1_22 : Cond.classLink RL 7 RX11 ∈ kG := kt1 22 rfl rfl
theorem wt1_26 : Cond.code yX11_init cX11_init 1 none ∈ kG := kt1 26 rfl rfl
theorem wt1_24 : Cond.methodLink RL 9 yX11_init ∈ kG := kt1 24 rfl rfl
theorem wt1_25 : Cond.instanceMethod yX11_init ∈ kG := kt1 25 rfl rfl
theorem wt5_154 : Cond.classLink RL 10 RX12 ∈ kG := kt5 154 rfl rfl
theorem wt5_158 : Cond.code yX12_init cX12_init 2 none ∈ kG := kt5 158 rfl rfl
theorem wt5_156 : Cond.methodLink RL 12 yX12_init ∈ kG := kt5 156 rfl rfl
theorem wt5_157 : Cond.instanceMethod yX12_init ∈ kG := kt5 157 rfl rfl
set_option maxHeartbeats 4000000 in
set_option maxRecDepth 100000 in
theorem law_loop {p : Program} {e : Env} {s : State} {m : MethodId} {below : List Frame} {meth : Method} {c : Code} (l : Launch) {b L : Nat} {xs : Nat → Int32} (C0 : lw_At p s m meth c b L xs) (hL2 : L ≤ 3072) {D : va_G} {K : Nat → ClassId} (hK : va_K D vwCl (tysK K) s) (hV : xE K (fun q : Nat => s.heap.size ≤ q) s s.heap) {u : Nat → Nat} {o : Nat} {r : Nat → Nat} (n : Nat) : ∀ (j : Nat) (f : Nat → Int32) (a : Nat → Nat → Int32) (g : xG) (i0 i1 : Option sX) (tt : va_W) (ef : Nat → Int32) (ea : Nat → Nat → Int32) (eg : Nat → Int64) (i : Int32) (H : Heap) (locs : List Loc) (ls : Array Slot), rJ K f a g i0 i1 tt ef ea → i.toInt = ((6 * j : Nat) : Int) → 6 * j ≤ L → L < 6 * j + n → va_P D vwCl (lWd K u f a g i0 i1 tt o r ef ea eg) H → va_D (fun q : Nat => s.heap.size ≤ q) (lWd K u f a g i0 i1 tt o r ef ea eg) → va_S (fun q : Nat => s.heap.size ≤ q) s.heap H locs → lv_has ls 4 [(3, .int i), (2, .ref o), (1, .ref (u 0)), (0, .ref b)] → W p l e room_1 s m #[Value.ref b] below meth c H locs (117 + 21 * j) (26266 + 467 * j) (lw_Z below #[Value.ref b] s) (F0 m 18 ls []) := by
  obtain ⟨hx, hb, hr, hml, hown, hts, hX, hbl, hlocks, hgv⟩ := id C0
  have hA : ∀ q : Nat, s.heap.size ≤ q → (fun q : Nat => s.heap.size ≤ q) q := fun _ h => h
  have hbA : ¬ (fun q : Nat => s.heap.size ≤ q) b := Nat.not_le.mpr hbl
  have hg : ∀ w ∈ kG, w.before #[Value.ref b] s = true := fun w h => hts w (kG_in w h)
  have hown : s.vm.findClass RL = some m.cls := hown
  induction n with
  | zero => intro j f a g i0 i1 tt ef ea eg i H locs ls hJ hi h6 hn; omega
  | succ n ih =>
    intro j f a g i0 i1 tt ef ea eg i H locs ls hJ hi h6 hn hP hD hS hl
    refine lv_iload_n hx hb dL_law_18 rfl (lv_at hl 0 rfl) ?_
    refine lv_aload_n hx hb dL_law_19 rfl (lv_at hl 3 rfl) ?_
    refine va_slen hx hb hX hbl hbA hS dL_law_20 ?_
    refine lv_bipush (v := 6) hx hb dL_law_21 (by decide) ?_
    refine lv_isub hx hb dL_law_23 ?_
    refine lv_icmp_gt (tgt := 1133) hx hb dL_law_24 (by decide) (fun c1 => ?_) (fun c1 => ?_)
    · refine lv_iconst (v := 1) hx hb dL_law_1133 (by decide) ?_
      refine va_forget (fun q hq => hS.2.2 q hq) ?_
      refine W.widen (k := 600000) (n := 7302250) (by omega) (by omega) ?_
      exact lw_ret hx hb hr hlocks dL_law_1134
    · have hL : 6 * j + 6 ≤ L := by
        have q := kc_nlt c1
        rw [ll_toInt hL2, hi] at q
        omega
      have kk : ∀ (f : Nat → Int32) (a : Nat → Nat → Int32) (g : xG) (i0 i1 : Option sX) (tt : va_W) (ef : Nat → Int32) (ea : Nat → Nat → Int32) (eg : Nat → Int64) (H : Heap) (locs : List Loc), rJ K f a g i0 i1 tt ef ea → va_P D vwCl (lWd K u f a g i0 i1 tt o r ef ea eg) H → va_D (fun q : Nat => s.heap.size ≤ q) (lWd K u f a g i0 i1 tt o r ef ea eg) → va_S (fun q : Nat => s.heap.size ≤ q) s.heap H locs → W p l e room_1 s m #[Value.ref b] below meth c H locs (117 + 21 * j + 21) (26266 + 467 * j + 467) (lw_Z below #[Value.ref b] s) (F0 m 1127 ls []) := by
        intro f a g i0 i1 tt ef ea eg H locs hJ hP hD hS
        refine lv_iinc (v := i + Int32.ofInt 6) (lv' := [(3, .int (i + Int32.ofInt 6)), (2, .ref o), (1, .ref (u 0)), (0, .ref b)]) hx hb dL_law_1127 hl (k := 0) rfl rfl (by decide) rfl (fun ls2 hl2 => ?_)
        refine lv_goto (tgt := 18) hx hb dL_law_1130 (by decide) ?_
        have q := ih (j + 1) f a g i0 i1 tt ef ea eg (i + Int32.ofInt 6) H locs ls2 hJ (by rw [ll_next hi (by omega)]; rfl) (by omega) (by omega) hP hD hS hl2
        rw [show 117 + 21 * (j + 1) = 117 + 21 * j + 21 by omega, show 26266 + 467 * (j + 1) = 26266 + 467 * j + 467 by omega] at q
        exact q
      refine lv_aload_n hx hb dL_law_27 rfl (lv_at hl 3 rfl) ?_
      refine lv_iload_n hx hb dL_law_28 rfl (lv_at hl 0 rfl) ?_
      refine va_sld hx hb hX hbl hbA hS (kb_inn (by omega) (by omega)) dL_law_29 ?_
      refine lv_bipush (v := 63) hx hb dL_law_30 (by decide) ?_
      refine lv_iand hx hb dL_law_32 ?_
      refine lv_topi (fun t et => ?_)
      have hc0 : 117 + 21 * j + 21 ≤ 600000 := by omega
      have hs0 : 26266 + 467 * j + 467 ≤ 7302250 := by omega
      by_cases q0 : t = 0
      · refine lv_tableIn (tgt := 196) hx hb dL_law_33 (by rw [q0]; decide +kernel) (by rw [q0]; decide +kernel) (by rw [q0]; rfl) (by decide) ?_
        exact law_part l C0 hL2 hK hV hJ hi hL hc0 hs0 hP hD hS hl kk
      by_cases q1 : t = 1
      · refine lv_tableIn (tgt := 249) hx hb dL_law_33 (by rw [q1]; decide +kernel) (by rw [q1]; decide +kernel) (by rw [q1]; rfl) (by decide) ?_
        exact law_of l C0 hL2 hK hV hJ hi hL hc0 hs0 hP hD hS hl kk
      by_cases q2 : t = 2
      · refine lv_tableIn (tgt := 282) hx hb dL_law_33 (by rw [q2]; decide +kernel) (by rw [q2]; decide +kernel) (by rw [q2]; rfl) (by decide) ?_
        exact law_builder l C0 hL2 hK hV hJ hi hL hc0 hs0 hP hD hS hl kk
      by_cases q3 : t = 3
      · refine lv_tableIn (tgt := 315) hx hb dL_law_33 (by rw [q3]; decide +kernel) (by rw [q3]; decide +kernel) (by rw [q3]; rfl) (by decide) ?_
        exact law_at l C0 hL2 hK hV hJ hi hL hc0 hs0 hP hD hS hl kk
      by_cases q4 : t = 4
      · refine lv_tableIn (tgt := 348) hx hb dL_law_33 (by rw [q4]; decide +kernel) (by rw [q4]; decide +kernel) (by rw [q4]; rfl) (by decide) ?_
        exact law_asks l C0 hL2 hK hV hJ hi hL hc0 hs0 hP hD hS hl kk
      by_cases q5 : t = 5
      · refine lv_tableIn (tgt := 391) hx hb dL_law_33 (by rw [q5]; decide +kernel) (by rw [q5]; decide +kernel) (by rw [q5]; rfl) (by decide) ?_
        exact law_terms l C0 hL2 hK hV hJ hi hL hc0 hs0 hP hD hS hl kk
      by_cases q6 : t = 6
      · refine lv_tableIn (tgt := 424) hx hb dL_law_33 (by rw [q6]; decide +kernel) (by rw [q6]; decide +kernel) (by rw [q6]; rfl) (by decide) ?_
        exact law_feed l C0 hL2 hK hV hJ hi hL hc0 hs0 hP hD hS hl kk
      by_cases q7 : t = 7
      · refine lv_tableIn (tgt := 487) hx hb dL_law_33 (by rw [q7]; decide +kernel) (by rw [q7]; decide +kernel) (by rw [q7]; rfl) (by decide) ?_
        exact law_end l C0 hL2 hK hV hJ hi hL hc0 hs0 hP hD hS hl kk
      by_cases q8 : t = 8
      · refine lv_tableIn (tgt := 510) hx hb dL_law_33 (by rw [q8]; decide +kernel) (by rw [q8]; decide +kernel) (by rw [q8]; rfl) (by decide) ?_
        exact law_row l C0 hL2 hK hV hJ hi hL hc0 hs0 hP hD hS hl kk
      by_cases q9 : t = 9
      · refine lv_tableIn (tgt := 523) hx hb dL_law_33 (by rw [q9]; decide +kernel) (by rw [q9]; decide +kernel) (by rw [q9]; rfl) (by decide) ?_
        exact law_chaff l C0 hL2 hK hV hJ hi hL hc0 hs0 hP hD hS hl kk
      by_cases q10 : t = 10
      · refine lv_tableIn (tgt := 536) hx hb dL_law_33 (by rw [q10]; decide +kernel) (by rw [q10]; decide +kernel) (by rw [q10]; rfl) (by decide) ?_
        exact law_law l C0 hL2 hK hV hJ hi hL hc0 hs0 hP hD hS hl kk
      by_cases q11 : t = 11
      · refine lv_tableIn (tgt := 549) hx hb dL_law_33 (by rw [q11]; decide +kernel) (by rw [q11]; decide +kernel) (by rw [q11]; rfl) (by decide) ?_
        exact law_orders l C0 hL2 hK hV hJ hi hL hc0 hs0 hP hD hS hl kk
      by_cases q12 : t = 12
      · refine lv_tableIn (tgt := 562) hx hb dL_law_33 (by rw [q12]; decide +kernel) (by rw [q12]; decide +kernel) (by rw [q12]; rfl) (by decide) ?_
        exact law_fault l C0 hL2 hK hV hJ hi hL hc0 hs0 hP hD hS hl kk
      by_cases q13 : t = 13
      · refine lv_tableIn (tgt := 575) hx hb dL_law_33 (by rw [q13]; decide +kernel) (by rw [q13]; decide +kernel) (by rw [q13]; rfl) (by decide) ?_
        exact law_stopped l C0 hL2 hK hV hJ hi hL hc0 hs0 hP hD hS hl kk
      by_cases q14 : t = 14
      · refine lv_tableIn (tgt := 588) hx hb dL_law_33 (by rw [q14]; decide +kernel) (by rw [q14]; decide +kernel) (by rw [q14]; rfl) (by decide) ?_
        exact law_force l C0 hL2 hK hV hJ hi hL hc0 hs0 hP hD hS hl kk
      by_cases q15 : t = 15
      · refine lv_tableIn (tgt := 611) hx hb dL_law_33 (by rw [q15]; decide +kernel) (by rw [q15]; decide +kernel) (by rw [q15]; rfl) (by decide) ?_
        exact law_stands l C0 hL2 hK hV hJ hi hL hc0 hs0 hP hD hS hl kk
      by_cases q16 : t = 16
      · refine lv_tableIn (tgt := 634) hx hb dL_law_33 (by rw [q16]; decide +kernel) (by rw [q16]; decide +kernel) (by rw [q16]; rfl) (by decide) ?_
        exact law_send l C0 hL2 hK hV hJ hi hL hc0 hs0 hP hD hS hl kk
      by_cases q17 : t = 17
      · refine lv_tableIn (tgt := 667) hx hb dL_law_33 (by rw [q17]; decide +kernel) (by rw [q17]; decide +kernel) (by rw [q17]; rfl) (by decide) ?_
        exact law_rest l C0 hL2 hK hV hJ hi hL hc0 hs0 hP hD hS hl kk
      by_cases q18 : t = 18
      · refine lv_tableIn (tgt := 690) hx hb dL_law_33 (by rw [q18]; decide +kernel) (by rw [q18]; decide +kernel) (by rw [q18]; rfl) (by decide) ?_
        exact law_throwDown l C0 hL2 hK hV hJ hi hL hc0 hs0 hP hD hS hl kk
      by_cases q19 : t = 19
      · refine lv_tableIn (tgt := 713) hx hb dL_law_33 (by rw [q19]; decide +kernel) (by rw [q19]; decide +kernel) (by rw [q19]; rfl) (by decide) ?_
        exact law_tick l C0 hL2 hK hV hJ hi hL hc0 hs0 hP hD hS hl kk
      by_cases q20 : t = 20
      · refine lv_tableIn (tgt := 726) hx hb dL_law_33 (by rw [q20]; decide +kernel) (by rw [q20]; decide +kernel) (by rw [q20]; rfl) (by decide) ?_
        exact law_undo l C0 hL2 hK hV hJ hi hL hc0 hs0 hP hD hS hl kk
      by_cases q21 : t = 21
      · refine lv_tableIn (tgt := 739) hx hb dL_law_33 (by rw [q21]; decide +kernel) (by rw [q21]; decide +kernel) (by rw [q21]; rfl) (by decide) ?_
        exact law_longest l C0 hL2 hK hV hJ hi hL hc0 hs0 hP hD hS hl kk
      by_cases q22 : t = 22
      · refine lv_tableIn (tgt := 752) hx hb dL_law_33 (by rw [q22]; decide +kernel) (by rw [q22]; decide +kernel) (by rw [q22]; rfl) (by decide) ?_
        exact law_rows l C0 hL2 hK hV hJ hi hL hc0 hs0 hP hD hS hl kk
      by_cases q23 : t = 23
      · refine lv_tableIn (tgt := 785) hx hb dL_law_33 (by rw [q23]; decide +kernel) (by rw [q23]; decide +kernel) (by rw [q23]; rfl) (by decide) ?_
        exact law_plan l C0 hL2 hK hV hJ hi hL hc0 hs0 hP hD hS hl kk
      by_cases q24 : t = 24
      · refine lv_tableIn (tgt := 808) hx hb dL_law_33 (by rw [q24]; decide +kernel) (by rw [q24]; decide +kernel) (by rw [q24]; rfl) (by decide) ?_
        exact law_hands l C0 hL2 hK hV hJ hi hL hc0 hs0 hP hD hS hl kk
      by_cases q25 : t = 25
      · refine lv_tableIn (tgt := 831) hx hb dL_law_33 (by rw [q25]; decide +kernel) (by rw [q25]; decide +kernel) (by rw [q25]; rfl) (by decide) ?_
        exact law_taught l C0 hL2 hK hV hJ hi hL hc0 hs0 hP hD hS hl kk
      by_cases q26 : t = 26
      · refine lv_tableIn (tgt := 854) hx hb dL_law_33 (by rw [q26]; decide +kernel) (by rw [q26]; decide +kernel) (by rw [q26]; rfl) (by decide) ?_
        exact law_unseen l C0 hL2 hK hV hJ hi hL hc0 hs0 hP hD hS hl kk
      by_cases q27 : t = 27
      · refine lv_tableIn (tgt := 877) hx hb dL_law_33 (by rw [q27]; decide +kernel) (by rw [q27]; decide +kernel) (by rw [q27]; rfl) (by decide) ?_
        exact law_sight l C0 hL2 hK hV hJ hi hL hc0 hs0 hP hD hS hl kk
      by_cases q28 : t = 28
      · refine lv_tableIn (tgt := 920) hx hb dL_law_33 (by rw [q28]; decide +kernel) (by rw [q28]; decide +kernel) (by rw [q28]; rfl) (by decide) ?_
        exact law_forget l C0 hL2 hK hV hJ hi hL hc0 hs0 hP hD hS hl kk
      by_cases q29 : t = 29
      · refine lv_tableIn (tgt := 933) hx hb dL_law_33 (by rw [q29]; decide +kernel) (by rw [q29]; decide +kernel) (by rw [q29]; rfl) (by decide) ?_
        exact law_whose l C0 hL2 hK hV hJ hi hL hc0 hs0 hP hD hS hl kk
      by_cases q30 : t = 30
      · refine lv_tableIn (tgt := 956) hx hb dL_law_33 (by rw [q30]; decide +kernel) (by rw [q30]; decide +kernel) (by rw [q30]; rfl) (by decide) ?_
        exact law_look l C0 hL2 hK hV hJ hi hL hc0 hs0 hP hD hS hl kk
      by_cases q31 : t = 31
      · refine lv_tableIn (tgt := 979) hx hb dL_law_33 (by rw [q31]; decide +kernel) (by rw [q31]; decide +kernel) (by rw [q31]; rfl) (by decide) ?_
        exact law_nights l C0 hL2 hK hV hJ hi hL hc0 hs0 hP hD hS hl kk
      by_cases q32 : t = 32
      · refine lv_tableIn (tgt := 1012) hx hb dL_law_33 (by rw [q32]; decide +kernel) (by rw [q32]; decide +kernel) (by rw [q32]; rfl) (by decide) ?_
        exact law_drawn l C0 hL2 hK hV hJ hi hL hc0 hs0 hP hD hS hl kk
      by_cases q33 : t = 33
      · refine lv_tableIn (tgt := 1045) hx hb dL_law_33 (by rw [q33]; decide +kernel) (by rw [q33]; decide +kernel) (by rw [q33]; rfl) (by decide) ?_
        exact law_image l C0 hL2 hK hV hJ hi hL hc0 hs0 hP hD hS hl kk
      by_cases q34 : t = 34
      · refine lv_tableIn (tgt := 1068) hx hb dL_law_33 (by rw [q34]; decide +kernel) (by rw [q34]; decide +kernel) (by rw [q34]; rfl) (by decide) ?_
        exact law_back l C0 hL2 hK hV hJ hi hL hc0 hs0 hP hD hS hl kk
      by_cases q35 : t = 35
      · refine lv_tableIn (tgt := 1091) hx hb dL_law_33 (by rw [q35]; decide +kernel) (by rw [q35]; decide +kernel) (by rw [q35]; rfl) (by decide) ?_
        exact law_count l C0 hL2 hK hV hJ hi hL hc0 hs0 hP hD hS hl kk
      by_cases q36 : t = 36
      · refine lv_tableIn (tgt := 1114) hx hb dL_law_33 (by rw [q36]; decide +kernel) (by rw [q36]; decide +kernel) (by rw [q36]; rfl) (by decide) ?_
        exact law_status l C0 hL2 hK hV hJ hi hL hc0 hs0 hP hD hS hl kk
      refine lv_tableOut (tgt := 1127) hx hb dL_law_33 (by have g0 := lv_neT q0 (a := 0) (by decide +kernel); have g1 := lv_neT q1 (a := 1) (by decide +kernel); have g2 := lv_neT q2 (a := 2) (by decide +kernel); have g3 := lv_neT q3 (a := 3) (by decide +kernel); have g4 := lv_neT q4 (a := 4) (by decide +kernel); have g5 := lv_neT q5 (a := 5) (by decide +kernel); have g6 := lv_neT q6 (a := 6) (by decide +kernel); have g7 := lv_neT q7 (a := 7) (by decide +kernel); have g8 := lv_neT q8 (a := 8) (by decide +kernel); have g9 := lv_neT q9 (a := 9) (by decide +kernel); have g10 := lv_neT q10 (a := 10) (by decide +kernel); have g11 := lv_neT q11 (a := 11) (by decide +kernel); have g12 := lv_neT q12 (a := 12) (by decide +kernel); have g13 := lv_neT q13 (a := 13) (by decide +kernel); have g14 := lv_neT q14 (a := 14) (by decide +kernel); have g15 := lv_neT q15 (a := 15) (by decide +kernel); have g16 := lv_neT q16 (a := 16) (by decide +kernel); have g17 := lv_neT q17 (a := 17) (by decide +kernel); have g18 := lv_neT q18 (a := 18) (by decide +kernel); have g19 := lv_neT q19 (a := 19) (by decide +kernel); have g20 := lv_neT q20 (a := 20) (by decide +kernel); have g21 := lv_neT q21 (a := 21) (by decide +kernel); have g22 := lv_neT q22 (a := 22) (by decide +kernel); have g23 := lv_neT q23 (a := 23) (by decide +kernel); have g24 := lv_neT q24 (a := 24) (by decide +kernel); have g25 := lv_neT q25 (a := 25) (by decide +kernel); have g26 := lv_neT q26 (a := 26) (by decide +kernel); have g27 := lv_neT q27 (a := 27) (by decide +kernel); have g28 := lv_neT q28 (a := 28) (by decide +kernel); have g29 := lv_neT q29 (a := 29) (by decide +kernel); have g30 := lv_neT q30 (a := 30) (by decide +kernel); have g31 := lv_neT q31 (a := 31) (by decide +kernel); have g32 := lv_neT q32 (a := 32) (by decide +kernel); have g33 := lv_neT q33 (a := 33) (by decide +kernel); have g34 := lv_neT q34 (a := 34) (by decide +kernel); have g35 := lv_neT q35 (a := 35) (by decide +kernel); have g36 := lv_neT q36 (a := 36) (by decide +kernel); omega) (by decide) ?_
      refine W.widen (k := 117 + 21 * j + 21) (n := 26266 + 467 * j + 467) (by omega) (by omega) ?_
      exact kk f a g i0 i1 tt ef ea eg H locs hJ hP hD hS
set_option maxHeartbeats 4000000 in
set_option maxRecDepth 100000 in
theorem whole_start {p : Program} {e : Env} {s : State} {m : MethodId} {below : List Frame} {meth : Method} {c : Code} (l : Launch) {b L : Nat} {xs : Nat → Int32} (hL : L ≤ 3072) (C0 : lw_At p s m meth c b L xs) : W p l e room_1 s m #[Value.ref b] below meth c s.heap [] 0 0 (lw_Z below #[Value.ref b] s) (entryFrame m ([Value.ref b] : List Value).toArray 4) := by
  obtain ⟨hx, hb, hr, hml, hown, hts, hX, hbl, hlocks, hgv⟩ := id C0
  have hA : ∀ q : Nat, s.heap.size ≤ q → (fun q : Nat => s.heap.size ≤ q) q := fun _ h => h
  have hbA : ¬ (fun q : Nat => s.heap.size ≤ q) b := Nat.not_le.mpr hbl
  have hg : ∀ w ∈ kG, w.before #[Value.ref b] s = true := fun w h => hts w (kG_in w h)
  have hown : s.vm.findClass RL = some m.cls := hown
  obtain ⟨D, K, hK, hE, hT⟩ := lw_env C0
  obtain ⟨hMM, hWW⟩ := lw_env2 C0
  have hV : xE K (fun q : Nat => s.heap.size ≤ q) s s.heap := ⟨hE, hT, hMM, hWW⟩
  have hS : va_S (fun q : Nat => s.heap.size ≤ q) s.heap s.heap [] := va_S.rf
  have hP : va_P D vwCl [] s.heap := fun k q h => by simp at h
  have hD : va_D (fun q : Nat => s.heap.size ≤ q) [] := ⟨fun i j p q h => by simp at h, fun k q h => by simp at h⟩
  have hl := lv_entry ([.ref b]) (n := 4) (Nat.le_of_ble_eq_true rfl)
  rw [lg_entry_eq]
  generalize (lg_sl ([.ref b]) ++ List.replicate (4 - (lg_sl ([.ref b])).length) Slot.unset).toArray = ls at hl ⊢
  have hl : lv_has ls 4 [(0, .ref b)] := hl
  refine va_new (ci := 11) (fs := (.null :: .null :: .null :: .null :: .null :: .null :: .null :: .null :: .null :: .null :: .null :: .null :: .int 0 :: .int 0 :: .int 0 :: .int 0 :: .int 0 :: [])) (C := RX11) (T := TX11) (N := 17) hx hb hg inC11 tyX11 tyX11_ok hown (hg _ wt1_22) (hg _ wt1_23) (hg _ wt1_1) hK hP hD hS hA rfl (fun j hj => by rcases (show j = 0 ∨ j = 1 ∨ j = 2 ∨ j = 3 ∨ j = 4 ∨ j = 5 ∨ j = 6 ∨ j = 7 ∨ j = 8 ∨ j = 9 ∨ j = 10 ∨ j = 11 ∨ j = 12 ∨ j = 13 ∨ j = 14 ∨ j = 15 ∨ j = 16 by omega) with rfl | rfl | rfl | rfl | rfl | rfl | rfl | rfl | rfl | rfl | rfl | rfl | rfl | rfl | rfl | rfl | rfl <;> rfl) (by decide) (by decide) dL_law_0 (fun q H hP hD hS => ?_)
  refine lv_dup hx hb dL_law_3 rfl ?_
  refine kVE.callI (ws := []) (As := []) (rest := [.ref q]) ⟨hx, hb, hml, hown, hg⟩ (k_X11_init l q) (cwI 0 hg (kgC wt1_26) rfl rfl rfl (hg _ wt1_1) (hg _ wt1_24) (hg _ wt1_25) rfl (by decide +kernel) ⟨by decide, by decide⟩) hE hK hP hD hS hA rfl hl.1 rfl (Nat.le_of_ble_eq_true rfl) dL_law_4 ⟨by decide, by decide⟩ (fun u H locs hu hP hD hS => ?_)
  have hP : va_P D vwCl (xW K u xf0 xa0 xg0) H := hP
  have hD : va_D (fun q : Nat => s.heap.size ≤ q) (xW K u xf0 xa0 xg0) := hD
  have hu : u 0 = q := hu
  rw [← hu]
  refine lv_astore_n (lv' := [(1, .ref (u 0)), (0, .ref b)]) hx hb dL_law_7 rfl hl (by decide) rfl (fun ls hl => ?_)
  refine va_new (ci := 12) (fs := (.int 0 :: .null :: .null :: .null :: .null :: .null :: .int 0 :: .null :: .int 0 :: .int 0 :: .int 0 :: .null :: .null :: .int 0 :: .int 0 :: .null :: .null :: .null :: .int 0 :: .int 0 :: .int 0 :: .int 0 :: .int 0 :: .int 0 :: .int 0 :: .int 0 :: .null :: .int 0 :: .int 0 :: .null :: .null :: .null :: .null :: .int 0 :: .null :: .null :: .null :: .int 0 :: .int 0 :: .int 0 :: .int 0 :: .int 0 :: .int 0 :: .null :: .null :: .int 0 :: .int 0 :: .int 0 :: [])) (C := RX12) (T := TX12) (N := 48) hx hb hg inC12 tyX12 tyX12_ok hown (hg _ wt5_154) (hg _ wt5_155) (hg _ wt1_14) hK hP hD hS hA rfl (fun j hj => by rcases (show j = 0 ∨ j = 1 ∨ j = 2 ∨ j = 3 ∨ j = 4 ∨ j = 5 ∨ j = 6 ∨ j = 7 ∨ j = 8 ∨ j = 9 ∨ j = 10 ∨ j = 11 ∨ j = 12 ∨ j = 13 ∨ j = 14 ∨ j = 15 ∨ j = 16 ∨ j = 17 ∨ j = 18 ∨ j = 19 ∨ j = 20 ∨ j = 21 ∨ j = 22 ∨ j = 23 ∨ j = 24 ∨ j = 25 ∨ j = 26 ∨ j = 27 ∨ j = 28 ∨ j = 29 ∨ j = 30 ∨ j = 31 ∨ j = 32 ∨ j = 33 ∨ j = 34 ∨ j = 35 ∨ j = 36 ∨ j = 37 ∨ j = 38 ∨ j = 39 ∨ j = 40 ∨ j = 41 ∨ j = 42 ∨ j = 43 ∨ j = 44 ∨ j = 45 ∨ j = 46 ∨ j = 47 by omega) with rfl | rfl | rfl | rfl | rfl | rfl | rfl | rfl | rfl | rfl | rfl | rfl | rfl | rfl | rfl | rfl | rfl | rfl | rfl | rfl | rfl | rfl | rfl | rfl | rfl | rfl | rfl | rfl | rfl | rfl | rfl | rfl | rfl | rfl | rfl | rfl | rfl | rfl | rfl | rfl | rfl | rfl | rfl | rfl | rfl | rfl | rfl | rfl <;> rfl) (by decide) (by decide) dL_law_8 (fun o H hP hD hS => ?_)
  refine lv_dup hx hb dL_law_11 rfl ?_
  refine kV.callI (ws := xW K u xf0 xa0 xg0) (As := []) (rest := [.ref o]) ⟨hx, hb, hml, hown, hg⟩ (c_init2 l o) (cwI 0 hg (kgC wt5_158) rfl rfl rfl (hg _ wt1_14) (hg _ wt5_156) (hg _ wt5_157) rfl (by decide +kernel) ⟨by decide, by decide⟩) hK hP hD hS hA rfl hl.1 rfl (Nat.le_of_ble_eq_true rfl) dL_law_12 ⟨by decide, by decide⟩ (fun u2 H locs hF hP hD hS => ?_)
  obtain ⟨r, ef, ea, eg⟩ := u2
  refine lv_astore_n (lv' := [(2, .ref o), (1, .ref (u 0)), (0, .ref b)]) hx hb dL_law_15 rfl hl (by decide) rfl (fun ls hl => ?_)
  refine lv_iconst (v := 0) hx hb dL_law_16 (by decide) ?_
  refine lv_istore_n (lv' := [(3, .int 0), (2, .ref o), (1, .ref (u 0)), (0, .ref b)]) hx hb dL_law_17 rfl hl (by decide) rfl (fun ls hl => ?_)
  have hP : va_P D vwCl (lWd K u xf0 xa0 xg0 none none [] o r ef ea eg) H := hP
  have hD : va_D (fun q : Nat => s.heap.size ≤ q) (lWd K u xf0 xa0 xg0 none none [] o r ef ea eg) := hD
  refine W.widen (k := 117) (n := 26266) (Nat.le_of_ble_eq_true rfl) (Nat.le_of_ble_eq_true rfl) ?_
  exact law_loop l C0 hL hK hV (L + 1) 0 _ _ _ _ _ _ _ _ _ 0 H locs ls (rJ_z hF) (by decide +kernel) (Nat.zero_le _) (by omega) hP hD hS hl
