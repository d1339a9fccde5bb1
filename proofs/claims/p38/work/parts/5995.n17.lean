/-! what is asked -/
def atF (k : Nat → Int32) (x y : Int32) : Int32 := if okB k x = true then (if y = 0 then k (63 + x.toNatClampNeg) else if y = 1 then k (69 + x.toNatClampNeg) else if y = 2 then k (10 + x.toNatClampNeg) else if y = 3 then k (16 + x.toNatClampNeg) else -1) else -1
def asF (DD : Nat → tE) (k : Nat → Int32) (x y z : Int32) : Int := if okB k x = true then (if okQ k y = true then (if z = 0 then askF DD k 0 x y else if z = 1 then askF DD k 1 x y else if z = 2 then askF DD k 2 x y else if z = 3 then (if askF DD k 3 x y = 1 then 1 else 0) else -1) else -1) else -1
def trM (x y v : Int32) (k : Nat → Int32) : Prop := (v = -1 ∧ ¬ trO x y) ∨ (v = k (trI x) ∧ trO x y ∧ ¬ v = -1)
section TR
variable {x y : Int32}
theorem tr_0 (h : trO x y) (e : x = 0) : 0 ≤ y.toInt ∧ y.toInt ≤ 999 := by
  rcases h with ⟨_, h⟩ | ⟨h, _⟩ | ⟨h, _⟩ | ⟨h, _⟩
  · exact h
  all_goals exact absurd (e.symm.trans h) (by decide +kernel)
theorem tr_1 (h : trO x y) (e : x = 1) : 1 ≤ y.toInt ∧ y.toInt ≤ 99 := by
  rcases h with ⟨h, _⟩ | ⟨_, h⟩ | ⟨h, _⟩ | ⟨h, _⟩
  case inr.inl => exact h
  all_goals exact absurd (e.symm.trans h) (by decide +kernel)
theorem tr_2 (h : trO x y) (e : x = 2) : 0 ≤ y.toInt ∧ y.toInt ≤ 10 := by
  rcases h with ⟨h, _⟩ | ⟨h, _⟩ | ⟨_, h⟩ | ⟨h, _⟩
  case inr.inr.inl => exact h
  all_goals exact absurd (e.symm.trans h) (by decide +kernel)
theorem tr_3 (h : trO x y) (e : x = 3) : 0 ≤ y.toInt ∧ y.toInt ≤ 9 := by
  rcases h with ⟨h, _⟩ | ⟨h, _⟩ | ⟨h, _⟩ | ⟨_, h⟩
  case inr.inr.inr => exact h
  all_goals exact absurd (e.symm.trans h) (by decide +kernel)
theorem trO_n (n0 : ¬ x = 0) (n1 : ¬ x = 1) (n2 : ¬ x = 2) (n3 : ¬ x = 3) : ¬ trO x y := by
  rintro (⟨h, _⟩ | ⟨h, _⟩ | ⟨h, _⟩ | ⟨h, _⟩)
  · exact n0 h
  · exact n1 h
  · exact n2 h
  · exact n3 h
end TR
theorem tr_kb {k : Nat → Int32} {x y : Int32} (hk : kK k) (h : trO x y) : kb 0 (k (trI x)) 1000000 := by
  have e1 : (1 : Int32).toInt.toNat = 1 := by decide +kernel
  have e2 : (2 : Int32).toInt.toNat = 2 := by decide +kernel
  have e3 : (3 : Int32).toInt.toNat = 3 := by decide +kernel
  unfold trI
  rcases h with ⟨h, _⟩ | ⟨h, _⟩ | ⟨h, _⟩ | ⟨h, _⟩
  · rw [if_pos h]; exact kK_r hk 22 0 1000000 (by decide) (by decide)
  · rw [h, if_neg (by decide +kernel), e1]; exact kb_w (kK_r hk 99 1 99 (by decide) (by decide)) (by decide) (by decide)
  · rw [h, if_neg (by decide +kernel), e2]; exact kb_w (kK_r hk 100 0 10 (by decide) (by decide)) (by decide) (by decide)
  · rw [h, if_neg (by decide +kernel), e3]; exact kb_w (kK_r hk 101 0 9 (by decide) (by decide)) (by decide) (by decide)
set_option maxHeartbeats 4000000 in
set_option maxRecDepth 100000 in
theorem n_at  (l : Launch) {D : va_G} {K : Nat → ClassId} (o : Nat) (r : Nat → Nat) (f : Nat → Int32) (a : Nat → Nat → Int32) (g : Nat → Int64) (hI : mI f a) (x : Int32) (y : Int32)    : kI l yX12_at (Cond.code yX12_at cX12_at 3 (some .int) :: kG) (rmD 3 0 0) D (tysK K) [.ref o, .int x, .int y] (mW K o r f a g) (fun v (_ : Unit) => kb (-2147483648) v 2147483647 ∧ v = atF (a 2) x y) (fun _ => mW K o r f a g) 0 0 := by
  refine kI.of (cc := cX12_at) (maxL := 3) (ret := (some .int)) (by decide) rfl (Nat.le_of_ble_eq_true rfl) ?_
  intro p e s m below meth c A hx hb hr hml hown hts hlocks hnm hK hP hD hS hA ls hl
  have hg : ∀ w ∈ kG, w.before _ s = true := fun w h => hts w (List.mem_cons_of_mem _ h)
  have hown : s.vm.findClass RX12 = some m.cls := hown
  have hl : lv_has ls 3 [(0, .ref o), (1, .int x), (2, .int y)] := hl
  refine lv_aload_n hx hb dX12_at_0 rfl (lv_at hl 0 rfl) ?_
  refine lv_iload_n hx hb dX12_at_1 rfl (lv_at hl 1 rfl) ?_
  refine kI.callV (As := [.int x]) (rest := []) ⟨hx, hb, hml, hown, hg⟩ (m_isBuilder l o r f a g hI x  ) (cwV 1 hg (kgV wt6_138 wt6_140 wp3_15 wt1_14 wt6_141) rfl rfl rfl (by decide +kernel) ⟨by decide, by decide⟩) hK hP hD hS hA mIs [] rfl (wr := []) rfl rfl rfl (fun i h => by cases h) 0 12 rfl rfl rfl hl.1 rfl (Nat.le_of_ble_eq_true rfl) dX12_at_2 ⟨Nat.le_refl _, Nat.le_refl _⟩ (fun v2 u3 H locs hw1 hP hD hS => ?_)
  have hP : va_P D vwCl (mW K o r f a g) H := hP
  have hD : va_D A (mW K o r f a g) := hD
  refine lv_if_ne (tgt := 10) hx hb dX12_at_5 (by decide) (fun c4 => ?_) (fun c4 => ?_)
  · have b5 : kb 1 v2 1 := kr_nel c4 hw1.1 kc_0 (by decide)
    have h6 := hw1.2.1 c4
    have b7 : kb 0 x 5 := ⟨by have h1 := h6.1; omega, (by have h1 := h6.2; have h2 := (aI_at hI.2.1 2 103 (by decide) (by decide) : kb 0 (a 2 103) 6).2; omega)⟩
    refine lv_iload_n hx hb dX12_at_10 rfl (lv_at hl 2 rfl) ?_
    by_cases q8 : y = 0
    · have b9 : kb 0 y 0 := kb_eq q8 kc_0
      refine lv_tableIn (tgt := 40) hx hb dX12_at_11 (by rw [q8]; decide +kernel) (by rw [q8]; decide +kernel) (by rw [q8]; rfl) (by decide) ?_
      refine lv_aload_n hx hb dX12_at_40 rfl (lv_at hl 0 rfl) ?_
      refine va_get (D := D) (ci := 12) (v := .ref (r 2)) (C := RX12) (T := TX12) (N := 48) hx hb hg inC12 hown hK hP 0 rfl rfl 2 (by decide) (hg _ wt5_162) (fun _ h9 => h9) rfl dX12_at_41 ?_
      refine lv_bipush (v := 63) hx hb dX12_at_44 (by decide) ?_
      refine lv_iload_n hx hb dX12_at_46 rfl (lv_at hl 1 rfl) ?_
      refine lv_iadd hx hb dX12_at_47 ?_
      refine lv_topi (fun t10 et10 => ?_)
      have b11 : kb 63 t10 68 := kb_eq et10 (kb_add kc_63 b7 (by decide) (by decide))
      have qt10 : t10.toInt = 63 + x.toInt := by rw [et10]; exact kt_cadd kc_63 b7 (by decide) (by decide)
      refine va_iald hx hb hK hP 2 0 rfl rfl (kb_in b11 (by decide) (by decide)) dX12_at_48 ?_
      refine lv_topi (fun t12 et12 => ?_)
      exact kI_ret (v := t12) hx hb hr hlocks rfl hK hS dX12_at_49 () hP hD ⟨(kb_any t12), (by unfold atF; rw [if_pos (okB_y ⟨h6.1, by have w1 := h6.2; omega⟩), if_pos q8]; exact (show t12 = a 2 (63 + x.toNatClampNeg) from et12.trans (congrArg (a 2) (show t10.toNatClampNeg = _ from by have w1 := qt10; have w2 := (b7).1; unfold Int32.toNatClampNeg; omega))))⟩
    by_cases q13 : y = 1
    · have b14 : kb 1 y 1 := kb_eq q13 kc_1
      refine lv_tableIn (tgt := 50) hx hb dX12_at_11 (by rw [q13]; decide +kernel) (by rw [q13]; decide +kernel) (by rw [q13]; rfl) (by decide) ?_
      refine lv_aload_n hx hb dX12_at_50 rfl (lv_at hl 0 rfl) ?_
      refine va_get (D := D) (ci := 12) (v := .ref (r 2)) (C := RX12) (T := TX12) (N := 48) hx hb hg inC12 hown hK hP 0 rfl rfl 2 (by decide) (hg _ wt5_162) (fun _ h9 => h9) rfl dX12_at_51 ?_
      refine lv_bipush (v := 69) hx hb dX12_at_54 (by decide) ?_
      refine lv_iload_n hx hb dX12_at_56 rfl (lv_at hl 1 rfl) ?_
      refine lv_iadd hx hb dX12_at_57 ?_
      refine lv_topi (fun t15 et15 => ?_)
      have b16 : kb 69 t15 74 := kb_eq et15 (kb_add kc_69 b7 (by decide) (by decide))
      have qt15 : t15.toInt = 69 + x.toInt := by rw [et15]; exact kt_cadd kc_69 b7 (by decide) (by decide)
      refine va_iald hx hb hK hP 2 0 rfl rfl (kb_in b16 (by decide) (by decide)) dX12_at_58 ?_
      refine lv_topi (fun t17 et17 => ?_)
      have b18 : kb 0 t17 9 := kb_eq et17 (aI_ld hI.2.1 2 69 6 b16 (by decide) (by decide) (by decide +kernel))
      exact kI_ret (v := t17) hx hb hr hlocks rfl hK hS dX12_at_59 () hP hD ⟨(kb_w b18 (by decide) (by decide)), (by unfold atF; rw [if_pos (okB_y ⟨h6.1, by have w1 := h6.2; omega⟩), if_neg (by rw [q13]; decide +kernel), if_pos q13]; exact (show t17 = a 2 (69 + x.toNatClampNeg) from et17.trans (congrArg (a 2) (show t15.toNatClampNeg = _ from by have w1 := qt15; have w2 := (b7).1; unfold Int32.toNatClampNeg; omega))))⟩
    by_cases q19 : y = 2
    · have b20 : kb 2 y 2 := kb_eq q19 kc_2
      refine lv_tableIn (tgt := 60) hx hb dX12_at_11 (by rw [q19]; decide +kernel) (by rw [q19]; decide +kernel) (by rw [q19]; rfl) (by decide) ?_
      refine lv_aload_n hx hb dX12_at_60 rfl (lv_at hl 0 rfl) ?_
      refine va_get (D := D) (ci := 12) (v := .ref (r 2)) (C := RX12) (T := TX12) (N := 48) hx hb hg inC12 hown hK hP 0 rfl rfl 2 (by decide) (hg _ wt5_162) (fun _ h9 => h9) rfl dX12_at_61 ?_
      refine lv_bipush (v := 10) hx hb dX12_at_64 (by decide) ?_
      refine lv_iload_n hx hb dX12_at_66 rfl (lv_at hl 1 rfl) ?_
      refine lv_iadd hx hb dX12_at_67 ?_
      refine lv_topi (fun t21 et21 => ?_)
      have b22 : kb 10 t21 15 := kb_eq et21 (kb_add kc_10 b7 (by decide) (by decide))
      have qt21 : t21.toInt = 10 + x.toInt := by rw [et21]; exact kt_cadd kc_10 b7 (by decide) (by decide)
      refine va_iald hx hb hK hP 2 0 rfl rfl (kb_in b22 (by decide) (by decide)) dX12_at_68 ?_
      refine lv_topi (fun t23 et23 => ?_)
      have b24 : kb 0 t23 99 := kb_eq et23 (aI_ld hI.2.1 2 10 6 b22 (by decide) (by decide) (by decide +kernel))
      exact kI_ret (v := t23) hx hb hr hlocks rfl hK hS dX12_at_69 () hP hD ⟨(kb_w b24 (by decide) (by decide)), (by unfold atF; rw [if_pos (okB_y ⟨h6.1, by have w1 := h6.2; omega⟩), if_neg (by rw [q19]; decide +kernel), if_neg (by rw [q19]; decide +kernel), if_pos q19]; exact (show t23 = a 2 (10 + x.toNatClampNeg) from et23.trans (congrArg (a 2) (show t21.toNatClampNeg = _ from by have w1 := qt21; have w2 := (b7).1; unfold Int32.toNatClampNeg; omega))))⟩
    by_cases q25 : y = 3
    · have b26 : kb 3 y 3 := kb_eq q25 kc_3
      refine lv_tableIn (tgt := 70) hx hb dX12_at_11 (by rw [q25]; decide +kernel) (by rw [q25]; decide +kernel) (by rw [q25]; rfl) (by decide) ?_
      refine lv_aload_n hx hb dX12_at_70 rfl (lv_at hl 0 rfl) ?_
      refine va_get (D := D) (ci := 12) (v := .ref (r 2)) (C := RX12) (T := TX12) (N := 48) hx hb hg inC12 hown hK hP 0 rfl rfl 2 (by decide) (hg _ wt5_162) (fun _ h9 => h9) rfl dX12_at_71 ?_
      refine lv_bipush (v := 16) hx hb dX12_at_74 (by decide) ?_
      refine lv_iload_n hx hb dX12_at_76 rfl (lv_at hl 1 rfl) ?_
      refine lv_iadd hx hb dX12_at_77 ?_
      refine lv_topi (fun t27 et27 => ?_)
      have b28 : kb 16 t27 21 := kb_eq et27 (kb_add kc_16 b7 (by decide) (by decide))
      have qt27 : t27.toInt = 16 + x.toInt := by rw [et27]; exact kt_cadd kc_16 b7 (by decide) (by decide)
      refine va_iald hx hb hK hP 2 0 rfl rfl (kb_in b28 (by decide) (by decide)) dX12_at_78 ?_
      refine lv_topi (fun t29 et29 => ?_)
      have b30 : kb (-1) t29 9 := kb_eq et29 (aI_ld hI.2.1 2 16 6 b28 (by decide) (by decide) (by decide +kernel))
      exact kI_ret (v := t29) hx hb hr hlocks rfl hK hS dX12_at_79 () hP hD ⟨(kb_w b30 (by decide) (by decide)), (by unfold atF; rw [if_pos (okB_y ⟨h6.1, by have w1 := h6.2; omega⟩), if_neg (by rw [q25]; decide +kernel), if_neg (by rw [q25]; decide +kernel), if_neg (by rw [q25]; decide +kernel), if_pos q25]; exact (show t29 = a 2 (16 + x.toNatClampNeg) from et29.trans (congrArg (a 2) (show t27.toNatClampNeg = _ from by have w1 := qt27; have w2 := (b7).1; unfold Int32.toNatClampNeg; omega))))⟩
    refine lv_tableOut (tgt := 80) hx hb dX12_at_11 (by have gq8 := lv_neT q8 (a := 0) (by decide +kernel); have gq13 := lv_neT q13 (a := 1) (by decide +kernel); have gq19 := lv_neT q19 (a := 2) (by decide +kernel); have gq25 := lv_neT q25 (a := 3) (by decide +kernel); omega) (by decide) ?_
    refine lv_iconst (v := (-1)) hx hb dX12_at_80 (by decide) ?_
    exact kI_ret (v := (-1)) hx hb hr hlocks rfl hK hS dX12_at_81 () hP hD ⟨(kb_w kc_m1 (by decide) (by decide)), (by unfold atF; rw [if_pos (okB_y ⟨h6.1, by have w1 := h6.2; omega⟩), if_neg q8, if_neg q13, if_neg q19, if_neg q25])⟩
  · have b31 : kb 0 v2 0 := kb_eq c4 kc_0
    refine lv_iconst (v := (-1)) hx hb dX12_at_8 (by decide) ?_
    exact kI_ret (v := (-1)) hx hb hr hlocks rfl hK hS dX12_at_9 () hP hD ⟨(kb_w kc_m1 (by decide) (by decide)), (by unfold atF; rw [if_neg (okB_n (fun q => (hw1.2.2 c4) ⟨q.1, by have w1 := q.2; omega⟩))])⟩
set_option maxHeartbeats 4000000 in
set_option maxRecDepth 100000 in
theorem n_asks  (l : Launch) {D : va_G} {K : Nat → ClassId} (o : Nat) (r : Nat → Nat) (f : Nat → Int32) (a : Nat → Nat → Int32) (g : Nat → Int64) (hI : mI f a) (x : Int32) (y : Int32) (z : Int32)  (DD : Nat → tE) (hp0 : kK (a 2)) (hp1 : lM (a 2) DD) : kI l yX12_asks (Cond.code yX12_asks cX12_asks 4 (some .int) :: kG) (rmD 50 0 0) D (tysK K) [.ref o, .int x, .int y, .int z] (mW K o r f a g) (fun v (u : mS) => kb (-2147483648) v 2147483647 ∧ mI u.1 u.2.1 ∧ mE (XR []) f a u.1 u.2.1 ∧ v.toInt = asF DD (a 2) x y z ∧ mZ [22, 23, 24, 25] [26] f a u.1 u.2.1) (fun u => mW K o r u.1 u.2.1 u.2.2) 0 0 := by
  refine kI.of (cc := cX12_asks) (maxL := 4) (ret := (some .int)) (by decide) rfl (Nat.le_of_ble_eq_true rfl) ?_
  intro p e s m below meth c A hx hb hr hml hown hts hlocks hnm hK hP hD hS hA ls hl
  have hE : mE (XR []) f a f a := mE_rf
  have hZ : mZ [22, 23, 24, 25] [26] f a f a := mZ_rf
  have hg : ∀ w ∈ kG, w.before _ s = true := fun w h => hts w (List.mem_cons_of_mem _ h)
  have hown : s.vm.findClass RX12 = some m.cls := hown
  have hl : lv_has ls 4 [(0, .ref o), (1, .int x), (2, .int y), (3, .int z)] := hl
  refine lv_aload_n hx hb dX12_asks_0 rfl (lv_at hl 0 rfl) ?_
  refine lv_iload_n hx hb dX12_asks_1 rfl (lv_at hl 1 rfl) ?_
  refine kI.callV (As := [.int x]) (rest := []) ⟨hx, hb, hml, hown, hg⟩ (m_isBuilder l o r f a g hI x  ) (cwV 1 hg (kgV wt6_138 wt6_140 wp3_15 wt1_14 wt6_141) rfl rfl rfl (by decide +kernel) ⟨by decide, by decide⟩) hK hP hD hS hA mIs [] rfl (wr := []) rfl rfl rfl (fun i h => by cases h) 0 12 rfl rfl rfl hl.1 rfl (Nat.le_of_ble_eq_true rfl) dX12_asks_2 ⟨Nat.le_refl _, Nat.le_refl _⟩ (fun v2 u3 H locs hw1 hP hD hS => ?_)
  have hP : va_P D vwCl (mW K o r f a g) H := hP
  have hD : va_D A (mW K o r f a g) := hD
  refine lv_if_eq (tgt := 16) hx hb dX12_asks_5 (by decide) (fun c4 => ?_) (fun c4 => ?_)
  · have b5 : kb 0 v2 0 := kb_eq c4 kc_0
    refine lv_iconst (v := (-1)) hx hb dX12_asks_16 (by decide) ?_
    exact kI_ret (v := (-1)) hx hb hr hlocks rfl hK hS dX12_asks_17 (f, a, g) hP hD ⟨(kb_w kc_m1 (by decide) (by decide)), hI, hE, (by unfold asF; rw [if_neg (okB_n (fun q => (hw1.2.2 c4) ⟨q.1, by have w1 := q.2; omega⟩))]; decide +kernel), hZ⟩
  · have b6 : kb 1 v2 1 := kr_nel c4 hw1.1 kc_0 (by decide)
    have h7 := hw1.2.1 c4
    have b8 : kb 0 x 5 := ⟨by have h1 := h7.1; omega, (by have h1 := h7.2; have h2 := (aI_at hI.2.1 2 103 (by decide) (by decide) : kb 0 (a 2 103) 6).2; omega)⟩
    refine lv_aload_n hx hb dX12_asks_8 rfl (lv_at hl 0 rfl) ?_
    refine lv_iload_n hx hb dX12_asks_9 rfl (lv_at hl 2 rfl) ?_
    refine kI.callV (As := [.int y]) (rest := []) ⟨hx, hb, hml, hown, hg⟩ (m_isPart l o r f a g hI y  ) (cwV 1 hg (kgV wt6_104 wt6_106 wp3_10 wt1_14 wt6_107) rfl rfl rfl (by decide +kernel) ⟨by decide, by decide⟩) hK hP hD hS hA mIs [] rfl (wr := []) rfl rfl rfl (fun i h => by cases h) 0 12 rfl rfl rfl hl.1 rfl (Nat.le_of_ble_eq_true rfl) dX12_asks_10 ⟨Nat.le_refl _, Nat.le_refl _⟩ (fun v10 u11 H locs hw9 hP hD hS => ?_)
    have hP : va_P D vwCl (mW K o r f a g) H := hP
    have hD : va_D A (mW K o r f a g) := hD
    refine lv_if_ne (tgt := 18) hx hb dX12_asks_13 (by decide) (fun c12 => ?_) (fun c12 => ?_)
    · have b13 : kb 1 v10 1 := kr_nel c12 hw9.1 kc_0 (by decide)
      have h14 := hw9.2.1 c12
      have b15 : kb 0 y 9 := ⟨by have h1 := h14.1; omega, (by have h1 := h14.2; have h2 := (aI_at hI.2.1 2 102 (by decide) (by decide) : kb 0 (a 2 102) 10).2; omega)⟩
      refine lv_iload_n hx hb dX12_asks_18 rfl (lv_at hl 3 rfl) ?_
      by_cases q16 : z = 0
      · have b17 : kb 0 z 0 := kb_eq q16 kc_0
        refine lv_tableIn (tgt := 48) hx hb dX12_asks_19 (by rw [q16]; decide +kernel) (by rw [q16]; decide +kernel) (by rw [q16]; rfl) (by decide) ?_
        refine lv_aload_n hx hb dX12_asks_48 rfl (lv_at hl 0 rfl) ?_
        refine lv_iload_n hx hb dX12_asks_49 rfl (lv_at hl 1 rfl) ?_
        refine lv_iload_n hx hb dX12_asks_50 rfl (lv_at hl 2 rfl) ?_
        refine kI.callV (As := [.int x, .int y]) (rest := []) ⟨hx, hb, hml, hown, hg⟩ (n_worksBy l o r f a g hI x y b8 b15 DD hp0 hp1) (cwV 2 hg (kgV wt7_31 wt7_33 wp5_4 wt1_14 wt7_34) rfl rfl rfl (by decide +kernel) ⟨by decide, by decide⟩) hK hP hD hS hA mIs [] rfl (wr := []) rfl rfl rfl (fun i h => by cases h) 0 12 rfl rfl rfl hl.1 rfl (Nat.le_of_ble_eq_true rfl) dX12_asks_51 ⟨Nat.le_refl _, Nat.le_refl _⟩ (fun v19 u20 H locs hw18 hP hD hS => ?_)
        obtain ⟨f21, a22, g23⟩ := u20
        have hP : va_P D vwCl (mW K o r f21 a22 g23) H := hP
        have hD : va_D A (mW K o r f21 a22 g23) := hD
        have hI : mI f21 a22 := hw18.2.1
        have hE : mE (XR []) f a f21 a22 := mE_tr hE hw18.2.2.1
        have eE24 : mE (XR []) f a f21 a22 := hw18.2.2.1
        have eZ25 : mZ [22, 23, 24, 25] [26] f a f21 a22 := hw18.2.2.2.2
        have hZ : mZ [22, 23, 24, 25] [26] f a f21 a22 := mZ_tr hZ (mZ_w (by decide) (by decide) eZ25)
        exact kI_ret (v := v19) hx hb hr hlocks rfl hK hS dX12_asks_54 (f21, a22, g23) hP hD ⟨(kb_w hw18.1 (by decide) (by decide)), hI, hE, (by unfold asF; rw [if_pos (okB_y ⟨h7.1, by have w1 := h7.2; omega⟩), if_pos (okQ_y ⟨h14.1, by have w1 := h14.2; omega⟩), if_pos q16]; exact hw18.2.2.2.1), hZ⟩
      by_cases q26 : z = 1
      · have b27 : kb 1 z 1 := kb_eq q26 kc_1
        refine lv_tableIn (tgt := 55) hx hb dX12_asks_19 (by rw [q26]; decide +kernel) (by rw [q26]; decide +kernel) (by rw [q26]; rfl) (by decide) ?_
        refine lv_aload_n hx hb dX12_asks_55 rfl (lv_at hl 0 rfl) ?_
        refine lv_iload_n hx hb dX12_asks_56 rfl (lv_at hl 1 rfl) ?_
        refine lv_iload_n hx hb dX12_asks_57 rfl (lv_at hl 2 rfl) ?_
        refine kI.callV (As := [.int x, .int y]) (rest := []) ⟨hx, hb, hml, hown, hg⟩ (n_tiresBy l o r f a g hI x y b8 b15 DD hp0 hp1) (cwV 2 hg (kgV wt7_96 wt7_98 wp6_3 wt1_14 wt7_99) rfl rfl rfl (by decide +kernel) ⟨by decide, by decide⟩) hK hP hD hS hA mIs [] rfl (wr := []) rfl rfl rfl (fun i h => by cases h) 0 12 rfl rfl rfl hl.1 rfl (Nat.le_of_ble_eq_true rfl) dX12_asks_58 ⟨Nat.le_refl _, Nat.le_refl _⟩ (fun v29 u30 H locs hw28 hP hD hS => ?_)
        obtain ⟨f31, a32, g33⟩ := u30
        have hP : va_P D vwCl (mW K o r f31 a32 g33) H := hP
        have hD : va_D A (mW K o r f31 a32 g33) := hD
        have hI : mI f31 a32 := hw28.2.1
        have hE : mE (XR []) f a f31 a32 := mE_tr hE hw28.2.2.1
        have eE34 : mE (XR []) f a f31 a32 := hw28.2.2.1
        have eZ35 : mZ [22, 23, 24, 25] [26] f a f31 a32 := hw28.2.2.2.2
        have hZ : mZ [22, 23, 24, 25] [26] f a f31 a32 := mZ_tr hZ (mZ_w (by decide) (by decide) eZ35)
        exact kI_ret (v := v29) hx hb hr hlocks rfl hK hS dX12_asks_61 (f31, a32, g33) hP hD ⟨(kb_w hw28.1 (by decide) (by decide)), hI, hE, (by unfold asF; rw [if_pos (okB_y ⟨h7.1, by have w1 := h7.2; omega⟩), if_pos (okQ_y ⟨h14.1, by have w1 := h14.2; omega⟩), if_neg (by rw [q26]; decide +kernel), if_pos q26]; exact hw28.2.2.2.1), hZ⟩
      by_cases q36 : z = 2
      · have b37 : kb 2 z 2 := kb_eq q36 kc_2
        refine lv_tableIn (tgt := 62) hx hb dX12_asks_19 (by rw [q36]; decide +kernel) (by rw [q36]; decide +kernel) (by rw [q36]; rfl) (by decide) ?_
        refine lv_aload_n hx hb dX12_asks_62 rfl (lv_at hl 0 rfl) ?_
        refine lv_iload_n hx hb dX12_asks_63 rfl (lv_at hl 1 rfl) ?_
        refine lv_iload_n hx hb dX12_asks_64 rfl (lv_at hl 2 rfl) ?_
        refine kI.callV (As := [.int x, .int y]) (rest := []) ⟨hx, hb, hml, hown, hg⟩ (n_showsIn l o r f a g hI x y b8 b15 DD hp0 hp1) (cwV 2 hg (kgV wt7_100 wt7_102 wp6_4 wt1_14 wt7_103) rfl rfl rfl (by decide +kernel) ⟨by decide, by decide⟩) hK hP hD hS hA mIs [] rfl (wr := []) rfl rfl rfl (fun i h => by cases h) 0 12 rfl rfl rfl hl.1 rfl (Nat.le_of_ble_eq_true rfl) dX12_asks_65 ⟨Nat.le_refl _, Nat.le_refl _⟩ (fun v39 u40 H locs hw38 hP hD hS => ?_)
        obtain ⟨f41, a42, g43⟩ := u40
        have hP : va_P D vwCl (mW K o r f41 a42 g43) H := hP
        have hD : va_D A (mW K o r f41 a42 g43) := hD
        have hI : mI f41 a42 := hw38.2.1
        have hE : mE (XR []) f a f41 a42 := mE_tr hE hw38.2.2.1
        have eE44 : mE (XR []) f a f41 a42 := hw38.2.2.1
        have eZ45 : mZ [22, 23, 24, 25] [26] f a f41 a42 := hw38.2.2.2.2
        have hZ : mZ [22, 23, 24, 25] [26] f a f41 a42 := mZ_tr hZ (mZ_w (by decide) (by decide) eZ45)
        exact kI_ret (v := v39) hx hb hr hlocks rfl hK hS dX12_asks_68 (f41, a42, g43) hP hD ⟨(kb_w hw38.1 (by decide) (by decide)), hI, hE, (by unfold asF; rw [if_pos (okB_y ⟨h7.1, by have w1 := h7.2; omega⟩), if_pos (okQ_y ⟨h14.1, by have w1 := h14.2; omega⟩), if_neg (by rw [q36]; decide +kernel), if_neg (by rw [q36]; decide +kernel), if_pos q36]; exact hw38.2.2.2.1), hZ⟩
      by_cases q46 : z = 3
      · have b47 : kb 3 z 3 := kb_eq q46 kc_3
        refine lv_tableIn (tgt := 69) hx hb dX12_asks_19 (by rw [q46]; decide +kernel) (by rw [q46]; decide +kernel) (by rw [q46]; rfl) (by decide) ?_
        refine lv_aload_n hx hb dX12_asks_69 rfl (lv_at hl 0 rfl) ?_
        refine lv_iload_n hx hb dX12_asks_70 rfl (lv_at hl 1 rfl) ?_
        refine lv_iload_n hx hb dX12_asks_71 rfl (lv_at hl 2 rfl) ?_
        refine kI.callV (As := [.int x, .int y]) (rest := []) ⟨hx, hb, hml, hown, hg⟩ (n_isBarred l o r f a g hI x y b8 b15 DD hp0 hp1) (cwV 2 hg (kgV wt7_104 wt7_106 wp6_5 wt1_14 wt7_107) rfl rfl rfl (by decide +kernel) ⟨by decide, by decide⟩) hK hP hD hS hA mIs [] rfl (wr := []) rfl rfl rfl (fun i h => by cases h) 0 12 rfl rfl rfl hl.1 rfl (Nat.le_of_ble_eq_true rfl) dX12_asks_72 ⟨Nat.le_refl _, Nat.le_refl _⟩ (fun v49 u50 H locs hw48 hP hD hS => ?_)
        obtain ⟨f51, a52, g53⟩ := u50
        have hP : va_P D vwCl (mW K o r f51 a52 g53) H := hP
        have hD : va_D A (mW K o r f51 a52 g53) := hD
        have hI : mI f51 a52 := hw48.2.1
        have hE : mE (XR []) f a f51 a52 := mE_tr hE hw48.2.2.1
        have eE54 : mE (XR []) f a f51 a52 := hw48.2.2.1
        have eZ55 : mZ [22, 23, 24, 25] [26] f a f51 a52 := hw48.2.2.2.2
        have hZ : mZ [22, 23, 24, 25] [26] f a f51 a52 := mZ_tr hZ (mZ_w (by decide) (by decide) eZ55)
        refine lv_if_eq (tgt := 82) hx hb dX12_asks_75 (by decide) (fun c56 => ?_) (fun c56 => ?_)
        · have b57 : kb 0 v49 0 := kb_eq c56 kc_0
          refine lv_iconst (v := 0) hx hb dX12_asks_82 (by decide) ?_
          exact kI_ret (v := 0) hx hb hr hlocks rfl hK hS dX12_asks_83 (f51, a52, g53) hP hD ⟨(kb_w kc_0 (by decide) (by decide)), hI, hE, (by unfold asF; rw [if_pos (okB_y ⟨h7.1, by have w1 := h7.2; omega⟩), if_pos (okQ_y ⟨h14.1, by have w1 := h14.2; omega⟩), if_neg (by rw [q46]; decide +kernel), if_neg (by rw [q46]; decide +kernel), if_neg (by rw [q46]; decide +kernel), if_pos q46, if_neg (bit_n1 hw48.2.2.2.1 c56)]; decide +kernel), hZ⟩
        · have b58 : kb 1 v49 1 := kr_nel c56 hw48.1 kc_0 (by decide)
          refine lv_iconst (v := 1) hx hb dX12_asks_78 (by decide) ?_
          refine lv_goto (tgt := 83) hx hb dX12_asks_79 (by decide) ?_
          exact kI_ret (v := 1) hx hb hr hlocks rfl hK hS dX12_asks_83 (f51, a52, g53) hP hD ⟨(kb_w kc_1 (by decide) (by decide)), hI, hE, (by unfold asF; rw [if_pos (okB_y ⟨h7.1, by have w1 := h7.2; omega⟩), if_pos (okQ_y ⟨h14.1, by have w1 := h14.2; omega⟩), if_neg (by rw [q46]; decide +kernel), if_neg (by rw [q46]; decide +kernel), if_neg (by rw [q46]; decide +kernel), if_pos q46, if_pos (bit_y1 hw48.2.2.2.1 c56)]; decide +kernel), hZ⟩
      refine lv_tableOut (tgt := 84) hx hb dX12_asks_19 (by have gq16 := lv_neT q16 (a := 0) (by decide +kernel); have gq26 := lv_neT q26 (a := 1) (by decide +kernel); have gq36 := lv_neT q36 (a := 2) (by decide +kernel); have gq46 := lv_neT q46 (a := 3) (by decide +kernel); omega) (by decide) ?_
      refine lv_iconst (v := (-1)) hx hb dX12_asks_84 (by decide) ?_
      exact kI_ret (v := (-1)) hx hb hr hlocks rfl hK hS dX12_asks_85 (f, a, g) hP hD ⟨(kb_w kc_m1 (by decide) (by decide)), hI, hE, (by unfold asF; rw [if_pos (okB_y ⟨h7.1, by have w1 := h7.2; omega⟩), if_pos (okQ_y ⟨h14.1, by have w1 := h14.2; omega⟩), if_neg q16, if_neg q26, if_neg q36, if_neg q46]; decide +kernel), hZ⟩
    · have b59 : kb 0 v10 0 := kb_eq c12 kc_0
      refine lv_iconst (v := (-1)) hx hb dX12_asks_16 (by decide) ?_
      exact kI_ret (v := (-1)) hx hb hr hlocks rfl hK hS dX12_asks_17 (f, a, g) hP hD ⟨(kb_w kc_m1 (by decide) (by decide)), hI, hE, (by unfold asF; rw [if_pos (okB_y ⟨h7.1, by have w1 := h7.2; omega⟩), if_neg (okQ_n (fun q => (hw9.2.2 c12) ⟨q.1, by have w1 := q.2; omega⟩))]; decide +kernel), hZ⟩
set_option maxHeartbeats 4000000 in
set_option maxRecDepth 100000 in
theorem n_isTerm (l : Launch) (x : Int32) (y : Int32)   : kN l yX12_isTerm (Cond.code yX12_isTerm cX12_isTerm 2 (some .boolean) :: kG) (rmD 2 0 0) [.int x, .int y] (fun v => kb 0 v 1 ∧ (¬ v = 0 → 0 ≤ x.toInt ∧ x.toInt ≤ 3 ∧ (¬ x = 0 → 0 ≤ y.toInt ∧ y.toInt ≤ 99)) ∧ (¬ v = 0 → trO x y) ∧ (v = 0 → ¬ trO x y)) := by
  refine kN.of (cc := cX12_isTerm) (maxL := 2) (ret := (some .boolean)) (by decide) rfl (Nat.le_of_ble_eq_true rfl) ?_
  intro p e s m below meth c hx hb hr hml hown hts hlocks hS ls hl
  have hg : ∀ w ∈ kG, w.before _ s = true := fun w h => hts w (List.mem_cons_of_mem _ h)
  have hown : s.vm.findClass RX12 = some m.cls := hown
  have hl : lv_has ls 2 [(0, .int x), (1, .int y)] := hl
  refine lv_iload_n hx hb dX12_isTerm_0 rfl (lv_at hl 0 rfl) ?_
  by_cases q1 : x = 0
  · have b2 : kb 0 x 0 := kb_eq q1 kc_0
    refine lv_tableIn (tgt := 32) hx hb dX12_isTerm_1 (by rw [q1]; decide +kernel) (by rw [q1]; decide +kernel) (by rw [q1]; rfl) (by decide) ?_
    refine lv_iload_n hx hb dX12_isTerm_32 rfl (lv_at hl 1 rfl) ?_
    refine lv_iconst (v := 0) hx hb dX12_isTerm_33 (by decide) ?_
    refine lv_sipush (v := 999) hx hb dX12_isTerm_34 (by decide) ?_
    refine kN.callS (As := [.int y, .int 0, .int 999]) (rest := []) ⟨hx, hb, hml, hown, hg⟩ (m_lies l y 0 999 ) (va_cwS 3 hg (kgS wt6_69 wt6_70 wt1_14 wt6_71) rfl rfl rfl (by decide +kernel) ⟨by decide, by decide⟩) (D := (fun _ => 0, fun _ _ => 0)) (ws := []) (fun k q h => by cases k <;> cases h) hS rfl hl.1 rfl (Nat.le_of_ble_eq_true rfl) dX12_isTerm_37 ⟨Nat.le_refl _, Nat.le_refl _⟩ (fun v4 H locs hw3 _ hS => ?_)
    exact kN_ret (v := v4) hx hb hr hlocks (kb_bo hw3.1) hS dX12_isTerm_40 (⟨hw3.1, (fun q => by have h1 := mLies_ne (hw3.2 ▸ q); have e1 := congrArg Int32.toInt q1; exact pf_term (Or.inl ⟨rfl, rfl⟩) h1 e1), (fun q => by have h1 := mLies_ne (hw3.2 ▸ q); have z1 : (0 : Int32).toInt = 0 := (by decide +kernel); have z2 : (999 : Int32).toInt = 999 := (by decide +kernel); exact Or.inl ⟨q1, by omega, by omega⟩), (fun q hq => mLies_z (hw3.2.symm.trans q) (by decide +kernel) (by decide +kernel) (tr_0 hq q1))⟩)
  by_cases q6 : x = 1
  · have b7 : kb 1 x 1 := kb_eq q6 kc_1
    refine lv_tableIn (tgt := 41) hx hb dX12_isTerm_1 (by rw [q6]; decide +kernel) (by rw [q6]; decide +kernel) (by rw [q6]; rfl) (by decide) ?_
    refine lv_iload_n hx hb dX12_isTerm_41 rfl (lv_at hl 1 rfl) ?_
    refine lv_iconst (v := 1) hx hb dX12_isTerm_42 (by decide) ?_
    refine lv_bipush (v := 99) hx hb dX12_isTerm_43 (by decide) ?_
    refine kN.callS (As := [.int y, .int 1, .int 99]) (rest := []) ⟨hx, hb, hml, hown, hg⟩ (m_lies l y 1 99 ) (va_cwS 3 hg (kgS wt6_69 wt6_70 wt1_14 wt6_71) rfl rfl rfl (by decide +kernel) ⟨by decide, by decide⟩) (D := (fun _ => 0, fun _ _ => 0)) (ws := []) (fun k q h => by cases k <;> cases h) hS rfl hl.1 rfl (Nat.le_of_ble_eq_true rfl) dX12_isTerm_45 ⟨Nat.le_refl _, Nat.le_refl _⟩ (fun v9 H locs hw8 _ hS => ?_)
    exact kN_ret (v := v9) hx hb hr hlocks (kb_bo hw8.1) hS dX12_isTerm_48 (⟨hw8.1, (fun q => by have h1 := mLies_ne (hw8.2 ▸ q); have e1 := congrArg Int32.toInt q6; exact pf_term (Or.inr (Or.inl ⟨rfl, rfl, rfl⟩)) h1 e1), (fun q => by have h1 := mLies_ne (hw8.2 ▸ q); have z1 : (1 : Int32).toInt = 1 := (by decide +kernel); have z2 : (99 : Int32).toInt = 99 := (by decide +kernel); exact Or.inr (Or.inl ⟨q6, by omega, by omega⟩)), (fun q hq => mLies_z (hw8.2.symm.trans q) (by decide +kernel) (by decide +kernel) (tr_1 hq q6))⟩)
  by_cases q11 : x = 2
  · have b12 : kb 2 x 2 := kb_eq q11 kc_2
    refine lv_tableIn (tgt := 49) hx hb dX12_isTerm_1 (by rw [q11]; decide +kernel) (by rw [q11]; decide +kernel) (by rw [q11]; rfl) (by decide) ?_
    refine lv_iload_n hx hb dX12_isTerm_49 rfl (lv_at hl 1 rfl) ?_
    refine lv_iconst (v := 0) hx hb dX12_isTerm_50 (by decide) ?_
    refine lv_bipush (v := 10) hx hb dX12_isTerm_51 (by decide) ?_
    refine kN.callS (As := [.int y, .int 0, .int 10]) (rest := []) ⟨hx, hb, hml, hown, hg⟩ (m_lies l y 0 10 ) (va_cwS 3 hg (kgS wt6_69 wt6_70 wt1_14 wt6_71) rfl rfl rfl (by decide +kernel) ⟨by decide, by decide⟩) (D := (fun _ => 0, fun _ _ => 0)) (ws := []) (fun k q h => by cases k <;> cases h) hS rfl hl.1 rfl (Nat.le_of_ble_eq_true rfl) dX12_isTerm_53 ⟨Nat.le_refl _, Nat.le_refl _⟩ (fun v14 H locs hw13 _ hS => ?_)
    exact kN_ret (v := v14) hx hb hr hlocks (kb_bo hw13.1) hS dX12_isTerm_56 (⟨hw13.1, (fun q => by have h1 := mLies_ne (hw13.2 ▸ q); have e1 := congrArg Int32.toInt q11; exact pf_term (Or.inr (Or.inr (Or.inl ⟨rfl, rfl, rfl⟩))) h1 e1), (fun q => by have h1 := mLies_ne (hw13.2 ▸ q); have z1 : (0 : Int32).toInt = 0 := (by decide +kernel); have z2 : (10 : Int32).toInt = 10 := (by decide +kernel); exact Or.inr (Or.inr (Or.inl ⟨q11, by omega, by omega⟩))), (fun q hq => mLies_z (hw13.2.symm.trans q) (by decide +kernel) (by decide +kernel) (tr_2 hq q11))⟩)
  by_cases q16 : x = 3
  · have b17 : kb 3 x 3 := kb_eq q16 kc_3
    refine lv_tableIn (tgt := 57) hx hb dX12_isTerm_1 (by rw [q16]; decide +kernel) (by rw [q16]; decide +kernel) (by rw [q16]; rfl) (by decide) ?_
    refine lv_iload_n hx hb dX12_isTerm_57 rfl (lv_at hl 1 rfl) ?_
    refine lv_iconst (v := 0) hx hb dX12_isTerm_58 (by decide) ?_
    refine lv_bipush (v := 9) hx hb dX12_isTerm_59 (by decide) ?_
    refine kN.callS (As := [.int y, .int 0, .int 9]) (rest := []) ⟨hx, hb, hml, hown, hg⟩ (m_lies l y 0 9 ) (va_cwS 3 hg (kgS wt6_69 wt6_70 wt1_14 wt6_71) rfl rfl rfl (by decide +kernel) ⟨by decide, by decide⟩) (D := (fun _ => 0, fun _ _ => 0)) (ws := []) (fun k q h => by cases k <;> cases h) hS rfl hl.1 rfl (Nat.le_of_ble_eq_true rfl) dX12_isTerm_61 ⟨Nat.le_refl _, Nat.le_refl _⟩ (fun v19 H locs hw18 _ hS => ?_)
    exact kN_ret (v := v19) hx hb hr hlocks (kb_bo hw18.1) hS dX12_isTerm_64 (⟨hw18.1, (fun q => by have h1 := mLies_ne (hw18.2 ▸ q); have e1 := congrArg Int32.toInt q16; exact pf_term (Or.inr (Or.inr (Or.inr ⟨rfl, rfl, rfl⟩))) h1 e1), (fun q => by have h1 := mLies_ne (hw18.2 ▸ q); have z1 : (0 : Int32).toInt = 0 := (by decide +kernel); have z2 : (9 : Int32).toInt = 9 := (by decide +kernel); exact Or.inr (Or.inr (Or.inr (⟨q16, by omega, by omega⟩)))), (fun q hq => mLies_z (hw18.2.symm.trans q) (by decide +kernel) (by decide +kernel) (tr_3 hq q16))⟩)
  refine lv_tableOut (tgt := 65) hx hb dX12_isTerm_1 (by have gq1 := lv_neT q1 (a := 0) (by decide +kernel); have gq6 := lv_neT q6 (a := 1) (by decide +kernel); have gq11 := lv_neT q11 (a := 2) (by decide +kernel); have gq16 := lv_neT q16 (a := 3) (by decide +kernel); omega) (by decide) ?_
  refine lv_iconst (v := 0) hx hb dX12_isTerm_65 (by decide) ?_
  exact kN_ret (v := 0) hx hb hr hlocks (by decide +kernel) hS dX12_isTerm_66 (⟨(kb_w kc_0 (by decide) (by decide)), (fun q => absurd rfl q), (fun q => absurd rfl q), (fun _ => trO_n q1 q6 q11 q16)⟩)
set_option maxHeartbeats 4000000 in
set_option maxRecDepth 100000 in
theorem n_terms  (l : Launch) {D : va_G} {K : Nat → ClassId} (o : Nat) (r : Nat → Nat) (f : Nat → Int32) (a : Nat → Nat → Int32) (g : Nat → Int64) (hI : mI f a) (x : Int32) (y : Int32)  (P : pS) (hp0 : mPs (f 33) (a 31) P) (hp1 : kK (a 2)) : kI l yX12_terms (Cond.code yX12_terms cX12_terms 5 (some .int) :: kG) (rmD 3 0 0) D (tysK K) [.ref o, .int x, .int y] (mW K o r f a g) (fun v (u : mS) => kb (-2147483648) v 2147483647 ∧ mI u.1 u.2.1 ∧ mE (XR [(22, 23), (99, 102)]) f a u.1 u.2.1 ∧ trM x y v (a 2) ∧ mTe v u.1 u.2.1 (a 1) (a 2) P (upd (a 2) (trI x) y) (noP P) ∧ mZ [0, 33] [1, 2] f a u.1 u.2.1) (fun u => mW K o r u.1 u.2.1 u.2.2) 0 0 := by
  refine kI.of (cc := cX12_terms) (maxL := 5) (ret := (some .int)) (by decide) rfl (Nat.le_of_ble_eq_true rfl) ?_
  intro p e s m below meth c A hx hb hr hml hown hts hlocks hnm hK hP hD hS hA ls hl
  have hE : mE (XR [(22, 23), (99, 102)]) f a f a := mE_rf
  have hZ : mZ [0, 33] [1, 2] f a f a := mZ_rf
  have hg : ∀ w ∈ kG, w.before _ s = true := fun w h => hts w (List.mem_cons_of_mem _ h)
  have hown : s.vm.findClass RX12 = some m.cls := hown
  have hl : lv_has ls 5 [(0, .ref o), (1, .int x), (2, .int y)] := hl
  refine lv_iload_n hx hb dX12_terms_0 rfl (lv_at hl 1 rfl) ?_
  refine lv_iload_n hx hb dX12_terms_1 rfl (lv_at hl 2 rfl) ?_
  refine kN.callS (As := [.int x, .int y]) (rest := []) ⟨hx, hb, hml, hown, hg⟩ (n_isTerm l x y ) (va_cwS 2 hg (kgS wt6_146 wt6_147 wt1_14 wt6_148) rfl rfl rfl (by decide +kernel) ⟨by decide, by decide⟩) hP hS rfl hl.1 rfl (Nat.le_of_ble_eq_true rfl) dX12_terms_2 ⟨Nat.le_refl _, Nat.le_refl _⟩ (fun v2 H locs hw1 hP hS => ?_)
  refine lv_if_ne (tgt := 14) hx hb dX12_terms_5 (by decide) (fun c4 => ?_) (fun c4 => ?_)
  · have b5 : kb 1 v2 1 := kr_nel c4 hw1.1 kc_0 (by decide)
    have h6 := hw1.2.1 c4
    have b7 : kb 0 x 3 := ⟨h6.1, h6.2.1⟩
    refine lv_iload_n hx hb dX12_terms_14 rfl (lv_at hl 1 rfl) ?_
    refine lv_if_ne (tgt := 23) hx hb dX12_terms_15 (by decide) (fun c8 => ?_) (fun c8 => ?_)
    · have b9 : kb 1 x 3 := kr_nel c8 b7 kc_0 (by decide)
      refine lv_bipush (v := 99) hx hb dX12_terms_23 (by decide) ?_
      refine lv_iload_n hx hb dX12_terms_25 rfl (lv_at hl 1 rfl) ?_
      refine lv_iadd hx hb dX12_terms_26 ?_
      refine lv_topi (fun t10 et10 => ?_)
      have b11 : kb 100 t10 102 := kb_eq et10 (kb_add kc_99 b9 (by decide) (by decide))
      have qt10 : t10.toInt = 99 + x.toInt := by rw [et10]; exact kt_cadd kc_99 b9 (by decide) (by decide)
      refine lv_iconst (v := 1) hx hb dX12_terms_27 (by decide) ?_
      refine lv_isub hx hb dX12_terms_28 ?_
      refine lv_topi (fun t12 et12 => ?_)
      have b13 : kb 99 t12 101 := kb_eq et12 (kb_sub b11 kc_1 (by decide) (by decide))
      have qt12 : t12.toInt = t10.toInt - 1 := by rw [et12]; exact kt_subc b11 kc_1 (by decide) (by decide)
      refine lv_istore_n (lv' := [(3, .int t12), (0, .ref o), (1, .int x), (2, .int y)]) hx hb dX12_terms_29 rfl hl (by decide) rfl (fun ls hl => ?_)
      refine lv_aload_n hx hb dX12_terms_30 rfl (lv_at hl 1 rfl) ?_
      refine va_get (D := D) (ci := 12) (v := .ref (r 2)) (C := RX12) (T := TX12) (N := 48) hx hb hg inC12 hown hK hP 0 rfl rfl 2 (by decide) (hg _ wt5_162) (fun _ h9 => h9) rfl dX12_terms_31 ?_
      refine lv_iload_n hx hb dX12_terms_34 rfl (lv_at hl 0 rfl) ?_
      refine va_iald hx hb hK hP 2 0 rfl rfl (kb_in b13 (by decide) (by decide)) dX12_terms_35 ?_
      refine lv_topi (fun t14 et14 => ?_)
      refine lv_istore (lv' := [(4, .int t14), (3, .int t12), (0, .ref o), (1, .int x), (2, .int y)]) hx hb dX12_terms_36 hl (by decide) rfl (fun ls hl => ?_)
      refine lv_aload_n hx hb dX12_terms_38 rfl (lv_at hl 2 rfl) ?_
      refine va_get (D := D) (ci := 12) (v := .ref (r 2)) (C := RX12) (T := TX12) (N := 48) hx hb hg inC12 hown hK hP 0 rfl rfl 2 (by decide) (hg _ wt5_162) (fun _ h9 => h9) rfl dX12_terms_39 ?_
      refine lv_iload_n hx hb dX12_terms_42 rfl (lv_at hl 1 rfl) ?_
      refine lv_iload_n hx hb dX12_terms_43 rfl (lv_at hl 4 rfl) ?_
      have b15 : kb 0 y 99 := kb_of2 (h6.2.2 (kb_nz b9 (by decide)))
      refine va_iast hx hb hK hP hD hS 2 0 rfl rfl (kb_in b13 (by decide) (by decide)) dX12_terms_44 (fun H locs hP hD hS => ?_)
      have hP : va_P D vwCl (mW K o r f (va_up a 2 (upd (a 2) t12.toNatClampNeg y)) g) H := hP
      have hD : va_D A (mW K o r f (va_up a 2 (upd (a 2) t12.toNatClampNeg y)) g) := hD
      refine k_gen (P := fun z => va_P D vwCl (mW K o r f z g) H ∧ va_D A (mW K o r f z g) ∧ (mI f z) ∧ (mE (XR [(22, 23), (99, 102)]) f a f z) ∧ (mZ [0, 33] [1, 2] f a f z)) (va_up a 2 (upd (a 2) t12.toNatClampNeg y)) ⟨hP, hD, (mI_2 hI (aI_sx hI.2.1 2 99 3 b13 (by decide) (by decide) b15 (by decide +kernel)) (kb_clt b13 (by decide) (by decide))), (mE_2 hE (bX_at 99 3 b13 (by decide) (by decide) (by decide))), (mZ_a hZ rfl)⟩ (fun a_16 ea_16 hq => ?_)
      obtain ⟨hP, hD, hI, hE, hZ⟩ := hq
      refine lv_aload_n hx hb dX12_terms_45 rfl (lv_at hl 2 rfl) ?_
      refine lv_iload hx hb dX12_terms_46 (lv_at hl 0 rfl) ?_
      refine kI.callV (As := [.int t14]) (rest := []) ⟨hx, hb, hml, hown, hg⟩ (n_settled l o r f a_16 g hI t14  ) (cwV 1 hg (kgV wt6_84 wt6_86 wp3_7 wt1_14 wt6_87) rfl rfl rfl (by decide +kernel) ⟨by decide, by decide⟩) hK hP hD hS hA mIs [] rfl (wr := []) rfl rfl rfl (fun i h => by cases h) 0 12 rfl rfl rfl hl.1 rfl (Nat.le_of_ble_eq_true rfl) dX12_terms_48 ⟨Nat.le_refl _, Nat.le_refl _⟩ (fun v18 u19 H locs hw17 hP hD hS => ?_)
      obtain ⟨f20, a21, g22⟩ := u19
      have hP : va_P D vwCl (mW K o r f20 a21 g22) H := hP
      have hD : va_D A (mW K o r f20 a21 g22) := hD
      have hI : mI f20 a21 := hw17.2.1
      have hE : mE (XR [(22, 23), (99, 102)]) f a f20 a21 := mE_tr hE (mE_w (XR_w (by decide)) hw17.2.2.1)
      have eE23 : mE (XR []) f a_16 f20 a21 := hw17.2.2.1
      have eZ24 : mZ [0, 33] [] f a_16 f20 a21 := hw17.2.2.2.2.2.2
      have hZ : mZ [0, 33] [1, 2] f a f20 a21 := mZ_tr hZ (mZ_w (by decide) (by decide) eZ24)
      refine k_top (z := t14) hw17.2.2.2.1 ?_
      exact kI_ret (v := t14) hx hb hr hlocks rfl hK hS dX12_terms_51 (f20, a21, g22) hP hD ⟨(kb_any t14), hI, hE, (Or.inr ⟨(et14.trans (congrArg (a 2) (show t12.toNatClampNeg = trI x from by unfold trI; rw [if_neg c8]; have wt10 := qt10; have wt12 := qt12; have w9 := (b9).1; unfold Int32.toNatClampNeg; omega))), hw1.2.2.1 c4, fun w9 => by have w1 := ((kb_eq (et14.trans (congrArg (a 2) (show t12.toNatClampNeg = trI x from by unfold trI; rw [if_neg c8]; have wt10 := qt10; have wt12 := qt12; have w9 := (b9).1; unfold Int32.toNatClampNeg; omega))) (tr_kb hp1 (hw1.2.2.1 c4)))).1; rw [w9] at w1; exact absurd w1 (by decide +kernel)⟩), (Or.inr ⟨(fun w9 => by have w1 := ((kb_eq (et14.trans (congrArg (a 2) (show t12.toNatClampNeg = trI x from by unfold trI; rw [if_neg c8]; have wt10 := qt10; have wt12 := qt12; have w9 := (b9).1; unfold Int32.toNatClampNeg; omega))) (tr_kb hp1 (hw1.2.2.1 c4)))).1; omega), hw17.2.2.2.2.1, ((eZ24.2 1 rfl).trans (show a_16 1 = a 1 from by rw [← ea_16]; rfl)), (((eZ24.2 2 rfl).trans (show a_16 2 = upd (a 2) t12.toNatClampNeg y from by rw [← ea_16]; rfl)).trans (by rw [(show t12.toNatClampNeg = trI x from by unfold trI; rw [if_neg c8]; have wt10 := qt10; have wt12 := qt12; have w9 := (b9).1; unfold Int32.toNatClampNeg; omega)])), (mP_no hw17.2.2.2.2.2.1)⟩), hZ⟩
    · have b25 : kb 0 x 0 := kb_eq c8 kc_0
      refine lv_bipush (v := 22) hx hb dX12_terms_18 (by decide) ?_
      refine lv_goto (tgt := 29) hx hb dX12_terms_20 (by decide) ?_
      refine lv_istore_n (lv' := [(3, .int 22), (0, .ref o), (1, .int x), (2, .int y)]) hx hb dX12_terms_29 rfl hl (by decide) rfl (fun ls hl => ?_)
      refine lv_aload_n hx hb dX12_terms_30 rfl (lv_at hl 1 rfl) ?_
      refine va_get (D := D) (ci := 12) (v := .ref (r 2)) (C := RX12) (T := TX12) (N := 48) hx hb hg inC12 hown hK hP 0 rfl rfl 2 (by decide) (hg _ wt5_162) (fun _ h9 => h9) rfl dX12_terms_31 ?_
      refine lv_iload_n hx hb dX12_terms_34 rfl (lv_at hl 0 rfl) ?_
      refine va_iald hx hb hK hP 2 0 rfl rfl (kb_in kc_22 (by decide) (by decide)) dX12_terms_35 ?_
      refine lv_topi (fun t26 et26 => ?_)
      rw [cl_22] at et26
      refine lv_istore (lv' := [(4, .int t26), (3, .int 22), (0, .ref o), (1, .int x), (2, .int y)]) hx hb dX12_terms_36 hl (by decide) rfl (fun ls hl => ?_)
      refine lv_aload_n hx hb dX12_terms_38 rfl (lv_at hl 2 rfl) ?_
      refine va_get (D := D) (ci := 12) (v := .ref (r 2)) (C := RX12) (T := TX12) (N := 48) hx hb hg inC12 hown hK hP 0 rfl rfl 2 (by decide) (hg _ wt5_162) (fun _ h9 => h9) rfl dX12_terms_39 ?_
      refine lv_iload_n hx hb dX12_terms_42 rfl (lv_at hl 1 rfl) ?_
      refine lv_iload_n hx hb dX12_terms_43 rfl (lv_at hl 4 rfl) ?_
      refine va_iast hx hb hK hP hD hS 2 0 rfl rfl (kb_in kc_22 (by decide) (by decide)) dX12_terms_44 (fun H locs hP hD hS => ?_)
      rw [cl_22] at hP hD
      have hP : va_P D vwCl (mW K o r f (va_up a 2 (upd (a 2) 22 y)) g) H := hP
      have hD : va_D A (mW K o r f (va_up a 2 (upd (a 2) 22 y)) g) := hD
      refine k_gen (P := fun z => va_P D vwCl (mW K o r f z g) H ∧ va_D A (mW K o r f z g) ∧ (mI f z) ∧ (mE (XR [(22, 23), (99, 102)]) f a f z) ∧ (mZ [0, 33] [1, 2] f a f z)) (va_up a 2 (upd (a 2) 22 y)) ⟨hP, hD, (mI_2 hI (aI_st hI.2.1 2 22 (kb_any y) (by decide) (by decide)) (by decide)), (mE_2 hE (by decide)), (mZ_a hZ rfl)⟩ (fun a_27 ea_27 hq => ?_)
      obtain ⟨hP, hD, hI, hE, hZ⟩ := hq
      refine lv_aload_n hx hb dX12_terms_45 rfl (lv_at hl 2 rfl) ?_
      refine lv_iload hx hb dX12_terms_46 (lv_at hl 0 rfl) ?_
      refine kI.callV (As := [.int t26]) (rest := []) ⟨hx, hb, hml, hown, hg⟩ (n_settled l o r f a_27 g hI t26  ) (cwV 1 hg (kgV wt6_84 wt6_86 wp3_7 wt1_14 wt6_87) rfl rfl rfl (by decide +kernel) ⟨by decide, by decide⟩) hK hP hD hS hA mIs [] rfl (wr := []) rfl rfl rfl (fun i h => by cases h) 0 12 rfl rfl rfl hl.1 rfl (Nat.le_of_ble_eq_true rfl) dX12_terms_48 ⟨Nat.le_refl _, Nat.le_refl _⟩ (fun v29 u30 H locs hw28 hP hD hS => ?_)
      obtain ⟨f31, a32, g33⟩ := u30
      have hP : va_P D vwCl (mW K o r f31 a32 g33) H := hP
      have hD : va_D A (mW K o r f31 a32 g33) := hD
      have hI : mI f31 a32 := hw28.2.1
      have hE : mE (XR [(22, 23), (99, 102)]) f a f31 a32 := mE_tr hE (mE_w (XR_w (by decide)) hw28.2.2.1)
      have eE34 : mE (XR []) f a_27 f31 a32 := hw28.2.2.1
      have eZ35 : mZ [0, 33] [] f a_27 f31 a32 := hw28.2.2.2.2.2.2
      have hZ : mZ [0, 33] [1, 2] f a f31 a32 := mZ_tr hZ (mZ_w (by decide) (by decide) eZ35)
      refine k_top (z := t26) hw28.2.2.2.1 ?_
      exact kI_ret (v := t26) hx hb hr hlocks rfl hK hS dX12_terms_51 (f31, a32, g33) hP hD ⟨(kb_any t26), hI, hE, (Or.inr ⟨(et26.trans (congrArg (a 2) (show 22 = trI x from by unfold trI; rw [if_pos c8]))), hw1.2.2.1 c4, fun w9 => by have w1 := ((kb_eq (et26.trans (congrArg (a 2) (show 22 = trI x from by unfold trI; rw [if_pos c8]))) (tr_kb hp1 (hw1.2.2.1 c4)))).1; rw [w9] at w1; exact absurd w1 (by decide +kernel)⟩), (Or.inr ⟨(fun w9 => by have w1 := ((kb_eq (et26.trans (congrArg (a 2) (show 22 = trI x from by unfold trI; rw [if_pos c8]))) (tr_kb hp1 (hw1.2.2.1 c4)))).1; omega), hw28.2.2.2.2.1, ((eZ35.2 1 rfl).trans (show a_27 1 = a 1 from by rw [← ea_27]; rfl)), (((eZ35.2 2 rfl).trans (show a_27 2 = upd (a 2) 22 y from by rw [← ea_27]; rfl)).trans (by rw [(show 22 = trI x from by unfold trI; rw [if_pos c8])])), (mP_no hw28.2.2.2.2.2.1)⟩), hZ⟩
  · have b36 : kb 0 v2 0 := kb_eq c4 kc_0
    refine lv_aload_n hx hb dX12_terms_8 rfl (lv_at hl 0 rfl) ?_
    refine lv_iconst (v := (-1)) hx hb dX12_terms_9 (by decide) ?_
    refine kI.callV (As := [.int (-1)]) (rest := []) ⟨hx, hb, hml, hown, hg⟩ (n_refuses l o r f a g hI (-1) (kb_w kc_m1 (by decide) (by decide)) ) (cwV 1 hg (kgV wt6_72 wt6_74 wp3_5 wt1_14 wt6_75) rfl rfl rfl (by decide +kernel) ⟨by decide, by decide⟩) hK hP hD hS hA mIs [] rfl (wr := []) rfl rfl rfl (fun i h => by cases h) 0 12 rfl rfl rfl hl.1 rfl (Nat.le_of_ble_eq_true rfl) dX12_terms_10 ⟨Nat.le_refl _, Nat.le_refl _⟩ (fun v38 u39 H locs hw37 hP hD hS => ?_)
    obtain ⟨f40, a41, g42⟩ := u39
    have hP : va_P D vwCl (mW K o r f40 a41 g42) H := hP
    have hD : va_D A (mW K o r f40 a41 g42) := hD
    have hI : mI f40 a41 := hw37.2.1
    have hE : mE (XR [(22, 23), (99, 102)]) f a f40 a41 := mE_tr hE (mE_w (XR_w (by decide)) hw37.2.2.1)
    have eE43 : mE (XR []) f a f40 a41 := hw37.2.2.1
    have eZ44 : mZ [0] [1] f a f40 a41 := hw37.2.2.2.2.2.2
    have hZ : mZ [0, 33] [1, 2] f a f40 a41 := mZ_tr hZ (mZ_w (by decide) (by decide) eZ44)
    refine k_top (z := (-1)) hw37.2.2.2.1 ?_
    exact kI_ret (v := (-1)) hx hb hr hlocks rfl hK hS dX12_terms_13 (f40, a41, g42) hP hD ⟨(kb_w kc_m1 (by decide) (by decide)), hI, hE, (Or.inl ⟨rfl, hw1.2.2.2 c4⟩), (Or.inl ⟨(by decide +kernel), hw37.2.2.2.2.1, hw37.2.2.2.2.2.1.trans (by rw [show a 1 = a 1 from rfl]), (eZ44.2 2 rfl), (by (try dsimp only); rw [show f40 33 = f 33 from (eZ44.1 33 rfl), show a41 31 = a 31 from (eZ44.2 31 rfl)]; exact hp0)⟩), hZ⟩
